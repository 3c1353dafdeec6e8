/-! ===== BEGIN words of one list among another's, by their places ===== -/
theorem goodIn_r {big : List Cond} (ws : List Cond) (ps : List Nat) (hp : ws = ps.filterMap (fun i => big[i]?)) (h : ws.all goodWord = true) : GoodIn big ws := by
  intro w hw
  have h1 := List.all_eq_true.mp h w hw
  rw [hp] at hw
  obtain ⟨i, -, hi⟩ := List.mem_filterMap.mp hw
  have hm : w ∈ big := by first | exact List.mem_of_getElem? hi | exact List.getElem?_mem hi
  exact ⟨hm, good_of_word h1⟩
theorem goodIn_app {big a b : List Cond} (ha : GoodIn big a) (hb : GoodIn big b) : GoodIn big (a ++ b) := fun w h => (List.mem_append.mp h).elim (ha w) (hb w)
theorem goodIn_ca {big a b : List Cond} {c : Cond} (ha : GoodIn big (c :: a)) (hb : GoodIn big b) : GoodIn big (c :: (a ++ b)) := fun w h => (List.mem_cons.mp h).elim (fun e => ha w (List.mem_cons.mpr (Or.inl e))) (fun h => (List.mem_append.mp h).elim (fun h => ha w (List.mem_cons.mpr (Or.inr h))) (hb w))
theorem goodIn_sub {big ws : List Cond} (hm : ∀ w ∈ ws, w ∈ big) (h : ws.all goodWord = true) : GoodIn big ws := fun w hw => ⟨hm w hw, good_of_word (List.all_eq_true.mp h w hw)⟩
/-! ===== END ===== -/

/-! ===== BEGIN printed: names, fields, word lists, decode rows ===== -/
def RX0 : String := "LoopCaptures$Board"
def TX0 : u_T := fun k => match k with
  | 0 => ("LoopCaptures$Board", "stands", "[I", true)
  | 1 => ("LoopCaptures$Board", "ones", "I", false)
  | 2 => ("LoopCaptures$Board", "twos", "I", false)
  | 3 => ("LoopCaptures$Board", "side", "I", false)
  | 4 => ("LoopCaptures$Board", "quiet", "I", false)
  | _ => ("LoopCaptures$Board", "limit", "I", false)
def tyX0 : Nat → FieldType := fun k => match k with
  | 0 => .array .int
  | 1 => .int
  | 2 => .int
  | 3 => .int
  | 4 => .int
  | _ => .int
abbrev wsX00 : List Cond := u_ws RX0 TX0 6
theorem nmX0 : ∀ a, a < 6 → ∀ b, b < 6 → a ≠ b → (TX0 a).2.1 ≠ (TX0 b).2.1 := by decide +kernel
theorem tyX0_ok : ∀ k, k < 6 → parseFieldDescriptor (TX0 k).2.2.1 = some (tyX0 k) := by decide +kernel
abbrev cX0_init : ByteArray := prog_2_method_1_code
def yX0_init : MethodName := ⟨RX0, "<init>", "()V"⟩
abbrev cX0_startAnew : ByteArray := prog_2_method_2_code
def yX0_startAnew : MethodName := ⟨RX0, "startAnew", "()V"⟩
abbrev cX0_firstSideAt : ByteArray := prog_2_method_3_code
def yX0_firstSideAt : MethodName := ⟨RX0, "firstSideAt", "(I)I"⟩
abbrev cX0_copyFrom : ByteArray := prog_2_method_4_code
def yX0_copyFrom : MethodName := ⟨RX0, "copyFrom", "(LLoopCaptures$Board;)V"⟩
abbrev cX0_at : ByteArray := prog_2_method_5_code
def yX0_at : MethodName := ⟨RX0, "at", "(I)I"⟩
abbrev cX0_put : ByteArray := prog_2_method_6_code
def yX0_put : MethodName := ⟨RX0, "put", "(II)V"⟩
abbrev cX0_tally : ByteArray := prog_2_method_7_code
def yX0_tally : MethodName := ⟨RX0, "tally", "(II)V"⟩
abbrev cX0_piecesOf : ByteArray := prog_2_method_8_code
def yX0_piecesOf : MethodName := ⟨RX0, "piecesOf", "(I)I"⟩
abbrev cX0_allPieces : ByteArray := prog_2_method_9_code
def yX0_allPieces : MethodName := ⟨RX0, "allPieces", "()I"⟩
abbrev cX0_sideToMove : ByteArray := prog_2_method_10_code
def yX0_sideToMove : MethodName := ⟨RX0, "sideToMove", "()I"⟩
abbrev cX0_quietMoves : ByteArray := prog_2_method_11_code
def yX0_quietMoves : MethodName := ⟨RX0, "quietMoves", "()I"⟩
abbrev cX0_limit : ByteArray := prog_2_method_12_code
def yX0_limit : MethodName := ⟨RX0, "limit", "()I"⟩
abbrev cX0_changeLimit : ByteArray := prog_2_method_13_code
def yX0_changeLimit : MethodName := ⟨RX0, "changeLimit", "(I)V"⟩
abbrev cX0_forgetQuietMoves : ByteArray := prog_2_method_14_code
def yX0_forgetQuietMoves : MethodName := ⟨RX0, "forgetQuietMoves", "()V"⟩
abbrev cX0_changeSide : ByteArray := prog_2_method_15_code
def yX0_changeSide : MethodName := ⟨RX0, "changeSide", "()V"⟩
abbrev cX0_result : ByteArray := prog_2_method_16_code
def yX0_result : MethodName := ⟨RX0, "result", "()I"⟩
abbrev cX0_worth : ByteArray := prog_2_method_17_code
def yX0_worth : MethodName := ⟨RX0, "worth", "()I"⟩
abbrev cX0_make : ByteArray := prog_2_method_18_code
def yX0_make : MethodName := ⟨RX0, "make", "(II)I"⟩
abbrev cX0_takeBack : ByteArray := prog_2_method_19_code
def yX0_takeBack : MethodName := ⟨RX0, "takeBack", "(IIII)V"⟩
abbrev cX0_key : ByteArray := prog_2_method_20_code
def yX0_key : MethodName := ⟨RX0, "key", "()J"⟩
def RX1 : String := "LoopCaptures$Circuits"
def TX1 : u_T := fun k => match k with
  | 0 => ("LoopCaptures$Circuits", "points", "[I", true)
  | _ => ("LoopCaptures$Circuits", "spots", "[I", true)
def tyX1 : Nat → FieldType := fun k => match k with
  | 0 => .array .int
  | _ => .array .int
abbrev wsX10 : List Cond := u_ws RX1 TX1 2
theorem nmX1 : ∀ a, a < 2 → ∀ b, b < 2 → a ≠ b → (TX1 a).2.1 ≠ (TX1 b).2.1 := by decide +kernel
theorem tyX1_ok : ∀ k, k < 2 → parseFieldDescriptor (TX1 k).2.2.1 = some (tyX1 k) := by decide +kernel
abbrev cX1_init : ByteArray := prog_3_method_1_code
def yX1_init : MethodName := ⟨RX1, "<init>", "()V"⟩
abbrev cX1_layOut : ByteArray := prog_3_method_2_code
def yX1_layOut : MethodName := ⟨RX1, "layOut", "(I)V"⟩
abbrev cX1_put : ByteArray := prog_3_method_3_code
def yX1_put : MethodName := ⟨RX1, "put", "(III)V"⟩
abbrev cX1_addSpot : ByteArray := prog_3_method_4_code
def yX1_addSpot : MethodName := ⟨RX1, "addSpot", "(II)V"⟩
abbrev cX1_pointAt : ByteArray := prog_3_method_5_code
def yX1_pointAt : MethodName := ⟨RX1, "pointAt", "(I)I"⟩
abbrev cX1_spotOf : ByteArray := prog_3_method_6_code
def yX1_spotOf : MethodName := ⟨RX1, "spotOf", "(II)I"⟩
def RX2 : String := "LoopCaptures$History"
def TX2 : u_T := fun k => match k with
  | 0 => ("LoopCaptures$History", "states", "[LLoopCaptures$State;", true)
  | _ => ("LoopCaptures$History", "size", "I", false)
def tyX2 : Nat → FieldType := fun k => match k with
  | 0 => .array (.object "LoopCaptures$State")
  | _ => .int
abbrev wsX20 : List Cond := u_ws RX2 TX2 2
theorem nmX2 : ∀ a, a < 2 → ∀ b, b < 2 → a ≠ b → (TX2 a).2.1 ≠ (TX2 b).2.1 := by decide +kernel
theorem tyX2_ok : ∀ k, k < 2 → parseFieldDescriptor (TX2 k).2.2.1 = some (tyX2 k) := by decide +kernel
abbrev cX2_init : ByteArray := prog_4_method_1_code
def yX2_init : MethodName := ⟨RX2, "<init>", "()V"⟩
abbrev cX2_size : ByteArray := prog_4_method_2_code
def yX2_size : MethodName := ⟨RX2, "size", "()I"⟩
abbrev cX2_push : ByteArray := prog_4_method_3_code
def yX2_push : MethodName := ⟨RX2, "push", "(LLoopCaptures$State;)V"⟩
abbrev cX2_dropOldest : ByteArray := prog_4_method_4_code
def yX2_dropOldest : MethodName := ⟨RX2, "dropOldest", "()V"⟩
abbrev cX2_takeLatest : ByteArray := prog_4_method_5_code
def yX2_takeLatest : MethodName := ⟨RX2, "takeLatest", "(LLoopCaptures$State;)V"⟩
def RX3 : String := "LoopCaptures$Lookahead"
def TX3 : u_T := fun k => match k with
  | 0 => ("LoopCaptures$Lookahead", "rules", "LLoopCaptures$Rules;", true)
  | 1 => ("LoopCaptures$Lookahead", "board", "LLoopCaptures$Board;", true)
  | 2 => ("LoopCaptures$Lookahead", "movesAtOne", "LLoopCaptures$MoveList;", true)
  | 3 => ("LoopCaptures$Lookahead", "movesAtTwo", "LLoopCaptures$MoveList;", true)
  | _ => ("LoopCaptures$Lookahead", "chosen", "I", false)
def tyX3 : Nat → FieldType := fun k => match k with
  | 0 => .object "LoopCaptures$Rules"
  | 1 => .object "LoopCaptures$Board"
  | 2 => .object "LoopCaptures$MoveList"
  | 3 => .object "LoopCaptures$MoveList"
  | _ => .int
abbrev wsX30 : List Cond := u_ws RX3 TX3 5
theorem nmX3 : ∀ a, a < 5 → ∀ b, b < 5 → a ≠ b → (TX3 a).2.1 ≠ (TX3 b).2.1 := by decide +kernel
theorem tyX3_ok : ∀ k, k < 5 → parseFieldDescriptor (TX3 k).2.2.1 = some (tyX3 k) := by decide +kernel
abbrev cX3_init : ByteArray := prog_5_method_1_code
def yX3_init : MethodName := ⟨RX3, "<init>", "(LLoopCaptures$Rules;)V"⟩
abbrev cX3_worthAhead : ByteArray := prog_5_method_2_code
def yX3_worthAhead : MethodName := ⟨RX3, "worthAhead", "(LLoopCaptures$Board;I)I"⟩
abbrev cX3_bestMove : ByteArray := prog_5_method_3_code
def yX3_bestMove : MethodName := ⟨RX3, "bestMove", "(LLoopCaptures$Board;I)I"⟩
abbrev cX3_search : ByteArray := prog_5_method_4_code
def yX3_search : MethodName := ⟨RX3, "search", "(I)I"⟩
abbrev cX3_searchBehind : ByteArray := prog_5_method_5_code
def yX3_searchBehind : MethodName := ⟨RX3, "searchBehind", "(II)I"⟩
def RX4 : String := "LoopCaptures$MoveList"
def TX4 : u_T := fun k => match k with
  | 0 => ("LoopCaptures$MoveList", "moves", "[I", true)
  | 1 => ("LoopCaptures$MoveList", "size", "I", false)
  | _ => ("LoopCaptures$MoveList", "captures", "I", false)
def tyX4 : Nat → FieldType := fun k => match k with
  | 0 => .array .int
  | 1 => .int
  | _ => .int
abbrev wsX40 : List Cond := u_ws RX4 TX4 3
theorem nmX4 : ∀ a, a < 3 → ∀ b, b < 3 → a ≠ b → (TX4 a).2.1 ≠ (TX4 b).2.1 := by decide +kernel
theorem tyX4_ok : ∀ k, k < 3 → parseFieldDescriptor (TX4 k).2.2.1 = some (tyX4 k) := by decide +kernel
abbrev cX4_init : ByteArray := prog_6_method_1_code
def yX4_init : MethodName := ⟨RX4, "<init>", "()V"⟩
abbrev cX4_clear : ByteArray := prog_6_method_2_code
def yX4_clear : MethodName := ⟨RX4, "clear", "()V"⟩
abbrev cX4_size : ByteArray := prog_6_method_3_code
def yX4_size : MethodName := ⟨RX4, "size", "()I"⟩
abbrev cX4_captures : ByteArray := prog_6_method_4_code
def yX4_captures : MethodName := ⟨RX4, "captures", "()I"⟩
abbrev cX4_get : ByteArray := prog_6_method_5_code
def yX4_get : MethodName := ⟨RX4, "get", "(I)I"⟩
abbrev cX4_addQuiet : ByteArray := prog_6_method_6_code
def yX4_addQuiet : MethodName := ⟨RX4, "addQuiet", "(I)V"⟩
abbrev cX4_addCapture : ByteArray := prog_6_method_7_code
def yX4_addCapture : MethodName := ⟨RX4, "addCapture", "(I)V"⟩
def RX5 : String := "LoopCaptures$MoveText"
def TX5 : u_T := fun k => match k with
  | 0 => ("LoopCaptures$MoveText", "characters", "[C", true)
  | _ => ("LoopCaptures$MoveText", "length", "I", false)
def tyX5 : Nat → FieldType := fun k => match k with
  | 0 => .array .char
  | _ => .int
abbrev wsX50 : List Cond := u_ws RX5 TX5 2
theorem nmX5 : ∀ a, a < 2 → ∀ b, b < 2 → a ≠ b → (TX5 a).2.1 ≠ (TX5 b).2.1 := by decide +kernel
theorem tyX5_ok : ∀ k, k < 2 → parseFieldDescriptor (TX5 k).2.2.1 = some (tyX5 k) := by decide +kernel
abbrev cX5_init : ByteArray := prog_7_method_1_code
def yX5_init : MethodName := ⟨RX5, "<init>", "()V"⟩
abbrev cX5_length : ByteArray := prog_7_method_2_code
def yX5_length : MethodName := ⟨RX5, "length", "()I"⟩
abbrev cX5_empty : ByteArray := prog_7_method_3_code
def yX5_empty : MethodName := ⟨RX5, "empty", "()V"⟩
abbrev cX5_append : ByteArray := prog_7_method_4_code
def yX5_append : MethodName := ⟨RX5, "append", "(C)Z"⟩
abbrev cX5_fault : ByteArray := prog_7_method_5_code
def yX5_fault : MethodName := ⟨RX5, "fault", "()I"⟩
abbrev cX5_isAllowed : ByteArray := prog_7_method_6_code
def yX5_isAllowed : MethodName := ⟨RX5, "isAllowed", "(CI)Z"⟩
abbrev cX5_moves : ByteArray := prog_7_method_7_code
def yX5_moves : MethodName := ⟨RX5, "moves", "()I"⟩
abbrev cX5_fromOf : ByteArray := prog_7_method_8_code
def yX5_fromOf : MethodName := ⟨RX5, "fromOf", "(I)I"⟩
abbrev cX5_toOf : ByteArray := prog_7_method_9_code
def yX5_toOf : MethodName := ⟨RX5, "toOf", "(I)I"⟩
abbrev cX5_isCapture : ByteArray := prog_7_method_10_code
def yX5_isCapture : MethodName := ⟨RX5, "isCapture", "(I)Z"⟩
abbrev cX5_pointAt : ByteArray := prog_7_method_11_code
def yX5_pointAt : MethodName := ⟨RX5, "pointAt", "(I)I"⟩
abbrev cX5_at : ByteArray := prog_7_method_12_code
def yX5_at : MethodName := ⟨RX5, "at", "(I)C"⟩
def RX6 : String := "LoopCaptures$Rules"
def TX6 : u_T := fun k => match k with
  | 0 => ("LoopCaptures$Rules", "circuits", "LLoopCaptures$Circuits;", true)
  | 1 => ("LoopCaptures$Rules", "walk", "LLoopCaptures$Walk;", true)
  | _ => ("LoopCaptures$Rules", "way", "LLoopCaptures$Way;", true)
def tyX6 : Nat → FieldType := fun k => match k with
  | 0 => .object "LoopCaptures$Circuits"
  | 1 => .object "LoopCaptures$Walk"
  | _ => .object "LoopCaptures$Way"
abbrev wsX60 : List Cond := u_ws RX6 TX6 3
theorem nmX6 : ∀ a, a < 3 → ∀ b, b < 3 → a ≠ b → (TX6 a).2.1 ≠ (TX6 b).2.1 := by decide +kernel
theorem tyX6_ok : ∀ k, k < 3 → parseFieldDescriptor (TX6 k).2.2.1 = some (tyX6 k) := by decide +kernel
abbrev cX6_init : ByteArray := prog_8_method_1_code
def yX6_init : MethodName := ⟨RX6, "<init>", "(LLoopCaptures$Circuits;LLoopCaptures$Way;)V"⟩
abbrev cX6_whyNot : ByteArray := prog_8_method_2_code
def yX6_whyNot : MethodName := ⟨RX6, "whyNot", "(LLoopCaptures$Board;IIZ)I"⟩
abbrev cX6_couldCapture : ByteArray := prog_8_method_3_code
def yX6_couldCapture : MethodName := ⟨RX6, "couldCapture", "(LLoopCaptures$Board;II)Z"⟩
abbrev cX6_areOfTwoSides : ByteArray := prog_8_method_4_code
def yX6_areOfTwoSides : MethodName := ⟨RX6, "areOfTwoSides", "(II)Z"⟩
abbrev cX6_couldStep : ByteArray := prog_8_method_5_code
def yX6_couldStep : MethodName := ⟨RX6, "couldStep", "(LLoopCaptures$Board;II)Z"⟩
abbrev cX6_threatsTo : ByteArray := prog_8_method_6_code
def yX6_threatsTo : MethodName := ⟨RX6, "threatsTo", "(LLoopCaptures$Board;I)I"⟩
abbrev cX6_coversOf : ByteArray := prog_8_method_7_code
def yX6_coversOf : MethodName := ⟨RX6, "coversOf", "(LLoopCaptures$Board;I)I"⟩
abbrev cX6_capturesFrom : ByteArray := prog_8_method_8_code
def yX6_capturesFrom : MethodName := ⟨RX6, "capturesFrom", "(LLoopCaptures$Board;I)I"⟩
abbrev cX6_quietMovesFrom : ByteArray := prog_8_method_9_code
def yX6_quietMovesFrom : MethodName := ⟨RX6, "quietMovesFrom", "(LLoopCaptures$Board;I)I"⟩
abbrev cX6_threatened : ByteArray := prog_8_method_10_code
def yX6_threatened : MethodName := ⟨RX6, "threatened", "(LLoopCaptures$Board;)I"⟩
abbrev cX6_listMoves : ByteArray := prog_8_method_11_code
def yX6_listMoves : MethodName := ⟨RX6, "listMoves", "(LLoopCaptures$Board;LLoopCaptures$MoveList;)V"⟩
abbrev cX6_listCaptures : ByteArray := prog_8_method_12_code
def yX6_listCaptures : MethodName := ⟨RX6, "listCaptures", "(LLoopCaptures$Board;ILLoopCaptures$MoveList;)V"⟩
abbrev cX6_listQuietMoves : ByteArray := prog_8_method_13_code
def yX6_listQuietMoves : MethodName := ⟨RX6, "listQuietMoves", "(LLoopCaptures$Board;ILLoopCaptures$MoveList;)V"⟩
def RX7 : String := "LoopCaptures$State"
def TX7 : u_T := fun k => match k with
  | 0 => ("LoopCaptures$State", "board", "LLoopCaptures$Board;", true)
  | 1 => ("LoopCaptures$State", "moves", "I", false)
  | 2 => ("LoopCaptures$State", "captures", "I", false)
  | 3 => ("LoopCaptures$State", "seen", "[J", true)
  | _ => ("LoopCaptures$State", "seenCount", "I", false)
def tyX7 : Nat → FieldType := fun k => match k with
  | 0 => .object "LoopCaptures$Board"
  | 1 => .int
  | 2 => .int
  | 3 => .array .long
  | _ => .int
abbrev wsX70 : List Cond := u_ws RX7 TX7 5
theorem nmX7 : ∀ a, a < 5 → ∀ b, b < 5 → a ≠ b → (TX7 a).2.1 ≠ (TX7 b).2.1 := by decide +kernel
theorem tyX7_ok : ∀ k, k < 5 → parseFieldDescriptor (TX7 k).2.2.1 = some (tyX7 k) := by decide +kernel
abbrev cX7_init : ByteArray := prog_9_method_1_code
def yX7_init : MethodName := ⟨RX7, "<init>", "()V"⟩
abbrev cX7_startAnew : ByteArray := prog_9_method_2_code
def yX7_startAnew : MethodName := ⟨RX7, "startAnew", "()V"⟩
abbrev cX7_makeMove : ByteArray := prog_9_method_3_code
def yX7_makeMove : MethodName := ⟨RX7, "makeMove", "(II)V"⟩
abbrev cX7_place : ByteArray := prog_9_method_4_code
def yX7_place : MethodName := ⟨RX7, "place", "(II)V"⟩
abbrev cX7_changeSide : ByteArray := prog_9_method_5_code
def yX7_changeSide : MethodName := ⟨RX7, "changeSide", "()V"⟩
abbrev cX7_forgetPositions : ByteArray := prog_9_method_6_code
def yX7_forgetPositions : MethodName := ⟨RX7, "forgetPositions", "()V"⟩
abbrev cX7_remember : ByteArray := prog_9_method_7_code
def yX7_remember : MethodName := ⟨RX7, "remember", "()V"⟩
abbrev cX7_timesSeen : ByteArray := prog_9_method_8_code
def yX7_timesSeen : MethodName := ⟨RX7, "timesSeen", "()I"⟩
abbrev cX7_copyFrom : ByteArray := prog_9_method_9_code
def yX7_copyFrom : MethodName := ⟨RX7, "copyFrom", "(LLoopCaptures$State;)V"⟩
def RX8 : String := "LoopCaptures$Walk"
def TX8 : u_T := fun k => match k with
  | 0 => ("LoopCaptures$Walk", "circuits", "LLoopCaptures$Circuits;", true)
  | 1 => ("LoopCaptures$Walk", "met", "I", false)
  | 2 => ("LoopCaptures$Walk", "loops", "I", false)
  | _ => ("LoopCaptures$Walk", "steps", "I", false)
def tyX8 : Nat → FieldType := fun k => match k with
  | 0 => .object "LoopCaptures$Circuits"
  | 1 => .int
  | 2 => .int
  | _ => .int
abbrev wsX80 : List Cond := u_ws RX8 TX8 4
theorem nmX8 : ∀ a, a < 4 → ∀ b, b < 4 → a ≠ b → (TX8 a).2.1 ≠ (TX8 b).2.1 := by decide +kernel
theorem tyX8_ok : ∀ k, k < 4 → parseFieldDescriptor (TX8 k).2.2.1 = some (tyX8 k) := by decide +kernel
abbrev cX8_init : ByteArray := prog_10_method_1_code
def yX8_init : MethodName := ⟨RX8, "<init>", "(LLoopCaptures$Circuits;)V"⟩
abbrev cX8_go : ByteArray := prog_10_method_2_code
def yX8_go : MethodName := ⟨RX8, "go", "(LLoopCaptures$Board;II)V"⟩
abbrev cX8_wentOverLoopTo : ByteArray := prog_10_method_3_code
def yX8_wentOverLoopTo : MethodName := ⟨RX8, "wentOverLoopTo", "(I)Z"⟩
def RX9 : String := "LoopCaptures$Way"
def TX9 : u_T := fun k => match k with
  | 0 => ("LoopCaptures$Way", "circuits", "LLoopCaptures$Circuits;", true)
  | 1 => ("LoopCaptures$Way", "walk", "LLoopCaptures$Walk;", true)
  | 2 => ("LoopCaptures$Way", "loops", "I", false)
  | 3 => ("LoopCaptures$Way", "steps", "I", false)
  | 4 => ("LoopCaptures$Way", "spot", "I", false)
  | _ => ("LoopCaptures$Way", "direction", "I", false)
def tyX9 : Nat → FieldType := fun k => match k with
  | 0 => .object "LoopCaptures$Circuits"
  | 1 => .object "LoopCaptures$Walk"
  | 2 => .int
  | 3 => .int
  | 4 => .int
  | _ => .int
abbrev wsX90 : List Cond := u_ws RX9 TX9 6
theorem nmX9 : ∀ a, a < 6 → ∀ b, b < 6 → a ≠ b → (TX9 a).2.1 ≠ (TX9 b).2.1 := by decide +kernel
theorem tyX9_ok : ∀ k, k < 6 → parseFieldDescriptor (TX9 k).2.2.1 = some (tyX9 k) := by decide +kernel
abbrev cX9_init : ByteArray := prog_11_method_1_code
def yX9_init : MethodName := ⟨RX9, "<init>", "(LLoopCaptures$Circuits;)V"⟩
abbrev cX9_find : ByteArray := prog_11_method_2_code
def yX9_find : MethodName := ⟨RX9, "find", "(LLoopCaptures$Board;II)Z"⟩
abbrev cX9_tryFrom : ByteArray := prog_11_method_3_code
def yX9_tryFrom : MethodName := ⟨RX9, "tryFrom", "(LLoopCaptures$Board;III)V"⟩
abbrev cX9_walkIsShorter : ByteArray := prog_11_method_4_code
def yX9_walkIsShorter : MethodName := ⟨RX9, "walkIsShorter", "()Z"⟩
def RX10 : String := "LoopCaptures"
def TX10 : u_T := fun k => match k with
  | 0 => ("LoopCaptures", "circuits", "LLoopCaptures$Circuits;", true)
  | 1 => ("LoopCaptures", "foundWay", "LLoopCaptures$Way;", true)
  | 2 => ("LoopCaptures", "rules", "LLoopCaptures$Rules;", true)
  | 3 => ("LoopCaptures", "moveList", "LLoopCaptures$MoveList;", true)
  | 4 => ("LoopCaptures", "lookahead", "LLoopCaptures$Lookahead;", true)
  | 5 => ("LoopCaptures", "now", "LLoopCaptures$State;", true)
  | 6 => ("LoopCaptures", "before", "LLoopCaptures$State;", true)
  | 7 => ("LoopCaptures", "snapshot", "LLoopCaptures$State;", true)
  | 8 => ("LoopCaptures", "history", "LLoopCaptures$History;", true)
  | 9 => ("LoopCaptures", "text", "LLoopCaptures$MoveText;", true)
  | 10 => ("LoopCaptures", "hasSnapshot", "Z", false)
  | 11 => ("LoopCaptures", "hasStopped", "Z", false)
  | 12 => ("LoopCaptures", "stopNumber", "I", false)
  | _ => ("LoopCaptures", "stopReason", "I", false)
def tyX10 : Nat → FieldType := fun k => match k with
  | 0 => .object "LoopCaptures$Circuits"
  | 1 => .object "LoopCaptures$Way"
  | 2 => .object "LoopCaptures$Rules"
  | 3 => .object "LoopCaptures$MoveList"
  | 4 => .object "LoopCaptures$Lookahead"
  | 5 => .object "LoopCaptures$State"
  | 6 => .object "LoopCaptures$State"
  | 7 => .object "LoopCaptures$State"
  | 8 => .object "LoopCaptures$History"
  | 9 => .object "LoopCaptures$MoveText"
  | 10 => .boolean
  | 11 => .boolean
  | 12 => .int
  | _ => .int
abbrev wsX100 : List Cond := u_ws RX10 TX10 14
theorem nmX10 : ∀ a, a < 14 → ∀ b, b < 14 → a ≠ b → (TX10 a).2.1 ≠ (TX10 b).2.1 := by decide +kernel
theorem tyX10_ok : ∀ k, k < 14 → parseFieldDescriptor (TX10 k).2.2.1 = some (tyX10 k) := by decide +kernel
abbrev cX10_init : ByteArray := prog_1_method_1_code
def yX10_init : MethodName := ⟨RX10, "<init>", "()V"⟩
abbrev cX10_move : ByteArray := prog_1_method_2_code
def yX10_move : MethodName := ⟨RX10, "move", "(II)I"⟩
abbrev cX10_capture : ByteArray := prog_1_method_3_code
def yX10_capture : MethodName := ⟨RX10, "capture", "(II)I"⟩
abbrev cX10_play : ByteArray := prog_1_method_4_code
def yX10_play : MethodName := ⟨RX10, "play", "(I)I"⟩
abbrev cX10_setUp : ByteArray := prog_1_method_5_code
def yX10_setUp : MethodName := ⟨RX10, "setUp", "(II)I"⟩
abbrev cX10_turn : ByteArray := prog_1_method_6_code
def yX10_turn : MethodName := ⟨RX10, "turn", "()I"⟩
abbrev cX10_begin : ByteArray := prog_1_method_7_code
def yX10_begin : MethodName := ⟨RX10, "begin", "()I"⟩
abbrev cX10_setLimit : ByteArray := prog_1_method_8_code
def yX10_setLimit : MethodName := ⟨RX10, "setLimit", "(I)I"⟩
abbrev cX10_type : ByteArray := prog_1_method_9_code
def yX10_type : MethodName := ⟨RX10, "type", "(C)I"⟩
abbrev cX10_clearText : ByteArray := prog_1_method_10_code
def yX10_clearText : MethodName := ⟨RX10, "clearText", "()I"⟩
abbrev cX10_perform : ByteArray := prog_1_method_11_code
def yX10_perform : MethodName := ⟨RX10, "perform", "()I"⟩
abbrev cX10_stopped : ByteArray := prog_1_method_12_code
def yX10_stopped : MethodName := ⟨RX10, "stopped", "(I)I"⟩
abbrev cX10_undo : ByteArray := prog_1_method_13_code
def yX10_undo : MethodName := ⟨RX10, "undo", "()I"⟩
abbrev cX10_keep : ByteArray := prog_1_method_14_code
def yX10_keep : MethodName := ⟨RX10, "keep", "()I"⟩
abbrev cX10_restore : ByteArray := prog_1_method_15_code
def yX10_restore : MethodName := ⟨RX10, "restore", "()I"⟩
abbrev cX10_point : ByteArray := prog_1_method_16_code
def yX10_point : MethodName := ⟨RX10, "point", "(II)I"⟩
abbrev cX10_way : ByteArray := prog_1_method_17_code
def yX10_way : MethodName := ⟨RX10, "way", "(III)I"⟩
abbrev cX10_circuit : ByteArray := prog_1_method_18_code
def yX10_circuit : MethodName := ⟨RX10, "circuit", "(II)I"⟩
abbrev cX10_reason : ByteArray := prog_1_method_19_code
def yX10_reason : MethodName := ⟨RX10, "reason", "(IIZ)I"⟩
abbrev cX10_possible : ByteArray := prog_1_method_20_code
def yX10_possible : MethodName := ⟨RX10, "possible", "(I)I"⟩
abbrev cX10_look : ByteArray := prog_1_method_21_code
def yX10_look : MethodName := ⟨RX10, "look", "(I)I"⟩
abbrev cX10_best : ByteArray := prog_1_method_22_code
def yX10_best : MethodName := ⟨RX10, "best", "(I)I"⟩
abbrev cX10_count : ByteArray := prog_1_method_23_code
def yX10_count : MethodName := ⟨RX10, "count", "(I)I"⟩
abbrev cX10_isPoint : ByteArray := prog_1_method_24_code
def yX10_isPoint : MethodName := ⟨RX10, "isPoint", "(I)Z"⟩
abbrev cX10_possibleMoves : ByteArray := prog_1_method_25_code
def yX10_possibleMoves : MethodName := ⟨RX10, "possibleMoves", "(Z)I"⟩
abbrev cX10_noteStop : ByteArray := prog_1_method_26_code
def yX10_noteStop : MethodName := ⟨RX10, "noteStop", "(II)V"⟩
def RX11 : String := "LoopCapturesModel"
def TX11 : u_T := fun k => match k with
  | 0 => ("LoopCapturesModel", "now", "[I", true)
  | 1 => ("LoopCapturesModel", "one", "[I", true)
  | 2 => ("LoopCapturesModel", "two", "[I", true)
  | 3 => ("LoopCapturesModel", "trial", "[I", true)
  | 4 => ("LoopCapturesModel", "past", "[I", true)
  | 5 => ("LoopCapturesModel", "kept", "I", false)
  | 6 => ("LoopCapturesModel", "snapshot", "[I", true)
  | 7 => ("LoopCapturesModel", "isFilled", "Z", false)
  | 8 => ("LoopCapturesModel", "text", "[I", true)
  | 9 => ("LoopCapturesModel", "typed", "I", false)
  | 10 => ("LoopCapturesModel", "at", "I", false)
  | 11 => ("LoopCapturesModel", "stop", "I", false)
  | 12 => ("LoopCapturesModel", "stopReason", "I", false)
  | 13 => ("LoopCapturesModel", "wayLoops", "I", false)
  | 14 => ("LoopCapturesModel", "wayPlaces", "I", false)
  | 15 => ("LoopCapturesModel", "wayNumber", "I", false)
  | _ => ("LoopCapturesModel", "bestWorth", "I", false)
def tyX11 : Nat → FieldType := fun k => match k with
  | 0 => .array .int
  | 1 => .array .int
  | 2 => .array .int
  | 3 => .array .int
  | 4 => .array .int
  | 5 => .int
  | 6 => .array .int
  | 7 => .boolean
  | 8 => .array .int
  | 9 => .int
  | 10 => .int
  | 11 => .int
  | 12 => .int
  | 13 => .int
  | 14 => .int
  | 15 => .int
  | _ => .int
abbrev wsX110 : List Cond := u_ws RX11 TX11 17
theorem nmX11 : ∀ a, a < 17 → ∀ b, b < 17 → a ≠ b → (TX11 a).2.1 ≠ (TX11 b).2.1 := by decide +kernel
theorem tyX11_ok : ∀ k, k < 17 → parseFieldDescriptor (TX11 k).2.2.1 = some (tyX11 k) := by decide +kernel
abbrev cX11_init : ByteArray := prog_13_method_1_code
def yX11_init : MethodName := ⟨RX11, "<init>", "()V"⟩
abbrev cX11_in : ByteArray := prog_13_method_3_code
def yX11_in : MethodName := ⟨RX11, "in", "(III)Z"⟩
abbrev cX11_isPoint : ByteArray := prog_13_method_4_code
def yX11_isPoint : MethodName := ⟨RX11, "isPoint", "(I)Z"⟩
abbrev cX11_copies : ByteArray := prog_13_method_5_code
def yX11_copies : MethodName := ⟨RX11, "copies", "([II[II)V"⟩
abbrev cX11_records : ByteArray := prog_13_method_6_code
def yX11_records : MethodName := ⟨RX11, "records", "()V"⟩
abbrev cX11_undo : ByteArray := prog_13_method_7_code
def yX11_undo : MethodName := ⟨RX11, "undo", "()I"⟩
abbrev cX11_pieces : ByteArray := prog_13_method_8_code
def yX11_pieces : MethodName := ⟨RX11, "pieces", "([II)I"⟩
abbrev cX11_allPieces : ByteArray := prog_13_method_9_code
def yX11_allPieces : MethodName := ⟨RX11, "allPieces", "()I"⟩
abbrev cX11_keep : ByteArray := prog_13_method_10_code
def yX11_keep : MethodName := ⟨RX11, "keep", "()I"⟩
abbrev cX11_restore : ByteArray := prog_13_method_11_code
def yX11_restore : MethodName := ⟨RX11, "restore", "()I"⟩
abbrev cX11_packed : ByteArray := prog_13_method_12_code
def yX11_packed : MethodName := ⟨RX11, "packed", "([II)I"⟩
abbrev cX11_notes : ByteArray := prog_13_method_13_code
def yX11_notes : MethodName := ⟨RX11, "notes", "([I)V"⟩
abbrev cX11_forgets : ByteArray := prog_13_method_14_code
def yX11_forgets : MethodName := ⟨RX11, "forgets", "([I)V"⟩
abbrev cX11_were : ByteArray := prog_13_method_15_code
def yX11_were : MethodName := ⟨RX11, "were", "()I"⟩
abbrev cX11_begins : ByteArray := prog_13_method_16_code
def yX11_begins : MethodName := ⟨RX11, "begins", "()V"⟩
abbrev cX11_pointAt : ByteArray := prog_13_method_17_code
def yX11_pointAt : MethodName := ⟨RX11, "pointAt", "(II)I"⟩
abbrev cX11_goes : ByteArray := prog_13_method_18_code
def yX11_goes : MethodName := ⟨RX11, "goes", "([IIIZ)I"⟩
abbrev cX11_bestWay : ByteArray := prog_13_method_19_code
def yX11_bestWay : MethodName := ⟨RX11, "bestWay", "([III)I"⟩
abbrev cX11_targets : ByteArray := prog_13_method_20_code
def yX11_targets : MethodName := ⟨RX11, "targets", "([II)J"⟩
abbrev cX11_isBeside : ByteArray := prog_13_method_21_code
def yX11_isBeside : MethodName := ⟨RX11, "isBeside", "(II)Z"⟩
abbrev cX11_result : ByteArray := prog_13_method_22_code
def yX11_result : MethodName := ⟨RX11, "result", "([I)I"⟩
abbrev cX11_why : ByteArray := prog_13_method_23_code
def yX11_why : MethodName := ⟨RX11, "why", "([IIIZ)I"⟩
abbrev cX11_makes : ByteArray := prog_13_method_24_code
def yX11_makes : MethodName := ⟨RX11, "makes", "([III)V"⟩
abbrev cX11_moves : ByteArray := prog_13_method_25_code
def yX11_moves : MethodName := ⟨RX11, "moves", "(IIZ)I"⟩
abbrev cX11_move : ByteArray := prog_13_method_26_code
def yX11_move : MethodName := ⟨RX11, "move", "(II)I"⟩
abbrev cX11_capture : ByteArray := prog_13_method_27_code
def yX11_capture : MethodName := ⟨RX11, "capture", "(II)I"⟩
abbrev cX11_ends : ByteArray := prog_13_method_28_code
def yX11_ends : MethodName := ⟨RX11, "ends", "([IIZ)J"⟩
abbrev cX11_worth : ByteArray := prog_13_method_29_code
def yX11_worth : MethodName := ⟨RX11, "worth", "([I)I"⟩
abbrev cX11_deep : ByteArray := prog_13_method_30_code
def yX11_deep : MethodName := ⟨RX11, "deep", "([I)I"⟩
abbrev cX11_bestOf : ByteArray := prog_13_method_31_code
def yX11_bestOf : MethodName := ⟨RX11, "bestOf", "(I)I"⟩
abbrev cX11_play : ByteArray := prog_13_method_32_code
def yX11_play : MethodName := ⟨RX11, "play", "(I)I"⟩
abbrev cX11_setUp : ByteArray := prog_13_method_33_code
def yX11_setUp : MethodName := ⟨RX11, "setUp", "(II)I"⟩
abbrev cX11_turn : ByteArray := prog_13_method_34_code
def yX11_turn : MethodName := ⟨RX11, "turn", "()I"⟩
abbrev cX11_begin : ByteArray := prog_13_method_35_code
def yX11_begin : MethodName := ⟨RX11, "begin", "()I"⟩
abbrev cX11_setLimit : ByteArray := prog_13_method_36_code
def yX11_setLimit : MethodName := ⟨RX11, "setLimit", "(I)I"⟩
abbrev cX11_type : ByteArray := prog_13_method_37_code
def yX11_type : MethodName := ⟨RX11, "type", "(C)I"⟩
abbrev cX11_clearText : ByteArray := prog_13_method_38_code
def yX11_clearText : MethodName := ⟨RX11, "clearText", "()I"⟩
abbrev cX11_isAllowed : ByteArray := prog_13_method_39_code
def yX11_isAllowed : MethodName := ⟨RX11, "isAllowed", "(II)Z"⟩
abbrev cX11_isText : ByteArray := prog_13_method_40_code
def yX11_isText : MethodName := ⟨RX11, "isText", "()Z"⟩
abbrev cX11_toldPoint : ByteArray := prog_13_method_41_code
def yX11_toldPoint : MethodName := ⟨RX11, "toldPoint", "(I)I"⟩
abbrev cX11_perform : ByteArray := prog_13_method_42_code
def yX11_perform : MethodName := ⟨RX11, "perform", "()I"⟩
abbrev cX11_stopped : ByteArray := prog_13_method_43_code
def yX11_stopped : MethodName := ⟨RX11, "stopped", "(I)I"⟩
abbrev cX11_captors : ByteArray := prog_13_method_44_code
def yX11_captors : MethodName := ⟨RX11, "captors", "([III)I"⟩
abbrev cX11_ones : ByteArray := prog_13_method_45_code
def yX11_ones : MethodName := ⟨RX11, "ones", "(J)I"⟩
abbrev cX11_covered : ByteArray := prog_13_method_46_code
def yX11_covered : MethodName := ⟨RX11, "covered", "(I)I"⟩
abbrev cX11_quietOnes : ByteArray := prog_13_method_47_code
def yX11_quietOnes : MethodName := ⟨RX11, "quietOnes", "(I)I"⟩
abbrev cX11_point : ByteArray := prog_13_method_48_code
def yX11_point : MethodName := ⟨RX11, "point", "(II)I"⟩
abbrev cX11_way : ByteArray := prog_13_method_49_code
def yX11_way : MethodName := ⟨RX11, "way", "(III)I"⟩
abbrev cX11_circuit : ByteArray := prog_13_method_50_code
def yX11_circuit : MethodName := ⟨RX11, "circuit", "(II)I"⟩
abbrev cX11_reason : ByteArray := prog_13_method_51_code
def yX11_reason : MethodName := ⟨RX11, "reason", "(IIZ)I"⟩
abbrev cX11_many : ByteArray := prog_13_method_52_code
def yX11_many : MethodName := ⟨RX11, "many", "(Z)I"⟩
abbrev cX11_possible : ByteArray := prog_13_method_53_code
def yX11_possible : MethodName := ⟨RX11, "possible", "(I)I"⟩
abbrev cX11_look : ByteArray := prog_13_method_54_code
def yX11_look : MethodName := ⟨RX11, "look", "(I)I"⟩
abbrev cX11_best : ByteArray := prog_13_method_55_code
def yX11_best : MethodName := ⟨RX11, "best", "(I)I"⟩
abbrev cX11_threatened : ByteArray := prog_13_method_56_code
def yX11_threatened : MethodName := ⟨RX11, "threatened", "()I"⟩
abbrev cX11_count : ByteArray := prog_13_method_57_code
def yX11_count : MethodName := ⟨RX11, "count", "(I)I"⟩
def RJ9 : String := "java/lang/Math"
def TJ9 : u_T := fun k => match k with
  | _ => ("", "", "", false)
def tyJ9 : Nat → FieldType := fun k => match k with
  | _ => .int
theorem nmJ9 : ∀ a, a < 0 → ∀ b, b < 0 → a ≠ b → (TJ9 a).2.1 ≠ (TJ9 b).2.1 := by decide +kernel
theorem tyJ9_ok : ∀ k, k < 0 → parseFieldDescriptor (TJ9 k).2.2.1 = some (tyJ9 k) := by decide +kernel
abbrev cJ9_abs_0f7a4 : ByteArray := prog_14_method_59_code
def yJ9_abs_0f7a4 : MethodName := ⟨RJ9, "abs", "(I)I"⟩
abbrev cJ9_max_7cf53 : ByteArray := prog_14_method_65_code
def yJ9_max_7cf53 : MethodName := ⟨RJ9, "max", "(II)I"⟩
abbrev cJ9_min_7cf53 : ByteArray := prog_14_method_69_code
def yJ9_min_7cf53 : MethodName := ⟨RJ9, "min", "(II)I"⟩
def RL : String := "LoopCapturesLaw"
abbrev cL_law : ByteArray := code
def yL_law : MethodName := ⟨RL, "law", "([I)Z"⟩
theorem dX0_init_0 : decode cX0_init 0 = .ok (.aload_n 0, 1) := by decide +kernel
theorem dX0_init_1 : decode cX0_init 1 = .ok (.invokespecial 3, 3) := by decide +kernel
theorem dX0_init_4 : decode cX0_init 4 = .ok (.aload_n 0, 1) := by decide +kernel
theorem dX0_init_5 : decode cX0_init 5 = .ok (.bipush 36, 2) := by decide +kernel
theorem dX0_init_7 : decode cX0_init 7 = .ok (.newarray .int, 2) := by decide +kernel
theorem dX0_init_9 : decode cX0_init 9 = .ok (.putfield 9, 3) := by decide +kernel
theorem dX0_init_12 : decode cX0_init 12 = .ok (.aload_n 0, 1) := by decide +kernel
theorem dX0_init_13 : decode cX0_init 13 = .ok (.bipush 20, 2) := by decide +kernel
theorem dX0_init_15 : decode cX0_init 15 = .ok (.putfield 15, 3) := by decide +kernel
theorem dX0_init_18 : decode cX0_init 18 = .ok (.aload_n 0, 1) := by decide +kernel
theorem dX0_init_19 : decode cX0_init 19 = .ok (.invokevirtual 19, 3) := by decide +kernel
theorem dX0_init_22 : decode cX0_init 22 = .ok (.return_, 1) := by decide +kernel
theorem dX0_startAnew_0 : decode cX0_startAnew 0 = .ok (.iconst 0, 1) := by decide +kernel
theorem dX0_startAnew_1 : decode cX0_startAnew 1 = .ok (.istore_n 1, 1) := by decide +kernel
theorem dX0_startAnew_2 : decode cX0_startAnew 2 = .ok (.iload_n 1, 1) := by decide +kernel
theorem dX0_startAnew_3 : decode cX0_startAnew 3 = .ok (.bipush 36, 2) := by decide +kernel
theorem dX0_startAnew_5 : decode cX0_startAnew 5 = .ok (.if_icmp .ge 18, 3) := by decide +kernel
theorem dX0_startAnew_8 : decode cX0_startAnew 8 = .ok (.aload_n 0, 1) := by decide +kernel
theorem dX0_startAnew_9 : decode cX0_startAnew 9 = .ok (.iload_n 1, 1) := by decide +kernel
theorem dX0_startAnew_10 : decode cX0_startAnew 10 = .ok (.iload_n 1, 1) := by decide +kernel
theorem dX0_startAnew_11 : decode cX0_startAnew 11 = .ok (.invokestatic 22, 3) := by decide +kernel
theorem dX0_startAnew_14 : decode cX0_startAnew 14 = .ok (.invokevirtual 26, 3) := by decide +kernel
theorem dX0_startAnew_17 : decode cX0_startAnew 17 = .ok (.iinc 1 1, 3) := by decide +kernel
theorem dX0_startAnew_20 : decode cX0_startAnew 20 = .ok (.goto (-18), 3) := by decide +kernel
theorem dX0_startAnew_23 : decode cX0_startAnew 23 = .ok (.aload_n 0, 1) := by decide +kernel
theorem dX0_startAnew_24 : decode cX0_startAnew 24 = .ok (.iconst 1, 1) := by decide +kernel
theorem dX0_startAnew_25 : decode cX0_startAnew 25 = .ok (.putfield 30, 3) := by decide +kernel
theorem dX0_startAnew_28 : decode cX0_startAnew 28 = .ok (.aload_n 0, 1) := by decide +kernel
theorem dX0_startAnew_29 : decode cX0_startAnew 29 = .ok (.iconst 0, 1) := by decide +kernel
theorem dX0_startAnew_30 : decode cX0_startAnew 30 = .ok (.putfield 33, 3) := by decide +kernel
theorem dX0_startAnew_33 : decode cX0_startAnew 33 = .ok (.return_, 1) := by decide +kernel
theorem dX0_firstSideAt_0 : decode cX0_firstSideAt 0 = .ok (.iload_n 0, 1) := by decide +kernel
theorem dX0_firstSideAt_1 : decode cX0_firstSideAt 1 = .ok (.bipush 12, 2) := by decide +kernel
theorem dX0_firstSideAt_3 : decode cX0_firstSideAt 3 = .ok (.if_icmp .ge 5, 3) := by decide +kernel
theorem dX0_firstSideAt_6 : decode cX0_firstSideAt 6 = .ok (.iconst 1, 1) := by decide +kernel
theorem dX0_firstSideAt_7 : decode cX0_firstSideAt 7 = .ok (.ireturn, 1) := by decide +kernel
theorem dX0_firstSideAt_8 : decode cX0_firstSideAt 8 = .ok (.iload_n 0, 1) := by decide +kernel
theorem dX0_firstSideAt_9 : decode cX0_firstSideAt 9 = .ok (.bipush 24, 2) := by decide +kernel
theorem dX0_firstSideAt_11 : decode cX0_firstSideAt 11 = .ok (.if_icmp .ge 7, 3) := by decide +kernel
theorem dX0_firstSideAt_14 : decode cX0_firstSideAt 14 = .ok (.iconst 0, 1) := by decide +kernel
theorem dX0_firstSideAt_15 : decode cX0_firstSideAt 15 = .ok (.goto 4, 3) := by decide +kernel
theorem dX0_firstSideAt_18 : decode cX0_firstSideAt 18 = .ok (.iconst 2, 1) := by decide +kernel
theorem dX0_firstSideAt_19 : decode cX0_firstSideAt 19 = .ok (.ireturn, 1) := by decide +kernel
theorem dX0_copyFrom_0 : decode cX0_copyFrom 0 = .ok (.iconst 0, 1) := by decide +kernel
theorem dX0_copyFrom_1 : decode cX0_copyFrom 1 = .ok (.istore_n 2, 1) := by decide +kernel
theorem dX0_copyFrom_2 : decode cX0_copyFrom 2 = .ok (.iload_n 2, 1) := by decide +kernel
theorem dX0_copyFrom_3 : decode cX0_copyFrom 3 = .ok (.bipush 36, 2) := by decide +kernel
theorem dX0_copyFrom_5 : decode cX0_copyFrom 5 = .ok (.if_icmp .ge 21, 3) := by decide +kernel
theorem dX0_copyFrom_8 : decode cX0_copyFrom 8 = .ok (.aload_n 0, 1) := by decide +kernel
theorem dX0_copyFrom_9 : decode cX0_copyFrom 9 = .ok (.getfield 9, 3) := by decide +kernel
theorem dX0_copyFrom_12 : decode cX0_copyFrom 12 = .ok (.iload_n 2, 1) := by decide +kernel
theorem dX0_copyFrom_13 : decode cX0_copyFrom 13 = .ok (.aload_n 1, 1) := by decide +kernel
theorem dX0_copyFrom_14 : decode cX0_copyFrom 14 = .ok (.getfield 9, 3) := by decide +kernel
theorem dX0_copyFrom_17 : decode cX0_copyFrom 17 = .ok (.iload_n 2, 1) := by decide +kernel
theorem dX0_copyFrom_18 : decode cX0_copyFrom 18 = .ok (.iaload, 1) := by decide +kernel
theorem dX0_copyFrom_19 : decode cX0_copyFrom 19 = .ok (.iastore, 1) := by decide +kernel
theorem dX0_copyFrom_20 : decode cX0_copyFrom 20 = .ok (.iinc 2 1, 3) := by decide +kernel
theorem dX0_copyFrom_23 : decode cX0_copyFrom 23 = .ok (.goto (-21), 3) := by decide +kernel
theorem dX0_copyFrom_26 : decode cX0_copyFrom 26 = .ok (.aload_n 0, 1) := by decide +kernel
theorem dX0_copyFrom_27 : decode cX0_copyFrom 27 = .ok (.aload_n 1, 1) := by decide +kernel
theorem dX0_copyFrom_28 : decode cX0_copyFrom 28 = .ok (.getfield 36, 3) := by decide +kernel
theorem dX0_copyFrom_31 : decode cX0_copyFrom 31 = .ok (.putfield 36, 3) := by decide +kernel
theorem dX0_copyFrom_34 : decode cX0_copyFrom 34 = .ok (.aload_n 0, 1) := by decide +kernel
theorem dX0_copyFrom_35 : decode cX0_copyFrom 35 = .ok (.aload_n 1, 1) := by decide +kernel
theorem dX0_copyFrom_36 : decode cX0_copyFrom 36 = .ok (.getfield 39, 3) := by decide +kernel
theorem dX0_copyFrom_39 : decode cX0_copyFrom 39 = .ok (.putfield 39, 3) := by decide +kernel
theorem dX0_copyFrom_42 : decode cX0_copyFrom 42 = .ok (.aload_n 0, 1) := by decide +kernel
theorem dX0_copyFrom_43 : decode cX0_copyFrom 43 = .ok (.aload_n 1, 1) := by decide +kernel
theorem dX0_copyFrom_44 : decode cX0_copyFrom 44 = .ok (.getfield 30, 3) := by decide +kernel
theorem dX0_copyFrom_47 : decode cX0_copyFrom 47 = .ok (.putfield 30, 3) := by decide +kernel
theorem dX0_copyFrom_50 : decode cX0_copyFrom 50 = .ok (.aload_n 0, 1) := by decide +kernel
theorem dX0_copyFrom_51 : decode cX0_copyFrom 51 = .ok (.aload_n 1, 1) := by decide +kernel
theorem dX0_copyFrom_52 : decode cX0_copyFrom 52 = .ok (.getfield 33, 3) := by decide +kernel
theorem dX0_copyFrom_55 : decode cX0_copyFrom 55 = .ok (.putfield 33, 3) := by decide +kernel
theorem dX0_copyFrom_58 : decode cX0_copyFrom 58 = .ok (.aload_n 0, 1) := by decide +kernel
theorem dX0_copyFrom_59 : decode cX0_copyFrom 59 = .ok (.aload_n 1, 1) := by decide +kernel
theorem dX0_copyFrom_60 : decode cX0_copyFrom 60 = .ok (.getfield 15, 3) := by decide +kernel
theorem dX0_copyFrom_63 : decode cX0_copyFrom 63 = .ok (.putfield 15, 3) := by decide +kernel
theorem dX0_copyFrom_66 : decode cX0_copyFrom 66 = .ok (.return_, 1) := by decide +kernel
theorem dX0_at_0 : decode cX0_at 0 = .ok (.iload_n 1, 1) := by decide +kernel
theorem dX0_at_1 : decode cX0_at 1 = .ok (.ifCond .lt 21, 3) := by decide +kernel
theorem dX0_at_4 : decode cX0_at 4 = .ok (.iload_n 1, 1) := by decide +kernel
theorem dX0_at_5 : decode cX0_at 5 = .ok (.aload_n 0, 1) := by decide +kernel
theorem dX0_at_6 : decode cX0_at 6 = .ok (.getfield 9, 3) := by decide +kernel
theorem dX0_at_9 : decode cX0_at 9 = .ok (.arraylength, 1) := by decide +kernel
theorem dX0_at_10 : decode cX0_at 10 = .ok (.if_icmp .ge 12, 3) := by decide +kernel
theorem dX0_at_13 : decode cX0_at 13 = .ok (.aload_n 0, 1) := by decide +kernel
theorem dX0_at_14 : decode cX0_at 14 = .ok (.getfield 9, 3) := by decide +kernel
theorem dX0_at_17 : decode cX0_at 17 = .ok (.iload_n 1, 1) := by decide +kernel
theorem dX0_at_18 : decode cX0_at 18 = .ok (.iaload, 1) := by decide +kernel
theorem dX0_at_19 : decode cX0_at 19 = .ok (.goto 4, 3) := by decide +kernel
theorem dX0_at_22 : decode cX0_at 22 = .ok (.iconst 0, 1) := by decide +kernel
theorem dX0_at_23 : decode cX0_at 23 = .ok (.ireturn, 1) := by decide +kernel
theorem dX0_put_0 : decode cX0_put 0 = .ok (.iload_n 1, 1) := by decide +kernel
theorem dX0_put_1 : decode cX0_put 1 = .ok (.ifCond .lt 12, 3) := by decide +kernel
theorem dX0_put_4 : decode cX0_put 4 = .ok (.iload_n 1, 1) := by decide +kernel
theorem dX0_put_5 : decode cX0_put 5 = .ok (.aload_n 0, 1) := by decide +kernel
theorem dX0_put_6 : decode cX0_put 6 = .ok (.getfield 9, 3) := by decide +kernel
theorem dX0_put_9 : decode cX0_put 9 = .ok (.arraylength, 1) := by decide +kernel
theorem dX0_put_10 : decode cX0_put 10 = .ok (.if_icmp .lt 4, 3) := by decide +kernel
theorem dX0_put_13 : decode cX0_put 13 = .ok (.return_, 1) := by decide +kernel
theorem dX0_put_14 : decode cX0_put 14 = .ok (.aload_n 0, 1) := by decide +kernel
theorem dX0_put_15 : decode cX0_put 15 = .ok (.aload_n 0, 1) := by decide +kernel
theorem dX0_put_16 : decode cX0_put 16 = .ok (.getfield 9, 3) := by decide +kernel
theorem dX0_put_19 : decode cX0_put 19 = .ok (.iload_n 1, 1) := by decide +kernel
theorem dX0_put_20 : decode cX0_put 20 = .ok (.iaload, 1) := by decide +kernel
theorem dX0_put_21 : decode cX0_put 21 = .ok (.iconst (-1), 1) := by decide +kernel
theorem dX0_put_22 : decode cX0_put 22 = .ok (.invokevirtual 42, 3) := by decide +kernel
theorem dX0_put_25 : decode cX0_put 25 = .ok (.aload_n 0, 1) := by decide +kernel
theorem dX0_put_26 : decode cX0_put 26 = .ok (.iload_n 2, 1) := by decide +kernel
theorem dX0_put_27 : decode cX0_put 27 = .ok (.iconst 1, 1) := by decide +kernel
theorem dX0_put_28 : decode cX0_put 28 = .ok (.invokevirtual 42, 3) := by decide +kernel
theorem dX0_put_31 : decode cX0_put 31 = .ok (.aload_n 0, 1) := by decide +kernel
theorem dX0_put_32 : decode cX0_put 32 = .ok (.getfield 9, 3) := by decide +kernel
theorem dX0_put_35 : decode cX0_put 35 = .ok (.iload_n 1, 1) := by decide +kernel
theorem dX0_put_36 : decode cX0_put 36 = .ok (.iload_n 2, 1) := by decide +kernel
theorem dX0_put_37 : decode cX0_put 37 = .ok (.iastore, 1) := by decide +kernel
theorem dX0_put_38 : decode cX0_put 38 = .ok (.return_, 1) := by decide +kernel
theorem dX0_tally_0 : decode cX0_tally 0 = .ok (.iload_n 1, 1) := by decide +kernel
theorem dX0_tally_1 : decode cX0_tally 1 = .ok (.iconst 1, 1) := by decide +kernel
theorem dX0_tally_2 : decode cX0_tally 2 = .ok (.if_icmp .ne 16, 3) := by decide +kernel
theorem dX0_tally_5 : decode cX0_tally 5 = .ok (.aload_n 0, 1) := by decide +kernel
theorem dX0_tally_6 : decode cX0_tally 6 = .ok (.dup, 1) := by decide +kernel
theorem dX0_tally_7 : decode cX0_tally 7 = .ok (.getfield 36, 3) := by decide +kernel
theorem dX0_tally_10 : decode cX0_tally 10 = .ok (.iload_n 2, 1) := by decide +kernel
theorem dX0_tally_11 : decode cX0_tally 11 = .ok (.iadd, 1) := by decide +kernel
theorem dX0_tally_12 : decode cX0_tally 12 = .ok (.putfield 36, 3) := by decide +kernel
theorem dX0_tally_15 : decode cX0_tally 15 = .ok (.goto 18, 3) := by decide +kernel
theorem dX0_tally_18 : decode cX0_tally 18 = .ok (.iload_n 1, 1) := by decide +kernel
theorem dX0_tally_19 : decode cX0_tally 19 = .ok (.iconst 2, 1) := by decide +kernel
theorem dX0_tally_20 : decode cX0_tally 20 = .ok (.if_icmp .ne 13, 3) := by decide +kernel
theorem dX0_tally_23 : decode cX0_tally 23 = .ok (.aload_n 0, 1) := by decide +kernel
theorem dX0_tally_24 : decode cX0_tally 24 = .ok (.dup, 1) := by decide +kernel
theorem dX0_tally_25 : decode cX0_tally 25 = .ok (.getfield 39, 3) := by decide +kernel
theorem dX0_tally_28 : decode cX0_tally 28 = .ok (.iload_n 2, 1) := by decide +kernel
theorem dX0_tally_29 : decode cX0_tally 29 = .ok (.iadd, 1) := by decide +kernel
theorem dX0_tally_30 : decode cX0_tally 30 = .ok (.putfield 39, 3) := by decide +kernel
theorem dX0_tally_33 : decode cX0_tally 33 = .ok (.return_, 1) := by decide +kernel
theorem dX0_piecesOf_0 : decode cX0_piecesOf 0 = .ok (.iload_n 1, 1) := by decide +kernel
theorem dX0_piecesOf_1 : decode cX0_piecesOf 1 = .ok (.iconst 1, 1) := by decide +kernel
theorem dX0_piecesOf_2 : decode cX0_piecesOf 2 = .ok (.if_icmp .ne 10, 3) := by decide +kernel
theorem dX0_piecesOf_5 : decode cX0_piecesOf 5 = .ok (.aload_n 0, 1) := by decide +kernel
theorem dX0_piecesOf_6 : decode cX0_piecesOf 6 = .ok (.getfield 36, 3) := by decide +kernel
theorem dX0_piecesOf_9 : decode cX0_piecesOf 9 = .ok (.goto 7, 3) := by decide +kernel
theorem dX0_piecesOf_12 : decode cX0_piecesOf 12 = .ok (.aload_n 0, 1) := by decide +kernel
theorem dX0_piecesOf_13 : decode cX0_piecesOf 13 = .ok (.getfield 39, 3) := by decide +kernel
theorem dX0_piecesOf_16 : decode cX0_piecesOf 16 = .ok (.ireturn, 1) := by decide +kernel
theorem dX0_allPieces_0 : decode cX0_allPieces 0 = .ok (.aload_n 0, 1) := by decide +kernel
theorem dX0_allPieces_1 : decode cX0_allPieces 1 = .ok (.getfield 36, 3) := by decide +kernel
theorem dX0_allPieces_4 : decode cX0_allPieces 4 = .ok (.aload_n 0, 1) := by decide +kernel
theorem dX0_allPieces_5 : decode cX0_allPieces 5 = .ok (.getfield 39, 3) := by decide +kernel
theorem dX0_allPieces_8 : decode cX0_allPieces 8 = .ok (.iadd, 1) := by decide +kernel
theorem dX0_allPieces_9 : decode cX0_allPieces 9 = .ok (.ireturn, 1) := by decide +kernel
theorem dX0_sideToMove_0 : decode cX0_sideToMove 0 = .ok (.aload_n 0, 1) := by decide +kernel
theorem dX0_sideToMove_1 : decode cX0_sideToMove 1 = .ok (.getfield 30, 3) := by decide +kernel
theorem dX0_sideToMove_4 : decode cX0_sideToMove 4 = .ok (.ireturn, 1) := by decide +kernel
theorem dX0_quietMoves_0 : decode cX0_quietMoves 0 = .ok (.aload_n 0, 1) := by decide +kernel
theorem dX0_quietMoves_1 : decode cX0_quietMoves 1 = .ok (.getfield 33, 3) := by decide +kernel
theorem dX0_quietMoves_4 : decode cX0_quietMoves 4 = .ok (.ireturn, 1) := by decide +kernel
theorem dX0_limit_0 : decode cX0_limit 0 = .ok (.aload_n 0, 1) := by decide +kernel
theorem dX0_limit_1 : decode cX0_limit 1 = .ok (.getfield 15, 3) := by decide +kernel
theorem dX0_limit_4 : decode cX0_limit 4 = .ok (.ireturn, 1) := by decide +kernel
theorem dX0_changeLimit_0 : decode cX0_changeLimit 0 = .ok (.aload_n 0, 1) := by decide +kernel
theorem dX0_changeLimit_1 : decode cX0_changeLimit 1 = .ok (.iload_n 1, 1) := by decide +kernel
theorem dX0_changeLimit_2 : decode cX0_changeLimit 2 = .ok (.putfield 15, 3) := by decide +kernel
theorem dX0_changeLimit_5 : decode cX0_changeLimit 5 = .ok (.return_, 1) := by decide +kernel
theorem dX0_forgetQuietMoves_0 : decode cX0_forgetQuietMoves 0 = .ok (.aload_n 0, 1) := by decide +kernel
theorem dX0_forgetQuietMoves_1 : decode cX0_forgetQuietMoves 1 = .ok (.iconst 0, 1) := by decide +kernel
theorem dX0_forgetQuietMoves_2 : decode cX0_forgetQuietMoves 2 = .ok (.putfield 33, 3) := by decide +kernel
theorem dX0_forgetQuietMoves_5 : decode cX0_forgetQuietMoves 5 = .ok (.return_, 1) := by decide +kernel
theorem dX0_changeSide_0 : decode cX0_changeSide 0 = .ok (.aload_n 0, 1) := by decide +kernel
theorem dX0_changeSide_1 : decode cX0_changeSide 1 = .ok (.iconst 3, 1) := by decide +kernel
theorem dX0_changeSide_2 : decode cX0_changeSide 2 = .ok (.aload_n 0, 1) := by decide +kernel
theorem dX0_changeSide_3 : decode cX0_changeSide 3 = .ok (.getfield 30, 3) := by decide +kernel
theorem dX0_changeSide_6 : decode cX0_changeSide 6 = .ok (.isub, 1) := by decide +kernel
theorem dX0_changeSide_7 : decode cX0_changeSide 7 = .ok (.putfield 30, 3) := by decide +kernel
theorem dX0_changeSide_10 : decode cX0_changeSide 10 = .ok (.return_, 1) := by decide +kernel
theorem dX0_result_0 : decode cX0_result 0 = .ok (.aload_n 0, 1) := by decide +kernel
theorem dX0_result_1 : decode cX0_result 1 = .ok (.getfield 36, 3) := by decide +kernel
theorem dX0_result_4 : decode cX0_result 4 = .ok (.ifCond .ne 12, 3) := by decide +kernel
theorem dX0_result_7 : decode cX0_result 7 = .ok (.aload_n 0, 1) := by decide +kernel
theorem dX0_result_8 : decode cX0_result 8 = .ok (.getfield 39, 3) := by decide +kernel
theorem dX0_result_11 : decode cX0_result 11 = .ok (.ifCond .ne 5, 3) := by decide +kernel
theorem dX0_result_14 : decode cX0_result 14 = .ok (.iconst 3, 1) := by decide +kernel
theorem dX0_result_15 : decode cX0_result 15 = .ok (.ireturn, 1) := by decide +kernel
theorem dX0_result_16 : decode cX0_result 16 = .ok (.aload_n 0, 1) := by decide +kernel
theorem dX0_result_17 : decode cX0_result 17 = .ok (.getfield 39, 3) := by decide +kernel
theorem dX0_result_20 : decode cX0_result 20 = .ok (.ifCond .ne 5, 3) := by decide +kernel
theorem dX0_result_23 : decode cX0_result 23 = .ok (.iconst 1, 1) := by decide +kernel
theorem dX0_result_24 : decode cX0_result 24 = .ok (.ireturn, 1) := by decide +kernel
theorem dX0_result_25 : decode cX0_result 25 = .ok (.aload_n 0, 1) := by decide +kernel
theorem dX0_result_26 : decode cX0_result 26 = .ok (.getfield 36, 3) := by decide +kernel
theorem dX0_result_29 : decode cX0_result 29 = .ok (.ifCond .ne 5, 3) := by decide +kernel
theorem dX0_result_32 : decode cX0_result 32 = .ok (.iconst 2, 1) := by decide +kernel
theorem dX0_result_33 : decode cX0_result 33 = .ok (.ireturn, 1) := by decide +kernel
theorem dX0_result_34 : decode cX0_result 34 = .ok (.aload_n 0, 1) := by decide +kernel
theorem dX0_result_35 : decode cX0_result 35 = .ok (.getfield 33, 3) := by decide +kernel
theorem dX0_result_38 : decode cX0_result 38 = .ok (.aload_n 0, 1) := by decide +kernel
theorem dX0_result_39 : decode cX0_result 39 = .ok (.getfield 15, 3) := by decide +kernel
theorem dX0_result_42 : decode cX0_result 42 = .ok (.if_icmp .lt 7, 3) := by decide +kernel
theorem dX0_result_45 : decode cX0_result 45 = .ok (.iconst 3, 1) := by decide +kernel
theorem dX0_result_46 : decode cX0_result 46 = .ok (.goto 4, 3) := by decide +kernel
theorem dX0_result_49 : decode cX0_result 49 = .ok (.iconst 0, 1) := by decide +kernel
theorem dX0_result_50 : decode cX0_result 50 = .ok (.ireturn, 1) := by decide +kernel
theorem dX0_worth_0 : decode cX0_worth 0 = .ok (.aload_n 0, 1) := by decide +kernel
theorem dX0_worth_1 : decode cX0_worth 1 = .ok (.getfield 30, 3) := by decide +kernel
theorem dX0_worth_4 : decode cX0_worth 4 = .ok (.iconst 1, 1) := by decide +kernel
theorem dX0_worth_5 : decode cX0_worth 5 = .ok (.if_icmp .ne 15, 3) := by decide +kernel
theorem dX0_worth_8 : decode cX0_worth 8 = .ok (.aload_n 0, 1) := by decide +kernel
theorem dX0_worth_9 : decode cX0_worth 9 = .ok (.getfield 36, 3) := by decide +kernel
theorem dX0_worth_12 : decode cX0_worth 12 = .ok (.aload_n 0, 1) := by decide +kernel
theorem dX0_worth_13 : decode cX0_worth 13 = .ok (.getfield 39, 3) := by decide +kernel
theorem dX0_worth_16 : decode cX0_worth 16 = .ok (.isub, 1) := by decide +kernel
theorem dX0_worth_17 : decode cX0_worth 17 = .ok (.goto 12, 3) := by decide +kernel
theorem dX0_worth_20 : decode cX0_worth 20 = .ok (.aload_n 0, 1) := by decide +kernel
theorem dX0_worth_21 : decode cX0_worth 21 = .ok (.getfield 39, 3) := by decide +kernel
theorem dX0_worth_24 : decode cX0_worth 24 = .ok (.aload_n 0, 1) := by decide +kernel
theorem dX0_worth_25 : decode cX0_worth 25 = .ok (.getfield 36, 3) := by decide +kernel
theorem dX0_worth_28 : decode cX0_worth 28 = .ok (.isub, 1) := by decide +kernel
theorem dX0_worth_29 : decode cX0_worth 29 = .ok (.ireturn, 1) := by decide +kernel
theorem dX0_make_0 : decode cX0_make 0 = .ok (.aload_n 0, 1) := by decide +kernel
theorem dX0_make_1 : decode cX0_make 1 = .ok (.iload_n 2, 1) := by decide +kernel
theorem dX0_make_2 : decode cX0_make 2 = .ok (.invokevirtual 45, 3) := by decide +kernel
theorem dX0_make_5 : decode cX0_make 5 = .ok (.istore_n 3, 1) := by decide +kernel
theorem dX0_make_6 : decode cX0_make 6 = .ok (.aload_n 0, 1) := by decide +kernel
theorem dX0_make_7 : decode cX0_make 7 = .ok (.iload_n 2, 1) := by decide +kernel
theorem dX0_make_8 : decode cX0_make 8 = .ok (.aload_n 0, 1) := by decide +kernel
theorem dX0_make_9 : decode cX0_make 9 = .ok (.getfield 30, 3) := by decide +kernel
theorem dX0_make_12 : decode cX0_make 12 = .ok (.invokevirtual 26, 3) := by decide +kernel
theorem dX0_make_15 : decode cX0_make 15 = .ok (.aload_n 0, 1) := by decide +kernel
theorem dX0_make_16 : decode cX0_make 16 = .ok (.iload_n 1, 1) := by decide +kernel
theorem dX0_make_17 : decode cX0_make 17 = .ok (.iconst 0, 1) := by decide +kernel
theorem dX0_make_18 : decode cX0_make 18 = .ok (.invokevirtual 26, 3) := by decide +kernel
theorem dX0_make_21 : decode cX0_make 21 = .ok (.aload_n 0, 1) := by decide +kernel
theorem dX0_make_22 : decode cX0_make 22 = .ok (.iload_n 3, 1) := by decide +kernel
theorem dX0_make_23 : decode cX0_make 23 = .ok (.ifCond .ne 12, 3) := by decide +kernel
theorem dX0_make_26 : decode cX0_make 26 = .ok (.aload_n 0, 1) := by decide +kernel
theorem dX0_make_27 : decode cX0_make 27 = .ok (.getfield 33, 3) := by decide +kernel
theorem dX0_make_30 : decode cX0_make 30 = .ok (.iconst 1, 1) := by decide +kernel
theorem dX0_make_31 : decode cX0_make 31 = .ok (.iadd, 1) := by decide +kernel
theorem dX0_make_32 : decode cX0_make 32 = .ok (.goto 4, 3) := by decide +kernel
theorem dX0_make_35 : decode cX0_make 35 = .ok (.iconst 0, 1) := by decide +kernel
theorem dX0_make_36 : decode cX0_make 36 = .ok (.putfield 33, 3) := by decide +kernel
theorem dX0_make_39 : decode cX0_make 39 = .ok (.aload_n 0, 1) := by decide +kernel
theorem dX0_make_40 : decode cX0_make 40 = .ok (.invokevirtual 48, 3) := by decide +kernel
theorem dX0_make_43 : decode cX0_make 43 = .ok (.iload_n 3, 1) := by decide +kernel
theorem dX0_make_44 : decode cX0_make 44 = .ok (.ireturn, 1) := by decide +kernel
theorem dX0_takeBack_0 : decode cX0_takeBack 0 = .ok (.aload_n 0, 1) := by decide +kernel
theorem dX0_takeBack_1 : decode cX0_takeBack 1 = .ok (.invokevirtual 48, 3) := by decide +kernel
theorem dX0_takeBack_4 : decode cX0_takeBack 4 = .ok (.aload_n 0, 1) := by decide +kernel
theorem dX0_takeBack_5 : decode cX0_takeBack 5 = .ok (.iload_n 1, 1) := by decide +kernel
theorem dX0_takeBack_6 : decode cX0_takeBack 6 = .ok (.aload_n 0, 1) := by decide +kernel
theorem dX0_takeBack_7 : decode cX0_takeBack 7 = .ok (.getfield 30, 3) := by decide +kernel
theorem dX0_takeBack_10 : decode cX0_takeBack 10 = .ok (.invokevirtual 26, 3) := by decide +kernel
theorem dX0_takeBack_13 : decode cX0_takeBack 13 = .ok (.aload_n 0, 1) := by decide +kernel
theorem dX0_takeBack_14 : decode cX0_takeBack 14 = .ok (.iload_n 2, 1) := by decide +kernel
theorem dX0_takeBack_15 : decode cX0_takeBack 15 = .ok (.iload_n 3, 1) := by decide +kernel
theorem dX0_takeBack_16 : decode cX0_takeBack 16 = .ok (.invokevirtual 26, 3) := by decide +kernel
theorem dX0_takeBack_19 : decode cX0_takeBack 19 = .ok (.aload_n 0, 1) := by decide +kernel
theorem dX0_takeBack_20 : decode cX0_takeBack 20 = .ok (.iload 4, 2) := by decide +kernel
theorem dX0_takeBack_22 : decode cX0_takeBack 22 = .ok (.putfield 33, 3) := by decide +kernel
theorem dX0_takeBack_25 : decode cX0_takeBack 25 = .ok (.return_, 1) := by decide +kernel
theorem dX0_key_0 : decode cX0_key 0 = .ok (.aload_n 0, 1) := by decide +kernel
theorem dX0_key_1 : decode cX0_key 1 = .ok (.getfield 30, 3) := by decide +kernel
theorem dX0_key_4 : decode cX0_key 4 = .ok (.i2l, 1) := by decide +kernel
theorem dX0_key_5 : decode cX0_key 5 = .ok (.lstore_n 1, 1) := by decide +kernel
theorem dX0_key_6 : decode cX0_key 6 = .ok (.iconst 0, 1) := by decide +kernel
theorem dX0_key_7 : decode cX0_key 7 = .ok (.istore_n 3, 1) := by decide +kernel
theorem dX0_key_8 : decode cX0_key 8 = .ok (.iload_n 3, 1) := by decide +kernel
theorem dX0_key_9 : decode cX0_key 9 = .ok (.bipush 36, 2) := by decide +kernel
theorem dX0_key_11 : decode cX0_key 11 = .ok (.if_icmp .ge 23, 3) := by decide +kernel
theorem dX0_key_14 : decode cX0_key 14 = .ok (.lload_n 1, 1) := by decide +kernel
theorem dX0_key_15 : decode cX0_key 15 = .ok (.ldc2_w 51, 3) := by decide +kernel
theorem dX0_key_18 : decode cX0_key 18 = .ok (.lmul, 1) := by decide +kernel
theorem dX0_key_19 : decode cX0_key 19 = .ok (.aload_n 0, 1) := by decide +kernel
theorem dX0_key_20 : decode cX0_key 20 = .ok (.getfield 9, 3) := by decide +kernel
theorem dX0_key_23 : decode cX0_key 23 = .ok (.iload_n 3, 1) := by decide +kernel
theorem dX0_key_24 : decode cX0_key 24 = .ok (.iaload, 1) := by decide +kernel
theorem dX0_key_25 : decode cX0_key 25 = .ok (.i2l, 1) := by decide +kernel
theorem dX0_key_26 : decode cX0_key 26 = .ok (.ladd, 1) := by decide +kernel
theorem dX0_key_27 : decode cX0_key 27 = .ok (.lstore_n 1, 1) := by decide +kernel
theorem dX0_key_28 : decode cX0_key 28 = .ok (.iinc 3 1, 3) := by decide +kernel
theorem dX0_key_31 : decode cX0_key 31 = .ok (.goto (-23), 3) := by decide +kernel
theorem dX0_key_34 : decode cX0_key 34 = .ok (.lload_n 1, 1) := by decide +kernel
theorem dX0_key_35 : decode cX0_key 35 = .ok (.lreturn, 1) := by decide +kernel
theorem dX1_init_0 : decode cX1_init 0 = .ok (.aload_n 0, 1) := by decide +kernel
theorem dX1_init_1 : decode cX1_init 1 = .ok (.invokespecial 3, 3) := by decide +kernel
theorem dX1_init_4 : decode cX1_init 4 = .ok (.aload_n 0, 1) := by decide +kernel
theorem dX1_init_5 : decode cX1_init 5 = .ok (.bipush 48, 2) := by decide +kernel
theorem dX1_init_7 : decode cX1_init 7 = .ok (.newarray .int, 2) := by decide +kernel
theorem dX1_init_9 : decode cX1_init 9 = .ok (.putfield 11, 3) := by decide +kernel
theorem dX1_init_12 : decode cX1_init 12 = .ok (.aload_n 0, 1) := by decide +kernel
theorem dX1_init_13 : decode cX1_init 13 = .ok (.bipush 72, 2) := by decide +kernel
theorem dX1_init_15 : decode cX1_init 15 = .ok (.newarray .int, 2) := by decide +kernel
theorem dX1_init_17 : decode cX1_init 17 = .ok (.putfield 15, 3) := by decide +kernel
theorem dX1_init_20 : decode cX1_init 20 = .ok (.iconst 0, 1) := by decide +kernel
theorem dX1_init_21 : decode cX1_init 21 = .ok (.istore_n 1, 1) := by decide +kernel
theorem dX1_init_22 : decode cX1_init 22 = .ok (.iload_n 1, 1) := by decide +kernel
theorem dX1_init_23 : decode cX1_init 23 = .ok (.iconst 2, 1) := by decide +kernel
theorem dX1_init_24 : decode cX1_init 24 = .ok (.if_icmp .ge 14, 3) := by decide +kernel
theorem dX1_init_27 : decode cX1_init 27 = .ok (.aload_n 0, 1) := by decide +kernel
theorem dX1_init_28 : decode cX1_init 28 = .ok (.iload_n 1, 1) := by decide +kernel
theorem dX1_init_29 : decode cX1_init 29 = .ok (.invokevirtual 18, 3) := by decide +kernel
theorem dX1_init_32 : decode cX1_init 32 = .ok (.iinc 1 1, 3) := by decide +kernel
theorem dX1_init_35 : decode cX1_init 35 = .ok (.goto (-13), 3) := by decide +kernel
theorem dX1_init_38 : decode cX1_init 38 = .ok (.iconst 0, 1) := by decide +kernel
theorem dX1_init_39 : decode cX1_init 39 = .ok (.istore_n 1, 1) := by decide +kernel
theorem dX1_init_40 : decode cX1_init 40 = .ok (.iload_n 1, 1) := by decide +kernel
theorem dX1_init_41 : decode cX1_init 41 = .ok (.aload_n 0, 1) := by decide +kernel
theorem dX1_init_42 : decode cX1_init 42 = .ok (.getfield 15, 3) := by decide +kernel
theorem dX1_init_45 : decode cX1_init 45 = .ok (.arraylength, 1) := by decide +kernel
theorem dX1_init_46 : decode cX1_init 46 = .ok (.if_icmp .ge 16, 3) := by decide +kernel
theorem dX1_init_49 : decode cX1_init 49 = .ok (.aload_n 0, 1) := by decide +kernel
theorem dX1_init_50 : decode cX1_init 50 = .ok (.getfield 15, 3) := by decide +kernel
theorem dX1_init_53 : decode cX1_init 53 = .ok (.iload_n 1, 1) := by decide +kernel
theorem dX1_init_54 : decode cX1_init 54 = .ok (.iconst (-1), 1) := by decide +kernel
theorem dX1_init_55 : decode cX1_init 55 = .ok (.iastore, 1) := by decide +kernel
theorem dX1_init_56 : decode cX1_init 56 = .ok (.iinc 1 1, 3) := by decide +kernel
theorem dX1_init_59 : decode cX1_init 59 = .ok (.goto (-19), 3) := by decide +kernel
theorem dX1_init_62 : decode cX1_init 62 = .ok (.iconst 0, 1) := by decide +kernel
theorem dX1_init_63 : decode cX1_init 63 = .ok (.istore_n 1, 1) := by decide +kernel
theorem dX1_init_64 : decode cX1_init 64 = .ok (.iload_n 1, 1) := by decide +kernel
theorem dX1_init_65 : decode cX1_init 65 = .ok (.aload_n 0, 1) := by decide +kernel
theorem dX1_init_66 : decode cX1_init 66 = .ok (.getfield 11, 3) := by decide +kernel
theorem dX1_init_69 : decode cX1_init 69 = .ok (.arraylength, 1) := by decide +kernel
theorem dX1_init_70 : decode cX1_init 70 = .ok (.if_icmp .ge 20, 3) := by decide +kernel
theorem dX1_init_73 : decode cX1_init 73 = .ok (.aload_n 0, 1) := by decide +kernel
theorem dX1_init_74 : decode cX1_init 74 = .ok (.aload_n 0, 1) := by decide +kernel
theorem dX1_init_75 : decode cX1_init 75 = .ok (.getfield 11, 3) := by decide +kernel
theorem dX1_init_78 : decode cX1_init 78 = .ok (.iload_n 1, 1) := by decide +kernel
theorem dX1_init_79 : decode cX1_init 79 = .ok (.iaload, 1) := by decide +kernel
theorem dX1_init_80 : decode cX1_init 80 = .ok (.iload_n 1, 1) := by decide +kernel
theorem dX1_init_81 : decode cX1_init 81 = .ok (.invokevirtual 22, 3) := by decide +kernel
theorem dX1_init_84 : decode cX1_init 84 = .ok (.iinc 1 1, 3) := by decide +kernel
theorem dX1_init_87 : decode cX1_init 87 = .ok (.goto (-23), 3) := by decide +kernel
theorem dX1_init_90 : decode cX1_init 90 = .ok (.return_, 1) := by decide +kernel
theorem dX1_layOut_0 : decode cX1_layOut 0 = .ok (.iconst 1, 1) := by decide +kernel
theorem dX1_layOut_1 : decode cX1_layOut 1 = .ok (.iload_n 1, 1) := by decide +kernel
theorem dX1_layOut_2 : decode cX1_layOut 2 = .ok (.iadd, 1) := by decide +kernel
theorem dX1_layOut_3 : decode cX1_layOut 3 = .ok (.istore_n 2, 1) := by decide +kernel
theorem dX1_layOut_4 : decode cX1_layOut 4 = .ok (.iconst 5, 1) := by decide +kernel
theorem dX1_layOut_5 : decode cX1_layOut 5 = .ok (.iload_n 2, 1) := by decide +kernel
theorem dX1_layOut_6 : decode cX1_layOut 6 = .ok (.isub, 1) := by decide +kernel
theorem dX1_layOut_7 : decode cX1_layOut 7 = .ok (.istore_n 3, 1) := by decide +kernel
theorem dX1_layOut_8 : decode cX1_layOut 8 = .ok (.iload_n 1, 1) := by decide +kernel
theorem dX1_layOut_9 : decode cX1_layOut 9 = .ok (.bipush 24, 2) := by decide +kernel
theorem dX1_layOut_11 : decode cX1_layOut 11 = .ok (.imul, 1) := by decide +kernel
theorem dX1_layOut_12 : decode cX1_layOut 12 = .ok (.istore 4, 2) := by decide +kernel
theorem dX1_layOut_14 : decode cX1_layOut 14 = .ok (.iconst 0, 1) := by decide +kernel
theorem dX1_layOut_15 : decode cX1_layOut 15 = .ok (.istore 5, 2) := by decide +kernel
theorem dX1_layOut_17 : decode cX1_layOut 17 = .ok (.iload 5, 2) := by decide +kernel
theorem dX1_layOut_19 : decode cX1_layOut 19 = .ok (.bipush 6, 2) := by decide +kernel
theorem dX1_layOut_21 : decode cX1_layOut 21 = .ok (.if_icmp .ge 72, 3) := by decide +kernel
theorem dX1_layOut_24 : decode cX1_layOut 24 = .ok (.iconst 5, 1) := by decide +kernel
theorem dX1_layOut_25 : decode cX1_layOut 25 = .ok (.iload 5, 2) := by decide +kernel
theorem dX1_layOut_27 : decode cX1_layOut 27 = .ok (.isub, 1) := by decide +kernel
theorem dX1_layOut_28 : decode cX1_layOut 28 = .ok (.istore 6, 2) := by decide +kernel
theorem dX1_layOut_30 : decode cX1_layOut 30 = .ok (.aload_n 0, 1) := by decide +kernel
theorem dX1_layOut_31 : decode cX1_layOut 31 = .ok (.iload 4, 2) := by decide +kernel
theorem dX1_layOut_33 : decode cX1_layOut 33 = .ok (.iload 5, 2) := by decide +kernel
theorem dX1_layOut_35 : decode cX1_layOut 35 = .ok (.iadd, 1) := by decide +kernel
theorem dX1_layOut_36 : decode cX1_layOut 36 = .ok (.iload_n 2, 1) := by decide +kernel
theorem dX1_layOut_37 : decode cX1_layOut 37 = .ok (.iload 5, 2) := by decide +kernel
theorem dX1_layOut_39 : decode cX1_layOut 39 = .ok (.invokevirtual 26, 3) := by decide +kernel
theorem dX1_layOut_42 : decode cX1_layOut 42 = .ok (.aload_n 0, 1) := by decide +kernel
theorem dX1_layOut_43 : decode cX1_layOut 43 = .ok (.iload 4, 2) := by decide +kernel
theorem dX1_layOut_45 : decode cX1_layOut 45 = .ok (.bipush 6, 2) := by decide +kernel
theorem dX1_layOut_47 : decode cX1_layOut 47 = .ok (.iadd, 1) := by decide +kernel
theorem dX1_layOut_48 : decode cX1_layOut 48 = .ok (.iload 5, 2) := by decide +kernel
theorem dX1_layOut_50 : decode cX1_layOut 50 = .ok (.iadd, 1) := by decide +kernel
theorem dX1_layOut_51 : decode cX1_layOut 51 = .ok (.iload 5, 2) := by decide +kernel
theorem dX1_layOut_53 : decode cX1_layOut 53 = .ok (.iload_n 3, 1) := by decide +kernel
theorem dX1_layOut_54 : decode cX1_layOut 54 = .ok (.invokevirtual 26, 3) := by decide +kernel
theorem dX1_layOut_57 : decode cX1_layOut 57 = .ok (.aload_n 0, 1) := by decide +kernel
theorem dX1_layOut_58 : decode cX1_layOut 58 = .ok (.iload 4, 2) := by decide +kernel
theorem dX1_layOut_60 : decode cX1_layOut 60 = .ok (.bipush 12, 2) := by decide +kernel
theorem dX1_layOut_62 : decode cX1_layOut 62 = .ok (.iadd, 1) := by decide +kernel
theorem dX1_layOut_63 : decode cX1_layOut 63 = .ok (.iload 5, 2) := by decide +kernel
theorem dX1_layOut_65 : decode cX1_layOut 65 = .ok (.iadd, 1) := by decide +kernel
theorem dX1_layOut_66 : decode cX1_layOut 66 = .ok (.iload_n 3, 1) := by decide +kernel
theorem dX1_layOut_67 : decode cX1_layOut 67 = .ok (.iload 6, 2) := by decide +kernel
theorem dX1_layOut_69 : decode cX1_layOut 69 = .ok (.invokevirtual 26, 3) := by decide +kernel
theorem dX1_layOut_72 : decode cX1_layOut 72 = .ok (.aload_n 0, 1) := by decide +kernel
theorem dX1_layOut_73 : decode cX1_layOut 73 = .ok (.iload 4, 2) := by decide +kernel
theorem dX1_layOut_75 : decode cX1_layOut 75 = .ok (.bipush 18, 2) := by decide +kernel
theorem dX1_layOut_77 : decode cX1_layOut 77 = .ok (.iadd, 1) := by decide +kernel
theorem dX1_layOut_78 : decode cX1_layOut 78 = .ok (.iload 5, 2) := by decide +kernel
theorem dX1_layOut_80 : decode cX1_layOut 80 = .ok (.iadd, 1) := by decide +kernel
theorem dX1_layOut_81 : decode cX1_layOut 81 = .ok (.iload 6, 2) := by decide +kernel
theorem dX1_layOut_83 : decode cX1_layOut 83 = .ok (.iload_n 2, 1) := by decide +kernel
theorem dX1_layOut_84 : decode cX1_layOut 84 = .ok (.invokevirtual 26, 3) := by decide +kernel
theorem dX1_layOut_87 : decode cX1_layOut 87 = .ok (.iinc 5 1, 3) := by decide +kernel
theorem dX1_layOut_90 : decode cX1_layOut 90 = .ok (.goto (-73), 3) := by decide +kernel
theorem dX1_layOut_93 : decode cX1_layOut 93 = .ok (.return_, 1) := by decide +kernel
theorem dX1_put_0 : decode cX1_put 0 = .ok (.iload_n 1, 1) := by decide +kernel
theorem dX1_put_1 : decode cX1_put 1 = .ok (.ifCond .lt 24, 3) := by decide +kernel
theorem dX1_put_4 : decode cX1_put 4 = .ok (.iload_n 1, 1) := by decide +kernel
theorem dX1_put_5 : decode cX1_put 5 = .ok (.aload_n 0, 1) := by decide +kernel
theorem dX1_put_6 : decode cX1_put 6 = .ok (.getfield 11, 3) := by decide +kernel
theorem dX1_put_9 : decode cX1_put 9 = .ok (.arraylength, 1) := by decide +kernel
theorem dX1_put_10 : decode cX1_put 10 = .ok (.if_icmp .ge 15, 3) := by decide +kernel
theorem dX1_put_13 : decode cX1_put 13 = .ok (.aload_n 0, 1) := by decide +kernel
theorem dX1_put_14 : decode cX1_put 14 = .ok (.getfield 11, 3) := by decide +kernel
theorem dX1_put_17 : decode cX1_put 17 = .ok (.iload_n 1, 1) := by decide +kernel
theorem dX1_put_18 : decode cX1_put 18 = .ok (.iload_n 2, 1) := by decide +kernel
theorem dX1_put_19 : decode cX1_put 19 = .ok (.bipush 6, 2) := by decide +kernel
theorem dX1_put_21 : decode cX1_put 21 = .ok (.imul, 1) := by decide +kernel
theorem dX1_put_22 : decode cX1_put 22 = .ok (.iload_n 3, 1) := by decide +kernel
theorem dX1_put_23 : decode cX1_put 23 = .ok (.iadd, 1) := by decide +kernel
theorem dX1_put_24 : decode cX1_put 24 = .ok (.iastore, 1) := by decide +kernel
theorem dX1_put_25 : decode cX1_put 25 = .ok (.return_, 1) := by decide +kernel
theorem dX1_addSpot_0 : decode cX1_addSpot 0 = .ok (.iconst 0, 1) := by decide +kernel
theorem dX1_addSpot_1 : decode cX1_addSpot 1 = .ok (.istore_n 3, 1) := by decide +kernel
theorem dX1_addSpot_2 : decode cX1_addSpot 2 = .ok (.iload_n 3, 1) := by decide +kernel
theorem dX1_addSpot_3 : decode cX1_addSpot 3 = .ok (.iconst 2, 1) := by decide +kernel
theorem dX1_addSpot_4 : decode cX1_addSpot 4 = .ok (.if_icmp .ge 51, 3) := by decide +kernel
theorem dX1_addSpot_7 : decode cX1_addSpot 7 = .ok (.iload_n 1, 1) := by decide +kernel
theorem dX1_addSpot_8 : decode cX1_addSpot 8 = .ok (.iconst 2, 1) := by decide +kernel
theorem dX1_addSpot_9 : decode cX1_addSpot 9 = .ok (.imul, 1) := by decide +kernel
theorem dX1_addSpot_10 : decode cX1_addSpot 10 = .ok (.iload_n 3, 1) := by decide +kernel
theorem dX1_addSpot_11 : decode cX1_addSpot 11 = .ok (.iadd, 1) := by decide +kernel
theorem dX1_addSpot_12 : decode cX1_addSpot 12 = .ok (.istore 4, 2) := by decide +kernel
theorem dX1_addSpot_14 : decode cX1_addSpot 14 = .ok (.iload 4, 2) := by decide +kernel
theorem dX1_addSpot_16 : decode cX1_addSpot 16 = .ok (.ifCond .lt 33, 3) := by decide +kernel
theorem dX1_addSpot_19 : decode cX1_addSpot 19 = .ok (.iload 4, 2) := by decide +kernel
theorem dX1_addSpot_21 : decode cX1_addSpot 21 = .ok (.aload_n 0, 1) := by decide +kernel
theorem dX1_addSpot_22 : decode cX1_addSpot 22 = .ok (.getfield 15, 3) := by decide +kernel
theorem dX1_addSpot_25 : decode cX1_addSpot 25 = .ok (.arraylength, 1) := by decide +kernel
theorem dX1_addSpot_26 : decode cX1_addSpot 26 = .ok (.if_icmp .ge 23, 3) := by decide +kernel
theorem dX1_addSpot_29 : decode cX1_addSpot 29 = .ok (.aload_n 0, 1) := by decide +kernel
theorem dX1_addSpot_30 : decode cX1_addSpot 30 = .ok (.getfield 15, 3) := by decide +kernel
theorem dX1_addSpot_33 : decode cX1_addSpot 33 = .ok (.iload 4, 2) := by decide +kernel
theorem dX1_addSpot_35 : decode cX1_addSpot 35 = .ok (.iaload, 1) := by decide +kernel
theorem dX1_addSpot_36 : decode cX1_addSpot 36 = .ok (.iconst (-1), 1) := by decide +kernel
theorem dX1_addSpot_37 : decode cX1_addSpot 37 = .ok (.if_icmp .ne 12, 3) := by decide +kernel
theorem dX1_addSpot_40 : decode cX1_addSpot 40 = .ok (.aload_n 0, 1) := by decide +kernel
theorem dX1_addSpot_41 : decode cX1_addSpot 41 = .ok (.getfield 15, 3) := by decide +kernel
theorem dX1_addSpot_44 : decode cX1_addSpot 44 = .ok (.iload 4, 2) := by decide +kernel
theorem dX1_addSpot_46 : decode cX1_addSpot 46 = .ok (.iload_n 2, 1) := by decide +kernel
theorem dX1_addSpot_47 : decode cX1_addSpot 47 = .ok (.iastore, 1) := by decide +kernel
theorem dX1_addSpot_48 : decode cX1_addSpot 48 = .ok (.return_, 1) := by decide +kernel
theorem dX1_addSpot_49 : decode cX1_addSpot 49 = .ok (.iinc 3 1, 3) := by decide +kernel
theorem dX1_addSpot_52 : decode cX1_addSpot 52 = .ok (.goto (-50), 3) := by decide +kernel
theorem dX1_addSpot_55 : decode cX1_addSpot 55 = .ok (.return_, 1) := by decide +kernel
theorem dX1_pointAt_0 : decode cX1_pointAt 0 = .ok (.iload_n 1, 1) := by decide +kernel
theorem dX1_pointAt_1 : decode cX1_pointAt 1 = .ok (.ifCond .lt 21, 3) := by decide +kernel
theorem dX1_pointAt_4 : decode cX1_pointAt 4 = .ok (.iload_n 1, 1) := by decide +kernel
theorem dX1_pointAt_5 : decode cX1_pointAt 5 = .ok (.aload_n 0, 1) := by decide +kernel
theorem dX1_pointAt_6 : decode cX1_pointAt 6 = .ok (.getfield 11, 3) := by decide +kernel
theorem dX1_pointAt_9 : decode cX1_pointAt 9 = .ok (.arraylength, 1) := by decide +kernel
theorem dX1_pointAt_10 : decode cX1_pointAt 10 = .ok (.if_icmp .ge 12, 3) := by decide +kernel
theorem dX1_pointAt_13 : decode cX1_pointAt 13 = .ok (.aload_n 0, 1) := by decide +kernel
theorem dX1_pointAt_14 : decode cX1_pointAt 14 = .ok (.getfield 11, 3) := by decide +kernel
theorem dX1_pointAt_17 : decode cX1_pointAt 17 = .ok (.iload_n 1, 1) := by decide +kernel
theorem dX1_pointAt_18 : decode cX1_pointAt 18 = .ok (.iaload, 1) := by decide +kernel
theorem dX1_pointAt_19 : decode cX1_pointAt 19 = .ok (.goto 4, 3) := by decide +kernel
theorem dX1_pointAt_22 : decode cX1_pointAt 22 = .ok (.iconst (-1), 1) := by decide +kernel
theorem dX1_pointAt_23 : decode cX1_pointAt 23 = .ok (.ireturn, 1) := by decide +kernel
theorem dX1_spotOf_0 : decode cX1_spotOf 0 = .ok (.iload_n 1, 1) := by decide +kernel
theorem dX1_spotOf_1 : decode cX1_spotOf 1 = .ok (.iconst 2, 1) := by decide +kernel
theorem dX1_spotOf_2 : decode cX1_spotOf 2 = .ok (.imul, 1) := by decide +kernel
theorem dX1_spotOf_3 : decode cX1_spotOf 3 = .ok (.iload_n 2, 1) := by decide +kernel
theorem dX1_spotOf_4 : decode cX1_spotOf 4 = .ok (.iadd, 1) := by decide +kernel
theorem dX1_spotOf_5 : decode cX1_spotOf 5 = .ok (.istore_n 3, 1) := by decide +kernel
theorem dX1_spotOf_6 : decode cX1_spotOf 6 = .ok (.iload_n 3, 1) := by decide +kernel
theorem dX1_spotOf_7 : decode cX1_spotOf 7 = .ok (.ifCond .lt 21, 3) := by decide +kernel
theorem dX1_spotOf_10 : decode cX1_spotOf 10 = .ok (.iload_n 3, 1) := by decide +kernel
theorem dX1_spotOf_11 : decode cX1_spotOf 11 = .ok (.aload_n 0, 1) := by decide +kernel
theorem dX1_spotOf_12 : decode cX1_spotOf 12 = .ok (.getfield 15, 3) := by decide +kernel
theorem dX1_spotOf_15 : decode cX1_spotOf 15 = .ok (.arraylength, 1) := by decide +kernel
theorem dX1_spotOf_16 : decode cX1_spotOf 16 = .ok (.if_icmp .ge 12, 3) := by decide +kernel
theorem dX1_spotOf_19 : decode cX1_spotOf 19 = .ok (.aload_n 0, 1) := by decide +kernel
theorem dX1_spotOf_20 : decode cX1_spotOf 20 = .ok (.getfield 15, 3) := by decide +kernel
theorem dX1_spotOf_23 : decode cX1_spotOf 23 = .ok (.iload_n 3, 1) := by decide +kernel
theorem dX1_spotOf_24 : decode cX1_spotOf 24 = .ok (.iaload, 1) := by decide +kernel
theorem dX1_spotOf_25 : decode cX1_spotOf 25 = .ok (.goto 4, 3) := by decide +kernel
theorem dX1_spotOf_28 : decode cX1_spotOf 28 = .ok (.iconst (-1), 1) := by decide +kernel
theorem dX1_spotOf_29 : decode cX1_spotOf 29 = .ok (.ireturn, 1) := by decide +kernel
theorem dX2_init_0 : decode cX2_init 0 = .ok (.aload_n 0, 1) := by decide +kernel
theorem dX2_init_1 : decode cX2_init 1 = .ok (.invokespecial 1, 3) := by decide +kernel
theorem dX2_init_4 : decode cX2_init 4 = .ok (.aload_n 0, 1) := by decide +kernel
theorem dX2_init_5 : decode cX2_init 5 = .ok (.iconst 4, 1) := by decide +kernel
theorem dX2_init_6 : decode cX2_init 6 = .ok (.anewarray 9, 3) := by decide +kernel
theorem dX2_init_9 : decode cX2_init 9 = .ok (.putfield 11, 3) := by decide +kernel
theorem dX2_init_12 : decode cX2_init 12 = .ok (.iconst 0, 1) := by decide +kernel
theorem dX2_init_13 : decode cX2_init 13 = .ok (.istore_n 1, 1) := by decide +kernel
theorem dX2_init_14 : decode cX2_init 14 = .ok (.iload_n 1, 1) := by decide +kernel
theorem dX2_init_15 : decode cX2_init 15 = .ok (.aload_n 0, 1) := by decide +kernel
theorem dX2_init_16 : decode cX2_init 16 = .ok (.getfield 11, 3) := by decide +kernel
theorem dX2_init_19 : decode cX2_init 19 = .ok (.arraylength, 1) := by decide +kernel
theorem dX2_init_20 : decode cX2_init 20 = .ok (.if_icmp .ge 22, 3) := by decide +kernel
theorem dX2_init_23 : decode cX2_init 23 = .ok (.aload_n 0, 1) := by decide +kernel
theorem dX2_init_24 : decode cX2_init 24 = .ok (.getfield 11, 3) := by decide +kernel
theorem dX2_init_27 : decode cX2_init 27 = .ok (.iload_n 1, 1) := by decide +kernel
theorem dX2_init_28 : decode cX2_init 28 = .ok (.new 9, 3) := by decide +kernel
theorem dX2_init_31 : decode cX2_init 31 = .ok (.dup, 1) := by decide +kernel
theorem dX2_init_32 : decode cX2_init 32 = .ok (.invokespecial 15, 3) := by decide +kernel
theorem dX2_init_35 : decode cX2_init 35 = .ok (.aastore, 1) := by decide +kernel
theorem dX2_init_36 : decode cX2_init 36 = .ok (.iinc 1 1, 3) := by decide +kernel
theorem dX2_init_39 : decode cX2_init 39 = .ok (.goto (-25), 3) := by decide +kernel
theorem dX2_init_42 : decode cX2_init 42 = .ok (.return_, 1) := by decide +kernel
theorem dX2_size_0 : decode cX2_size 0 = .ok (.aload_n 0, 1) := by decide +kernel
theorem dX2_size_1 : decode cX2_size 1 = .ok (.getfield 16, 3) := by decide +kernel
theorem dX2_size_4 : decode cX2_size 4 = .ok (.ireturn, 1) := by decide +kernel
theorem dX2_push_0 : decode cX2_push 0 = .ok (.aload_n 0, 1) := by decide +kernel
theorem dX2_push_1 : decode cX2_push 1 = .ok (.getfield 16, 3) := by decide +kernel
theorem dX2_push_4 : decode cX2_push 4 = .ok (.aload_n 0, 1) := by decide +kernel
theorem dX2_push_5 : decode cX2_push 5 = .ok (.getfield 11, 3) := by decide +kernel
theorem dX2_push_8 : decode cX2_push 8 = .ok (.arraylength, 1) := by decide +kernel
theorem dX2_push_9 : decode cX2_push 9 = .ok (.if_icmp .lt 7, 3) := by decide +kernel
theorem dX2_push_12 : decode cX2_push 12 = .ok (.aload_n 0, 1) := by decide +kernel
theorem dX2_push_13 : decode cX2_push 13 = .ok (.invokevirtual 20, 3) := by decide +kernel
theorem dX2_push_16 : decode cX2_push 16 = .ok (.aload_n 0, 1) := by decide +kernel
theorem dX2_push_17 : decode cX2_push 17 = .ok (.getfield 16, 3) := by decide +kernel
theorem dX2_push_20 : decode cX2_push 20 = .ok (.ifCond .lt 15, 3) := by decide +kernel
theorem dX2_push_23 : decode cX2_push 23 = .ok (.aload_n 0, 1) := by decide +kernel
theorem dX2_push_24 : decode cX2_push 24 = .ok (.getfield 16, 3) := by decide +kernel
theorem dX2_push_27 : decode cX2_push 27 = .ok (.aload_n 0, 1) := by decide +kernel
theorem dX2_push_28 : decode cX2_push 28 = .ok (.getfield 11, 3) := by decide +kernel
theorem dX2_push_31 : decode cX2_push 31 = .ok (.arraylength, 1) := by decide +kernel
theorem dX2_push_32 : decode cX2_push 32 = .ok (.if_icmp .lt 4, 3) := by decide +kernel
theorem dX2_push_35 : decode cX2_push 35 = .ok (.return_, 1) := by decide +kernel
theorem dX2_push_36 : decode cX2_push 36 = .ok (.aload_n 0, 1) := by decide +kernel
theorem dX2_push_37 : decode cX2_push 37 = .ok (.getfield 11, 3) := by decide +kernel
theorem dX2_push_40 : decode cX2_push 40 = .ok (.aload_n 0, 1) := by decide +kernel
theorem dX2_push_41 : decode cX2_push 41 = .ok (.getfield 16, 3) := by decide +kernel
theorem dX2_push_44 : decode cX2_push 44 = .ok (.aaload, 1) := by decide +kernel
theorem dX2_push_45 : decode cX2_push 45 = .ok (.astore_n 2, 1) := by decide +kernel
theorem dX2_push_46 : decode cX2_push 46 = .ok (.aload_n 2, 1) := by decide +kernel
theorem dX2_push_47 : decode cX2_push 47 = .ok (.ifnull 18, 3) := by decide +kernel
theorem dX2_push_50 : decode cX2_push 50 = .ok (.aload_n 2, 1) := by decide +kernel
theorem dX2_push_51 : decode cX2_push 51 = .ok (.aload_n 1, 1) := by decide +kernel
theorem dX2_push_52 : decode cX2_push 52 = .ok (.invokevirtual 23, 3) := by decide +kernel
theorem dX2_push_55 : decode cX2_push 55 = .ok (.aload_n 0, 1) := by decide +kernel
theorem dX2_push_56 : decode cX2_push 56 = .ok (.dup, 1) := by decide +kernel
theorem dX2_push_57 : decode cX2_push 57 = .ok (.getfield 16, 3) := by decide +kernel
theorem dX2_push_60 : decode cX2_push 60 = .ok (.iconst 1, 1) := by decide +kernel
theorem dX2_push_61 : decode cX2_push 61 = .ok (.iadd, 1) := by decide +kernel
theorem dX2_push_62 : decode cX2_push 62 = .ok (.putfield 16, 3) := by decide +kernel
theorem dX2_push_65 : decode cX2_push 65 = .ok (.return_, 1) := by decide +kernel
theorem dX2_dropOldest_0 : decode cX2_dropOldest 0 = .ok (.aload_n 0, 1) := by decide +kernel
theorem dX2_dropOldest_1 : decode cX2_dropOldest 1 = .ok (.getfield 11, 3) := by decide +kernel
theorem dX2_dropOldest_4 : decode cX2_dropOldest 4 = .ok (.iconst 0, 1) := by decide +kernel
theorem dX2_dropOldest_5 : decode cX2_dropOldest 5 = .ok (.aaload, 1) := by decide +kernel
theorem dX2_dropOldest_6 : decode cX2_dropOldest 6 = .ok (.astore_n 1, 1) := by decide +kernel
theorem dX2_dropOldest_7 : decode cX2_dropOldest 7 = .ok (.iconst 1, 1) := by decide +kernel
theorem dX2_dropOldest_8 : decode cX2_dropOldest 8 = .ok (.istore_n 2, 1) := by decide +kernel
theorem dX2_dropOldest_9 : decode cX2_dropOldest 9 = .ok (.iload_n 2, 1) := by decide +kernel
theorem dX2_dropOldest_10 : decode cX2_dropOldest 10 = .ok (.aload_n 0, 1) := by decide +kernel
theorem dX2_dropOldest_11 : decode cX2_dropOldest 11 = .ok (.getfield 11, 3) := by decide +kernel
theorem dX2_dropOldest_14 : decode cX2_dropOldest 14 = .ok (.arraylength, 1) := by decide +kernel
theorem dX2_dropOldest_15 : decode cX2_dropOldest 15 = .ok (.if_icmp .ge 23, 3) := by decide +kernel
theorem dX2_dropOldest_18 : decode cX2_dropOldest 18 = .ok (.aload_n 0, 1) := by decide +kernel
theorem dX2_dropOldest_19 : decode cX2_dropOldest 19 = .ok (.getfield 11, 3) := by decide +kernel
theorem dX2_dropOldest_22 : decode cX2_dropOldest 22 = .ok (.iload_n 2, 1) := by decide +kernel
theorem dX2_dropOldest_23 : decode cX2_dropOldest 23 = .ok (.iconst 1, 1) := by decide +kernel
theorem dX2_dropOldest_24 : decode cX2_dropOldest 24 = .ok (.isub, 1) := by decide +kernel
theorem dX2_dropOldest_25 : decode cX2_dropOldest 25 = .ok (.aload_n 0, 1) := by decide +kernel
theorem dX2_dropOldest_26 : decode cX2_dropOldest 26 = .ok (.getfield 11, 3) := by decide +kernel
theorem dX2_dropOldest_29 : decode cX2_dropOldest 29 = .ok (.iload_n 2, 1) := by decide +kernel
theorem dX2_dropOldest_30 : decode cX2_dropOldest 30 = .ok (.aaload, 1) := by decide +kernel
theorem dX2_dropOldest_31 : decode cX2_dropOldest 31 = .ok (.aastore, 1) := by decide +kernel
theorem dX2_dropOldest_32 : decode cX2_dropOldest 32 = .ok (.iinc 2 1, 3) := by decide +kernel
theorem dX2_dropOldest_35 : decode cX2_dropOldest 35 = .ok (.goto (-26), 3) := by decide +kernel
theorem dX2_dropOldest_38 : decode cX2_dropOldest 38 = .ok (.aload_n 0, 1) := by decide +kernel
theorem dX2_dropOldest_39 : decode cX2_dropOldest 39 = .ok (.getfield 11, 3) := by decide +kernel
theorem dX2_dropOldest_42 : decode cX2_dropOldest 42 = .ok (.aload_n 0, 1) := by decide +kernel
theorem dX2_dropOldest_43 : decode cX2_dropOldest 43 = .ok (.getfield 11, 3) := by decide +kernel
theorem dX2_dropOldest_46 : decode cX2_dropOldest 46 = .ok (.arraylength, 1) := by decide +kernel
theorem dX2_dropOldest_47 : decode cX2_dropOldest 47 = .ok (.iconst 1, 1) := by decide +kernel
theorem dX2_dropOldest_48 : decode cX2_dropOldest 48 = .ok (.isub, 1) := by decide +kernel
theorem dX2_dropOldest_49 : decode cX2_dropOldest 49 = .ok (.aload_n 1, 1) := by decide +kernel
theorem dX2_dropOldest_50 : decode cX2_dropOldest 50 = .ok (.aastore, 1) := by decide +kernel
theorem dX2_dropOldest_51 : decode cX2_dropOldest 51 = .ok (.aload_n 0, 1) := by decide +kernel
theorem dX2_dropOldest_52 : decode cX2_dropOldest 52 = .ok (.aload_n 0, 1) := by decide +kernel
theorem dX2_dropOldest_53 : decode cX2_dropOldest 53 = .ok (.getfield 11, 3) := by decide +kernel
theorem dX2_dropOldest_56 : decode cX2_dropOldest 56 = .ok (.arraylength, 1) := by decide +kernel
theorem dX2_dropOldest_57 : decode cX2_dropOldest 57 = .ok (.iconst 1, 1) := by decide +kernel
theorem dX2_dropOldest_58 : decode cX2_dropOldest 58 = .ok (.isub, 1) := by decide +kernel
theorem dX2_dropOldest_59 : decode cX2_dropOldest 59 = .ok (.putfield 16, 3) := by decide +kernel
theorem dX2_dropOldest_62 : decode cX2_dropOldest 62 = .ok (.return_, 1) := by decide +kernel
theorem dX2_takeLatest_0 : decode cX2_takeLatest 0 = .ok (.aload_n 0, 1) := by decide +kernel
theorem dX2_takeLatest_1 : decode cX2_takeLatest 1 = .ok (.getfield 16, 3) := by decide +kernel
theorem dX2_takeLatest_4 : decode cX2_takeLatest 4 = .ok (.iconst 1, 1) := by decide +kernel
theorem dX2_takeLatest_5 : decode cX2_takeLatest 5 = .ok (.if_icmp .lt 15, 3) := by decide +kernel
theorem dX2_takeLatest_8 : decode cX2_takeLatest 8 = .ok (.aload_n 0, 1) := by decide +kernel
theorem dX2_takeLatest_9 : decode cX2_takeLatest 9 = .ok (.getfield 16, 3) := by decide +kernel
theorem dX2_takeLatest_12 : decode cX2_takeLatest 12 = .ok (.aload_n 0, 1) := by decide +kernel
theorem dX2_takeLatest_13 : decode cX2_takeLatest 13 = .ok (.getfield 11, 3) := by decide +kernel
theorem dX2_takeLatest_16 : decode cX2_takeLatest 16 = .ok (.arraylength, 1) := by decide +kernel
theorem dX2_takeLatest_17 : decode cX2_takeLatest 17 = .ok (.if_icmp .le 4, 3) := by decide +kernel
theorem dX2_takeLatest_20 : decode cX2_takeLatest 20 = .ok (.return_, 1) := by decide +kernel
theorem dX2_takeLatest_21 : decode cX2_takeLatest 21 = .ok (.aload_n 0, 1) := by decide +kernel
theorem dX2_takeLatest_22 : decode cX2_takeLatest 22 = .ok (.getfield 11, 3) := by decide +kernel
theorem dX2_takeLatest_25 : decode cX2_takeLatest 25 = .ok (.aload_n 0, 1) := by decide +kernel
theorem dX2_takeLatest_26 : decode cX2_takeLatest 26 = .ok (.getfield 16, 3) := by decide +kernel
theorem dX2_takeLatest_29 : decode cX2_takeLatest 29 = .ok (.iconst 1, 1) := by decide +kernel
theorem dX2_takeLatest_30 : decode cX2_takeLatest 30 = .ok (.isub, 1) := by decide +kernel
theorem dX2_takeLatest_31 : decode cX2_takeLatest 31 = .ok (.aaload, 1) := by decide +kernel
theorem dX2_takeLatest_32 : decode cX2_takeLatest 32 = .ok (.astore_n 2, 1) := by decide +kernel
theorem dX2_takeLatest_33 : decode cX2_takeLatest 33 = .ok (.aload_n 2, 1) := by decide +kernel
theorem dX2_takeLatest_34 : decode cX2_takeLatest 34 = .ok (.ifnull 18, 3) := by decide +kernel
theorem dX2_takeLatest_37 : decode cX2_takeLatest 37 = .ok (.aload_n 1, 1) := by decide +kernel
theorem dX2_takeLatest_38 : decode cX2_takeLatest 38 = .ok (.aload_n 2, 1) := by decide +kernel
theorem dX2_takeLatest_39 : decode cX2_takeLatest 39 = .ok (.invokevirtual 23, 3) := by decide +kernel
theorem dX2_takeLatest_42 : decode cX2_takeLatest 42 = .ok (.aload_n 0, 1) := by decide +kernel
theorem dX2_takeLatest_43 : decode cX2_takeLatest 43 = .ok (.dup, 1) := by decide +kernel
theorem dX2_takeLatest_44 : decode cX2_takeLatest 44 = .ok (.getfield 16, 3) := by decide +kernel
theorem dX2_takeLatest_47 : decode cX2_takeLatest 47 = .ok (.iconst 1, 1) := by decide +kernel
theorem dX2_takeLatest_48 : decode cX2_takeLatest 48 = .ok (.isub, 1) := by decide +kernel
theorem dX2_takeLatest_49 : decode cX2_takeLatest 49 = .ok (.putfield 16, 3) := by decide +kernel
theorem dX2_takeLatest_52 : decode cX2_takeLatest 52 = .ok (.return_, 1) := by decide +kernel
theorem dX3_init_0 : decode cX3_init 0 = .ok (.aload_n 0, 1) := by decide +kernel
theorem dX3_init_1 : decode cX3_init 1 = .ok (.invokespecial 3, 3) := by decide +kernel
theorem dX3_init_4 : decode cX3_init 4 = .ok (.aload_n 0, 1) := by decide +kernel
theorem dX3_init_5 : decode cX3_init 5 = .ok (.new 9, 3) := by decide +kernel
theorem dX3_init_8 : decode cX3_init 8 = .ok (.dup, 1) := by decide +kernel
theorem dX3_init_9 : decode cX3_init 9 = .ok (.invokespecial 11, 3) := by decide +kernel
theorem dX3_init_12 : decode cX3_init 12 = .ok (.putfield 12, 3) := by decide +kernel
theorem dX3_init_15 : decode cX3_init 15 = .ok (.aload_n 0, 1) := by decide +kernel
theorem dX3_init_16 : decode cX3_init 16 = .ok (.new 18, 3) := by decide +kernel
theorem dX3_init_19 : decode cX3_init 19 = .ok (.dup, 1) := by decide +kernel
theorem dX3_init_20 : decode cX3_init 20 = .ok (.invokespecial 20, 3) := by decide +kernel
theorem dX3_init_23 : decode cX3_init 23 = .ok (.putfield 21, 3) := by decide +kernel
theorem dX3_init_26 : decode cX3_init 26 = .ok (.aload_n 0, 1) := by decide +kernel
theorem dX3_init_27 : decode cX3_init 27 = .ok (.new 18, 3) := by decide +kernel
theorem dX3_init_30 : decode cX3_init 30 = .ok (.dup, 1) := by decide +kernel
theorem dX3_init_31 : decode cX3_init 31 = .ok (.invokespecial 20, 3) := by decide +kernel
theorem dX3_init_34 : decode cX3_init 34 = .ok (.putfield 25, 3) := by decide +kernel
theorem dX3_init_37 : decode cX3_init 37 = .ok (.aload_n 0, 1) := by decide +kernel
theorem dX3_init_38 : decode cX3_init 38 = .ok (.aload_n 1, 1) := by decide +kernel
theorem dX3_init_39 : decode cX3_init 39 = .ok (.putfield 28, 3) := by decide +kernel
theorem dX3_init_42 : decode cX3_init 42 = .ok (.return_, 1) := by decide +kernel
theorem dX3_worthAhead_0 : decode cX3_worthAhead 0 = .ok (.aload_n 0, 1) := by decide +kernel
theorem dX3_worthAhead_1 : decode cX3_worthAhead 1 = .ok (.getfield 12, 3) := by decide +kernel
theorem dX3_worthAhead_4 : decode cX3_worthAhead 4 = .ok (.aload_n 1, 1) := by decide +kernel
theorem dX3_worthAhead_5 : decode cX3_worthAhead 5 = .ok (.invokevirtual 32, 3) := by decide +kernel
theorem dX3_worthAhead_8 : decode cX3_worthAhead 8 = .ok (.aload_n 0, 1) := by decide +kernel
theorem dX3_worthAhead_9 : decode cX3_worthAhead 9 = .ok (.iload_n 2, 1) := by decide +kernel
theorem dX3_worthAhead_10 : decode cX3_worthAhead 10 = .ok (.invokevirtual 36, 3) := by decide +kernel
theorem dX3_worthAhead_13 : decode cX3_worthAhead 13 = .ok (.ireturn, 1) := by decide +kernel
theorem dX3_bestMove_0 : decode cX3_bestMove 0 = .ok (.aload_n 0, 1) := by decide +kernel
theorem dX3_bestMove_1 : decode cX3_bestMove 1 = .ok (.getfield 12, 3) := by decide +kernel
theorem dX3_bestMove_4 : decode cX3_bestMove 4 = .ok (.aload_n 1, 1) := by decide +kernel
theorem dX3_bestMove_5 : decode cX3_bestMove 5 = .ok (.invokevirtual 32, 3) := by decide +kernel
theorem dX3_bestMove_8 : decode cX3_bestMove 8 = .ok (.aload_n 0, 1) := by decide +kernel
theorem dX3_bestMove_9 : decode cX3_bestMove 9 = .ok (.iload_n 2, 1) := by decide +kernel
theorem dX3_bestMove_10 : decode cX3_bestMove 10 = .ok (.invokevirtual 36, 3) := by decide +kernel
theorem dX3_bestMove_13 : decode cX3_bestMove 13 = .ok (.pop, 1) := by decide +kernel
theorem dX3_bestMove_14 : decode cX3_bestMove 14 = .ok (.aload_n 0, 1) := by decide +kernel
theorem dX3_bestMove_15 : decode cX3_bestMove 15 = .ok (.getfield 40, 3) := by decide +kernel
theorem dX3_bestMove_18 : decode cX3_bestMove 18 = .ok (.ireturn, 1) := by decide +kernel
theorem dX3_search_0 : decode cX3_search 0 = .ok (.iload_n 1, 1) := by decide +kernel
theorem dX3_search_1 : decode cX3_search 1 = .ok (.ifCond .le 8, 3) := by decide +kernel
theorem dX3_search_4 : decode cX3_search 4 = .ok (.iload_n 1, 1) := by decide +kernel
theorem dX3_search_5 : decode cX3_search 5 = .ok (.iconst 2, 1) := by decide +kernel
theorem dX3_search_6 : decode cX3_search 6 = .ok (.if_icmp .le 11, 3) := by decide +kernel
theorem dX3_search_9 : decode cX3_search 9 = .ok (.aload_n 0, 1) := by decide +kernel
theorem dX3_search_10 : decode cX3_search 10 = .ok (.getfield 12, 3) := by decide +kernel
theorem dX3_search_13 : decode cX3_search 13 = .ok (.invokevirtual 44, 3) := by decide +kernel
theorem dX3_search_16 : decode cX3_search 16 = .ok (.ireturn, 1) := by decide +kernel
theorem dX3_search_17 : decode cX3_search 17 = .ok (.iload_n 1, 1) := by decide +kernel
theorem dX3_search_18 : decode cX3_search 18 = .ok (.iconst 1, 1) := by decide +kernel
theorem dX3_search_19 : decode cX3_search 19 = .ok (.if_icmp .ne 10, 3) := by decide +kernel
theorem dX3_search_22 : decode cX3_search 22 = .ok (.aload_n 0, 1) := by decide +kernel
theorem dX3_search_23 : decode cX3_search 23 = .ok (.getfield 21, 3) := by decide +kernel
theorem dX3_search_26 : decode cX3_search 26 = .ok (.goto 7, 3) := by decide +kernel
theorem dX3_search_29 : decode cX3_search 29 = .ok (.aload_n 0, 1) := by decide +kernel
theorem dX3_search_30 : decode cX3_search 30 = .ok (.getfield 25, 3) := by decide +kernel
theorem dX3_search_33 : decode cX3_search 33 = .ok (.astore_n 2, 1) := by decide +kernel
theorem dX3_search_34 : decode cX3_search 34 = .ok (.aload_n 0, 1) := by decide +kernel
theorem dX3_search_35 : decode cX3_search 35 = .ok (.getfield 28, 3) := by decide +kernel
theorem dX3_search_38 : decode cX3_search 38 = .ok (.aload_n 0, 1) := by decide +kernel
theorem dX3_search_39 : decode cX3_search 39 = .ok (.getfield 12, 3) := by decide +kernel
theorem dX3_search_42 : decode cX3_search 42 = .ok (.aload_n 2, 1) := by decide +kernel
theorem dX3_search_43 : decode cX3_search 43 = .ok (.invokevirtual 48, 3) := by decide +kernel
theorem dX3_search_46 : decode cX3_search 46 = .ok (.aload_n 2, 1) := by decide +kernel
theorem dX3_search_47 : decode cX3_search 47 = .ok (.invokevirtual 54, 3) := by decide +kernel
theorem dX3_search_50 : decode cX3_search 50 = .ok (.istore_n 3, 1) := by decide +kernel
theorem dX3_search_51 : decode cX3_search 51 = .ok (.sipush (-1000), 3) := by decide +kernel
theorem dX3_search_54 : decode cX3_search 54 = .ok (.istore 4, 2) := by decide +kernel
theorem dX3_search_56 : decode cX3_search 56 = .ok (.iconst (-1), 1) := by decide +kernel
theorem dX3_search_57 : decode cX3_search 57 = .ok (.istore 5, 2) := by decide +kernel
theorem dX3_search_59 : decode cX3_search 59 = .ok (.iconst 0, 1) := by decide +kernel
theorem dX3_search_60 : decode cX3_search 60 = .ok (.istore 6, 2) := by decide +kernel
theorem dX3_search_62 : decode cX3_search 62 = .ok (.iload 6, 2) := by decide +kernel
theorem dX3_search_64 : decode cX3_search 64 = .ok (.iload_n 3, 1) := by decide +kernel
theorem dX3_search_65 : decode cX3_search 65 = .ok (.if_icmp .ge 44, 3) := by decide +kernel
theorem dX3_search_68 : decode cX3_search 68 = .ok (.aload_n 2, 1) := by decide +kernel
theorem dX3_search_69 : decode cX3_search 69 = .ok (.iload 6, 2) := by decide +kernel
theorem dX3_search_71 : decode cX3_search 71 = .ok (.invokevirtual 57, 3) := by decide +kernel
theorem dX3_search_74 : decode cX3_search 74 = .ok (.istore 7, 2) := by decide +kernel
theorem dX3_search_76 : decode cX3_search 76 = .ok (.aload_n 0, 1) := by decide +kernel
theorem dX3_search_77 : decode cX3_search 77 = .ok (.iload 7, 2) := by decide +kernel
theorem dX3_search_79 : decode cX3_search 79 = .ok (.iload_n 1, 1) := by decide +kernel
theorem dX3_search_80 : decode cX3_search 80 = .ok (.iconst 1, 1) := by decide +kernel
theorem dX3_search_81 : decode cX3_search 81 = .ok (.isub, 1) := by decide +kernel
theorem dX3_search_82 : decode cX3_search 82 = .ok (.invokevirtual 60, 3) := by decide +kernel
theorem dX3_search_85 : decode cX3_search 85 = .ok (.ineg, 1) := by decide +kernel
theorem dX3_search_86 : decode cX3_search 86 = .ok (.istore 8, 2) := by decide +kernel
theorem dX3_search_88 : decode cX3_search 88 = .ok (.iload 8, 2) := by decide +kernel
theorem dX3_search_90 : decode cX3_search 90 = .ok (.iload 4, 2) := by decide +kernel
theorem dX3_search_92 : decode cX3_search 92 = .ok (.if_icmp .le 11, 3) := by decide +kernel
theorem dX3_search_95 : decode cX3_search 95 = .ok (.iload 8, 2) := by decide +kernel
theorem dX3_search_97 : decode cX3_search 97 = .ok (.istore 4, 2) := by decide +kernel
theorem dX3_search_99 : decode cX3_search 99 = .ok (.iload 7, 2) := by decide +kernel
theorem dX3_search_101 : decode cX3_search 101 = .ok (.istore 5, 2) := by decide +kernel
theorem dX3_search_103 : decode cX3_search 103 = .ok (.iinc 6 1, 3) := by decide +kernel
theorem dX3_search_106 : decode cX3_search 106 = .ok (.goto (-44), 3) := by decide +kernel
theorem dX3_search_109 : decode cX3_search 109 = .ok (.aload_n 0, 1) := by decide +kernel
theorem dX3_search_110 : decode cX3_search 110 = .ok (.iload 5, 2) := by decide +kernel
theorem dX3_search_112 : decode cX3_search 112 = .ok (.putfield 40, 3) := by decide +kernel
theorem dX3_search_115 : decode cX3_search 115 = .ok (.iload 5, 2) := by decide +kernel
theorem dX3_search_117 : decode cX3_search 117 = .ok (.iconst (-1), 1) := by decide +kernel
theorem dX3_search_118 : decode cX3_search 118 = .ok (.if_icmp .ne 13, 3) := by decide +kernel
theorem dX3_search_121 : decode cX3_search 121 = .ok (.aload_n 0, 1) := by decide +kernel
theorem dX3_search_122 : decode cX3_search 122 = .ok (.getfield 12, 3) := by decide +kernel
theorem dX3_search_125 : decode cX3_search 125 = .ok (.invokevirtual 44, 3) := by decide +kernel
theorem dX3_search_128 : decode cX3_search 128 = .ok (.goto 5, 3) := by decide +kernel
theorem dX3_search_131 : decode cX3_search 131 = .ok (.iload 4, 2) := by decide +kernel
theorem dX3_search_133 : decode cX3_search 133 = .ok (.ireturn, 1) := by decide +kernel
theorem dX3_searchBehind_0 : decode cX3_searchBehind 0 = .ok (.iload_n 1, 1) := by decide +kernel
theorem dX3_searchBehind_1 : decode cX3_searchBehind 1 = .ok (.bipush 100, 2) := by decide +kernel
theorem dX3_searchBehind_3 : decode cX3_searchBehind 3 = .ok (.idiv, 1) := by decide +kernel
theorem dX3_searchBehind_4 : decode cX3_searchBehind 4 = .ok (.istore_n 3, 1) := by decide +kernel
theorem dX3_searchBehind_5 : decode cX3_searchBehind 5 = .ok (.iload_n 1, 1) := by decide +kernel
theorem dX3_searchBehind_6 : decode cX3_searchBehind 6 = .ok (.bipush 100, 2) := by decide +kernel
theorem dX3_searchBehind_8 : decode cX3_searchBehind 8 = .ok (.irem, 1) := by decide +kernel
theorem dX3_searchBehind_9 : decode cX3_searchBehind 9 = .ok (.istore 4, 2) := by decide +kernel
theorem dX3_searchBehind_11 : decode cX3_searchBehind 11 = .ok (.aload_n 0, 1) := by decide +kernel
theorem dX3_searchBehind_12 : decode cX3_searchBehind 12 = .ok (.getfield 12, 3) := by decide +kernel
theorem dX3_searchBehind_15 : decode cX3_searchBehind 15 = .ok (.invokevirtual 64, 3) := by decide +kernel
theorem dX3_searchBehind_18 : decode cX3_searchBehind 18 = .ok (.istore 5, 2) := by decide +kernel
theorem dX3_searchBehind_20 : decode cX3_searchBehind 20 = .ok (.aload_n 0, 1) := by decide +kernel
theorem dX3_searchBehind_21 : decode cX3_searchBehind 21 = .ok (.getfield 12, 3) := by decide +kernel
theorem dX3_searchBehind_24 : decode cX3_searchBehind 24 = .ok (.iload_n 3, 1) := by decide +kernel
theorem dX3_searchBehind_25 : decode cX3_searchBehind 25 = .ok (.iload 4, 2) := by decide +kernel
theorem dX3_searchBehind_27 : decode cX3_searchBehind 27 = .ok (.invokevirtual 67, 3) := by decide +kernel
theorem dX3_searchBehind_30 : decode cX3_searchBehind 30 = .ok (.istore 6, 2) := by decide +kernel
theorem dX3_searchBehind_32 : decode cX3_searchBehind 32 = .ok (.aload_n 0, 1) := by decide +kernel
theorem dX3_searchBehind_33 : decode cX3_searchBehind 33 = .ok (.iload_n 2, 1) := by decide +kernel
theorem dX3_searchBehind_34 : decode cX3_searchBehind 34 = .ok (.invokevirtual 36, 3) := by decide +kernel
theorem dX3_searchBehind_37 : decode cX3_searchBehind 37 = .ok (.istore 7, 2) := by decide +kernel
theorem dX3_searchBehind_39 : decode cX3_searchBehind 39 = .ok (.aload_n 0, 1) := by decide +kernel
theorem dX3_searchBehind_40 : decode cX3_searchBehind 40 = .ok (.getfield 12, 3) := by decide +kernel
theorem dX3_searchBehind_43 : decode cX3_searchBehind 43 = .ok (.iload_n 3, 1) := by decide +kernel
theorem dX3_searchBehind_44 : decode cX3_searchBehind 44 = .ok (.iload 4, 2) := by decide +kernel
theorem dX3_searchBehind_46 : decode cX3_searchBehind 46 = .ok (.iload 6, 2) := by decide +kernel
theorem dX3_searchBehind_48 : decode cX3_searchBehind 48 = .ok (.iload 5, 2) := by decide +kernel
theorem dX3_searchBehind_50 : decode cX3_searchBehind 50 = .ok (.invokevirtual 70, 3) := by decide +kernel
theorem dX3_searchBehind_53 : decode cX3_searchBehind 53 = .ok (.iload 7, 2) := by decide +kernel
theorem dX3_searchBehind_55 : decode cX3_searchBehind 55 = .ok (.ireturn, 1) := by decide +kernel
theorem dX4_init_0 : decode cX4_init 0 = .ok (.aload_n 0, 1) := by decide +kernel
theorem dX4_init_1 : decode cX4_init 1 = .ok (.invokespecial 3, 3) := by decide +kernel
theorem dX4_init_4 : decode cX4_init 4 = .ok (.aload_n 0, 1) := by decide +kernel
theorem dX4_init_5 : decode cX4_init 5 = .ok (.sipush 364, 3) := by decide +kernel
theorem dX4_init_8 : decode cX4_init 8 = .ok (.newarray .int, 2) := by decide +kernel
theorem dX4_init_10 : decode cX4_init 10 = .ok (.putfield 11, 3) := by decide +kernel
theorem dX4_init_13 : decode cX4_init 13 = .ok (.return_, 1) := by decide +kernel
theorem dX4_clear_0 : decode cX4_clear 0 = .ok (.aload_n 0, 1) := by decide +kernel
theorem dX4_clear_1 : decode cX4_clear 1 = .ok (.iconst 0, 1) := by decide +kernel
theorem dX4_clear_2 : decode cX4_clear 2 = .ok (.putfield 15, 3) := by decide +kernel
theorem dX4_clear_5 : decode cX4_clear 5 = .ok (.aload_n 0, 1) := by decide +kernel
theorem dX4_clear_6 : decode cX4_clear 6 = .ok (.iconst 0, 1) := by decide +kernel
theorem dX4_clear_7 : decode cX4_clear 7 = .ok (.putfield 19, 3) := by decide +kernel
theorem dX4_clear_10 : decode cX4_clear 10 = .ok (.return_, 1) := by decide +kernel
theorem dX4_size_0 : decode cX4_size 0 = .ok (.aload_n 0, 1) := by decide +kernel
theorem dX4_size_1 : decode cX4_size 1 = .ok (.getfield 15, 3) := by decide +kernel
theorem dX4_size_4 : decode cX4_size 4 = .ok (.ireturn, 1) := by decide +kernel
theorem dX4_captures_0 : decode cX4_captures 0 = .ok (.aload_n 0, 1) := by decide +kernel
theorem dX4_captures_1 : decode cX4_captures 1 = .ok (.getfield 19, 3) := by decide +kernel
theorem dX4_captures_4 : decode cX4_captures 4 = .ok (.ireturn, 1) := by decide +kernel
theorem dX4_get_0 : decode cX4_get 0 = .ok (.iload_n 1, 1) := by decide +kernel
theorem dX4_get_1 : decode cX4_get 1 = .ok (.ifCond .lt 29, 3) := by decide +kernel
theorem dX4_get_4 : decode cX4_get 4 = .ok (.iload_n 1, 1) := by decide +kernel
theorem dX4_get_5 : decode cX4_get 5 = .ok (.aload_n 0, 1) := by decide +kernel
theorem dX4_get_6 : decode cX4_get 6 = .ok (.getfield 15, 3) := by decide +kernel
theorem dX4_get_9 : decode cX4_get 9 = .ok (.if_icmp .ge 21, 3) := by decide +kernel
theorem dX4_get_12 : decode cX4_get 12 = .ok (.iload_n 1, 1) := by decide +kernel
theorem dX4_get_13 : decode cX4_get 13 = .ok (.aload_n 0, 1) := by decide +kernel
theorem dX4_get_14 : decode cX4_get 14 = .ok (.getfield 11, 3) := by decide +kernel
theorem dX4_get_17 : decode cX4_get 17 = .ok (.arraylength, 1) := by decide +kernel
theorem dX4_get_18 : decode cX4_get 18 = .ok (.if_icmp .ge 12, 3) := by decide +kernel
theorem dX4_get_21 : decode cX4_get 21 = .ok (.aload_n 0, 1) := by decide +kernel
theorem dX4_get_22 : decode cX4_get 22 = .ok (.getfield 11, 3) := by decide +kernel
theorem dX4_get_25 : decode cX4_get 25 = .ok (.iload_n 1, 1) := by decide +kernel
theorem dX4_get_26 : decode cX4_get 26 = .ok (.iaload, 1) := by decide +kernel
theorem dX4_get_27 : decode cX4_get 27 = .ok (.goto 4, 3) := by decide +kernel
theorem dX4_get_30 : decode cX4_get 30 = .ok (.iconst (-1), 1) := by decide +kernel
theorem dX4_get_31 : decode cX4_get 31 = .ok (.ireturn, 1) := by decide +kernel
theorem dX4_addQuiet_0 : decode cX4_addQuiet 0 = .ok (.aload_n 0, 1) := by decide +kernel
theorem dX4_addQuiet_1 : decode cX4_addQuiet 1 = .ok (.getfield 15, 3) := by decide +kernel
theorem dX4_addQuiet_4 : decode cX4_addQuiet 4 = .ok (.ifCond .lt 35, 3) := by decide +kernel
theorem dX4_addQuiet_7 : decode cX4_addQuiet 7 = .ok (.aload_n 0, 1) := by decide +kernel
theorem dX4_addQuiet_8 : decode cX4_addQuiet 8 = .ok (.getfield 15, 3) := by decide +kernel
theorem dX4_addQuiet_11 : decode cX4_addQuiet 11 = .ok (.aload_n 0, 1) := by decide +kernel
theorem dX4_addQuiet_12 : decode cX4_addQuiet 12 = .ok (.getfield 11, 3) := by decide +kernel
theorem dX4_addQuiet_15 : decode cX4_addQuiet 15 = .ok (.arraylength, 1) := by decide +kernel
theorem dX4_addQuiet_16 : decode cX4_addQuiet 16 = .ok (.if_icmp .ge 23, 3) := by decide +kernel
theorem dX4_addQuiet_19 : decode cX4_addQuiet 19 = .ok (.aload_n 0, 1) := by decide +kernel
theorem dX4_addQuiet_20 : decode cX4_addQuiet 20 = .ok (.getfield 11, 3) := by decide +kernel
theorem dX4_addQuiet_23 : decode cX4_addQuiet 23 = .ok (.aload_n 0, 1) := by decide +kernel
theorem dX4_addQuiet_24 : decode cX4_addQuiet 24 = .ok (.getfield 15, 3) := by decide +kernel
theorem dX4_addQuiet_27 : decode cX4_addQuiet 27 = .ok (.iload_n 1, 1) := by decide +kernel
theorem dX4_addQuiet_28 : decode cX4_addQuiet 28 = .ok (.iastore, 1) := by decide +kernel
theorem dX4_addQuiet_29 : decode cX4_addQuiet 29 = .ok (.aload_n 0, 1) := by decide +kernel
theorem dX4_addQuiet_30 : decode cX4_addQuiet 30 = .ok (.dup, 1) := by decide +kernel
theorem dX4_addQuiet_31 : decode cX4_addQuiet 31 = .ok (.getfield 15, 3) := by decide +kernel
theorem dX4_addQuiet_34 : decode cX4_addQuiet 34 = .ok (.iconst 1, 1) := by decide +kernel
theorem dX4_addQuiet_35 : decode cX4_addQuiet 35 = .ok (.iadd, 1) := by decide +kernel
theorem dX4_addQuiet_36 : decode cX4_addQuiet 36 = .ok (.putfield 15, 3) := by decide +kernel
theorem dX4_addQuiet_39 : decode cX4_addQuiet 39 = .ok (.return_, 1) := by decide +kernel
theorem dX4_addCapture_0 : decode cX4_addCapture 0 = .ok (.aload_n 0, 1) := by decide +kernel
theorem dX4_addCapture_1 : decode cX4_addCapture 1 = .ok (.getfield 15, 3) := by decide +kernel
theorem dX4_addCapture_4 : decode cX4_addCapture 4 = .ok (.ifCond .lt 15, 3) := by decide +kernel
theorem dX4_addCapture_7 : decode cX4_addCapture 7 = .ok (.aload_n 0, 1) := by decide +kernel
theorem dX4_addCapture_8 : decode cX4_addCapture 8 = .ok (.getfield 15, 3) := by decide +kernel
theorem dX4_addCapture_11 : decode cX4_addCapture 11 = .ok (.aload_n 0, 1) := by decide +kernel
theorem dX4_addCapture_12 : decode cX4_addCapture 12 = .ok (.getfield 11, 3) := by decide +kernel
theorem dX4_addCapture_15 : decode cX4_addCapture 15 = .ok (.arraylength, 1) := by decide +kernel
theorem dX4_addCapture_16 : decode cX4_addCapture 16 = .ok (.if_icmp .lt 4, 3) := by decide +kernel
theorem dX4_addCapture_19 : decode cX4_addCapture 19 = .ok (.return_, 1) := by decide +kernel
theorem dX4_addCapture_20 : decode cX4_addCapture 20 = .ok (.aload_n 0, 1) := by decide +kernel
theorem dX4_addCapture_21 : decode cX4_addCapture 21 = .ok (.getfield 15, 3) := by decide +kernel
theorem dX4_addCapture_24 : decode cX4_addCapture 24 = .ok (.istore_n 2, 1) := by decide +kernel
theorem dX4_addCapture_25 : decode cX4_addCapture 25 = .ok (.iload_n 2, 1) := by decide +kernel
theorem dX4_addCapture_26 : decode cX4_addCapture 26 = .ok (.ifCond .le 21, 3) := by decide +kernel
theorem dX4_addCapture_29 : decode cX4_addCapture 29 = .ok (.aload_n 0, 1) := by decide +kernel
theorem dX4_addCapture_30 : decode cX4_addCapture 30 = .ok (.getfield 11, 3) := by decide +kernel
theorem dX4_addCapture_33 : decode cX4_addCapture 33 = .ok (.iload_n 2, 1) := by decide +kernel
theorem dX4_addCapture_34 : decode cX4_addCapture 34 = .ok (.iconst 1, 1) := by decide +kernel
theorem dX4_addCapture_35 : decode cX4_addCapture 35 = .ok (.isub, 1) := by decide +kernel
theorem dX4_addCapture_36 : decode cX4_addCapture 36 = .ok (.iaload, 1) := by decide +kernel
theorem dX4_addCapture_37 : decode cX4_addCapture 37 = .ok (.iload_n 1, 1) := by decide +kernel
theorem dX4_addCapture_38 : decode cX4_addCapture 38 = .ok (.if_icmp .le 9, 3) := by decide +kernel
theorem dX4_addCapture_41 : decode cX4_addCapture 41 = .ok (.iinc 2 (-1), 3) := by decide +kernel
theorem dX4_addCapture_44 : decode cX4_addCapture 44 = .ok (.goto (-19), 3) := by decide +kernel
theorem dX4_addCapture_47 : decode cX4_addCapture 47 = .ok (.iload_n 2, 1) := by decide +kernel
theorem dX4_addCapture_48 : decode cX4_addCapture 48 = .ok (.ifCond .le 16, 3) := by decide +kernel
theorem dX4_addCapture_51 : decode cX4_addCapture 51 = .ok (.aload_n 0, 1) := by decide +kernel
theorem dX4_addCapture_52 : decode cX4_addCapture 52 = .ok (.getfield 11, 3) := by decide +kernel
theorem dX4_addCapture_55 : decode cX4_addCapture 55 = .ok (.iload_n 2, 1) := by decide +kernel
theorem dX4_addCapture_56 : decode cX4_addCapture 56 = .ok (.iconst 1, 1) := by decide +kernel
theorem dX4_addCapture_57 : decode cX4_addCapture 57 = .ok (.isub, 1) := by decide +kernel
theorem dX4_addCapture_58 : decode cX4_addCapture 58 = .ok (.iaload, 1) := by decide +kernel
theorem dX4_addCapture_59 : decode cX4_addCapture 59 = .ok (.iload_n 1, 1) := by decide +kernel
theorem dX4_addCapture_60 : decode cX4_addCapture 60 = .ok (.if_icmp .ne 4, 3) := by decide +kernel
theorem dX4_addCapture_63 : decode cX4_addCapture 63 = .ok (.return_, 1) := by decide +kernel
theorem dX4_addCapture_64 : decode cX4_addCapture 64 = .ok (.aload_n 0, 1) := by decide +kernel
theorem dX4_addCapture_65 : decode cX4_addCapture 65 = .ok (.getfield 15, 3) := by decide +kernel
theorem dX4_addCapture_68 : decode cX4_addCapture 68 = .ok (.istore_n 3, 1) := by decide +kernel
theorem dX4_addCapture_69 : decode cX4_addCapture 69 = .ok (.iload_n 3, 1) := by decide +kernel
theorem dX4_addCapture_70 : decode cX4_addCapture 70 = .ok (.iload_n 2, 1) := by decide +kernel
theorem dX4_addCapture_71 : decode cX4_addCapture 71 = .ok (.if_icmp .le 23, 3) := by decide +kernel
theorem dX4_addCapture_74 : decode cX4_addCapture 74 = .ok (.aload_n 0, 1) := by decide +kernel
theorem dX4_addCapture_75 : decode cX4_addCapture 75 = .ok (.getfield 11, 3) := by decide +kernel
theorem dX4_addCapture_78 : decode cX4_addCapture 78 = .ok (.iload_n 3, 1) := by decide +kernel
theorem dX4_addCapture_79 : decode cX4_addCapture 79 = .ok (.aload_n 0, 1) := by decide +kernel
theorem dX4_addCapture_80 : decode cX4_addCapture 80 = .ok (.getfield 11, 3) := by decide +kernel
theorem dX4_addCapture_83 : decode cX4_addCapture 83 = .ok (.iload_n 3, 1) := by decide +kernel
theorem dX4_addCapture_84 : decode cX4_addCapture 84 = .ok (.iconst 1, 1) := by decide +kernel
theorem dX4_addCapture_85 : decode cX4_addCapture 85 = .ok (.isub, 1) := by decide +kernel
theorem dX4_addCapture_86 : decode cX4_addCapture 86 = .ok (.iaload, 1) := by decide +kernel
theorem dX4_addCapture_87 : decode cX4_addCapture 87 = .ok (.iastore, 1) := by decide +kernel
theorem dX4_addCapture_88 : decode cX4_addCapture 88 = .ok (.iinc 3 (-1), 3) := by decide +kernel
theorem dX4_addCapture_91 : decode cX4_addCapture 91 = .ok (.goto (-22), 3) := by decide +kernel
theorem dX4_addCapture_94 : decode cX4_addCapture 94 = .ok (.aload_n 0, 1) := by decide +kernel
theorem dX4_addCapture_95 : decode cX4_addCapture 95 = .ok (.getfield 11, 3) := by decide +kernel
theorem dX4_addCapture_98 : decode cX4_addCapture 98 = .ok (.iload_n 2, 1) := by decide +kernel
theorem dX4_addCapture_99 : decode cX4_addCapture 99 = .ok (.iload_n 1, 1) := by decide +kernel
theorem dX4_addCapture_100 : decode cX4_addCapture 100 = .ok (.iastore, 1) := by decide +kernel
theorem dX4_addCapture_101 : decode cX4_addCapture 101 = .ok (.aload_n 0, 1) := by decide +kernel
theorem dX4_addCapture_102 : decode cX4_addCapture 102 = .ok (.dup, 1) := by decide +kernel
theorem dX4_addCapture_103 : decode cX4_addCapture 103 = .ok (.getfield 15, 3) := by decide +kernel
theorem dX4_addCapture_106 : decode cX4_addCapture 106 = .ok (.iconst 1, 1) := by decide +kernel
theorem dX4_addCapture_107 : decode cX4_addCapture 107 = .ok (.iadd, 1) := by decide +kernel
theorem dX4_addCapture_108 : decode cX4_addCapture 108 = .ok (.putfield 15, 3) := by decide +kernel
theorem dX4_addCapture_111 : decode cX4_addCapture 111 = .ok (.aload_n 0, 1) := by decide +kernel
theorem dX4_addCapture_112 : decode cX4_addCapture 112 = .ok (.aload_n 0, 1) := by decide +kernel
theorem dX4_addCapture_113 : decode cX4_addCapture 113 = .ok (.getfield 15, 3) := by decide +kernel
theorem dX4_addCapture_116 : decode cX4_addCapture 116 = .ok (.putfield 19, 3) := by decide +kernel
theorem dX4_addCapture_119 : decode cX4_addCapture 119 = .ok (.return_, 1) := by decide +kernel
theorem dX5_init_0 : decode cX5_init 0 = .ok (.aload_n 0, 1) := by decide +kernel
theorem dX5_init_1 : decode cX5_init 1 = .ok (.invokespecial 3, 3) := by decide +kernel
theorem dX5_init_4 : decode cX5_init 4 = .ok (.aload_n 0, 1) := by decide +kernel
theorem dX5_init_5 : decode cX5_init 5 = .ok (.bipush 80, 2) := by decide +kernel
theorem dX5_init_7 : decode cX5_init 7 = .ok (.newarray .char, 2) := by decide +kernel
theorem dX5_init_9 : decode cX5_init 9 = .ok (.putfield 11, 3) := by decide +kernel
theorem dX5_init_12 : decode cX5_init 12 = .ok (.return_, 1) := by decide +kernel
theorem dX5_length_0 : decode cX5_length 0 = .ok (.aload_n 0, 1) := by decide +kernel
theorem dX5_length_1 : decode cX5_length 1 = .ok (.getfield 15, 3) := by decide +kernel
theorem dX5_length_4 : decode cX5_length 4 = .ok (.ireturn, 1) := by decide +kernel
theorem dX5_empty_0 : decode cX5_empty 0 = .ok (.aload_n 0, 1) := by decide +kernel
theorem dX5_empty_1 : decode cX5_empty 1 = .ok (.iconst 0, 1) := by decide +kernel
theorem dX5_empty_2 : decode cX5_empty 2 = .ok (.putfield 15, 3) := by decide +kernel
theorem dX5_empty_5 : decode cX5_empty 5 = .ok (.return_, 1) := by decide +kernel
theorem dX5_append_0 : decode cX5_append 0 = .ok (.aload_n 0, 1) := by decide +kernel
theorem dX5_append_1 : decode cX5_append 1 = .ok (.getfield 15, 3) := by decide +kernel
theorem dX5_append_4 : decode cX5_append 4 = .ok (.ifCond .lt 15, 3) := by decide +kernel
theorem dX5_append_7 : decode cX5_append 7 = .ok (.aload_n 0, 1) := by decide +kernel
theorem dX5_append_8 : decode cX5_append 8 = .ok (.getfield 15, 3) := by decide +kernel
theorem dX5_append_11 : decode cX5_append 11 = .ok (.aload_n 0, 1) := by decide +kernel
theorem dX5_append_12 : decode cX5_append 12 = .ok (.getfield 11, 3) := by decide +kernel
theorem dX5_append_15 : decode cX5_append 15 = .ok (.arraylength, 1) := by decide +kernel
theorem dX5_append_16 : decode cX5_append 16 = .ok (.if_icmp .lt 5, 3) := by decide +kernel
theorem dX5_append_19 : decode cX5_append 19 = .ok (.iconst 0, 1) := by decide +kernel
theorem dX5_append_20 : decode cX5_append 20 = .ok (.ireturn, 1) := by decide +kernel
theorem dX5_append_21 : decode cX5_append 21 = .ok (.aload_n 0, 1) := by decide +kernel
theorem dX5_append_22 : decode cX5_append 22 = .ok (.getfield 11, 3) := by decide +kernel
theorem dX5_append_25 : decode cX5_append 25 = .ok (.aload_n 0, 1) := by decide +kernel
theorem dX5_append_26 : decode cX5_append 26 = .ok (.getfield 15, 3) := by decide +kernel
theorem dX5_append_29 : decode cX5_append 29 = .ok (.iload_n 1, 1) := by decide +kernel
theorem dX5_append_30 : decode cX5_append 30 = .ok (.castore, 1) := by decide +kernel
theorem dX5_append_31 : decode cX5_append 31 = .ok (.aload_n 0, 1) := by decide +kernel
theorem dX5_append_32 : decode cX5_append 32 = .ok (.dup, 1) := by decide +kernel
theorem dX5_append_33 : decode cX5_append 33 = .ok (.getfield 15, 3) := by decide +kernel
theorem dX5_append_36 : decode cX5_append 36 = .ok (.iconst 1, 1) := by decide +kernel
theorem dX5_append_37 : decode cX5_append 37 = .ok (.iadd, 1) := by decide +kernel
theorem dX5_append_38 : decode cX5_append 38 = .ok (.putfield 15, 3) := by decide +kernel
theorem dX5_append_41 : decode cX5_append 41 = .ok (.iconst 1, 1) := by decide +kernel
theorem dX5_append_42 : decode cX5_append 42 = .ok (.ireturn, 1) := by decide +kernel
theorem dX5_fault_0 : decode cX5_fault 0 = .ok (.iconst 0, 1) := by decide +kernel
theorem dX5_fault_1 : decode cX5_fault 1 = .ok (.istore_n 1, 1) := by decide +kernel
theorem dX5_fault_2 : decode cX5_fault 2 = .ok (.iload_n 1, 1) := by decide +kernel
theorem dX5_fault_3 : decode cX5_fault 3 = .ok (.aload_n 0, 1) := by decide +kernel
theorem dX5_fault_4 : decode cX5_fault 4 = .ok (.getfield 15, 3) := by decide +kernel
theorem dX5_fault_7 : decode cX5_fault 7 = .ok (.if_icmp .ge 26, 3) := by decide +kernel
theorem dX5_fault_10 : decode cX5_fault 10 = .ok (.aload_n 0, 1) := by decide +kernel
theorem dX5_fault_11 : decode cX5_fault 11 = .ok (.iload_n 1, 1) := by decide +kernel
theorem dX5_fault_12 : decode cX5_fault 12 = .ok (.invokevirtual 19, 3) := by decide +kernel
theorem dX5_fault_15 : decode cX5_fault 15 = .ok (.iload_n 1, 1) := by decide +kernel
theorem dX5_fault_16 : decode cX5_fault 16 = .ok (.bipush 6, 2) := by decide +kernel
theorem dX5_fault_18 : decode cX5_fault 18 = .ok (.irem, 1) := by decide +kernel
theorem dX5_fault_19 : decode cX5_fault 19 = .ok (.invokestatic 23, 3) := by decide +kernel
theorem dX5_fault_22 : decode cX5_fault 22 = .ok (.ifCond .ne 5, 3) := by decide +kernel
theorem dX5_fault_25 : decode cX5_fault 25 = .ok (.iload_n 1, 1) := by decide +kernel
theorem dX5_fault_26 : decode cX5_fault 26 = .ok (.ireturn, 1) := by decide +kernel
theorem dX5_fault_27 : decode cX5_fault 27 = .ok (.iinc 1 1, 3) := by decide +kernel
theorem dX5_fault_30 : decode cX5_fault 30 = .ok (.goto (-28), 3) := by decide +kernel
theorem dX5_fault_33 : decode cX5_fault 33 = .ok (.aload_n 0, 1) := by decide +kernel
theorem dX5_fault_34 : decode cX5_fault 34 = .ok (.getfield 15, 3) := by decide +kernel
theorem dX5_fault_37 : decode cX5_fault 37 = .ok (.bipush 6, 2) := by decide +kernel
theorem dX5_fault_39 : decode cX5_fault 39 = .ok (.irem, 1) := by decide +kernel
theorem dX5_fault_40 : decode cX5_fault 40 = .ok (.iconst 5, 1) := by decide +kernel
theorem dX5_fault_41 : decode cX5_fault 41 = .ok (.if_icmp .ne 7, 3) := by decide +kernel
theorem dX5_fault_44 : decode cX5_fault 44 = .ok (.iconst (-1), 1) := by decide +kernel
theorem dX5_fault_45 : decode cX5_fault 45 = .ok (.goto 7, 3) := by decide +kernel
theorem dX5_fault_48 : decode cX5_fault 48 = .ok (.aload_n 0, 1) := by decide +kernel
theorem dX5_fault_49 : decode cX5_fault 49 = .ok (.getfield 15, 3) := by decide +kernel
theorem dX5_fault_52 : decode cX5_fault 52 = .ok (.ireturn, 1) := by decide +kernel
theorem dX5_isAllowed_0 : decode cX5_isAllowed 0 = .ok (.iload_n 1, 1) := by decide +kernel
theorem dX5_isAllowed_1 : decode cX5_isAllowed 1 = .ok (.tableswitch 89 0 4 #[35, 53, 71, 35, 53], 35) := by decide +kernel
theorem dX5_isAllowed_36 : decode cX5_isAllowed 36 = .ok (.iload_n 0, 1) := by decide +kernel
theorem dX5_isAllowed_37 : decode cX5_isAllowed 37 = .ok (.bipush 97, 2) := by decide +kernel
theorem dX5_isAllowed_39 : decode cX5_isAllowed 39 = .ok (.if_icmp .lt 13, 3) := by decide +kernel
theorem dX5_isAllowed_42 : decode cX5_isAllowed 42 = .ok (.iload_n 0, 1) := by decide +kernel
theorem dX5_isAllowed_43 : decode cX5_isAllowed 43 = .ok (.bipush 102, 2) := by decide +kernel
theorem dX5_isAllowed_45 : decode cX5_isAllowed 45 = .ok (.if_icmp .gt 7, 3) := by decide +kernel
theorem dX5_isAllowed_48 : decode cX5_isAllowed 48 = .ok (.iconst 1, 1) := by decide +kernel
theorem dX5_isAllowed_49 : decode cX5_isAllowed 49 = .ok (.goto 4, 3) := by decide +kernel
theorem dX5_isAllowed_52 : decode cX5_isAllowed 52 = .ok (.iconst 0, 1) := by decide +kernel
theorem dX5_isAllowed_53 : decode cX5_isAllowed 53 = .ok (.ireturn, 1) := by decide +kernel
theorem dX5_isAllowed_54 : decode cX5_isAllowed 54 = .ok (.iload_n 0, 1) := by decide +kernel
theorem dX5_isAllowed_55 : decode cX5_isAllowed 55 = .ok (.bipush 49, 2) := by decide +kernel
theorem dX5_isAllowed_57 : decode cX5_isAllowed 57 = .ok (.if_icmp .lt 13, 3) := by decide +kernel
theorem dX5_isAllowed_60 : decode cX5_isAllowed 60 = .ok (.iload_n 0, 1) := by decide +kernel
theorem dX5_isAllowed_61 : decode cX5_isAllowed 61 = .ok (.bipush 54, 2) := by decide +kernel
theorem dX5_isAllowed_63 : decode cX5_isAllowed 63 = .ok (.if_icmp .gt 7, 3) := by decide +kernel
theorem dX5_isAllowed_66 : decode cX5_isAllowed 66 = .ok (.iconst 1, 1) := by decide +kernel
theorem dX5_isAllowed_67 : decode cX5_isAllowed 67 = .ok (.goto 4, 3) := by decide +kernel
theorem dX5_isAllowed_70 : decode cX5_isAllowed 70 = .ok (.iconst 0, 1) := by decide +kernel
theorem dX5_isAllowed_71 : decode cX5_isAllowed 71 = .ok (.ireturn, 1) := by decide +kernel
theorem dX5_isAllowed_72 : decode cX5_isAllowed 72 = .ok (.iload_n 0, 1) := by decide +kernel
theorem dX5_isAllowed_73 : decode cX5_isAllowed 73 = .ok (.bipush 45, 2) := by decide +kernel
theorem dX5_isAllowed_75 : decode cX5_isAllowed 75 = .ok (.if_icmp .eq 9, 3) := by decide +kernel
theorem dX5_isAllowed_78 : decode cX5_isAllowed 78 = .ok (.iload_n 0, 1) := by decide +kernel
theorem dX5_isAllowed_79 : decode cX5_isAllowed 79 = .ok (.bipush 120, 2) := by decide +kernel
theorem dX5_isAllowed_81 : decode cX5_isAllowed 81 = .ok (.if_icmp .ne 7, 3) := by decide +kernel
theorem dX5_isAllowed_84 : decode cX5_isAllowed 84 = .ok (.iconst 1, 1) := by decide +kernel
theorem dX5_isAllowed_85 : decode cX5_isAllowed 85 = .ok (.goto 4, 3) := by decide +kernel
theorem dX5_isAllowed_88 : decode cX5_isAllowed 88 = .ok (.iconst 0, 1) := by decide +kernel
theorem dX5_isAllowed_89 : decode cX5_isAllowed 89 = .ok (.ireturn, 1) := by decide +kernel
theorem dX5_isAllowed_90 : decode cX5_isAllowed 90 = .ok (.iload_n 0, 1) := by decide +kernel
theorem dX5_isAllowed_91 : decode cX5_isAllowed 91 = .ok (.bipush 59, 2) := by decide +kernel
theorem dX5_isAllowed_93 : decode cX5_isAllowed 93 = .ok (.if_icmp .ne 7, 3) := by decide +kernel
theorem dX5_isAllowed_96 : decode cX5_isAllowed 96 = .ok (.iconst 1, 1) := by decide +kernel
theorem dX5_isAllowed_97 : decode cX5_isAllowed 97 = .ok (.goto 4, 3) := by decide +kernel
theorem dX5_isAllowed_100 : decode cX5_isAllowed 100 = .ok (.iconst 0, 1) := by decide +kernel
theorem dX5_isAllowed_101 : decode cX5_isAllowed 101 = .ok (.ireturn, 1) := by decide +kernel
theorem dX5_moves_0 : decode cX5_moves 0 = .ok (.aload_n 0, 1) := by decide +kernel
theorem dX5_moves_1 : decode cX5_moves 1 = .ok (.getfield 15, 3) := by decide +kernel
theorem dX5_moves_4 : decode cX5_moves 4 = .ok (.iconst 1, 1) := by decide +kernel
theorem dX5_moves_5 : decode cX5_moves 5 = .ok (.iadd, 1) := by decide +kernel
theorem dX5_moves_6 : decode cX5_moves 6 = .ok (.bipush 6, 2) := by decide +kernel
theorem dX5_moves_8 : decode cX5_moves 8 = .ok (.idiv, 1) := by decide +kernel
theorem dX5_moves_9 : decode cX5_moves 9 = .ok (.ireturn, 1) := by decide +kernel
theorem dX5_fromOf_0 : decode cX5_fromOf 0 = .ok (.aload_n 0, 1) := by decide +kernel
theorem dX5_fromOf_1 : decode cX5_fromOf 1 = .ok (.iload_n 1, 1) := by decide +kernel
theorem dX5_fromOf_2 : decode cX5_fromOf 2 = .ok (.bipush 6, 2) := by decide +kernel
theorem dX5_fromOf_4 : decode cX5_fromOf 4 = .ok (.imul, 1) := by decide +kernel
theorem dX5_fromOf_5 : decode cX5_fromOf 5 = .ok (.invokevirtual 27, 3) := by decide +kernel
theorem dX5_fromOf_8 : decode cX5_fromOf 8 = .ok (.ireturn, 1) := by decide +kernel
theorem dX5_toOf_0 : decode cX5_toOf 0 = .ok (.aload_n 0, 1) := by decide +kernel
theorem dX5_toOf_1 : decode cX5_toOf 1 = .ok (.iload_n 1, 1) := by decide +kernel
theorem dX5_toOf_2 : decode cX5_toOf 2 = .ok (.bipush 6, 2) := by decide +kernel
theorem dX5_toOf_4 : decode cX5_toOf 4 = .ok (.imul, 1) := by decide +kernel
theorem dX5_toOf_5 : decode cX5_toOf 5 = .ok (.iconst 3, 1) := by decide +kernel
theorem dX5_toOf_6 : decode cX5_toOf 6 = .ok (.iadd, 1) := by decide +kernel
theorem dX5_toOf_7 : decode cX5_toOf 7 = .ok (.invokevirtual 27, 3) := by decide +kernel
theorem dX5_toOf_10 : decode cX5_toOf 10 = .ok (.ireturn, 1) := by decide +kernel
theorem dX5_isCapture_0 : decode cX5_isCapture 0 = .ok (.aload_n 0, 1) := by decide +kernel
theorem dX5_isCapture_1 : decode cX5_isCapture 1 = .ok (.iload_n 1, 1) := by decide +kernel
theorem dX5_isCapture_2 : decode cX5_isCapture 2 = .ok (.bipush 6, 2) := by decide +kernel
theorem dX5_isCapture_4 : decode cX5_isCapture 4 = .ok (.imul, 1) := by decide +kernel
theorem dX5_isCapture_5 : decode cX5_isCapture 5 = .ok (.iconst 2, 1) := by decide +kernel
theorem dX5_isCapture_6 : decode cX5_isCapture 6 = .ok (.iadd, 1) := by decide +kernel
theorem dX5_isCapture_7 : decode cX5_isCapture 7 = .ok (.invokevirtual 19, 3) := by decide +kernel
theorem dX5_isCapture_10 : decode cX5_isCapture 10 = .ok (.bipush 120, 2) := by decide +kernel
theorem dX5_isCapture_12 : decode cX5_isCapture 12 = .ok (.if_icmp .ne 7, 3) := by decide +kernel
theorem dX5_isCapture_15 : decode cX5_isCapture 15 = .ok (.iconst 1, 1) := by decide +kernel
theorem dX5_isCapture_16 : decode cX5_isCapture 16 = .ok (.goto 4, 3) := by decide +kernel
theorem dX5_isCapture_19 : decode cX5_isCapture 19 = .ok (.iconst 0, 1) := by decide +kernel
theorem dX5_isCapture_20 : decode cX5_isCapture 20 = .ok (.ireturn, 1) := by decide +kernel
theorem dX5_pointAt_0 : decode cX5_pointAt 0 = .ok (.aload_n 0, 1) := by decide +kernel
theorem dX5_pointAt_1 : decode cX5_pointAt 1 = .ok (.iload_n 1, 1) := by decide +kernel
theorem dX5_pointAt_2 : decode cX5_pointAt 2 = .ok (.iconst 1, 1) := by decide +kernel
theorem dX5_pointAt_3 : decode cX5_pointAt 3 = .ok (.iadd, 1) := by decide +kernel
theorem dX5_pointAt_4 : decode cX5_pointAt 4 = .ok (.invokevirtual 19, 3) := by decide +kernel
theorem dX5_pointAt_7 : decode cX5_pointAt 7 = .ok (.bipush 49, 2) := by decide +kernel
theorem dX5_pointAt_9 : decode cX5_pointAt 9 = .ok (.isub, 1) := by decide +kernel
theorem dX5_pointAt_10 : decode cX5_pointAt 10 = .ok (.bipush 6, 2) := by decide +kernel
theorem dX5_pointAt_12 : decode cX5_pointAt 12 = .ok (.imul, 1) := by decide +kernel
theorem dX5_pointAt_13 : decode cX5_pointAt 13 = .ok (.aload_n 0, 1) := by decide +kernel
theorem dX5_pointAt_14 : decode cX5_pointAt 14 = .ok (.iload_n 1, 1) := by decide +kernel
theorem dX5_pointAt_15 : decode cX5_pointAt 15 = .ok (.invokevirtual 19, 3) := by decide +kernel
theorem dX5_pointAt_18 : decode cX5_pointAt 18 = .ok (.iadd, 1) := by decide +kernel
theorem dX5_pointAt_19 : decode cX5_pointAt 19 = .ok (.bipush 97, 2) := by decide +kernel
theorem dX5_pointAt_21 : decode cX5_pointAt 21 = .ok (.isub, 1) := by decide +kernel
theorem dX5_pointAt_22 : decode cX5_pointAt 22 = .ok (.ireturn, 1) := by decide +kernel
theorem dX5_at_0 : decode cX5_at 0 = .ok (.iload_n 1, 1) := by decide +kernel
theorem dX5_at_1 : decode cX5_at 1 = .ok (.ifCond .lt 29, 3) := by decide +kernel
theorem dX5_at_4 : decode cX5_at 4 = .ok (.iload_n 1, 1) := by decide +kernel
theorem dX5_at_5 : decode cX5_at 5 = .ok (.aload_n 0, 1) := by decide +kernel
theorem dX5_at_6 : decode cX5_at 6 = .ok (.getfield 15, 3) := by decide +kernel
theorem dX5_at_9 : decode cX5_at 9 = .ok (.if_icmp .ge 21, 3) := by decide +kernel
theorem dX5_at_12 : decode cX5_at 12 = .ok (.iload_n 1, 1) := by decide +kernel
theorem dX5_at_13 : decode cX5_at 13 = .ok (.aload_n 0, 1) := by decide +kernel
theorem dX5_at_14 : decode cX5_at 14 = .ok (.getfield 11, 3) := by decide +kernel
theorem dX5_at_17 : decode cX5_at 17 = .ok (.arraylength, 1) := by decide +kernel
theorem dX5_at_18 : decode cX5_at 18 = .ok (.if_icmp .ge 12, 3) := by decide +kernel
theorem dX5_at_21 : decode cX5_at 21 = .ok (.aload_n 0, 1) := by decide +kernel
theorem dX5_at_22 : decode cX5_at 22 = .ok (.getfield 11, 3) := by decide +kernel
theorem dX5_at_25 : decode cX5_at 25 = .ok (.iload_n 1, 1) := by decide +kernel
theorem dX5_at_26 : decode cX5_at 26 = .ok (.caload, 1) := by decide +kernel
theorem dX5_at_27 : decode cX5_at 27 = .ok (.goto 5, 3) := by decide +kernel
theorem dX5_at_30 : decode cX5_at 30 = .ok (.bipush 32, 2) := by decide +kernel
theorem dX5_at_32 : decode cX5_at 32 = .ok (.ireturn, 1) := by decide +kernel
theorem dX6_init_0 : decode cX6_init 0 = .ok (.aload_n 0, 1) := by decide +kernel
theorem dX6_init_1 : decode cX6_init 1 = .ok (.invokespecial 3, 3) := by decide +kernel
theorem dX6_init_4 : decode cX6_init 4 = .ok (.aload_n 0, 1) := by decide +kernel
theorem dX6_init_5 : decode cX6_init 5 = .ok (.aload_n 1, 1) := by decide +kernel
theorem dX6_init_6 : decode cX6_init 6 = .ok (.putfield 9, 3) := by decide +kernel
theorem dX6_init_9 : decode cX6_init 9 = .ok (.aload_n 0, 1) := by decide +kernel
theorem dX6_init_10 : decode cX6_init 10 = .ok (.new 15, 3) := by decide +kernel
theorem dX6_init_13 : decode cX6_init 13 = .ok (.dup, 1) := by decide +kernel
theorem dX6_init_14 : decode cX6_init 14 = .ok (.aload_n 1, 1) := by decide +kernel
theorem dX6_init_15 : decode cX6_init 15 = .ok (.invokespecial 17, 3) := by decide +kernel
theorem dX6_init_18 : decode cX6_init 18 = .ok (.putfield 20, 3) := by decide +kernel
theorem dX6_init_21 : decode cX6_init 21 = .ok (.aload_n 0, 1) := by decide +kernel
theorem dX6_init_22 : decode cX6_init 22 = .ok (.aload_n 2, 1) := by decide +kernel
theorem dX6_init_23 : decode cX6_init 23 = .ok (.putfield 24, 3) := by decide +kernel
theorem dX6_init_26 : decode cX6_init 26 = .ok (.return_, 1) := by decide +kernel
theorem dX6_whyNot_0 : decode cX6_whyNot 0 = .ok (.aload_n 1, 1) := by decide +kernel
theorem dX6_whyNot_1 : decode cX6_whyNot 1 = .ok (.invokevirtual 28, 3) := by decide +kernel
theorem dX6_whyNot_4 : decode cX6_whyNot 4 = .ok (.ifCond .eq 5, 3) := by decide +kernel
theorem dX6_whyNot_7 : decode cX6_whyNot 7 = .ok (.iconst 1, 1) := by decide +kernel
theorem dX6_whyNot_8 : decode cX6_whyNot 8 = .ok (.ireturn, 1) := by decide +kernel
theorem dX6_whyNot_9 : decode cX6_whyNot 9 = .ok (.aload_n 1, 1) := by decide +kernel
theorem dX6_whyNot_10 : decode cX6_whyNot 10 = .ok (.invokevirtual 34, 3) := by decide +kernel
theorem dX6_whyNot_13 : decode cX6_whyNot 13 = .ok (.istore 5, 2) := by decide +kernel
theorem dX6_whyNot_15 : decode cX6_whyNot 15 = .ok (.aload_n 1, 1) := by decide +kernel
theorem dX6_whyNot_16 : decode cX6_whyNot 16 = .ok (.iload_n 2, 1) := by decide +kernel
theorem dX6_whyNot_17 : decode cX6_whyNot 17 = .ok (.invokevirtual 37, 3) := by decide +kernel
theorem dX6_whyNot_20 : decode cX6_whyNot 20 = .ok (.iload 5, 2) := by decide +kernel
theorem dX6_whyNot_22 : decode cX6_whyNot 22 = .ok (.if_icmp .eq 5, 3) := by decide +kernel
theorem dX6_whyNot_25 : decode cX6_whyNot 25 = .ok (.iconst 2, 1) := by decide +kernel
theorem dX6_whyNot_26 : decode cX6_whyNot 26 = .ok (.ireturn, 1) := by decide +kernel
theorem dX6_whyNot_27 : decode cX6_whyNot 27 = .ok (.aload_n 1, 1) := by decide +kernel
theorem dX6_whyNot_28 : decode cX6_whyNot 28 = .ok (.iload_n 3, 1) := by decide +kernel
theorem dX6_whyNot_29 : decode cX6_whyNot 29 = .ok (.invokevirtual 37, 3) := by decide +kernel
theorem dX6_whyNot_32 : decode cX6_whyNot 32 = .ok (.iload 5, 2) := by decide +kernel
theorem dX6_whyNot_34 : decode cX6_whyNot 34 = .ok (.if_icmp .ne 5, 3) := by decide +kernel
theorem dX6_whyNot_37 : decode cX6_whyNot 37 = .ok (.iconst 3, 1) := by decide +kernel
theorem dX6_whyNot_38 : decode cX6_whyNot 38 = .ok (.ireturn, 1) := by decide +kernel
theorem dX6_whyNot_39 : decode cX6_whyNot 39 = .ok (.iload 4, 2) := by decide +kernel
theorem dX6_whyNot_41 : decode cX6_whyNot 41 = .ok (.ifCond .eq 13, 3) := by decide +kernel
theorem dX6_whyNot_44 : decode cX6_whyNot 44 = .ok (.aload_n 0, 1) := by decide +kernel
theorem dX6_whyNot_45 : decode cX6_whyNot 45 = .ok (.aload_n 1, 1) := by decide +kernel
theorem dX6_whyNot_46 : decode cX6_whyNot 46 = .ok (.iload_n 2, 1) := by decide +kernel
theorem dX6_whyNot_47 : decode cX6_whyNot 47 = .ok (.iload_n 3, 1) := by decide +kernel
theorem dX6_whyNot_48 : decode cX6_whyNot 48 = .ok (.invokevirtual 41, 3) := by decide +kernel
theorem dX6_whyNot_51 : decode cX6_whyNot 51 = .ok (.goto 9, 3) := by decide +kernel
theorem dX6_whyNot_54 : decode cX6_whyNot 54 = .ok (.aload_n 1, 1) := by decide +kernel
theorem dX6_whyNot_55 : decode cX6_whyNot 55 = .ok (.iload_n 2, 1) := by decide +kernel
theorem dX6_whyNot_56 : decode cX6_whyNot 56 = .ok (.iload_n 3, 1) := by decide +kernel
theorem dX6_whyNot_57 : decode cX6_whyNot 57 = .ok (.invokestatic 45, 3) := by decide +kernel
theorem dX6_whyNot_60 : decode cX6_whyNot 60 = .ok (.istore 6, 2) := by decide +kernel
theorem dX6_whyNot_62 : decode cX6_whyNot 62 = .ok (.iload 6, 2) := by decide +kernel
theorem dX6_whyNot_64 : decode cX6_whyNot 64 = .ok (.ifCond .eq 7, 3) := by decide +kernel
theorem dX6_whyNot_67 : decode cX6_whyNot 67 = .ok (.iconst 0, 1) := by decide +kernel
theorem dX6_whyNot_68 : decode cX6_whyNot 68 = .ok (.goto 4, 3) := by decide +kernel
theorem dX6_whyNot_71 : decode cX6_whyNot 71 = .ok (.iconst 4, 1) := by decide +kernel
theorem dX6_whyNot_72 : decode cX6_whyNot 72 = .ok (.ireturn, 1) := by decide +kernel
theorem dX6_couldCapture_0 : decode cX6_couldCapture 0 = .ok (.aload_n 1, 1) := by decide +kernel
theorem dX6_couldCapture_1 : decode cX6_couldCapture 1 = .ok (.iload_n 2, 1) := by decide +kernel
theorem dX6_couldCapture_2 : decode cX6_couldCapture 2 = .ok (.invokevirtual 37, 3) := by decide +kernel
theorem dX6_couldCapture_5 : decode cX6_couldCapture 5 = .ok (.aload_n 1, 1) := by decide +kernel
theorem dX6_couldCapture_6 : decode cX6_couldCapture 6 = .ok (.iload_n 3, 1) := by decide +kernel
theorem dX6_couldCapture_7 : decode cX6_couldCapture 7 = .ok (.invokevirtual 37, 3) := by decide +kernel
theorem dX6_couldCapture_10 : decode cX6_couldCapture 10 = .ok (.invokestatic 48, 3) := by decide +kernel
theorem dX6_couldCapture_13 : decode cX6_couldCapture 13 = .ok (.ifCond .eq 20, 3) := by decide +kernel
theorem dX6_couldCapture_16 : decode cX6_couldCapture 16 = .ok (.aload_n 0, 1) := by decide +kernel
theorem dX6_couldCapture_17 : decode cX6_couldCapture 17 = .ok (.getfield 24, 3) := by decide +kernel
theorem dX6_couldCapture_20 : decode cX6_couldCapture 20 = .ok (.aload_n 1, 1) := by decide +kernel
theorem dX6_couldCapture_21 : decode cX6_couldCapture 21 = .ok (.iload_n 2, 1) := by decide +kernel
theorem dX6_couldCapture_22 : decode cX6_couldCapture 22 = .ok (.iload_n 3, 1) := by decide +kernel
theorem dX6_couldCapture_23 : decode cX6_couldCapture 23 = .ok (.invokevirtual 52, 3) := by decide +kernel
theorem dX6_couldCapture_26 : decode cX6_couldCapture 26 = .ok (.ifCond .eq 7, 3) := by decide +kernel
theorem dX6_couldCapture_29 : decode cX6_couldCapture 29 = .ok (.iconst 1, 1) := by decide +kernel
theorem dX6_couldCapture_30 : decode cX6_couldCapture 30 = .ok (.goto 4, 3) := by decide +kernel
theorem dX6_couldCapture_33 : decode cX6_couldCapture 33 = .ok (.iconst 0, 1) := by decide +kernel
theorem dX6_couldCapture_34 : decode cX6_couldCapture 34 = .ok (.ireturn, 1) := by decide +kernel
theorem dX6_areOfTwoSides_0 : decode cX6_areOfTwoSides 0 = .ok (.iload_n 0, 1) := by decide +kernel
theorem dX6_areOfTwoSides_1 : decode cX6_areOfTwoSides 1 = .ok (.ifCond .eq 16, 3) := by decide +kernel
theorem dX6_areOfTwoSides_4 : decode cX6_areOfTwoSides 4 = .ok (.iload_n 1, 1) := by decide +kernel
theorem dX6_areOfTwoSides_5 : decode cX6_areOfTwoSides 5 = .ok (.ifCond .eq 12, 3) := by decide +kernel
theorem dX6_areOfTwoSides_8 : decode cX6_areOfTwoSides 8 = .ok (.iload_n 0, 1) := by decide +kernel
theorem dX6_areOfTwoSides_9 : decode cX6_areOfTwoSides 9 = .ok (.iload_n 1, 1) := by decide +kernel
theorem dX6_areOfTwoSides_10 : decode cX6_areOfTwoSides 10 = .ok (.if_icmp .eq 7, 3) := by decide +kernel
theorem dX6_areOfTwoSides_13 : decode cX6_areOfTwoSides 13 = .ok (.iconst 1, 1) := by decide +kernel
theorem dX6_areOfTwoSides_14 : decode cX6_areOfTwoSides 14 = .ok (.goto 4, 3) := by decide +kernel
theorem dX6_areOfTwoSides_17 : decode cX6_areOfTwoSides 17 = .ok (.iconst 0, 1) := by decide +kernel
theorem dX6_areOfTwoSides_18 : decode cX6_areOfTwoSides 18 = .ok (.ireturn, 1) := by decide +kernel
theorem dX6_couldStep_0 : decode cX6_couldStep 0 = .ok (.aload_n 0, 1) := by decide +kernel
theorem dX6_couldStep_1 : decode cX6_couldStep 1 = .ok (.iload_n 2, 1) := by decide +kernel
theorem dX6_couldStep_2 : decode cX6_couldStep 2 = .ok (.invokevirtual 37, 3) := by decide +kernel
theorem dX6_couldStep_5 : decode cX6_couldStep 5 = .ok (.ifCond .ne 39, 3) := by decide +kernel
theorem dX6_couldStep_8 : decode cX6_couldStep 8 = .ok (.iload_n 1, 1) := by decide +kernel
theorem dX6_couldStep_9 : decode cX6_couldStep 9 = .ok (.bipush 6, 2) := by decide +kernel
theorem dX6_couldStep_11 : decode cX6_couldStep 11 = .ok (.idiv, 1) := by decide +kernel
theorem dX6_couldStep_12 : decode cX6_couldStep 12 = .ok (.iload_n 2, 1) := by decide +kernel
theorem dX6_couldStep_13 : decode cX6_couldStep 13 = .ok (.bipush 6, 2) := by decide +kernel
theorem dX6_couldStep_15 : decode cX6_couldStep 15 = .ok (.idiv, 1) := by decide +kernel
theorem dX6_couldStep_16 : decode cX6_couldStep 16 = .ok (.isub, 1) := by decide +kernel
theorem dX6_couldStep_17 : decode cX6_couldStep 17 = .ok (.invokestatic 57, 3) := by decide +kernel
theorem dX6_couldStep_20 : decode cX6_couldStep 20 = .ok (.iconst 1, 1) := by decide +kernel
theorem dX6_couldStep_21 : decode cX6_couldStep 21 = .ok (.if_icmp .gt 23, 3) := by decide +kernel
theorem dX6_couldStep_24 : decode cX6_couldStep 24 = .ok (.iload_n 1, 1) := by decide +kernel
theorem dX6_couldStep_25 : decode cX6_couldStep 25 = .ok (.bipush 6, 2) := by decide +kernel
theorem dX6_couldStep_27 : decode cX6_couldStep 27 = .ok (.irem, 1) := by decide +kernel
theorem dX6_couldStep_28 : decode cX6_couldStep 28 = .ok (.iload_n 2, 1) := by decide +kernel
theorem dX6_couldStep_29 : decode cX6_couldStep 29 = .ok (.bipush 6, 2) := by decide +kernel
theorem dX6_couldStep_31 : decode cX6_couldStep 31 = .ok (.irem, 1) := by decide +kernel
theorem dX6_couldStep_32 : decode cX6_couldStep 32 = .ok (.isub, 1) := by decide +kernel
theorem dX6_couldStep_33 : decode cX6_couldStep 33 = .ok (.invokestatic 57, 3) := by decide +kernel
theorem dX6_couldStep_36 : decode cX6_couldStep 36 = .ok (.iconst 1, 1) := by decide +kernel
theorem dX6_couldStep_37 : decode cX6_couldStep 37 = .ok (.if_icmp .gt 7, 3) := by decide +kernel
theorem dX6_couldStep_40 : decode cX6_couldStep 40 = .ok (.iconst 1, 1) := by decide +kernel
theorem dX6_couldStep_41 : decode cX6_couldStep 41 = .ok (.goto 4, 3) := by decide +kernel
theorem dX6_couldStep_44 : decode cX6_couldStep 44 = .ok (.iconst 0, 1) := by decide +kernel
theorem dX6_couldStep_45 : decode cX6_couldStep 45 = .ok (.ireturn, 1) := by decide +kernel
theorem dX6_threatsTo_0 : decode cX6_threatsTo 0 = .ok (.iconst 0, 1) := by decide +kernel
theorem dX6_threatsTo_1 : decode cX6_threatsTo 1 = .ok (.istore_n 3, 1) := by decide +kernel
theorem dX6_threatsTo_2 : decode cX6_threatsTo 2 = .ok (.iconst 0, 1) := by decide +kernel
theorem dX6_threatsTo_3 : decode cX6_threatsTo 3 = .ok (.istore 4, 2) := by decide +kernel
theorem dX6_threatsTo_5 : decode cX6_threatsTo 5 = .ok (.iload 4, 2) := by decide +kernel
theorem dX6_threatsTo_7 : decode cX6_threatsTo 7 = .ok (.bipush 36, 2) := by decide +kernel
theorem dX6_threatsTo_9 : decode cX6_threatsTo 9 = .ok (.if_icmp .ge 23, 3) := by decide +kernel
theorem dX6_threatsTo_12 : decode cX6_threatsTo 12 = .ok (.aload_n 0, 1) := by decide +kernel
theorem dX6_threatsTo_13 : decode cX6_threatsTo 13 = .ok (.aload_n 1, 1) := by decide +kernel
theorem dX6_threatsTo_14 : decode cX6_threatsTo 14 = .ok (.iload 4, 2) := by decide +kernel
theorem dX6_threatsTo_16 : decode cX6_threatsTo 16 = .ok (.iload_n 2, 1) := by decide +kernel
theorem dX6_threatsTo_17 : decode cX6_threatsTo 17 = .ok (.invokevirtual 41, 3) := by decide +kernel
theorem dX6_threatsTo_20 : decode cX6_threatsTo 20 = .ok (.ifCond .eq 6, 3) := by decide +kernel
theorem dX6_threatsTo_23 : decode cX6_threatsTo 23 = .ok (.iinc 3 1, 3) := by decide +kernel
theorem dX6_threatsTo_26 : decode cX6_threatsTo 26 = .ok (.iinc 4 1, 3) := by decide +kernel
theorem dX6_threatsTo_29 : decode cX6_threatsTo 29 = .ok (.goto (-24), 3) := by decide +kernel
theorem dX6_threatsTo_32 : decode cX6_threatsTo 32 = .ok (.iload_n 3, 1) := by decide +kernel
theorem dX6_threatsTo_33 : decode cX6_threatsTo 33 = .ok (.ireturn, 1) := by decide +kernel
theorem dX6_coversOf_0 : decode cX6_coversOf 0 = .ok (.aload_n 1, 1) := by decide +kernel
theorem dX6_coversOf_1 : decode cX6_coversOf 1 = .ok (.iload_n 2, 1) := by decide +kernel
theorem dX6_coversOf_2 : decode cX6_coversOf 2 = .ok (.invokevirtual 37, 3) := by decide +kernel
theorem dX6_coversOf_5 : decode cX6_coversOf 5 = .ok (.istore_n 3, 1) := by decide +kernel
theorem dX6_coversOf_6 : decode cX6_coversOf 6 = .ok (.iconst 0, 1) := by decide +kernel
theorem dX6_coversOf_7 : decode cX6_coversOf 7 = .ok (.istore 4, 2) := by decide +kernel
theorem dX6_coversOf_9 : decode cX6_coversOf 9 = .ok (.iconst 0, 1) := by decide +kernel
theorem dX6_coversOf_10 : decode cX6_coversOf 10 = .ok (.istore 5, 2) := by decide +kernel
theorem dX6_coversOf_12 : decode cX6_coversOf 12 = .ok (.iload 5, 2) := by decide +kernel
theorem dX6_coversOf_14 : decode cX6_coversOf 14 = .ok (.bipush 36, 2) := by decide +kernel
theorem dX6_coversOf_16 : decode cX6_coversOf 16 = .ok (.if_icmp .ge 46, 3) := by decide +kernel
theorem dX6_coversOf_19 : decode cX6_coversOf 19 = .ok (.iload_n 3, 1) := by decide +kernel
theorem dX6_coversOf_20 : decode cX6_coversOf 20 = .ok (.ifCond .eq 42, 3) := by decide +kernel
theorem dX6_coversOf_23 : decode cX6_coversOf 23 = .ok (.iload 5, 2) := by decide +kernel
theorem dX6_coversOf_25 : decode cX6_coversOf 25 = .ok (.iload_n 2, 1) := by decide +kernel
theorem dX6_coversOf_26 : decode cX6_coversOf 26 = .ok (.if_icmp .eq 30, 3) := by decide +kernel
theorem dX6_coversOf_29 : decode cX6_coversOf 29 = .ok (.aload_n 1, 1) := by decide +kernel
theorem dX6_coversOf_30 : decode cX6_coversOf 30 = .ok (.iload 5, 2) := by decide +kernel
theorem dX6_coversOf_32 : decode cX6_coversOf 32 = .ok (.invokevirtual 37, 3) := by decide +kernel
theorem dX6_coversOf_35 : decode cX6_coversOf 35 = .ok (.iload_n 3, 1) := by decide +kernel
theorem dX6_coversOf_36 : decode cX6_coversOf 36 = .ok (.if_icmp .ne 20, 3) := by decide +kernel
theorem dX6_coversOf_39 : decode cX6_coversOf 39 = .ok (.aload_n 0, 1) := by decide +kernel
theorem dX6_coversOf_40 : decode cX6_coversOf 40 = .ok (.getfield 24, 3) := by decide +kernel
theorem dX6_coversOf_43 : decode cX6_coversOf 43 = .ok (.aload_n 1, 1) := by decide +kernel
theorem dX6_coversOf_44 : decode cX6_coversOf 44 = .ok (.iload 5, 2) := by decide +kernel
theorem dX6_coversOf_46 : decode cX6_coversOf 46 = .ok (.iload_n 2, 1) := by decide +kernel
theorem dX6_coversOf_47 : decode cX6_coversOf 47 = .ok (.invokevirtual 52, 3) := by decide +kernel
theorem dX6_coversOf_50 : decode cX6_coversOf 50 = .ok (.ifCond .eq 6, 3) := by decide +kernel
theorem dX6_coversOf_53 : decode cX6_coversOf 53 = .ok (.iinc 4 1, 3) := by decide +kernel
theorem dX6_coversOf_56 : decode cX6_coversOf 56 = .ok (.iinc 5 1, 3) := by decide +kernel
theorem dX6_coversOf_59 : decode cX6_coversOf 59 = .ok (.goto (-47), 3) := by decide +kernel
theorem dX6_coversOf_62 : decode cX6_coversOf 62 = .ok (.iload 4, 2) := by decide +kernel
theorem dX6_coversOf_64 : decode cX6_coversOf 64 = .ok (.ireturn, 1) := by decide +kernel
theorem dX6_capturesFrom_0 : decode cX6_capturesFrom 0 = .ok (.iconst 0, 1) := by decide +kernel
theorem dX6_capturesFrom_1 : decode cX6_capturesFrom 1 = .ok (.istore_n 3, 1) := by decide +kernel
theorem dX6_capturesFrom_2 : decode cX6_capturesFrom 2 = .ok (.iconst 0, 1) := by decide +kernel
theorem dX6_capturesFrom_3 : decode cX6_capturesFrom 3 = .ok (.istore 4, 2) := by decide +kernel
theorem dX6_capturesFrom_5 : decode cX6_capturesFrom 5 = .ok (.iload 4, 2) := by decide +kernel
theorem dX6_capturesFrom_7 : decode cX6_capturesFrom 7 = .ok (.bipush 36, 2) := by decide +kernel
theorem dX6_capturesFrom_9 : decode cX6_capturesFrom 9 = .ok (.if_icmp .ge 23, 3) := by decide +kernel
theorem dX6_capturesFrom_12 : decode cX6_capturesFrom 12 = .ok (.aload_n 0, 1) := by decide +kernel
theorem dX6_capturesFrom_13 : decode cX6_capturesFrom 13 = .ok (.aload_n 1, 1) := by decide +kernel
theorem dX6_capturesFrom_14 : decode cX6_capturesFrom 14 = .ok (.iload_n 2, 1) := by decide +kernel
theorem dX6_capturesFrom_15 : decode cX6_capturesFrom 15 = .ok (.iload 4, 2) := by decide +kernel
theorem dX6_capturesFrom_17 : decode cX6_capturesFrom 17 = .ok (.invokevirtual 41, 3) := by decide +kernel
theorem dX6_capturesFrom_20 : decode cX6_capturesFrom 20 = .ok (.ifCond .eq 6, 3) := by decide +kernel
theorem dX6_capturesFrom_23 : decode cX6_capturesFrom 23 = .ok (.iinc 3 1, 3) := by decide +kernel
theorem dX6_capturesFrom_26 : decode cX6_capturesFrom 26 = .ok (.iinc 4 1, 3) := by decide +kernel
theorem dX6_capturesFrom_29 : decode cX6_capturesFrom 29 = .ok (.goto (-24), 3) := by decide +kernel
theorem dX6_capturesFrom_32 : decode cX6_capturesFrom 32 = .ok (.iload_n 3, 1) := by decide +kernel
theorem dX6_capturesFrom_33 : decode cX6_capturesFrom 33 = .ok (.ireturn, 1) := by decide +kernel
theorem dX6_quietMovesFrom_0 : decode cX6_quietMovesFrom 0 = .ok (.iconst 0, 1) := by decide +kernel
theorem dX6_quietMovesFrom_1 : decode cX6_quietMovesFrom 1 = .ok (.istore_n 3, 1) := by decide +kernel
theorem dX6_quietMovesFrom_2 : decode cX6_quietMovesFrom 2 = .ok (.iconst 0, 1) := by decide +kernel
theorem dX6_quietMovesFrom_3 : decode cX6_quietMovesFrom 3 = .ok (.istore 4, 2) := by decide +kernel
theorem dX6_quietMovesFrom_5 : decode cX6_quietMovesFrom 5 = .ok (.iload 4, 2) := by decide +kernel
theorem dX6_quietMovesFrom_7 : decode cX6_quietMovesFrom 7 = .ok (.bipush 36, 2) := by decide +kernel
theorem dX6_quietMovesFrom_9 : decode cX6_quietMovesFrom 9 = .ok (.if_icmp .ge 30, 3) := by decide +kernel
theorem dX6_quietMovesFrom_12 : decode cX6_quietMovesFrom 12 = .ok (.aload_n 1, 1) := by decide +kernel
theorem dX6_quietMovesFrom_13 : decode cX6_quietMovesFrom 13 = .ok (.iload_n 2, 1) := by decide +kernel
theorem dX6_quietMovesFrom_14 : decode cX6_quietMovesFrom 14 = .ok (.invokevirtual 37, 3) := by decide +kernel
theorem dX6_quietMovesFrom_17 : decode cX6_quietMovesFrom 17 = .ok (.ifCond .eq 22, 3) := by decide +kernel
theorem dX6_quietMovesFrom_20 : decode cX6_quietMovesFrom 20 = .ok (.aload_n 1, 1) := by decide +kernel
theorem dX6_quietMovesFrom_21 : decode cX6_quietMovesFrom 21 = .ok (.iload_n 2, 1) := by decide +kernel
theorem dX6_quietMovesFrom_22 : decode cX6_quietMovesFrom 22 = .ok (.iload 4, 2) := by decide +kernel
theorem dX6_quietMovesFrom_24 : decode cX6_quietMovesFrom 24 = .ok (.invokestatic 45, 3) := by decide +kernel
theorem dX6_quietMovesFrom_27 : decode cX6_quietMovesFrom 27 = .ok (.ifCond .eq 6, 3) := by decide +kernel
theorem dX6_quietMovesFrom_30 : decode cX6_quietMovesFrom 30 = .ok (.iinc 3 1, 3) := by decide +kernel
theorem dX6_quietMovesFrom_33 : decode cX6_quietMovesFrom 33 = .ok (.iinc 4 1, 3) := by decide +kernel
theorem dX6_quietMovesFrom_36 : decode cX6_quietMovesFrom 36 = .ok (.goto (-31), 3) := by decide +kernel
theorem dX6_quietMovesFrom_39 : decode cX6_quietMovesFrom 39 = .ok (.iload_n 3, 1) := by decide +kernel
theorem dX6_quietMovesFrom_40 : decode cX6_quietMovesFrom 40 = .ok (.ireturn, 1) := by decide +kernel
theorem dX6_threatened_0 : decode cX6_threatened 0 = .ok (.iconst 0, 1) := by decide +kernel
theorem dX6_threatened_1 : decode cX6_threatened 1 = .ok (.istore_n 2, 1) := by decide +kernel
theorem dX6_threatened_2 : decode cX6_threatened 2 = .ok (.iconst 0, 1) := by decide +kernel
theorem dX6_threatened_3 : decode cX6_threatened 3 = .ok (.istore_n 3, 1) := by decide +kernel
theorem dX6_threatened_4 : decode cX6_threatened 4 = .ok (.iload_n 3, 1) := by decide +kernel
theorem dX6_threatened_5 : decode cX6_threatened 5 = .ok (.bipush 36, 2) := by decide +kernel
theorem dX6_threatened_7 : decode cX6_threatened 7 = .ok (.if_icmp .ge 33, 3) := by decide +kernel
theorem dX6_threatened_10 : decode cX6_threatened 10 = .ok (.aload_n 1, 1) := by decide +kernel
theorem dX6_threatened_11 : decode cX6_threatened 11 = .ok (.iload_n 3, 1) := by decide +kernel
theorem dX6_threatened_12 : decode cX6_threatened 12 = .ok (.invokevirtual 37, 3) := by decide +kernel
theorem dX6_threatened_15 : decode cX6_threatened 15 = .ok (.aload_n 1, 1) := by decide +kernel
theorem dX6_threatened_16 : decode cX6_threatened 16 = .ok (.invokevirtual 34, 3) := by decide +kernel
theorem dX6_threatened_19 : decode cX6_threatened 19 = .ok (.if_icmp .ne 15, 3) := by decide +kernel
theorem dX6_threatened_22 : decode cX6_threatened 22 = .ok (.aload_n 0, 1) := by decide +kernel
theorem dX6_threatened_23 : decode cX6_threatened 23 = .ok (.aload_n 1, 1) := by decide +kernel
theorem dX6_threatened_24 : decode cX6_threatened 24 = .ok (.iload_n 3, 1) := by decide +kernel
theorem dX6_threatened_25 : decode cX6_threatened 25 = .ok (.invokevirtual 62, 3) := by decide +kernel
theorem dX6_threatened_28 : decode cX6_threatened 28 = .ok (.ifCond .le 6, 3) := by decide +kernel
theorem dX6_threatened_31 : decode cX6_threatened 31 = .ok (.iinc 2 1, 3) := by decide +kernel
theorem dX6_threatened_34 : decode cX6_threatened 34 = .ok (.iinc 3 1, 3) := by decide +kernel
theorem dX6_threatened_37 : decode cX6_threatened 37 = .ok (.goto (-33), 3) := by decide +kernel
theorem dX6_threatened_40 : decode cX6_threatened 40 = .ok (.iload_n 2, 1) := by decide +kernel
theorem dX6_threatened_41 : decode cX6_threatened 41 = .ok (.ireturn, 1) := by decide +kernel
theorem dX6_listMoves_0 : decode cX6_listMoves 0 = .ok (.aload_n 2, 1) := by decide +kernel
theorem dX6_listMoves_1 : decode cX6_listMoves 1 = .ok (.invokevirtual 66, 3) := by decide +kernel
theorem dX6_listMoves_4 : decode cX6_listMoves 4 = .ok (.aload_n 1, 1) := by decide +kernel
theorem dX6_listMoves_5 : decode cX6_listMoves 5 = .ok (.invokevirtual 28, 3) := by decide +kernel
theorem dX6_listMoves_8 : decode cX6_listMoves 8 = .ok (.ifCond .eq 4, 3) := by decide +kernel
theorem dX6_listMoves_11 : decode cX6_listMoves 11 = .ok (.return_, 1) := by decide +kernel
theorem dX6_listMoves_12 : decode cX6_listMoves 12 = .ok (.aload_n 1, 1) := by decide +kernel
theorem dX6_listMoves_13 : decode cX6_listMoves 13 = .ok (.invokevirtual 34, 3) := by decide +kernel
theorem dX6_listMoves_16 : decode cX6_listMoves 16 = .ok (.istore_n 3, 1) := by decide +kernel
theorem dX6_listMoves_17 : decode cX6_listMoves 17 = .ok (.iconst 0, 1) := by decide +kernel
theorem dX6_listMoves_18 : decode cX6_listMoves 18 = .ok (.istore 4, 2) := by decide +kernel
theorem dX6_listMoves_20 : decode cX6_listMoves 20 = .ok (.iload 4, 2) := by decide +kernel
theorem dX6_listMoves_22 : decode cX6_listMoves 22 = .ok (.bipush 36, 2) := by decide +kernel
theorem dX6_listMoves_24 : decode cX6_listMoves 24 = .ok (.if_icmp .ge 27, 3) := by decide +kernel
theorem dX6_listMoves_27 : decode cX6_listMoves 27 = .ok (.aload_n 1, 1) := by decide +kernel
theorem dX6_listMoves_28 : decode cX6_listMoves 28 = .ok (.iload 4, 2) := by decide +kernel
theorem dX6_listMoves_30 : decode cX6_listMoves 30 = .ok (.invokevirtual 37, 3) := by decide +kernel
theorem dX6_listMoves_33 : decode cX6_listMoves 33 = .ok (.iload_n 3, 1) := by decide +kernel
theorem dX6_listMoves_34 : decode cX6_listMoves 34 = .ok (.if_icmp .ne 11, 3) := by decide +kernel
theorem dX6_listMoves_37 : decode cX6_listMoves 37 = .ok (.aload_n 0, 1) := by decide +kernel
theorem dX6_listMoves_38 : decode cX6_listMoves 38 = .ok (.aload_n 1, 1) := by decide +kernel
theorem dX6_listMoves_39 : decode cX6_listMoves 39 = .ok (.iload 4, 2) := by decide +kernel
theorem dX6_listMoves_41 : decode cX6_listMoves 41 = .ok (.aload_n 2, 1) := by decide +kernel
theorem dX6_listMoves_42 : decode cX6_listMoves 42 = .ok (.invokevirtual 71, 3) := by decide +kernel
theorem dX6_listMoves_45 : decode cX6_listMoves 45 = .ok (.iinc 4 1, 3) := by decide +kernel
theorem dX6_listMoves_48 : decode cX6_listMoves 48 = .ok (.goto (-28), 3) := by decide +kernel
theorem dX6_listMoves_51 : decode cX6_listMoves 51 = .ok (.iconst 0, 1) := by decide +kernel
theorem dX6_listMoves_52 : decode cX6_listMoves 52 = .ok (.istore 4, 2) := by decide +kernel
theorem dX6_listMoves_54 : decode cX6_listMoves 54 = .ok (.iload 4, 2) := by decide +kernel
theorem dX6_listMoves_56 : decode cX6_listMoves 56 = .ok (.bipush 36, 2) := by decide +kernel
theorem dX6_listMoves_58 : decode cX6_listMoves 58 = .ok (.if_icmp .ge 26, 3) := by decide +kernel
theorem dX6_listMoves_61 : decode cX6_listMoves 61 = .ok (.aload_n 1, 1) := by decide +kernel
theorem dX6_listMoves_62 : decode cX6_listMoves 62 = .ok (.iload 4, 2) := by decide +kernel
theorem dX6_listMoves_64 : decode cX6_listMoves 64 = .ok (.invokevirtual 37, 3) := by decide +kernel
theorem dX6_listMoves_67 : decode cX6_listMoves 67 = .ok (.iload_n 3, 1) := by decide +kernel
theorem dX6_listMoves_68 : decode cX6_listMoves 68 = .ok (.if_icmp .ne 10, 3) := by decide +kernel
theorem dX6_listMoves_71 : decode cX6_listMoves 71 = .ok (.aload_n 1, 1) := by decide +kernel
theorem dX6_listMoves_72 : decode cX6_listMoves 72 = .ok (.iload 4, 2) := by decide +kernel
theorem dX6_listMoves_74 : decode cX6_listMoves 74 = .ok (.aload_n 2, 1) := by decide +kernel
theorem dX6_listMoves_75 : decode cX6_listMoves 75 = .ok (.invokestatic 75, 3) := by decide +kernel
theorem dX6_listMoves_78 : decode cX6_listMoves 78 = .ok (.iinc 4 1, 3) := by decide +kernel
theorem dX6_listMoves_81 : decode cX6_listMoves 81 = .ok (.goto (-27), 3) := by decide +kernel
theorem dX6_listMoves_84 : decode cX6_listMoves 84 = .ok (.return_, 1) := by decide +kernel
theorem dX6_listCaptures_0 : decode cX6_listCaptures 0 = .ok (.iconst 3, 1) := by decide +kernel
theorem dX6_listCaptures_1 : decode cX6_listCaptures 1 = .ok (.aload_n 1, 1) := by decide +kernel
theorem dX6_listCaptures_2 : decode cX6_listCaptures 2 = .ok (.iload_n 2, 1) := by decide +kernel
theorem dX6_listCaptures_3 : decode cX6_listCaptures 3 = .ok (.invokevirtual 37, 3) := by decide +kernel
theorem dX6_listCaptures_6 : decode cX6_listCaptures 6 = .ok (.isub, 1) := by decide +kernel
theorem dX6_listCaptures_7 : decode cX6_listCaptures 7 = .ok (.istore 4, 2) := by decide +kernel
theorem dX6_listCaptures_9 : decode cX6_listCaptures 9 = .ok (.iconst 0, 1) := by decide +kernel
theorem dX6_listCaptures_10 : decode cX6_listCaptures 10 = .ok (.istore 5, 2) := by decide +kernel
theorem dX6_listCaptures_12 : decode cX6_listCaptures 12 = .ok (.iload 5, 2) := by decide +kernel
theorem dX6_listCaptures_14 : decode cX6_listCaptures 14 = .ok (.iconst 2, 1) := by decide +kernel
theorem dX6_listCaptures_15 : decode cX6_listCaptures 15 = .ok (.if_icmp .ge 107, 3) := by decide +kernel
theorem dX6_listCaptures_18 : decode cX6_listCaptures 18 = .ok (.aload_n 0, 1) := by decide +kernel
theorem dX6_listCaptures_19 : decode cX6_listCaptures 19 = .ok (.getfield 9, 3) := by decide +kernel
theorem dX6_listCaptures_22 : decode cX6_listCaptures 22 = .ok (.iload_n 2, 1) := by decide +kernel
theorem dX6_listCaptures_23 : decode cX6_listCaptures 23 = .ok (.iload 5, 2) := by decide +kernel
theorem dX6_listCaptures_25 : decode cX6_listCaptures 25 = .ok (.invokevirtual 80, 3) := by decide +kernel
theorem dX6_listCaptures_28 : decode cX6_listCaptures 28 = .ok (.istore 6, 2) := by decide +kernel
theorem dX6_listCaptures_30 : decode cX6_listCaptures 30 = .ok (.iconst 1, 1) := by decide +kernel
theorem dX6_listCaptures_31 : decode cX6_listCaptures 31 = .ok (.istore 7, 2) := by decide +kernel
theorem dX6_listCaptures_33 : decode cX6_listCaptures 33 = .ok (.iload 7, 2) := by decide +kernel
theorem dX6_listCaptures_35 : decode cX6_listCaptures 35 = .ok (.iconst (-1), 1) := by decide +kernel
theorem dX6_listCaptures_36 : decode cX6_listCaptures 36 = .ok (.if_icmp .lt 80, 3) := by decide +kernel
theorem dX6_listCaptures_39 : decode cX6_listCaptures 39 = .ok (.iload 6, 2) := by decide +kernel
theorem dX6_listCaptures_41 : decode cX6_listCaptures 41 = .ok (.iconst (-1), 1) := by decide +kernel
theorem dX6_listCaptures_42 : decode cX6_listCaptures 42 = .ok (.if_icmp .eq 74, 3) := by decide +kernel
theorem dX6_listCaptures_45 : decode cX6_listCaptures 45 = .ok (.aload_n 0, 1) := by decide +kernel
theorem dX6_listCaptures_46 : decode cX6_listCaptures 46 = .ok (.getfield 20, 3) := by decide +kernel
theorem dX6_listCaptures_49 : decode cX6_listCaptures 49 = .ok (.aload_n 1, 1) := by decide +kernel
theorem dX6_listCaptures_50 : decode cX6_listCaptures 50 = .ok (.iload 6, 2) := by decide +kernel
theorem dX6_listCaptures_52 : decode cX6_listCaptures 52 = .ok (.iload 7, 2) := by decide +kernel
theorem dX6_listCaptures_54 : decode cX6_listCaptures 54 = .ok (.invokevirtual 84, 3) := by decide +kernel
theorem dX6_listCaptures_57 : decode cX6_listCaptures 57 = .ok (.aload_n 0, 1) := by decide +kernel
theorem dX6_listCaptures_58 : decode cX6_listCaptures 58 = .ok (.getfield 20, 3) := by decide +kernel
theorem dX6_listCaptures_61 : decode cX6_listCaptures 61 = .ok (.getfield 88, 3) := by decide +kernel
theorem dX6_listCaptures_64 : decode cX6_listCaptures 64 = .ok (.ifCond .le 46, 3) := by decide +kernel
theorem dX6_listCaptures_67 : decode cX6_listCaptures 67 = .ok (.aload_n 0, 1) := by decide +kernel
theorem dX6_listCaptures_68 : decode cX6_listCaptures 68 = .ok (.getfield 20, 3) := by decide +kernel
theorem dX6_listCaptures_71 : decode cX6_listCaptures 71 = .ok (.getfield 92, 3) := by decide +kernel
theorem dX6_listCaptures_74 : decode cX6_listCaptures 74 = .ok (.iconst (-1), 1) := by decide +kernel
theorem dX6_listCaptures_75 : decode cX6_listCaptures 75 = .ok (.if_icmp .eq 35, 3) := by decide +kernel
theorem dX6_listCaptures_78 : decode cX6_listCaptures 78 = .ok (.aload_n 1, 1) := by decide +kernel
theorem dX6_listCaptures_79 : decode cX6_listCaptures 79 = .ok (.aload_n 0, 1) := by decide +kernel
theorem dX6_listCaptures_80 : decode cX6_listCaptures 80 = .ok (.getfield 20, 3) := by decide +kernel
theorem dX6_listCaptures_83 : decode cX6_listCaptures 83 = .ok (.getfield 92, 3) := by decide +kernel
theorem dX6_listCaptures_86 : decode cX6_listCaptures 86 = .ok (.invokevirtual 37, 3) := by decide +kernel
theorem dX6_listCaptures_89 : decode cX6_listCaptures 89 = .ok (.iload 4, 2) := by decide +kernel
theorem dX6_listCaptures_91 : decode cX6_listCaptures 91 = .ok (.if_icmp .ne 19, 3) := by decide +kernel
theorem dX6_listCaptures_94 : decode cX6_listCaptures 94 = .ok (.aload_n 3, 1) := by decide +kernel
theorem dX6_listCaptures_95 : decode cX6_listCaptures 95 = .ok (.iload_n 2, 1) := by decide +kernel
theorem dX6_listCaptures_96 : decode cX6_listCaptures 96 = .ok (.bipush 100, 2) := by decide +kernel
theorem dX6_listCaptures_98 : decode cX6_listCaptures 98 = .ok (.imul, 1) := by decide +kernel
theorem dX6_listCaptures_99 : decode cX6_listCaptures 99 = .ok (.aload_n 0, 1) := by decide +kernel
theorem dX6_listCaptures_100 : decode cX6_listCaptures 100 = .ok (.getfield 20, 3) := by decide +kernel
theorem dX6_listCaptures_103 : decode cX6_listCaptures 103 = .ok (.getfield 92, 3) := by decide +kernel
theorem dX6_listCaptures_106 : decode cX6_listCaptures 106 = .ok (.iadd, 1) := by decide +kernel
theorem dX6_listCaptures_107 : decode cX6_listCaptures 107 = .ok (.invokevirtual 95, 3) := by decide +kernel
theorem dX6_listCaptures_110 : decode cX6_listCaptures 110 = .ok (.iinc 7 (-2), 3) := by decide +kernel
theorem dX6_listCaptures_113 : decode cX6_listCaptures 113 = .ok (.goto (-80), 3) := by decide +kernel
theorem dX6_listCaptures_116 : decode cX6_listCaptures 116 = .ok (.iinc 5 1, 3) := by decide +kernel
theorem dX6_listCaptures_119 : decode cX6_listCaptures 119 = .ok (.goto (-107), 3) := by decide +kernel
theorem dX6_listCaptures_122 : decode cX6_listCaptures 122 = .ok (.return_, 1) := by decide +kernel
theorem dX6_listQuietMoves_0 : decode cX6_listQuietMoves 0 = .ok (.iload_n 1, 1) := by decide +kernel
theorem dX6_listQuietMoves_1 : decode cX6_listQuietMoves 1 = .ok (.bipush 6, 2) := by decide +kernel
theorem dX6_listQuietMoves_3 : decode cX6_listQuietMoves 3 = .ok (.idiv, 1) := by decide +kernel
theorem dX6_listQuietMoves_4 : decode cX6_listQuietMoves 4 = .ok (.istore_n 3, 1) := by decide +kernel
theorem dX6_listQuietMoves_5 : decode cX6_listQuietMoves 5 = .ok (.iload_n 1, 1) := by decide +kernel
theorem dX6_listQuietMoves_6 : decode cX6_listQuietMoves 6 = .ok (.bipush 6, 2) := by decide +kernel
theorem dX6_listQuietMoves_8 : decode cX6_listQuietMoves 8 = .ok (.irem, 1) := by decide +kernel
theorem dX6_listQuietMoves_9 : decode cX6_listQuietMoves 9 = .ok (.istore 4, 2) := by decide +kernel
theorem dX6_listQuietMoves_11 : decode cX6_listQuietMoves 11 = .ok (.iconst 0, 1) := by decide +kernel
theorem dX6_listQuietMoves_12 : decode cX6_listQuietMoves 12 = .ok (.iload_n 3, 1) := by decide +kernel
theorem dX6_listQuietMoves_13 : decode cX6_listQuietMoves 13 = .ok (.iconst 1, 1) := by decide +kernel
theorem dX6_listQuietMoves_14 : decode cX6_listQuietMoves 14 = .ok (.isub, 1) := by decide +kernel
theorem dX6_listQuietMoves_15 : decode cX6_listQuietMoves 15 = .ok (.invokestatic 99, 3) := by decide +kernel
theorem dX6_listQuietMoves_18 : decode cX6_listQuietMoves 18 = .ok (.istore 5, 2) := by decide +kernel
theorem dX6_listQuietMoves_20 : decode cX6_listQuietMoves 20 = .ok (.iload 5, 2) := by decide +kernel
theorem dX6_listQuietMoves_22 : decode cX6_listQuietMoves 22 = .ok (.iconst 5, 1) := by decide +kernel
theorem dX6_listQuietMoves_23 : decode cX6_listQuietMoves 23 = .ok (.iload_n 3, 1) := by decide +kernel
theorem dX6_listQuietMoves_24 : decode cX6_listQuietMoves 24 = .ok (.iconst 1, 1) := by decide +kernel
theorem dX6_listQuietMoves_25 : decode cX6_listQuietMoves 25 = .ok (.iadd, 1) := by decide +kernel
theorem dX6_listQuietMoves_26 : decode cX6_listQuietMoves 26 = .ok (.invokestatic 102, 3) := by decide +kernel
theorem dX6_listQuietMoves_29 : decode cX6_listQuietMoves 29 = .ok (.if_icmp .gt 68, 3) := by decide +kernel
theorem dX6_listQuietMoves_32 : decode cX6_listQuietMoves 32 = .ok (.iconst 0, 1) := by decide +kernel
theorem dX6_listQuietMoves_33 : decode cX6_listQuietMoves 33 = .ok (.iload 4, 2) := by decide +kernel
theorem dX6_listQuietMoves_35 : decode cX6_listQuietMoves 35 = .ok (.iconst 1, 1) := by decide +kernel
theorem dX6_listQuietMoves_36 : decode cX6_listQuietMoves 36 = .ok (.isub, 1) := by decide +kernel
theorem dX6_listQuietMoves_37 : decode cX6_listQuietMoves 37 = .ok (.invokestatic 99, 3) := by decide +kernel
theorem dX6_listQuietMoves_40 : decode cX6_listQuietMoves 40 = .ok (.istore 6, 2) := by decide +kernel
theorem dX6_listQuietMoves_42 : decode cX6_listQuietMoves 42 = .ok (.iload 6, 2) := by decide +kernel
theorem dX6_listQuietMoves_44 : decode cX6_listQuietMoves 44 = .ok (.iconst 5, 1) := by decide +kernel
theorem dX6_listQuietMoves_45 : decode cX6_listQuietMoves 45 = .ok (.iload 4, 2) := by decide +kernel
theorem dX6_listQuietMoves_47 : decode cX6_listQuietMoves 47 = .ok (.iconst 1, 1) := by decide +kernel
theorem dX6_listQuietMoves_48 : decode cX6_listQuietMoves 48 = .ok (.iadd, 1) := by decide +kernel
theorem dX6_listQuietMoves_49 : decode cX6_listQuietMoves 49 = .ok (.invokestatic 102, 3) := by decide +kernel
theorem dX6_listQuietMoves_52 : decode cX6_listQuietMoves 52 = .ok (.if_icmp .gt 39, 3) := by decide +kernel
theorem dX6_listQuietMoves_55 : decode cX6_listQuietMoves 55 = .ok (.iload 5, 2) := by decide +kernel
theorem dX6_listQuietMoves_57 : decode cX6_listQuietMoves 57 = .ok (.bipush 6, 2) := by decide +kernel
theorem dX6_listQuietMoves_59 : decode cX6_listQuietMoves 59 = .ok (.imul, 1) := by decide +kernel
theorem dX6_listQuietMoves_60 : decode cX6_listQuietMoves 60 = .ok (.iload 6, 2) := by decide +kernel
theorem dX6_listQuietMoves_62 : decode cX6_listQuietMoves 62 = .ok (.iadd, 1) := by decide +kernel
theorem dX6_listQuietMoves_63 : decode cX6_listQuietMoves 63 = .ok (.istore 7, 2) := by decide +kernel
theorem dX6_listQuietMoves_65 : decode cX6_listQuietMoves 65 = .ok (.aload_n 0, 1) := by decide +kernel
theorem dX6_listQuietMoves_66 : decode cX6_listQuietMoves 66 = .ok (.iload 7, 2) := by decide +kernel
theorem dX6_listQuietMoves_68 : decode cX6_listQuietMoves 68 = .ok (.invokevirtual 37, 3) := by decide +kernel
theorem dX6_listQuietMoves_71 : decode cX6_listQuietMoves 71 = .ok (.ifCond .ne 14, 3) := by decide +kernel
theorem dX6_listQuietMoves_74 : decode cX6_listQuietMoves 74 = .ok (.aload_n 2, 1) := by decide +kernel
theorem dX6_listQuietMoves_75 : decode cX6_listQuietMoves 75 = .ok (.iload_n 1, 1) := by decide +kernel
theorem dX6_listQuietMoves_76 : decode cX6_listQuietMoves 76 = .ok (.bipush 100, 2) := by decide +kernel
theorem dX6_listQuietMoves_78 : decode cX6_listQuietMoves 78 = .ok (.imul, 1) := by decide +kernel
theorem dX6_listQuietMoves_79 : decode cX6_listQuietMoves 79 = .ok (.iload 7, 2) := by decide +kernel
theorem dX6_listQuietMoves_81 : decode cX6_listQuietMoves 81 = .ok (.iadd, 1) := by decide +kernel
theorem dX6_listQuietMoves_82 : decode cX6_listQuietMoves 82 = .ok (.invokevirtual 105, 3) := by decide +kernel
theorem dX6_listQuietMoves_85 : decode cX6_listQuietMoves 85 = .ok (.iinc 6 1, 3) := by decide +kernel
theorem dX6_listQuietMoves_88 : decode cX6_listQuietMoves 88 = .ok (.goto (-46), 3) := by decide +kernel
theorem dX6_listQuietMoves_91 : decode cX6_listQuietMoves 91 = .ok (.iinc 5 1, 3) := by decide +kernel
theorem dX6_listQuietMoves_94 : decode cX6_listQuietMoves 94 = .ok (.goto (-74), 3) := by decide +kernel
theorem dX6_listQuietMoves_97 : decode cX6_listQuietMoves 97 = .ok (.return_, 1) := by decide +kernel
theorem dX7_init_0 : decode cX7_init 0 = .ok (.aload_n 0, 1) := by decide +kernel
theorem dX7_init_1 : decode cX7_init 1 = .ok (.invokespecial 3, 3) := by decide +kernel
theorem dX7_init_4 : decode cX7_init 4 = .ok (.aload_n 0, 1) := by decide +kernel
theorem dX7_init_5 : decode cX7_init 5 = .ok (.new 9, 3) := by decide +kernel
theorem dX7_init_8 : decode cX7_init 8 = .ok (.dup, 1) := by decide +kernel
theorem dX7_init_9 : decode cX7_init 9 = .ok (.invokespecial 11, 3) := by decide +kernel
theorem dX7_init_12 : decode cX7_init 12 = .ok (.putfield 12, 3) := by decide +kernel
theorem dX7_init_15 : decode cX7_init 15 = .ok (.aload_n 0, 1) := by decide +kernel
theorem dX7_init_16 : decode cX7_init 16 = .ok (.bipush 60, 2) := by decide +kernel
theorem dX7_init_18 : decode cX7_init 18 = .ok (.newarray .long, 2) := by decide +kernel
theorem dX7_init_20 : decode cX7_init 20 = .ok (.putfield 18, 3) := by decide +kernel
theorem dX7_init_23 : decode cX7_init 23 = .ok (.aload_n 0, 1) := by decide +kernel
theorem dX7_init_24 : decode cX7_init 24 = .ok (.invokevirtual 22, 3) := by decide +kernel
theorem dX7_init_27 : decode cX7_init 27 = .ok (.return_, 1) := by decide +kernel
theorem dX7_startAnew_0 : decode cX7_startAnew 0 = .ok (.aload_n 0, 1) := by decide +kernel
theorem dX7_startAnew_1 : decode cX7_startAnew 1 = .ok (.getfield 12, 3) := by decide +kernel
theorem dX7_startAnew_4 : decode cX7_startAnew 4 = .ok (.invokevirtual 25, 3) := by decide +kernel
theorem dX7_startAnew_7 : decode cX7_startAnew 7 = .ok (.aload_n 0, 1) := by decide +kernel
theorem dX7_startAnew_8 : decode cX7_startAnew 8 = .ok (.iconst 0, 1) := by decide +kernel
theorem dX7_startAnew_9 : decode cX7_startAnew 9 = .ok (.putfield 28, 3) := by decide +kernel
theorem dX7_startAnew_12 : decode cX7_startAnew 12 = .ok (.aload_n 0, 1) := by decide +kernel
theorem dX7_startAnew_13 : decode cX7_startAnew 13 = .ok (.iconst 0, 1) := by decide +kernel
theorem dX7_startAnew_14 : decode cX7_startAnew 14 = .ok (.putfield 32, 3) := by decide +kernel
theorem dX7_startAnew_17 : decode cX7_startAnew 17 = .ok (.aload_n 0, 1) := by decide +kernel
theorem dX7_startAnew_18 : decode cX7_startAnew 18 = .ok (.invokevirtual 35, 3) := by decide +kernel
theorem dX7_startAnew_21 : decode cX7_startAnew 21 = .ok (.return_, 1) := by decide +kernel
theorem dX7_makeMove_0 : decode cX7_makeMove 0 = .ok (.aload_n 0, 1) := by decide +kernel
theorem dX7_makeMove_1 : decode cX7_makeMove 1 = .ok (.dup, 1) := by decide +kernel
theorem dX7_makeMove_2 : decode cX7_makeMove 2 = .ok (.getfield 28, 3) := by decide +kernel
theorem dX7_makeMove_5 : decode cX7_makeMove 5 = .ok (.iconst 1, 1) := by decide +kernel
theorem dX7_makeMove_6 : decode cX7_makeMove 6 = .ok (.iadd, 1) := by decide +kernel
theorem dX7_makeMove_7 : decode cX7_makeMove 7 = .ok (.putfield 28, 3) := by decide +kernel
theorem dX7_makeMove_10 : decode cX7_makeMove 10 = .ok (.aload_n 0, 1) := by decide +kernel
theorem dX7_makeMove_11 : decode cX7_makeMove 11 = .ok (.getfield 12, 3) := by decide +kernel
theorem dX7_makeMove_14 : decode cX7_makeMove 14 = .ok (.iload_n 1, 1) := by decide +kernel
theorem dX7_makeMove_15 : decode cX7_makeMove 15 = .ok (.iload_n 2, 1) := by decide +kernel
theorem dX7_makeMove_16 : decode cX7_makeMove 16 = .ok (.invokevirtual 38, 3) := by decide +kernel
theorem dX7_makeMove_19 : decode cX7_makeMove 19 = .ok (.ifCond .ne 10, 3) := by decide +kernel
theorem dX7_makeMove_22 : decode cX7_makeMove 22 = .ok (.aload_n 0, 1) := by decide +kernel
theorem dX7_makeMove_23 : decode cX7_makeMove 23 = .ok (.invokevirtual 22, 3) := by decide +kernel
theorem dX7_makeMove_26 : decode cX7_makeMove 26 = .ok (.goto 17, 3) := by decide +kernel
theorem dX7_makeMove_29 : decode cX7_makeMove 29 = .ok (.aload_n 0, 1) := by decide +kernel
theorem dX7_makeMove_30 : decode cX7_makeMove 30 = .ok (.dup, 1) := by decide +kernel
theorem dX7_makeMove_31 : decode cX7_makeMove 31 = .ok (.getfield 32, 3) := by decide +kernel
theorem dX7_makeMove_34 : decode cX7_makeMove 34 = .ok (.iconst 1, 1) := by decide +kernel
theorem dX7_makeMove_35 : decode cX7_makeMove 35 = .ok (.iadd, 1) := by decide +kernel
theorem dX7_makeMove_36 : decode cX7_makeMove 36 = .ok (.putfield 32, 3) := by decide +kernel
theorem dX7_makeMove_39 : decode cX7_makeMove 39 = .ok (.aload_n 0, 1) := by decide +kernel
theorem dX7_makeMove_40 : decode cX7_makeMove 40 = .ok (.invokevirtual 35, 3) := by decide +kernel
theorem dX7_makeMove_43 : decode cX7_makeMove 43 = .ok (.return_, 1) := by decide +kernel
theorem dX7_place_0 : decode cX7_place 0 = .ok (.aload_n 0, 1) := by decide +kernel
theorem dX7_place_1 : decode cX7_place 1 = .ok (.getfield 12, 3) := by decide +kernel
theorem dX7_place_4 : decode cX7_place 4 = .ok (.iload_n 1, 1) := by decide +kernel
theorem dX7_place_5 : decode cX7_place 5 = .ok (.iload_n 2, 1) := by decide +kernel
theorem dX7_place_6 : decode cX7_place 6 = .ok (.invokevirtual 42, 3) := by decide +kernel
theorem dX7_place_9 : decode cX7_place 9 = .ok (.aload_n 0, 1) := by decide +kernel
theorem dX7_place_10 : decode cX7_place 10 = .ok (.getfield 12, 3) := by decide +kernel
theorem dX7_place_13 : decode cX7_place 13 = .ok (.invokevirtual 46, 3) := by decide +kernel
theorem dX7_place_16 : decode cX7_place 16 = .ok (.aload_n 0, 1) := by decide +kernel
theorem dX7_place_17 : decode cX7_place 17 = .ok (.invokevirtual 35, 3) := by decide +kernel
theorem dX7_place_20 : decode cX7_place 20 = .ok (.return_, 1) := by decide +kernel
theorem dX7_changeSide_0 : decode cX7_changeSide 0 = .ok (.aload_n 0, 1) := by decide +kernel
theorem dX7_changeSide_1 : decode cX7_changeSide 1 = .ok (.getfield 12, 3) := by decide +kernel
theorem dX7_changeSide_4 : decode cX7_changeSide 4 = .ok (.invokevirtual 49, 3) := by decide +kernel
theorem dX7_changeSide_7 : decode cX7_changeSide 7 = .ok (.aload_n 0, 1) := by decide +kernel
theorem dX7_changeSide_8 : decode cX7_changeSide 8 = .ok (.getfield 12, 3) := by decide +kernel
theorem dX7_changeSide_11 : decode cX7_changeSide 11 = .ok (.invokevirtual 46, 3) := by decide +kernel
theorem dX7_changeSide_14 : decode cX7_changeSide 14 = .ok (.aload_n 0, 1) := by decide +kernel
theorem dX7_changeSide_15 : decode cX7_changeSide 15 = .ok (.invokevirtual 35, 3) := by decide +kernel
theorem dX7_changeSide_18 : decode cX7_changeSide 18 = .ok (.return_, 1) := by decide +kernel
theorem dX7_forgetPositions_0 : decode cX7_forgetPositions 0 = .ok (.aload_n 0, 1) := by decide +kernel
theorem dX7_forgetPositions_1 : decode cX7_forgetPositions 1 = .ok (.iconst 0, 1) := by decide +kernel
theorem dX7_forgetPositions_2 : decode cX7_forgetPositions 2 = .ok (.putfield 52, 3) := by decide +kernel
theorem dX7_forgetPositions_5 : decode cX7_forgetPositions 5 = .ok (.aload_n 0, 1) := by decide +kernel
theorem dX7_forgetPositions_6 : decode cX7_forgetPositions 6 = .ok (.invokevirtual 22, 3) := by decide +kernel
theorem dX7_forgetPositions_9 : decode cX7_forgetPositions 9 = .ok (.return_, 1) := by decide +kernel
theorem dX7_remember_0 : decode cX7_remember 0 = .ok (.aload_n 0, 1) := by decide +kernel
theorem dX7_remember_1 : decode cX7_remember 1 = .ok (.getfield 52, 3) := by decide +kernel
theorem dX7_remember_4 : decode cX7_remember 4 = .ok (.aload_n 0, 1) := by decide +kernel
theorem dX7_remember_5 : decode cX7_remember 5 = .ok (.getfield 18, 3) := by decide +kernel
theorem dX7_remember_8 : decode cX7_remember 8 = .ok (.arraylength, 1) := by decide +kernel
theorem dX7_remember_9 : decode cX7_remember 9 = .ok (.if_icmp .lt 45, 3) := by decide +kernel
theorem dX7_remember_12 : decode cX7_remember 12 = .ok (.iconst 1, 1) := by decide +kernel
theorem dX7_remember_13 : decode cX7_remember 13 = .ok (.istore_n 1, 1) := by decide +kernel
theorem dX7_remember_14 : decode cX7_remember 14 = .ok (.iload_n 1, 1) := by decide +kernel
theorem dX7_remember_15 : decode cX7_remember 15 = .ok (.aload_n 0, 1) := by decide +kernel
theorem dX7_remember_16 : decode cX7_remember 16 = .ok (.getfield 18, 3) := by decide +kernel
theorem dX7_remember_19 : decode cX7_remember 19 = .ok (.arraylength, 1) := by decide +kernel
theorem dX7_remember_20 : decode cX7_remember 20 = .ok (.if_icmp .ge 23, 3) := by decide +kernel
theorem dX7_remember_23 : decode cX7_remember 23 = .ok (.aload_n 0, 1) := by decide +kernel
theorem dX7_remember_24 : decode cX7_remember 24 = .ok (.getfield 18, 3) := by decide +kernel
theorem dX7_remember_27 : decode cX7_remember 27 = .ok (.iload_n 1, 1) := by decide +kernel
theorem dX7_remember_28 : decode cX7_remember 28 = .ok (.iconst 1, 1) := by decide +kernel
theorem dX7_remember_29 : decode cX7_remember 29 = .ok (.isub, 1) := by decide +kernel
theorem dX7_remember_30 : decode cX7_remember 30 = .ok (.aload_n 0, 1) := by decide +kernel
theorem dX7_remember_31 : decode cX7_remember 31 = .ok (.getfield 18, 3) := by decide +kernel
theorem dX7_remember_34 : decode cX7_remember 34 = .ok (.iload_n 1, 1) := by decide +kernel
theorem dX7_remember_35 : decode cX7_remember 35 = .ok (.laload, 1) := by decide +kernel
theorem dX7_remember_36 : decode cX7_remember 36 = .ok (.lastore, 1) := by decide +kernel
theorem dX7_remember_37 : decode cX7_remember 37 = .ok (.iinc 1 1, 3) := by decide +kernel
theorem dX7_remember_40 : decode cX7_remember 40 = .ok (.goto (-26), 3) := by decide +kernel
theorem dX7_remember_43 : decode cX7_remember 43 = .ok (.aload_n 0, 1) := by decide +kernel
theorem dX7_remember_44 : decode cX7_remember 44 = .ok (.aload_n 0, 1) := by decide +kernel
theorem dX7_remember_45 : decode cX7_remember 45 = .ok (.getfield 18, 3) := by decide +kernel
theorem dX7_remember_48 : decode cX7_remember 48 = .ok (.arraylength, 1) := by decide +kernel
theorem dX7_remember_49 : decode cX7_remember 49 = .ok (.iconst 1, 1) := by decide +kernel
theorem dX7_remember_50 : decode cX7_remember 50 = .ok (.isub, 1) := by decide +kernel
theorem dX7_remember_51 : decode cX7_remember 51 = .ok (.putfield 52, 3) := by decide +kernel
theorem dX7_remember_54 : decode cX7_remember 54 = .ok (.aload_n 0, 1) := by decide +kernel
theorem dX7_remember_55 : decode cX7_remember 55 = .ok (.getfield 52, 3) := by decide +kernel
theorem dX7_remember_58 : decode cX7_remember 58 = .ok (.ifCond .lt 41, 3) := by decide +kernel
theorem dX7_remember_61 : decode cX7_remember 61 = .ok (.aload_n 0, 1) := by decide +kernel
theorem dX7_remember_62 : decode cX7_remember 62 = .ok (.getfield 52, 3) := by decide +kernel
theorem dX7_remember_65 : decode cX7_remember 65 = .ok (.aload_n 0, 1) := by decide +kernel
theorem dX7_remember_66 : decode cX7_remember 66 = .ok (.getfield 18, 3) := by decide +kernel
theorem dX7_remember_69 : decode cX7_remember 69 = .ok (.arraylength, 1) := by decide +kernel
theorem dX7_remember_70 : decode cX7_remember 70 = .ok (.if_icmp .ge 29, 3) := by decide +kernel
theorem dX7_remember_73 : decode cX7_remember 73 = .ok (.aload_n 0, 1) := by decide +kernel
theorem dX7_remember_74 : decode cX7_remember 74 = .ok (.getfield 18, 3) := by decide +kernel
theorem dX7_remember_77 : decode cX7_remember 77 = .ok (.aload_n 0, 1) := by decide +kernel
theorem dX7_remember_78 : decode cX7_remember 78 = .ok (.getfield 52, 3) := by decide +kernel
theorem dX7_remember_81 : decode cX7_remember 81 = .ok (.aload_n 0, 1) := by decide +kernel
theorem dX7_remember_82 : decode cX7_remember 82 = .ok (.getfield 12, 3) := by decide +kernel
theorem dX7_remember_85 : decode cX7_remember 85 = .ok (.invokevirtual 55, 3) := by decide +kernel
theorem dX7_remember_88 : decode cX7_remember 88 = .ok (.lastore, 1) := by decide +kernel
theorem dX7_remember_89 : decode cX7_remember 89 = .ok (.aload_n 0, 1) := by decide +kernel
theorem dX7_remember_90 : decode cX7_remember 90 = .ok (.dup, 1) := by decide +kernel
theorem dX7_remember_91 : decode cX7_remember 91 = .ok (.getfield 52, 3) := by decide +kernel
theorem dX7_remember_94 : decode cX7_remember 94 = .ok (.iconst 1, 1) := by decide +kernel
theorem dX7_remember_95 : decode cX7_remember 95 = .ok (.iadd, 1) := by decide +kernel
theorem dX7_remember_96 : decode cX7_remember 96 = .ok (.putfield 52, 3) := by decide +kernel
theorem dX7_remember_99 : decode cX7_remember 99 = .ok (.return_, 1) := by decide +kernel
theorem dX7_timesSeen_0 : decode cX7_timesSeen 0 = .ok (.aload_n 0, 1) := by decide +kernel
theorem dX7_timesSeen_1 : decode cX7_timesSeen 1 = .ok (.getfield 12, 3) := by decide +kernel
theorem dX7_timesSeen_4 : decode cX7_timesSeen 4 = .ok (.invokevirtual 55, 3) := by decide +kernel
theorem dX7_timesSeen_7 : decode cX7_timesSeen 7 = .ok (.lstore_n 1, 1) := by decide +kernel
theorem dX7_timesSeen_8 : decode cX7_timesSeen 8 = .ok (.iconst 0, 1) := by decide +kernel
theorem dX7_timesSeen_9 : decode cX7_timesSeen 9 = .ok (.istore_n 3, 1) := by decide +kernel
theorem dX7_timesSeen_10 : decode cX7_timesSeen 10 = .ok (.iconst 0, 1) := by decide +kernel
theorem dX7_timesSeen_11 : decode cX7_timesSeen 11 = .ok (.istore 4, 2) := by decide +kernel
theorem dX7_timesSeen_13 : decode cX7_timesSeen 13 = .ok (.iload 4, 2) := by decide +kernel
theorem dX7_timesSeen_15 : decode cX7_timesSeen 15 = .ok (.aload_n 0, 1) := by decide +kernel
theorem dX7_timesSeen_16 : decode cX7_timesSeen 16 = .ok (.getfield 52, 3) := by decide +kernel
theorem dX7_timesSeen_19 : decode cX7_timesSeen 19 = .ok (.if_icmp .ge 34, 3) := by decide +kernel
theorem dX7_timesSeen_22 : decode cX7_timesSeen 22 = .ok (.iload 4, 2) := by decide +kernel
theorem dX7_timesSeen_24 : decode cX7_timesSeen 24 = .ok (.aload_n 0, 1) := by decide +kernel
theorem dX7_timesSeen_25 : decode cX7_timesSeen 25 = .ok (.getfield 18, 3) := by decide +kernel
theorem dX7_timesSeen_28 : decode cX7_timesSeen 28 = .ok (.arraylength, 1) := by decide +kernel
theorem dX7_timesSeen_29 : decode cX7_timesSeen 29 = .ok (.if_icmp .ge 24, 3) := by decide +kernel
theorem dX7_timesSeen_32 : decode cX7_timesSeen 32 = .ok (.aload_n 0, 1) := by decide +kernel
theorem dX7_timesSeen_33 : decode cX7_timesSeen 33 = .ok (.getfield 18, 3) := by decide +kernel
theorem dX7_timesSeen_36 : decode cX7_timesSeen 36 = .ok (.iload 4, 2) := by decide +kernel
theorem dX7_timesSeen_38 : decode cX7_timesSeen 38 = .ok (.laload, 1) := by decide +kernel
theorem dX7_timesSeen_39 : decode cX7_timesSeen 39 = .ok (.lload_n 1, 1) := by decide +kernel
theorem dX7_timesSeen_40 : decode cX7_timesSeen 40 = .ok (.lcmp, 1) := by decide +kernel
theorem dX7_timesSeen_41 : decode cX7_timesSeen 41 = .ok (.ifCond .ne 6, 3) := by decide +kernel
theorem dX7_timesSeen_44 : decode cX7_timesSeen 44 = .ok (.iinc 3 1, 3) := by decide +kernel
theorem dX7_timesSeen_47 : decode cX7_timesSeen 47 = .ok (.iinc 4 1, 3) := by decide +kernel
theorem dX7_timesSeen_50 : decode cX7_timesSeen 50 = .ok (.goto (-37), 3) := by decide +kernel
theorem dX7_timesSeen_53 : decode cX7_timesSeen 53 = .ok (.iload_n 3, 1) := by decide +kernel
theorem dX7_timesSeen_54 : decode cX7_timesSeen 54 = .ok (.ireturn, 1) := by decide +kernel
theorem dX7_copyFrom_0 : decode cX7_copyFrom 0 = .ok (.aload_n 0, 1) := by decide +kernel
theorem dX7_copyFrom_1 : decode cX7_copyFrom 1 = .ok (.getfield 12, 3) := by decide +kernel
theorem dX7_copyFrom_4 : decode cX7_copyFrom 4 = .ok (.aload_n 1, 1) := by decide +kernel
theorem dX7_copyFrom_5 : decode cX7_copyFrom 5 = .ok (.getfield 12, 3) := by decide +kernel
theorem dX7_copyFrom_8 : decode cX7_copyFrom 8 = .ok (.invokevirtual 59, 3) := by decide +kernel
theorem dX7_copyFrom_11 : decode cX7_copyFrom 11 = .ok (.aload_n 0, 1) := by decide +kernel
theorem dX7_copyFrom_12 : decode cX7_copyFrom 12 = .ok (.aload_n 1, 1) := by decide +kernel
theorem dX7_copyFrom_13 : decode cX7_copyFrom 13 = .ok (.getfield 28, 3) := by decide +kernel
theorem dX7_copyFrom_16 : decode cX7_copyFrom 16 = .ok (.putfield 28, 3) := by decide +kernel
theorem dX7_copyFrom_19 : decode cX7_copyFrom 19 = .ok (.aload_n 0, 1) := by decide +kernel
theorem dX7_copyFrom_20 : decode cX7_copyFrom 20 = .ok (.aload_n 1, 1) := by decide +kernel
theorem dX7_copyFrom_21 : decode cX7_copyFrom 21 = .ok (.getfield 32, 3) := by decide +kernel
theorem dX7_copyFrom_24 : decode cX7_copyFrom 24 = .ok (.putfield 32, 3) := by decide +kernel
theorem dX7_copyFrom_27 : decode cX7_copyFrom 27 = .ok (.aload_n 0, 1) := by decide +kernel
theorem dX7_copyFrom_28 : decode cX7_copyFrom 28 = .ok (.aload_n 1, 1) := by decide +kernel
theorem dX7_copyFrom_29 : decode cX7_copyFrom 29 = .ok (.getfield 52, 3) := by decide +kernel
theorem dX7_copyFrom_32 : decode cX7_copyFrom 32 = .ok (.putfield 52, 3) := by decide +kernel
theorem dX7_copyFrom_35 : decode cX7_copyFrom 35 = .ok (.iconst 0, 1) := by decide +kernel
theorem dX7_copyFrom_36 : decode cX7_copyFrom 36 = .ok (.istore_n 2, 1) := by decide +kernel
theorem dX7_copyFrom_37 : decode cX7_copyFrom 37 = .ok (.iload_n 2, 1) := by decide +kernel
theorem dX7_copyFrom_38 : decode cX7_copyFrom 38 = .ok (.bipush 60, 2) := by decide +kernel
theorem dX7_copyFrom_40 : decode cX7_copyFrom 40 = .ok (.if_icmp .ge 21, 3) := by decide +kernel
theorem dX7_copyFrom_43 : decode cX7_copyFrom 43 = .ok (.aload_n 0, 1) := by decide +kernel
theorem dX7_copyFrom_44 : decode cX7_copyFrom 44 = .ok (.getfield 18, 3) := by decide +kernel
theorem dX7_copyFrom_47 : decode cX7_copyFrom 47 = .ok (.iload_n 2, 1) := by decide +kernel
theorem dX7_copyFrom_48 : decode cX7_copyFrom 48 = .ok (.aload_n 1, 1) := by decide +kernel
theorem dX7_copyFrom_49 : decode cX7_copyFrom 49 = .ok (.getfield 18, 3) := by decide +kernel
theorem dX7_copyFrom_52 : decode cX7_copyFrom 52 = .ok (.iload_n 2, 1) := by decide +kernel
theorem dX7_copyFrom_53 : decode cX7_copyFrom 53 = .ok (.laload, 1) := by decide +kernel
theorem dX7_copyFrom_54 : decode cX7_copyFrom 54 = .ok (.lastore, 1) := by decide +kernel
theorem dX7_copyFrom_55 : decode cX7_copyFrom 55 = .ok (.iinc 2 1, 3) := by decide +kernel
theorem dX7_copyFrom_58 : decode cX7_copyFrom 58 = .ok (.goto (-21), 3) := by decide +kernel
theorem dX7_copyFrom_61 : decode cX7_copyFrom 61 = .ok (.return_, 1) := by decide +kernel
theorem dX8_init_0 : decode cX8_init 0 = .ok (.aload_n 0, 1) := by decide +kernel
theorem dX8_init_1 : decode cX8_init 1 = .ok (.invokespecial 3, 3) := by decide +kernel
theorem dX8_init_4 : decode cX8_init 4 = .ok (.aload_n 0, 1) := by decide +kernel
theorem dX8_init_5 : decode cX8_init 5 = .ok (.aload_n 1, 1) := by decide +kernel
theorem dX8_init_6 : decode cX8_init 6 = .ok (.putfield 9, 3) := by decide +kernel
theorem dX8_init_9 : decode cX8_init 9 = .ok (.return_, 1) := by decide +kernel
theorem dX8_go_0 : decode cX8_go 0 = .ok (.aload_n 0, 1) := by decide +kernel
theorem dX8_go_1 : decode cX8_go 1 = .ok (.iconst (-1), 1) := by decide +kernel
theorem dX8_go_2 : decode cX8_go 2 = .ok (.putfield 15, 3) := by decide +kernel
theorem dX8_go_5 : decode cX8_go 5 = .ok (.aload_n 0, 1) := by decide +kernel
theorem dX8_go_6 : decode cX8_go 6 = .ok (.iconst 0, 1) := by decide +kernel
theorem dX8_go_7 : decode cX8_go 7 = .ok (.putfield 19, 3) := by decide +kernel
theorem dX8_go_10 : decode cX8_go 10 = .ok (.aload_n 0, 1) := by decide +kernel
theorem dX8_go_11 : decode cX8_go 11 = .ok (.iconst 0, 1) := by decide +kernel
theorem dX8_go_12 : decode cX8_go 12 = .ok (.putfield 22, 3) := by decide +kernel
theorem dX8_go_15 : decode cX8_go 15 = .ok (.aload_n 0, 1) := by decide +kernel
theorem dX8_go_16 : decode cX8_go 16 = .ok (.getfield 9, 3) := by decide +kernel
theorem dX8_go_19 : decode cX8_go 19 = .ok (.iload_n 2, 1) := by decide +kernel
theorem dX8_go_20 : decode cX8_go 20 = .ok (.invokevirtual 25, 3) := by decide +kernel
theorem dX8_go_23 : decode cX8_go 23 = .ok (.istore 4, 2) := by decide +kernel
theorem dX8_go_25 : decode cX8_go 25 = .ok (.iload_n 2, 1) := by decide +kernel
theorem dX8_go_26 : decode cX8_go 26 = .ok (.bipush 24, 2) := by decide +kernel
theorem dX8_go_28 : decode cX8_go 28 = .ok (.irem, 1) := by decide +kernel
theorem dX8_go_29 : decode cX8_go 29 = .ok (.istore 5, 2) := by decide +kernel
theorem dX8_go_31 : decode cX8_go 31 = .ok (.iload_n 2, 1) := by decide +kernel
theorem dX8_go_32 : decode cX8_go 32 = .ok (.iload 5, 2) := by decide +kernel
theorem dX8_go_34 : decode cX8_go 34 = .ok (.isub, 1) := by decide +kernel
theorem dX8_go_35 : decode cX8_go 35 = .ok (.istore 6, 2) := by decide +kernel
theorem dX8_go_37 : decode cX8_go 37 = .ok (.iload_n 3, 1) := by decide +kernel
theorem dX8_go_38 : decode cX8_go 38 = .ok (.ifCond .le 7, 3) := by decide +kernel
theorem dX8_go_41 : decode cX8_go 41 = .ok (.iconst 5, 1) := by decide +kernel
theorem dX8_go_42 : decode cX8_go 42 = .ok (.goto 4, 3) := by decide +kernel
theorem dX8_go_45 : decode cX8_go 45 = .ok (.iconst 0, 1) := by decide +kernel
theorem dX8_go_46 : decode cX8_go 46 = .ok (.istore 7, 2) := by decide +kernel
theorem dX8_go_48 : decode cX8_go 48 = .ok (.iconst 1, 1) := by decide +kernel
theorem dX8_go_49 : decode cX8_go 49 = .ok (.istore 8, 2) := by decide +kernel
theorem dX8_go_51 : decode cX8_go 51 = .ok (.iload 8, 2) := by decide +kernel
theorem dX8_go_53 : decode cX8_go 53 = .ok (.bipush 24, 2) := by decide +kernel
theorem dX8_go_55 : decode cX8_go 55 = .ok (.if_icmp .ge 84, 3) := by decide +kernel
theorem dX8_go_58 : decode cX8_go 58 = .ok (.iload 5, 2) := by decide +kernel
theorem dX8_go_60 : decode cX8_go 60 = .ok (.bipush 6, 2) := by decide +kernel
theorem dX8_go_62 : decode cX8_go 62 = .ok (.irem, 1) := by decide +kernel
theorem dX8_go_63 : decode cX8_go 63 = .ok (.iload 7, 2) := by decide +kernel
theorem dX8_go_65 : decode cX8_go 65 = .ok (.if_icmp .ne 13, 3) := by decide +kernel
theorem dX8_go_68 : decode cX8_go 68 = .ok (.aload_n 0, 1) := by decide +kernel
theorem dX8_go_69 : decode cX8_go 69 = .ok (.dup, 1) := by decide +kernel
theorem dX8_go_70 : decode cX8_go 70 = .ok (.getfield 19, 3) := by decide +kernel
theorem dX8_go_73 : decode cX8_go 73 = .ok (.iconst 1, 1) := by decide +kernel
theorem dX8_go_74 : decode cX8_go 74 = .ok (.iadd, 1) := by decide +kernel
theorem dX8_go_75 : decode cX8_go 75 = .ok (.putfield 19, 3) := by decide +kernel
theorem dX8_go_78 : decode cX8_go 78 = .ok (.iload 5, 2) := by decide +kernel
theorem dX8_go_80 : decode cX8_go 80 = .ok (.iload_n 3, 1) := by decide +kernel
theorem dX8_go_81 : decode cX8_go 81 = .ok (.iadd, 1) := by decide +kernel
theorem dX8_go_82 : decode cX8_go 82 = .ok (.bipush 24, 2) := by decide +kernel
theorem dX8_go_84 : decode cX8_go 84 = .ok (.iadd, 1) := by decide +kernel
theorem dX8_go_85 : decode cX8_go 85 = .ok (.bipush 24, 2) := by decide +kernel
theorem dX8_go_87 : decode cX8_go 87 = .ok (.irem, 1) := by decide +kernel
theorem dX8_go_88 : decode cX8_go 88 = .ok (.istore 5, 2) := by decide +kernel
theorem dX8_go_90 : decode cX8_go 90 = .ok (.aload_n 0, 1) := by decide +kernel
theorem dX8_go_91 : decode cX8_go 91 = .ok (.getfield 9, 3) := by decide +kernel
theorem dX8_go_94 : decode cX8_go 94 = .ok (.iload 6, 2) := by decide +kernel
theorem dX8_go_96 : decode cX8_go 96 = .ok (.iload 5, 2) := by decide +kernel
theorem dX8_go_98 : decode cX8_go 98 = .ok (.iadd, 1) := by decide +kernel
theorem dX8_go_99 : decode cX8_go 99 = .ok (.invokevirtual 25, 3) := by decide +kernel
theorem dX8_go_102 : decode cX8_go 102 = .ok (.istore 9, 2) := by decide +kernel
theorem dX8_go_104 : decode cX8_go 104 = .ok (.iload 9, 2) := by decide +kernel
theorem dX8_go_106 : decode cX8_go 106 = .ok (.iload 4, 2) := by decide +kernel
theorem dX8_go_108 : decode cX8_go 108 = .ok (.if_icmp .eq 25, 3) := by decide +kernel
theorem dX8_go_111 : decode cX8_go 111 = .ok (.aload_n 1, 1) := by decide +kernel
theorem dX8_go_112 : decode cX8_go 112 = .ok (.iload 9, 2) := by decide +kernel
theorem dX8_go_114 : decode cX8_go 114 = .ok (.invokevirtual 31, 3) := by decide +kernel
theorem dX8_go_117 : decode cX8_go 117 = .ok (.ifCond .eq 16, 3) := by decide +kernel
theorem dX8_go_120 : decode cX8_go 120 = .ok (.aload_n 0, 1) := by decide +kernel
theorem dX8_go_121 : decode cX8_go 121 = .ok (.iload 9, 2) := by decide +kernel
theorem dX8_go_123 : decode cX8_go 123 = .ok (.putfield 15, 3) := by decide +kernel
theorem dX8_go_126 : decode cX8_go 126 = .ok (.aload_n 0, 1) := by decide +kernel
theorem dX8_go_127 : decode cX8_go 127 = .ok (.iload 8, 2) := by decide +kernel
theorem dX8_go_129 : decode cX8_go 129 = .ok (.putfield 22, 3) := by decide +kernel
theorem dX8_go_132 : decode cX8_go 132 = .ok (.return_, 1) := by decide +kernel
theorem dX8_go_133 : decode cX8_go 133 = .ok (.iinc 8 1, 3) := by decide +kernel
theorem dX8_go_136 : decode cX8_go 136 = .ok (.goto (-85), 3) := by decide +kernel
theorem dX8_go_139 : decode cX8_go 139 = .ok (.return_, 1) := by decide +kernel
theorem dX8_wentOverLoopTo_0 : decode cX8_wentOverLoopTo 0 = .ok (.aload_n 0, 1) := by decide +kernel
theorem dX8_wentOverLoopTo_1 : decode cX8_wentOverLoopTo 1 = .ok (.getfield 19, 3) := by decide +kernel
theorem dX8_wentOverLoopTo_4 : decode cX8_wentOverLoopTo 4 = .ok (.ifCond .le 15, 3) := by decide +kernel
theorem dX8_wentOverLoopTo_7 : decode cX8_wentOverLoopTo 7 = .ok (.aload_n 0, 1) := by decide +kernel
theorem dX8_wentOverLoopTo_8 : decode cX8_wentOverLoopTo 8 = .ok (.getfield 15, 3) := by decide +kernel
theorem dX8_wentOverLoopTo_11 : decode cX8_wentOverLoopTo 11 = .ok (.iload_n 1, 1) := by decide +kernel
theorem dX8_wentOverLoopTo_12 : decode cX8_wentOverLoopTo 12 = .ok (.if_icmp .ne 7, 3) := by decide +kernel
theorem dX8_wentOverLoopTo_15 : decode cX8_wentOverLoopTo 15 = .ok (.iconst 1, 1) := by decide +kernel
theorem dX8_wentOverLoopTo_16 : decode cX8_wentOverLoopTo 16 = .ok (.goto 4, 3) := by decide +kernel
theorem dX8_wentOverLoopTo_19 : decode cX8_wentOverLoopTo 19 = .ok (.iconst 0, 1) := by decide +kernel
theorem dX8_wentOverLoopTo_20 : decode cX8_wentOverLoopTo 20 = .ok (.ireturn, 1) := by decide +kernel
theorem dX9_init_0 : decode cX9_init 0 = .ok (.aload_n 0, 1) := by decide +kernel
theorem dX9_init_1 : decode cX9_init 1 = .ok (.invokespecial 3, 3) := by decide +kernel
theorem dX9_init_4 : decode cX9_init 4 = .ok (.aload_n 0, 1) := by decide +kernel
theorem dX9_init_5 : decode cX9_init 5 = .ok (.aload_n 1, 1) := by decide +kernel
theorem dX9_init_6 : decode cX9_init 6 = .ok (.putfield 9, 3) := by decide +kernel
theorem dX9_init_9 : decode cX9_init 9 = .ok (.aload_n 0, 1) := by decide +kernel
theorem dX9_init_10 : decode cX9_init 10 = .ok (.new 15, 3) := by decide +kernel
theorem dX9_init_13 : decode cX9_init 13 = .ok (.dup, 1) := by decide +kernel
theorem dX9_init_14 : decode cX9_init 14 = .ok (.aload_n 1, 1) := by decide +kernel
theorem dX9_init_15 : decode cX9_init 15 = .ok (.invokespecial 17, 3) := by decide +kernel
theorem dX9_init_18 : decode cX9_init 18 = .ok (.putfield 20, 3) := by decide +kernel
theorem dX9_init_21 : decode cX9_init 21 = .ok (.return_, 1) := by decide +kernel
theorem dX9_find_0 : decode cX9_find 0 = .ok (.aload_n 0, 1) := by decide +kernel
theorem dX9_find_1 : decode cX9_find 1 = .ok (.iconst 0, 1) := by decide +kernel
theorem dX9_find_2 : decode cX9_find 2 = .ok (.putfield 24, 3) := by decide +kernel
theorem dX9_find_5 : decode cX9_find 5 = .ok (.iconst 0, 1) := by decide +kernel
theorem dX9_find_6 : decode cX9_find 6 = .ok (.istore 4, 2) := by decide +kernel
theorem dX9_find_8 : decode cX9_find 8 = .ok (.iload 4, 2) := by decide +kernel
theorem dX9_find_10 : decode cX9_find 10 = .ok (.iconst 2, 1) := by decide +kernel
theorem dX9_find_11 : decode cX9_find 11 = .ok (.if_icmp .ge 45, 3) := by decide +kernel
theorem dX9_find_14 : decode cX9_find 14 = .ok (.aload_n 0, 1) := by decide +kernel
theorem dX9_find_15 : decode cX9_find 15 = .ok (.getfield 9, 3) := by decide +kernel
theorem dX9_find_18 : decode cX9_find 18 = .ok (.iload_n 2, 1) := by decide +kernel
theorem dX9_find_19 : decode cX9_find 19 = .ok (.iload 4, 2) := by decide +kernel
theorem dX9_find_21 : decode cX9_find 21 = .ok (.invokevirtual 30, 3) := by decide +kernel
theorem dX9_find_24 : decode cX9_find 24 = .ok (.istore 5, 2) := by decide +kernel
theorem dX9_find_26 : decode cX9_find 26 = .ok (.iload 5, 2) := by decide +kernel
theorem dX9_find_28 : decode cX9_find 28 = .ok (.iconst (-1), 1) := by decide +kernel
theorem dX9_find_29 : decode cX9_find 29 = .ok (.if_icmp .eq 21, 3) := by decide +kernel
theorem dX9_find_32 : decode cX9_find 32 = .ok (.aload_n 0, 1) := by decide +kernel
theorem dX9_find_33 : decode cX9_find 33 = .ok (.aload_n 1, 1) := by decide +kernel
theorem dX9_find_34 : decode cX9_find 34 = .ok (.iload 5, 2) := by decide +kernel
theorem dX9_find_36 : decode cX9_find 36 = .ok (.iconst 1, 1) := by decide +kernel
theorem dX9_find_37 : decode cX9_find 37 = .ok (.iload_n 3, 1) := by decide +kernel
theorem dX9_find_38 : decode cX9_find 38 = .ok (.invokevirtual 34, 3) := by decide +kernel
theorem dX9_find_41 : decode cX9_find 41 = .ok (.aload_n 0, 1) := by decide +kernel
theorem dX9_find_42 : decode cX9_find 42 = .ok (.aload_n 1, 1) := by decide +kernel
theorem dX9_find_43 : decode cX9_find 43 = .ok (.iload 5, 2) := by decide +kernel
theorem dX9_find_45 : decode cX9_find 45 = .ok (.iconst (-1), 1) := by decide +kernel
theorem dX9_find_46 : decode cX9_find 46 = .ok (.iload_n 3, 1) := by decide +kernel
theorem dX9_find_47 : decode cX9_find 47 = .ok (.invokevirtual 34, 3) := by decide +kernel
theorem dX9_find_50 : decode cX9_find 50 = .ok (.iinc 4 1, 3) := by decide +kernel
theorem dX9_find_53 : decode cX9_find 53 = .ok (.goto (-45), 3) := by decide +kernel
theorem dX9_find_56 : decode cX9_find 56 = .ok (.aload_n 0, 1) := by decide +kernel
theorem dX9_find_57 : decode cX9_find 57 = .ok (.getfield 24, 3) := by decide +kernel
theorem dX9_find_60 : decode cX9_find 60 = .ok (.ifCond .le 7, 3) := by decide +kernel
theorem dX9_find_63 : decode cX9_find 63 = .ok (.iconst 1, 1) := by decide +kernel
theorem dX9_find_64 : decode cX9_find 64 = .ok (.goto 4, 3) := by decide +kernel
theorem dX9_find_67 : decode cX9_find 67 = .ok (.iconst 0, 1) := by decide +kernel
theorem dX9_find_68 : decode cX9_find 68 = .ok (.ireturn, 1) := by decide +kernel
theorem dX9_tryFrom_0 : decode cX9_tryFrom 0 = .ok (.aload_n 0, 1) := by decide +kernel
theorem dX9_tryFrom_1 : decode cX9_tryFrom 1 = .ok (.getfield 20, 3) := by decide +kernel
theorem dX9_tryFrom_4 : decode cX9_tryFrom 4 = .ok (.aload_n 1, 1) := by decide +kernel
theorem dX9_tryFrom_5 : decode cX9_tryFrom 5 = .ok (.iload_n 2, 1) := by decide +kernel
theorem dX9_tryFrom_6 : decode cX9_tryFrom 6 = .ok (.iload_n 3, 1) := by decide +kernel
theorem dX9_tryFrom_7 : decode cX9_tryFrom 7 = .ok (.invokevirtual 38, 3) := by decide +kernel
theorem dX9_tryFrom_10 : decode cX9_tryFrom 10 = .ok (.aload_n 0, 1) := by decide +kernel
theorem dX9_tryFrom_11 : decode cX9_tryFrom 11 = .ok (.getfield 20, 3) := by decide +kernel
theorem dX9_tryFrom_14 : decode cX9_tryFrom 14 = .ok (.iload 4, 2) := by decide +kernel
theorem dX9_tryFrom_16 : decode cX9_tryFrom 16 = .ok (.invokevirtual 42, 3) := by decide +kernel
theorem dX9_tryFrom_19 : decode cX9_tryFrom 19 = .ok (.ifCond .eq 49, 3) := by decide +kernel
theorem dX9_tryFrom_22 : decode cX9_tryFrom 22 = .ok (.aload_n 0, 1) := by decide +kernel
theorem dX9_tryFrom_23 : decode cX9_tryFrom 23 = .ok (.getfield 24, 3) := by decide +kernel
theorem dX9_tryFrom_26 : decode cX9_tryFrom 26 = .ok (.ifCond .eq 10, 3) := by decide +kernel
theorem dX9_tryFrom_29 : decode cX9_tryFrom 29 = .ok (.aload_n 0, 1) := by decide +kernel
theorem dX9_tryFrom_30 : decode cX9_tryFrom 30 = .ok (.invokevirtual 46, 3) := by decide +kernel
theorem dX9_tryFrom_33 : decode cX9_tryFrom 33 = .ok (.ifCond .eq 35, 3) := by decide +kernel
theorem dX9_tryFrom_36 : decode cX9_tryFrom 36 = .ok (.aload_n 0, 1) := by decide +kernel
theorem dX9_tryFrom_37 : decode cX9_tryFrom 37 = .ok (.aload_n 0, 1) := by decide +kernel
theorem dX9_tryFrom_38 : decode cX9_tryFrom 38 = .ok (.getfield 20, 3) := by decide +kernel
theorem dX9_tryFrom_41 : decode cX9_tryFrom 41 = .ok (.getfield 50, 3) := by decide +kernel
theorem dX9_tryFrom_44 : decode cX9_tryFrom 44 = .ok (.putfield 24, 3) := by decide +kernel
theorem dX9_tryFrom_47 : decode cX9_tryFrom 47 = .ok (.aload_n 0, 1) := by decide +kernel
theorem dX9_tryFrom_48 : decode cX9_tryFrom 48 = .ok (.aload_n 0, 1) := by decide +kernel
theorem dX9_tryFrom_49 : decode cX9_tryFrom 49 = .ok (.getfield 20, 3) := by decide +kernel
theorem dX9_tryFrom_52 : decode cX9_tryFrom 52 = .ok (.getfield 51, 3) := by decide +kernel
theorem dX9_tryFrom_55 : decode cX9_tryFrom 55 = .ok (.putfield 54, 3) := by decide +kernel
theorem dX9_tryFrom_58 : decode cX9_tryFrom 58 = .ok (.aload_n 0, 1) := by decide +kernel
theorem dX9_tryFrom_59 : decode cX9_tryFrom 59 = .ok (.iload_n 2, 1) := by decide +kernel
theorem dX9_tryFrom_60 : decode cX9_tryFrom 60 = .ok (.putfield 55, 3) := by decide +kernel
theorem dX9_tryFrom_63 : decode cX9_tryFrom 63 = .ok (.aload_n 0, 1) := by decide +kernel
theorem dX9_tryFrom_64 : decode cX9_tryFrom 64 = .ok (.iload_n 3, 1) := by decide +kernel
theorem dX9_tryFrom_65 : decode cX9_tryFrom 65 = .ok (.putfield 58, 3) := by decide +kernel
theorem dX9_tryFrom_68 : decode cX9_tryFrom 68 = .ok (.return_, 1) := by decide +kernel
theorem dX9_walkIsShorter_0 : decode cX9_walkIsShorter 0 = .ok (.aload_n 0, 1) := by decide +kernel
theorem dX9_walkIsShorter_1 : decode cX9_walkIsShorter 1 = .ok (.getfield 20, 3) := by decide +kernel
theorem dX9_walkIsShorter_4 : decode cX9_walkIsShorter 4 = .ok (.getfield 50, 3) := by decide +kernel
theorem dX9_walkIsShorter_7 : decode cX9_walkIsShorter 7 = .ok (.aload_n 0, 1) := by decide +kernel
theorem dX9_walkIsShorter_8 : decode cX9_walkIsShorter 8 = .ok (.getfield 24, 3) := by decide +kernel
theorem dX9_walkIsShorter_11 : decode cX9_walkIsShorter 11 = .ok (.if_icmp .lt 31, 3) := by decide +kernel
theorem dX9_walkIsShorter_14 : decode cX9_walkIsShorter 14 = .ok (.aload_n 0, 1) := by decide +kernel
theorem dX9_walkIsShorter_15 : decode cX9_walkIsShorter 15 = .ok (.getfield 20, 3) := by decide +kernel
theorem dX9_walkIsShorter_18 : decode cX9_walkIsShorter 18 = .ok (.getfield 50, 3) := by decide +kernel
theorem dX9_walkIsShorter_21 : decode cX9_walkIsShorter 21 = .ok (.aload_n 0, 1) := by decide +kernel
theorem dX9_walkIsShorter_22 : decode cX9_walkIsShorter 22 = .ok (.getfield 24, 3) := by decide +kernel
theorem dX9_walkIsShorter_25 : decode cX9_walkIsShorter 25 = .ok (.if_icmp .ne 21, 3) := by decide +kernel
theorem dX9_walkIsShorter_28 : decode cX9_walkIsShorter 28 = .ok (.aload_n 0, 1) := by decide +kernel
theorem dX9_walkIsShorter_29 : decode cX9_walkIsShorter 29 = .ok (.getfield 20, 3) := by decide +kernel
theorem dX9_walkIsShorter_32 : decode cX9_walkIsShorter 32 = .ok (.getfield 51, 3) := by decide +kernel
theorem dX9_walkIsShorter_35 : decode cX9_walkIsShorter 35 = .ok (.aload_n 0, 1) := by decide +kernel
theorem dX9_walkIsShorter_36 : decode cX9_walkIsShorter 36 = .ok (.getfield 54, 3) := by decide +kernel
theorem dX9_walkIsShorter_39 : decode cX9_walkIsShorter 39 = .ok (.if_icmp .ge 7, 3) := by decide +kernel
theorem dX9_walkIsShorter_42 : decode cX9_walkIsShorter 42 = .ok (.iconst 1, 1) := by decide +kernel
theorem dX9_walkIsShorter_43 : decode cX9_walkIsShorter 43 = .ok (.goto 4, 3) := by decide +kernel
theorem dX9_walkIsShorter_46 : decode cX9_walkIsShorter 46 = .ok (.iconst 0, 1) := by decide +kernel
theorem dX9_walkIsShorter_47 : decode cX9_walkIsShorter 47 = .ok (.ireturn, 1) := by decide +kernel
theorem dX10_init_0 : decode cX10_init 0 = .ok (.aload_n 0, 1) := by decide +kernel
theorem dX10_init_1 : decode cX10_init 1 = .ok (.invokespecial 1, 3) := by decide +kernel
theorem dX10_init_4 : decode cX10_init 4 = .ok (.aload_n 0, 1) := by decide +kernel
theorem dX10_init_5 : decode cX10_init 5 = .ok (.new 7, 3) := by decide +kernel
theorem dX10_init_8 : decode cX10_init 8 = .ok (.dup, 1) := by decide +kernel
theorem dX10_init_9 : decode cX10_init 9 = .ok (.invokespecial 9, 3) := by decide +kernel
theorem dX10_init_12 : decode cX10_init 12 = .ok (.putfield 10, 3) := by decide +kernel
theorem dX10_init_15 : decode cX10_init 15 = .ok (.aload_n 0, 1) := by decide +kernel
theorem dX10_init_16 : decode cX10_init 16 = .ok (.new 16, 3) := by decide +kernel
theorem dX10_init_19 : decode cX10_init 19 = .ok (.dup, 1) := by decide +kernel
theorem dX10_init_20 : decode cX10_init 20 = .ok (.aload_n 0, 1) := by decide +kernel
theorem dX10_init_21 : decode cX10_init 21 = .ok (.getfield 10, 3) := by decide +kernel
theorem dX10_init_24 : decode cX10_init 24 = .ok (.invokespecial 18, 3) := by decide +kernel
theorem dX10_init_27 : decode cX10_init 27 = .ok (.putfield 21, 3) := by decide +kernel
theorem dX10_init_30 : decode cX10_init 30 = .ok (.aload_n 0, 1) := by decide +kernel
theorem dX10_init_31 : decode cX10_init 31 = .ok (.new 25, 3) := by decide +kernel
theorem dX10_init_34 : decode cX10_init 34 = .ok (.dup, 1) := by decide +kernel
theorem dX10_init_35 : decode cX10_init 35 = .ok (.aload_n 0, 1) := by decide +kernel
theorem dX10_init_36 : decode cX10_init 36 = .ok (.getfield 10, 3) := by decide +kernel
theorem dX10_init_39 : decode cX10_init 39 = .ok (.aload_n 0, 1) := by decide +kernel
theorem dX10_init_40 : decode cX10_init 40 = .ok (.getfield 21, 3) := by decide +kernel
theorem dX10_init_43 : decode cX10_init 43 = .ok (.invokespecial 27, 3) := by decide +kernel
theorem dX10_init_46 : decode cX10_init 46 = .ok (.putfield 30, 3) := by decide +kernel
theorem dX10_init_49 : decode cX10_init 49 = .ok (.aload_n 0, 1) := by decide +kernel
theorem dX10_init_50 : decode cX10_init 50 = .ok (.new 34, 3) := by decide +kernel
theorem dX10_init_53 : decode cX10_init 53 = .ok (.dup, 1) := by decide +kernel
theorem dX10_init_54 : decode cX10_init 54 = .ok (.invokespecial 36, 3) := by decide +kernel
theorem dX10_init_57 : decode cX10_init 57 = .ok (.putfield 37, 3) := by decide +kernel
theorem dX10_init_60 : decode cX10_init 60 = .ok (.aload_n 0, 1) := by decide +kernel
theorem dX10_init_61 : decode cX10_init 61 = .ok (.new 41, 3) := by decide +kernel
theorem dX10_init_64 : decode cX10_init 64 = .ok (.dup, 1) := by decide +kernel
theorem dX10_init_65 : decode cX10_init 65 = .ok (.aload_n 0, 1) := by decide +kernel
theorem dX10_init_66 : decode cX10_init 66 = .ok (.getfield 30, 3) := by decide +kernel
theorem dX10_init_69 : decode cX10_init 69 = .ok (.invokespecial 43, 3) := by decide +kernel
theorem dX10_init_72 : decode cX10_init 72 = .ok (.putfield 46, 3) := by decide +kernel
theorem dX10_init_75 : decode cX10_init 75 = .ok (.aload_n 0, 1) := by decide +kernel
theorem dX10_init_76 : decode cX10_init 76 = .ok (.new 50, 3) := by decide +kernel
theorem dX10_init_79 : decode cX10_init 79 = .ok (.dup, 1) := by decide +kernel
theorem dX10_init_80 : decode cX10_init 80 = .ok (.invokespecial 52, 3) := by decide +kernel
theorem dX10_init_83 : decode cX10_init 83 = .ok (.putfield 53, 3) := by decide +kernel
theorem dX10_init_86 : decode cX10_init 86 = .ok (.aload_n 0, 1) := by decide +kernel
theorem dX10_init_87 : decode cX10_init 87 = .ok (.new 50, 3) := by decide +kernel
theorem dX10_init_90 : decode cX10_init 90 = .ok (.dup, 1) := by decide +kernel
theorem dX10_init_91 : decode cX10_init 91 = .ok (.invokespecial 52, 3) := by decide +kernel
theorem dX10_init_94 : decode cX10_init 94 = .ok (.putfield 57, 3) := by decide +kernel
theorem dX10_init_97 : decode cX10_init 97 = .ok (.aload_n 0, 1) := by decide +kernel
theorem dX10_init_98 : decode cX10_init 98 = .ok (.new 50, 3) := by decide +kernel
theorem dX10_init_101 : decode cX10_init 101 = .ok (.dup, 1) := by decide +kernel
theorem dX10_init_102 : decode cX10_init 102 = .ok (.invokespecial 52, 3) := by decide +kernel
theorem dX10_init_105 : decode cX10_init 105 = .ok (.putfield 60, 3) := by decide +kernel
theorem dX10_init_108 : decode cX10_init 108 = .ok (.aload_n 0, 1) := by decide +kernel
theorem dX10_init_109 : decode cX10_init 109 = .ok (.new 63, 3) := by decide +kernel
theorem dX10_init_112 : decode cX10_init 112 = .ok (.dup, 1) := by decide +kernel
theorem dX10_init_113 : decode cX10_init 113 = .ok (.invokespecial 65, 3) := by decide +kernel
theorem dX10_init_116 : decode cX10_init 116 = .ok (.putfield 66, 3) := by decide +kernel
theorem dX10_init_119 : decode cX10_init 119 = .ok (.aload_n 0, 1) := by decide +kernel
theorem dX10_init_120 : decode cX10_init 120 = .ok (.new 70, 3) := by decide +kernel
theorem dX10_init_123 : decode cX10_init 123 = .ok (.dup, 1) := by decide +kernel
theorem dX10_init_124 : decode cX10_init 124 = .ok (.invokespecial 72, 3) := by decide +kernel
theorem dX10_init_127 : decode cX10_init 127 = .ok (.putfield 73, 3) := by decide +kernel
theorem dX10_init_130 : decode cX10_init 130 = .ok (.return_, 1) := by decide +kernel
theorem dX10_move_0 : decode cX10_move 0 = .ok (.iload_n 1, 1) := by decide +kernel
theorem dX10_move_1 : decode cX10_move 1 = .ok (.invokestatic 77, 3) := by decide +kernel
theorem dX10_move_4 : decode cX10_move 4 = .ok (.ifCond .eq 10, 3) := by decide +kernel
theorem dX10_move_7 : decode cX10_move 7 = .ok (.iload_n 2, 1) := by decide +kernel
theorem dX10_move_8 : decode cX10_move 8 = .ok (.invokestatic 77, 3) := by decide +kernel
theorem dX10_move_11 : decode cX10_move 11 = .ok (.ifCond .ne 6, 3) := by decide +kernel
theorem dX10_move_14 : decode cX10_move 14 = .ok (.bipush (-101), 2) := by decide +kernel
theorem dX10_move_16 : decode cX10_move 16 = .ok (.ireturn, 1) := by decide +kernel
theorem dX10_move_17 : decode cX10_move 17 = .ok (.aload_n 0, 1) := by decide +kernel
theorem dX10_move_18 : decode cX10_move 18 = .ok (.getfield 30, 3) := by decide +kernel
theorem dX10_move_21 : decode cX10_move 21 = .ok (.aload_n 0, 1) := by decide +kernel
theorem dX10_move_22 : decode cX10_move 22 = .ok (.getfield 53, 3) := by decide +kernel
theorem dX10_move_25 : decode cX10_move 25 = .ok (.getfield 81, 3) := by decide +kernel
theorem dX10_move_28 : decode cX10_move 28 = .ok (.iload_n 1, 1) := by decide +kernel
theorem dX10_move_29 : decode cX10_move 29 = .ok (.iload_n 2, 1) := by decide +kernel
theorem dX10_move_30 : decode cX10_move 30 = .ok (.iconst 0, 1) := by decide +kernel
theorem dX10_move_31 : decode cX10_move 31 = .ok (.invokevirtual 85, 3) := by decide +kernel
theorem dX10_move_34 : decode cX10_move 34 = .ok (.istore_n 3, 1) := by decide +kernel
theorem dX10_move_35 : decode cX10_move 35 = .ok (.iload_n 3, 1) := by decide +kernel
theorem dX10_move_36 : decode cX10_move 36 = .ok (.ifCond .eq 8, 3) := by decide +kernel
theorem dX10_move_39 : decode cX10_move 39 = .ok (.bipush (-110), 2) := by decide +kernel
theorem dX10_move_41 : decode cX10_move 41 = .ok (.iload_n 3, 1) := by decide +kernel
theorem dX10_move_42 : decode cX10_move 42 = .ok (.isub, 1) := by decide +kernel
theorem dX10_move_43 : decode cX10_move 43 = .ok (.ireturn, 1) := by decide +kernel
theorem dX10_move_44 : decode cX10_move 44 = .ok (.aload_n 0, 1) := by decide +kernel
theorem dX10_move_45 : decode cX10_move 45 = .ok (.getfield 66, 3) := by decide +kernel
theorem dX10_move_48 : decode cX10_move 48 = .ok (.aload_n 0, 1) := by decide +kernel
theorem dX10_move_49 : decode cX10_move 49 = .ok (.getfield 53, 3) := by decide +kernel
theorem dX10_move_52 : decode cX10_move 52 = .ok (.invokevirtual 89, 3) := by decide +kernel
theorem dX10_move_55 : decode cX10_move 55 = .ok (.aload_n 0, 1) := by decide +kernel
theorem dX10_move_56 : decode cX10_move 56 = .ok (.getfield 53, 3) := by decide +kernel
theorem dX10_move_59 : decode cX10_move 59 = .ok (.iload_n 1, 1) := by decide +kernel
theorem dX10_move_60 : decode cX10_move 60 = .ok (.iload_n 2, 1) := by decide +kernel
theorem dX10_move_61 : decode cX10_move 61 = .ok (.invokevirtual 93, 3) := by decide +kernel
theorem dX10_move_64 : decode cX10_move 64 = .ok (.aload_n 0, 1) := by decide +kernel
theorem dX10_move_65 : decode cX10_move 65 = .ok (.getfield 53, 3) := by decide +kernel
theorem dX10_move_68 : decode cX10_move 68 = .ok (.getfield 81, 3) := by decide +kernel
theorem dX10_move_71 : decode cX10_move 71 = .ok (.invokevirtual 97, 3) := by decide +kernel
theorem dX10_move_74 : decode cX10_move 74 = .ok (.ireturn, 1) := by decide +kernel
theorem dX10_capture_0 : decode cX10_capture 0 = .ok (.iload_n 1, 1) := by decide +kernel
theorem dX10_capture_1 : decode cX10_capture 1 = .ok (.invokestatic 77, 3) := by decide +kernel
theorem dX10_capture_4 : decode cX10_capture 4 = .ok (.ifCond .eq 10, 3) := by decide +kernel
theorem dX10_capture_7 : decode cX10_capture 7 = .ok (.iload_n 2, 1) := by decide +kernel
theorem dX10_capture_8 : decode cX10_capture 8 = .ok (.invokestatic 77, 3) := by decide +kernel
theorem dX10_capture_11 : decode cX10_capture 11 = .ok (.ifCond .ne 6, 3) := by decide +kernel
theorem dX10_capture_14 : decode cX10_capture 14 = .ok (.bipush (-101), 2) := by decide +kernel
theorem dX10_capture_16 : decode cX10_capture 16 = .ok (.ireturn, 1) := by decide +kernel
theorem dX10_capture_17 : decode cX10_capture 17 = .ok (.aload_n 0, 1) := by decide +kernel
theorem dX10_capture_18 : decode cX10_capture 18 = .ok (.getfield 30, 3) := by decide +kernel
theorem dX10_capture_21 : decode cX10_capture 21 = .ok (.aload_n 0, 1) := by decide +kernel
theorem dX10_capture_22 : decode cX10_capture 22 = .ok (.getfield 53, 3) := by decide +kernel
theorem dX10_capture_25 : decode cX10_capture 25 = .ok (.getfield 81, 3) := by decide +kernel
theorem dX10_capture_28 : decode cX10_capture 28 = .ok (.iload_n 1, 1) := by decide +kernel
theorem dX10_capture_29 : decode cX10_capture 29 = .ok (.iload_n 2, 1) := by decide +kernel
theorem dX10_capture_30 : decode cX10_capture 30 = .ok (.iconst 1, 1) := by decide +kernel
theorem dX10_capture_31 : decode cX10_capture 31 = .ok (.invokevirtual 85, 3) := by decide +kernel
theorem dX10_capture_34 : decode cX10_capture 34 = .ok (.istore_n 3, 1) := by decide +kernel
theorem dX10_capture_35 : decode cX10_capture 35 = .ok (.iload_n 3, 1) := by decide +kernel
theorem dX10_capture_36 : decode cX10_capture 36 = .ok (.ifCond .eq 8, 3) := by decide +kernel
theorem dX10_capture_39 : decode cX10_capture 39 = .ok (.bipush (-110), 2) := by decide +kernel
theorem dX10_capture_41 : decode cX10_capture 41 = .ok (.iload_n 3, 1) := by decide +kernel
theorem dX10_capture_42 : decode cX10_capture 42 = .ok (.isub, 1) := by decide +kernel
theorem dX10_capture_43 : decode cX10_capture 43 = .ok (.ireturn, 1) := by decide +kernel
theorem dX10_capture_44 : decode cX10_capture 44 = .ok (.aload_n 0, 1) := by decide +kernel
theorem dX10_capture_45 : decode cX10_capture 45 = .ok (.getfield 66, 3) := by decide +kernel
theorem dX10_capture_48 : decode cX10_capture 48 = .ok (.aload_n 0, 1) := by decide +kernel
theorem dX10_capture_49 : decode cX10_capture 49 = .ok (.getfield 53, 3) := by decide +kernel
theorem dX10_capture_52 : decode cX10_capture 52 = .ok (.invokevirtual 89, 3) := by decide +kernel
theorem dX10_capture_55 : decode cX10_capture 55 = .ok (.aload_n 0, 1) := by decide +kernel
theorem dX10_capture_56 : decode cX10_capture 56 = .ok (.getfield 53, 3) := by decide +kernel
theorem dX10_capture_59 : decode cX10_capture 59 = .ok (.iload_n 1, 1) := by decide +kernel
theorem dX10_capture_60 : decode cX10_capture 60 = .ok (.iload_n 2, 1) := by decide +kernel
theorem dX10_capture_61 : decode cX10_capture 61 = .ok (.invokevirtual 93, 3) := by decide +kernel
theorem dX10_capture_64 : decode cX10_capture 64 = .ok (.aload_n 0, 1) := by decide +kernel
theorem dX10_capture_65 : decode cX10_capture 65 = .ok (.getfield 53, 3) := by decide +kernel
theorem dX10_capture_68 : decode cX10_capture 68 = .ok (.getfield 81, 3) := by decide +kernel
theorem dX10_capture_71 : decode cX10_capture 71 = .ok (.aload_n 0, 1) := by decide +kernel
theorem dX10_capture_72 : decode cX10_capture 72 = .ok (.getfield 53, 3) := by decide +kernel
theorem dX10_capture_75 : decode cX10_capture 75 = .ok (.getfield 81, 3) := by decide +kernel
theorem dX10_capture_78 : decode cX10_capture 78 = .ok (.invokevirtual 103, 3) := by decide +kernel
theorem dX10_capture_81 : decode cX10_capture 81 = .ok (.invokevirtual 106, 3) := by decide +kernel
theorem dX10_capture_84 : decode cX10_capture 84 = .ok (.ireturn, 1) := by decide +kernel
theorem dX10_play_0 : decode cX10_play 0 = .ok (.iload_n 1, 1) := by decide +kernel
theorem dX10_play_1 : decode cX10_play 1 = .ok (.iconst 1, 1) := by decide +kernel
theorem dX10_play_2 : decode cX10_play 2 = .ok (.if_icmp .lt 8, 3) := by decide +kernel
theorem dX10_play_5 : decode cX10_play 5 = .ok (.iload_n 1, 1) := by decide +kernel
theorem dX10_play_6 : decode cX10_play 6 = .ok (.iconst 2, 1) := by decide +kernel
theorem dX10_play_7 : decode cX10_play 7 = .ok (.if_icmp .le 6, 3) := by decide +kernel
theorem dX10_play_10 : decode cX10_play 10 = .ok (.bipush (-102), 2) := by decide +kernel
theorem dX10_play_12 : decode cX10_play 12 = .ok (.ireturn, 1) := by decide +kernel
theorem dX10_play_13 : decode cX10_play 13 = .ok (.aload_n 0, 1) := by decide +kernel
theorem dX10_play_14 : decode cX10_play 14 = .ok (.getfield 46, 3) := by decide +kernel
theorem dX10_play_17 : decode cX10_play 17 = .ok (.aload_n 0, 1) := by decide +kernel
theorem dX10_play_18 : decode cX10_play 18 = .ok (.getfield 53, 3) := by decide +kernel
theorem dX10_play_21 : decode cX10_play 21 = .ok (.getfield 81, 3) := by decide +kernel
theorem dX10_play_24 : decode cX10_play 24 = .ok (.iload_n 1, 1) := by decide +kernel
theorem dX10_play_25 : decode cX10_play 25 = .ok (.invokevirtual 110, 3) := by decide +kernel
theorem dX10_play_28 : decode cX10_play 28 = .ok (.istore_n 2, 1) := by decide +kernel
theorem dX10_play_29 : decode cX10_play 29 = .ok (.iload_n 2, 1) := by decide +kernel
theorem dX10_play_30 : decode cX10_play 30 = .ok (.ifCond .ge 6, 3) := by decide +kernel
theorem dX10_play_33 : decode cX10_play 33 = .ok (.bipush (-104), 2) := by decide +kernel
theorem dX10_play_35 : decode cX10_play 35 = .ok (.ireturn, 1) := by decide +kernel
theorem dX10_play_36 : decode cX10_play 36 = .ok (.aload_n 0, 1) := by decide +kernel
theorem dX10_play_37 : decode cX10_play 37 = .ok (.getfield 66, 3) := by decide +kernel
theorem dX10_play_40 : decode cX10_play 40 = .ok (.aload_n 0, 1) := by decide +kernel
theorem dX10_play_41 : decode cX10_play 41 = .ok (.getfield 53, 3) := by decide +kernel
theorem dX10_play_44 : decode cX10_play 44 = .ok (.invokevirtual 89, 3) := by decide +kernel
theorem dX10_play_47 : decode cX10_play 47 = .ok (.aload_n 0, 1) := by decide +kernel
theorem dX10_play_48 : decode cX10_play 48 = .ok (.getfield 53, 3) := by decide +kernel
theorem dX10_play_51 : decode cX10_play 51 = .ok (.iload_n 2, 1) := by decide +kernel
theorem dX10_play_52 : decode cX10_play 52 = .ok (.bipush 100, 2) := by decide +kernel
theorem dX10_play_54 : decode cX10_play 54 = .ok (.idiv, 1) := by decide +kernel
theorem dX10_play_55 : decode cX10_play 55 = .ok (.iload_n 2, 1) := by decide +kernel
theorem dX10_play_56 : decode cX10_play 56 = .ok (.bipush 100, 2) := by decide +kernel
theorem dX10_play_58 : decode cX10_play 58 = .ok (.irem, 1) := by decide +kernel
theorem dX10_play_59 : decode cX10_play 59 = .ok (.invokevirtual 93, 3) := by decide +kernel
theorem dX10_play_62 : decode cX10_play 62 = .ok (.iload_n 2, 1) := by decide +kernel
theorem dX10_play_63 : decode cX10_play 63 = .ok (.ireturn, 1) := by decide +kernel
theorem dX10_setUp_0 : decode cX10_setUp 0 = .ok (.iload_n 1, 1) := by decide +kernel
theorem dX10_setUp_1 : decode cX10_setUp 1 = .ok (.invokestatic 77, 3) := by decide +kernel
theorem dX10_setUp_4 : decode cX10_setUp 4 = .ok (.ifCond .ne 6, 3) := by decide +kernel
theorem dX10_setUp_7 : decode cX10_setUp 7 = .ok (.bipush (-101), 2) := by decide +kernel
theorem dX10_setUp_9 : decode cX10_setUp 9 = .ok (.ireturn, 1) := by decide +kernel
theorem dX10_setUp_10 : decode cX10_setUp 10 = .ok (.iload_n 2, 1) := by decide +kernel
theorem dX10_setUp_11 : decode cX10_setUp 11 = .ok (.ifCond .lt 8, 3) := by decide +kernel
theorem dX10_setUp_14 : decode cX10_setUp 14 = .ok (.iload_n 2, 1) := by decide +kernel
theorem dX10_setUp_15 : decode cX10_setUp 15 = .ok (.iconst 2, 1) := by decide +kernel
theorem dX10_setUp_16 : decode cX10_setUp 16 = .ok (.if_icmp .le 6, 3) := by decide +kernel
theorem dX10_setUp_19 : decode cX10_setUp 19 = .ok (.bipush (-102), 2) := by decide +kernel
theorem dX10_setUp_21 : decode cX10_setUp 21 = .ok (.ireturn, 1) := by decide +kernel
theorem dX10_setUp_22 : decode cX10_setUp 22 = .ok (.aload_n 0, 1) := by decide +kernel
theorem dX10_setUp_23 : decode cX10_setUp 23 = .ok (.getfield 53, 3) := by decide +kernel
theorem dX10_setUp_26 : decode cX10_setUp 26 = .ok (.getfield 81, 3) := by decide +kernel
theorem dX10_setUp_29 : decode cX10_setUp 29 = .ok (.iload_n 1, 1) := by decide +kernel
theorem dX10_setUp_30 : decode cX10_setUp 30 = .ok (.invokevirtual 114, 3) := by decide +kernel
theorem dX10_setUp_33 : decode cX10_setUp 33 = .ok (.istore_n 3, 1) := by decide +kernel
theorem dX10_setUp_34 : decode cX10_setUp 34 = .ok (.iload_n 3, 1) := by decide +kernel
theorem dX10_setUp_35 : decode cX10_setUp 35 = .ok (.iload_n 2, 1) := by decide +kernel
theorem dX10_setUp_36 : decode cX10_setUp 36 = .ok (.if_icmp .ne 6, 3) := by decide +kernel
theorem dX10_setUp_39 : decode cX10_setUp 39 = .ok (.bipush (-105), 2) := by decide +kernel
theorem dX10_setUp_41 : decode cX10_setUp 41 = .ok (.ireturn, 1) := by decide +kernel
theorem dX10_setUp_42 : decode cX10_setUp 42 = .ok (.aload_n 0, 1) := by decide +kernel
theorem dX10_setUp_43 : decode cX10_setUp 43 = .ok (.getfield 66, 3) := by decide +kernel
theorem dX10_setUp_46 : decode cX10_setUp 46 = .ok (.aload_n 0, 1) := by decide +kernel
theorem dX10_setUp_47 : decode cX10_setUp 47 = .ok (.getfield 53, 3) := by decide +kernel
theorem dX10_setUp_50 : decode cX10_setUp 50 = .ok (.invokevirtual 89, 3) := by decide +kernel
theorem dX10_setUp_53 : decode cX10_setUp 53 = .ok (.aload_n 0, 1) := by decide +kernel
theorem dX10_setUp_54 : decode cX10_setUp 54 = .ok (.getfield 53, 3) := by decide +kernel
theorem dX10_setUp_57 : decode cX10_setUp 57 = .ok (.iload_n 1, 1) := by decide +kernel
theorem dX10_setUp_58 : decode cX10_setUp 58 = .ok (.iload_n 2, 1) := by decide +kernel
theorem dX10_setUp_59 : decode cX10_setUp 59 = .ok (.invokevirtual 117, 3) := by decide +kernel
theorem dX10_setUp_62 : decode cX10_setUp 62 = .ok (.iload_n 3, 1) := by decide +kernel
theorem dX10_setUp_63 : decode cX10_setUp 63 = .ok (.ireturn, 1) := by decide +kernel
theorem dX10_turn_0 : decode cX10_turn 0 = .ok (.aload_n 0, 1) := by decide +kernel
theorem dX10_turn_1 : decode cX10_turn 1 = .ok (.getfield 66, 3) := by decide +kernel
theorem dX10_turn_4 : decode cX10_turn 4 = .ok (.aload_n 0, 1) := by decide +kernel
theorem dX10_turn_5 : decode cX10_turn 5 = .ok (.getfield 53, 3) := by decide +kernel
theorem dX10_turn_8 : decode cX10_turn 8 = .ok (.invokevirtual 89, 3) := by decide +kernel
theorem dX10_turn_11 : decode cX10_turn 11 = .ok (.aload_n 0, 1) := by decide +kernel
theorem dX10_turn_12 : decode cX10_turn 12 = .ok (.getfield 53, 3) := by decide +kernel
theorem dX10_turn_15 : decode cX10_turn 15 = .ok (.invokevirtual 120, 3) := by decide +kernel
theorem dX10_turn_18 : decode cX10_turn 18 = .ok (.aload_n 0, 1) := by decide +kernel
theorem dX10_turn_19 : decode cX10_turn 19 = .ok (.getfield 53, 3) := by decide +kernel
theorem dX10_turn_22 : decode cX10_turn 22 = .ok (.getfield 81, 3) := by decide +kernel
theorem dX10_turn_25 : decode cX10_turn 25 = .ok (.invokevirtual 103, 3) := by decide +kernel
theorem dX10_turn_28 : decode cX10_turn 28 = .ok (.ireturn, 1) := by decide +kernel
theorem dX10_begin_0 : decode cX10_begin 0 = .ok (.aload_n 0, 1) := by decide +kernel
theorem dX10_begin_1 : decode cX10_begin 1 = .ok (.getfield 53, 3) := by decide +kernel
theorem dX10_begin_4 : decode cX10_begin 4 = .ok (.getfield 81, 3) := by decide +kernel
theorem dX10_begin_7 : decode cX10_begin 7 = .ok (.invokevirtual 123, 3) := by decide +kernel
theorem dX10_begin_10 : decode cX10_begin 10 = .ok (.istore_n 1, 1) := by decide +kernel
theorem dX10_begin_11 : decode cX10_begin 11 = .ok (.aload_n 0, 1) := by decide +kernel
theorem dX10_begin_12 : decode cX10_begin 12 = .ok (.getfield 66, 3) := by decide +kernel
theorem dX10_begin_15 : decode cX10_begin 15 = .ok (.aload_n 0, 1) := by decide +kernel
theorem dX10_begin_16 : decode cX10_begin 16 = .ok (.getfield 53, 3) := by decide +kernel
theorem dX10_begin_19 : decode cX10_begin 19 = .ok (.invokevirtual 89, 3) := by decide +kernel
theorem dX10_begin_22 : decode cX10_begin 22 = .ok (.aload_n 0, 1) := by decide +kernel
theorem dX10_begin_23 : decode cX10_begin 23 = .ok (.getfield 53, 3) := by decide +kernel
theorem dX10_begin_26 : decode cX10_begin 26 = .ok (.invokevirtual 126, 3) := by decide +kernel
theorem dX10_begin_29 : decode cX10_begin 29 = .ok (.iload_n 1, 1) := by decide +kernel
theorem dX10_begin_30 : decode cX10_begin 30 = .ok (.ireturn, 1) := by decide +kernel
theorem dX10_setLimit_0 : decode cX10_setLimit 0 = .ok (.iload_n 1, 1) := by decide +kernel
theorem dX10_setLimit_1 : decode cX10_setLimit 1 = .ok (.iconst 4, 1) := by decide +kernel
theorem dX10_setLimit_2 : decode cX10_setLimit 2 = .ok (.if_icmp .lt 9, 3) := by decide +kernel
theorem dX10_setLimit_5 : decode cX10_setLimit 5 = .ok (.iload_n 1, 1) := by decide +kernel
theorem dX10_setLimit_6 : decode cX10_setLimit 6 = .ok (.bipush 60, 2) := by decide +kernel
theorem dX10_setLimit_8 : decode cX10_setLimit 8 = .ok (.if_icmp .le 6, 3) := by decide +kernel
theorem dX10_setLimit_11 : decode cX10_setLimit 11 = .ok (.bipush (-102), 2) := by decide +kernel
theorem dX10_setLimit_13 : decode cX10_setLimit 13 = .ok (.ireturn, 1) := by decide +kernel
theorem dX10_setLimit_14 : decode cX10_setLimit 14 = .ok (.aload_n 0, 1) := by decide +kernel
theorem dX10_setLimit_15 : decode cX10_setLimit 15 = .ok (.getfield 53, 3) := by decide +kernel
theorem dX10_setLimit_18 : decode cX10_setLimit 18 = .ok (.getfield 81, 3) := by decide +kernel
theorem dX10_setLimit_21 : decode cX10_setLimit 21 = .ok (.invokevirtual 129, 3) := by decide +kernel
theorem dX10_setLimit_24 : decode cX10_setLimit 24 = .ok (.istore_n 2, 1) := by decide +kernel
theorem dX10_setLimit_25 : decode cX10_setLimit 25 = .ok (.iload_n 2, 1) := by decide +kernel
theorem dX10_setLimit_26 : decode cX10_setLimit 26 = .ok (.iload_n 1, 1) := by decide +kernel
theorem dX10_setLimit_27 : decode cX10_setLimit 27 = .ok (.if_icmp .ne 6, 3) := by decide +kernel
theorem dX10_setLimit_30 : decode cX10_setLimit 30 = .ok (.bipush (-105), 2) := by decide +kernel
theorem dX10_setLimit_32 : decode cX10_setLimit 32 = .ok (.ireturn, 1) := by decide +kernel
theorem dX10_setLimit_33 : decode cX10_setLimit 33 = .ok (.aload_n 0, 1) := by decide +kernel
theorem dX10_setLimit_34 : decode cX10_setLimit 34 = .ok (.getfield 66, 3) := by decide +kernel
theorem dX10_setLimit_37 : decode cX10_setLimit 37 = .ok (.aload_n 0, 1) := by decide +kernel
theorem dX10_setLimit_38 : decode cX10_setLimit 38 = .ok (.getfield 53, 3) := by decide +kernel
theorem dX10_setLimit_41 : decode cX10_setLimit 41 = .ok (.invokevirtual 89, 3) := by decide +kernel
theorem dX10_setLimit_44 : decode cX10_setLimit 44 = .ok (.aload_n 0, 1) := by decide +kernel
theorem dX10_setLimit_45 : decode cX10_setLimit 45 = .ok (.getfield 53, 3) := by decide +kernel
theorem dX10_setLimit_48 : decode cX10_setLimit 48 = .ok (.getfield 81, 3) := by decide +kernel
theorem dX10_setLimit_51 : decode cX10_setLimit 51 = .ok (.iload_n 1, 1) := by decide +kernel
theorem dX10_setLimit_52 : decode cX10_setLimit 52 = .ok (.invokevirtual 132, 3) := by decide +kernel
theorem dX10_setLimit_55 : decode cX10_setLimit 55 = .ok (.iload_n 2, 1) := by decide +kernel
theorem dX10_setLimit_56 : decode cX10_setLimit 56 = .ok (.ireturn, 1) := by decide +kernel
theorem dX10_type_0 : decode cX10_type 0 = .ok (.aload_n 0, 1) := by decide +kernel
theorem dX10_type_1 : decode cX10_type 1 = .ok (.getfield 73, 3) := by decide +kernel
theorem dX10_type_4 : decode cX10_type 4 = .ok (.iload_n 1, 1) := by decide +kernel
theorem dX10_type_5 : decode cX10_type 5 = .ok (.invokevirtual 136, 3) := by decide +kernel
theorem dX10_type_8 : decode cX10_type 8 = .ok (.ifCond .eq 13, 3) := by decide +kernel
theorem dX10_type_11 : decode cX10_type 11 = .ok (.aload_n 0, 1) := by decide +kernel
theorem dX10_type_12 : decode cX10_type 12 = .ok (.getfield 73, 3) := by decide +kernel
theorem dX10_type_15 : decode cX10_type 15 = .ok (.invokevirtual 140, 3) := by decide +kernel
theorem dX10_type_18 : decode cX10_type 18 = .ok (.goto 5, 3) := by decide +kernel
theorem dX10_type_21 : decode cX10_type 21 = .ok (.bipush (-103), 2) := by decide +kernel
theorem dX10_type_23 : decode cX10_type 23 = .ok (.ireturn, 1) := by decide +kernel
theorem dX10_clearText_0 : decode cX10_clearText 0 = .ok (.aload_n 0, 1) := by decide +kernel
theorem dX10_clearText_1 : decode cX10_clearText 1 = .ok (.getfield 73, 3) := by decide +kernel
theorem dX10_clearText_4 : decode cX10_clearText 4 = .ok (.invokevirtual 140, 3) := by decide +kernel
theorem dX10_clearText_7 : decode cX10_clearText 7 = .ok (.istore_n 1, 1) := by decide +kernel
theorem dX10_clearText_8 : decode cX10_clearText 8 = .ok (.aload_n 0, 1) := by decide +kernel
theorem dX10_clearText_9 : decode cX10_clearText 9 = .ok (.getfield 73, 3) := by decide +kernel
theorem dX10_clearText_12 : decode cX10_clearText 12 = .ok (.invokevirtual 143, 3) := by decide +kernel
theorem dX10_clearText_15 : decode cX10_clearText 15 = .ok (.iload_n 1, 1) := by decide +kernel
theorem dX10_clearText_16 : decode cX10_clearText 16 = .ok (.ireturn, 1) := by decide +kernel
theorem dX10_perform_0 : decode cX10_perform 0 = .ok (.aload_n 0, 1) := by decide +kernel
theorem dX10_perform_1 : decode cX10_perform 1 = .ok (.getfield 73, 3) := by decide +kernel
theorem dX10_perform_4 : decode cX10_perform 4 = .ok (.invokevirtual 146, 3) := by decide +kernel
theorem dX10_perform_7 : decode cX10_perform 7 = .ok (.istore_n 1, 1) := by decide +kernel
theorem dX10_perform_8 : decode cX10_perform 8 = .ok (.iload_n 1, 1) := by decide +kernel
theorem dX10_perform_9 : decode cX10_perform 9 = .ok (.ifCond .lt 9, 3) := by decide +kernel
theorem dX10_perform_12 : decode cX10_perform 12 = .ok (.sipush (-200), 3) := by decide +kernel
theorem dX10_perform_15 : decode cX10_perform 15 = .ok (.iload_n 1, 1) := by decide +kernel
theorem dX10_perform_16 : decode cX10_perform 16 = .ok (.isub, 1) := by decide +kernel
theorem dX10_perform_17 : decode cX10_perform 17 = .ok (.ireturn, 1) := by decide +kernel
theorem dX10_perform_18 : decode cX10_perform 18 = .ok (.aload_n 0, 1) := by decide +kernel
theorem dX10_perform_19 : decode cX10_perform 19 = .ok (.getfield 57, 3) := by decide +kernel
theorem dX10_perform_22 : decode cX10_perform 22 = .ok (.aload_n 0, 1) := by decide +kernel
theorem dX10_perform_23 : decode cX10_perform 23 = .ok (.getfield 53, 3) := by decide +kernel
theorem dX10_perform_26 : decode cX10_perform 26 = .ok (.invokevirtual 149, 3) := by decide +kernel
theorem dX10_perform_29 : decode cX10_perform 29 = .ok (.aload_n 0, 1) := by decide +kernel
theorem dX10_perform_30 : decode cX10_perform 30 = .ok (.getfield 73, 3) := by decide +kernel
theorem dX10_perform_33 : decode cX10_perform 33 = .ok (.invokevirtual 152, 3) := by decide +kernel
theorem dX10_perform_36 : decode cX10_perform 36 = .ok (.istore_n 2, 1) := by decide +kernel
theorem dX10_perform_37 : decode cX10_perform 37 = .ok (.iconst 0, 1) := by decide +kernel
theorem dX10_perform_38 : decode cX10_perform 38 = .ok (.istore_n 3, 1) := by decide +kernel
theorem dX10_perform_39 : decode cX10_perform 39 = .ok (.iload_n 3, 1) := by decide +kernel
theorem dX10_perform_40 : decode cX10_perform 40 = .ok (.iload_n 2, 1) := by decide +kernel
theorem dX10_perform_41 : decode cX10_perform 41 = .ok (.if_icmp .ge 94, 3) := by decide +kernel
theorem dX10_perform_44 : decode cX10_perform 44 = .ok (.aload_n 0, 1) := by decide +kernel
theorem dX10_perform_45 : decode cX10_perform 45 = .ok (.getfield 73, 3) := by decide +kernel
theorem dX10_perform_48 : decode cX10_perform 48 = .ok (.iload_n 3, 1) := by decide +kernel
theorem dX10_perform_49 : decode cX10_perform 49 = .ok (.invokevirtual 155, 3) := by decide +kernel
theorem dX10_perform_52 : decode cX10_perform 52 = .ok (.istore 4, 2) := by decide +kernel
theorem dX10_perform_54 : decode cX10_perform 54 = .ok (.aload_n 0, 1) := by decide +kernel
theorem dX10_perform_55 : decode cX10_perform 55 = .ok (.getfield 73, 3) := by decide +kernel
theorem dX10_perform_58 : decode cX10_perform 58 = .ok (.iload_n 3, 1) := by decide +kernel
theorem dX10_perform_59 : decode cX10_perform 59 = .ok (.invokevirtual 158, 3) := by decide +kernel
theorem dX10_perform_62 : decode cX10_perform 62 = .ok (.istore 5, 2) := by decide +kernel
theorem dX10_perform_64 : decode cX10_perform 64 = .ok (.aload_n 0, 1) := by decide +kernel
theorem dX10_perform_65 : decode cX10_perform 65 = .ok (.getfield 30, 3) := by decide +kernel
theorem dX10_perform_68 : decode cX10_perform 68 = .ok (.aload_n 0, 1) := by decide +kernel
theorem dX10_perform_69 : decode cX10_perform 69 = .ok (.getfield 53, 3) := by decide +kernel
theorem dX10_perform_72 : decode cX10_perform 72 = .ok (.getfield 81, 3) := by decide +kernel
theorem dX10_perform_75 : decode cX10_perform 75 = .ok (.iload 4, 2) := by decide +kernel
theorem dX10_perform_77 : decode cX10_perform 77 = .ok (.iload 5, 2) := by decide +kernel
theorem dX10_perform_79 : decode cX10_perform 79 = .ok (.aload_n 0, 1) := by decide +kernel
theorem dX10_perform_80 : decode cX10_perform 80 = .ok (.getfield 73, 3) := by decide +kernel
theorem dX10_perform_83 : decode cX10_perform 83 = .ok (.iload_n 3, 1) := by decide +kernel
theorem dX10_perform_84 : decode cX10_perform 84 = .ok (.invokevirtual 161, 3) := by decide +kernel
theorem dX10_perform_87 : decode cX10_perform 87 = .ok (.invokevirtual 85, 3) := by decide +kernel
theorem dX10_perform_90 : decode cX10_perform 90 = .ok (.istore 6, 2) := by decide +kernel
theorem dX10_perform_92 : decode cX10_perform 92 = .ok (.iload 6, 2) := by decide +kernel
theorem dX10_perform_94 : decode cX10_perform 94 = .ok (.ifCond .eq 24, 3) := by decide +kernel
theorem dX10_perform_97 : decode cX10_perform 97 = .ok (.aload_n 0, 1) := by decide +kernel
theorem dX10_perform_98 : decode cX10_perform 98 = .ok (.iload_n 3, 1) := by decide +kernel
theorem dX10_perform_99 : decode cX10_perform 99 = .ok (.iload 6, 2) := by decide +kernel
theorem dX10_perform_101 : decode cX10_perform 101 = .ok (.invokevirtual 164, 3) := by decide +kernel
theorem dX10_perform_104 : decode cX10_perform 104 = .ok (.aload_n 0, 1) := by decide +kernel
theorem dX10_perform_105 : decode cX10_perform 105 = .ok (.getfield 53, 3) := by decide +kernel
theorem dX10_perform_108 : decode cX10_perform 108 = .ok (.aload_n 0, 1) := by decide +kernel
theorem dX10_perform_109 : decode cX10_perform 109 = .ok (.getfield 57, 3) := by decide +kernel
theorem dX10_perform_112 : decode cX10_perform 112 = .ok (.invokevirtual 149, 3) := by decide +kernel
theorem dX10_perform_115 : decode cX10_perform 115 = .ok (.bipush (-104), 2) := by decide +kernel
theorem dX10_perform_117 : decode cX10_perform 117 = .ok (.ireturn, 1) := by decide +kernel
theorem dX10_perform_118 : decode cX10_perform 118 = .ok (.aload_n 0, 1) := by decide +kernel
theorem dX10_perform_119 : decode cX10_perform 119 = .ok (.getfield 53, 3) := by decide +kernel
theorem dX10_perform_122 : decode cX10_perform 122 = .ok (.iload 4, 2) := by decide +kernel
theorem dX10_perform_124 : decode cX10_perform 124 = .ok (.iload 5, 2) := by decide +kernel
theorem dX10_perform_126 : decode cX10_perform 126 = .ok (.invokevirtual 93, 3) := by decide +kernel
theorem dX10_perform_129 : decode cX10_perform 129 = .ok (.iinc 3 1, 3) := by decide +kernel
theorem dX10_perform_132 : decode cX10_perform 132 = .ok (.goto (-93), 3) := by decide +kernel
theorem dX10_perform_135 : decode cX10_perform 135 = .ok (.aload_n 0, 1) := by decide +kernel
theorem dX10_perform_136 : decode cX10_perform 136 = .ok (.getfield 66, 3) := by decide +kernel
theorem dX10_perform_139 : decode cX10_perform 139 = .ok (.aload_n 0, 1) := by decide +kernel
theorem dX10_perform_140 : decode cX10_perform 140 = .ok (.getfield 57, 3) := by decide +kernel
theorem dX10_perform_143 : decode cX10_perform 143 = .ok (.invokevirtual 89, 3) := by decide +kernel
theorem dX10_perform_146 : decode cX10_perform 146 = .ok (.iload_n 2, 1) := by decide +kernel
theorem dX10_perform_147 : decode cX10_perform 147 = .ok (.ireturn, 1) := by decide +kernel
theorem dX10_stopped_0 : decode cX10_stopped 0 = .ok (.iload_n 1, 1) := by decide +kernel
theorem dX10_stopped_1 : decode cX10_stopped 1 = .ok (.ifCond .lt 8, 3) := by decide +kernel
theorem dX10_stopped_4 : decode cX10_stopped 4 = .ok (.iload_n 1, 1) := by decide +kernel
theorem dX10_stopped_5 : decode cX10_stopped 5 = .ok (.iconst 1, 1) := by decide +kernel
theorem dX10_stopped_6 : decode cX10_stopped 6 = .ok (.if_icmp .le 6, 3) := by decide +kernel
theorem dX10_stopped_9 : decode cX10_stopped 9 = .ok (.bipush (-102), 2) := by decide +kernel
theorem dX10_stopped_11 : decode cX10_stopped 11 = .ok (.ireturn, 1) := by decide +kernel
theorem dX10_stopped_12 : decode cX10_stopped 12 = .ok (.aload_n 0, 1) := by decide +kernel
theorem dX10_stopped_13 : decode cX10_stopped 13 = .ok (.getfield 167, 3) := by decide +kernel
theorem dX10_stopped_16 : decode cX10_stopped 16 = .ok (.ifCond .ne 6, 3) := by decide +kernel
theorem dX10_stopped_19 : decode cX10_stopped 19 = .ok (.bipush (-105), 2) := by decide +kernel
theorem dX10_stopped_21 : decode cX10_stopped 21 = .ok (.ireturn, 1) := by decide +kernel
theorem dX10_stopped_22 : decode cX10_stopped 22 = .ok (.iload_n 1, 1) := by decide +kernel
theorem dX10_stopped_23 : decode cX10_stopped 23 = .ok (.ifCond .ne 10, 3) := by decide +kernel
theorem dX10_stopped_26 : decode cX10_stopped 26 = .ok (.aload_n 0, 1) := by decide +kernel
theorem dX10_stopped_27 : decode cX10_stopped 27 = .ok (.getfield 171, 3) := by decide +kernel
theorem dX10_stopped_30 : decode cX10_stopped 30 = .ok (.goto 7, 3) := by decide +kernel
theorem dX10_stopped_33 : decode cX10_stopped 33 = .ok (.aload_n 0, 1) := by decide +kernel
theorem dX10_stopped_34 : decode cX10_stopped 34 = .ok (.getfield 175, 3) := by decide +kernel
theorem dX10_stopped_37 : decode cX10_stopped 37 = .ok (.ireturn, 1) := by decide +kernel
theorem dX10_undo_0 : decode cX10_undo 0 = .ok (.aload_n 0, 1) := by decide +kernel
theorem dX10_undo_1 : decode cX10_undo 1 = .ok (.getfield 66, 3) := by decide +kernel
theorem dX10_undo_4 : decode cX10_undo 4 = .ok (.invokevirtual 178, 3) := by decide +kernel
theorem dX10_undo_7 : decode cX10_undo 7 = .ok (.ifCond .ne 6, 3) := by decide +kernel
theorem dX10_undo_10 : decode cX10_undo 10 = .ok (.bipush (-105), 2) := by decide +kernel
theorem dX10_undo_12 : decode cX10_undo 12 = .ok (.ireturn, 1) := by decide +kernel
theorem dX10_undo_13 : decode cX10_undo 13 = .ok (.aload_n 0, 1) := by decide +kernel
theorem dX10_undo_14 : decode cX10_undo 14 = .ok (.getfield 66, 3) := by decide +kernel
theorem dX10_undo_17 : decode cX10_undo 17 = .ok (.aload_n 0, 1) := by decide +kernel
theorem dX10_undo_18 : decode cX10_undo 18 = .ok (.getfield 53, 3) := by decide +kernel
theorem dX10_undo_21 : decode cX10_undo 21 = .ok (.invokevirtual 181, 3) := by decide +kernel
theorem dX10_undo_24 : decode cX10_undo 24 = .ok (.aload_n 0, 1) := by decide +kernel
theorem dX10_undo_25 : decode cX10_undo 25 = .ok (.getfield 66, 3) := by decide +kernel
theorem dX10_undo_28 : decode cX10_undo 28 = .ok (.invokevirtual 178, 3) := by decide +kernel
theorem dX10_undo_31 : decode cX10_undo 31 = .ok (.ireturn, 1) := by decide +kernel
theorem dX10_keep_0 : decode cX10_keep 0 = .ok (.aload_n 0, 1) := by decide +kernel
theorem dX10_keep_1 : decode cX10_keep 1 = .ok (.getfield 60, 3) := by decide +kernel
theorem dX10_keep_4 : decode cX10_keep 4 = .ok (.aload_n 0, 1) := by decide +kernel
theorem dX10_keep_5 : decode cX10_keep 5 = .ok (.getfield 53, 3) := by decide +kernel
theorem dX10_keep_8 : decode cX10_keep 8 = .ok (.invokevirtual 149, 3) := by decide +kernel
theorem dX10_keep_11 : decode cX10_keep 11 = .ok (.aload_n 0, 1) := by decide +kernel
theorem dX10_keep_12 : decode cX10_keep 12 = .ok (.iconst 1, 1) := by decide +kernel
theorem dX10_keep_13 : decode cX10_keep 13 = .ok (.putfield 184, 3) := by decide +kernel
theorem dX10_keep_16 : decode cX10_keep 16 = .ok (.aload_n 0, 1) := by decide +kernel
theorem dX10_keep_17 : decode cX10_keep 17 = .ok (.getfield 53, 3) := by decide +kernel
theorem dX10_keep_20 : decode cX10_keep 20 = .ok (.getfield 81, 3) := by decide +kernel
theorem dX10_keep_23 : decode cX10_keep 23 = .ok (.invokevirtual 123, 3) := by decide +kernel
theorem dX10_keep_26 : decode cX10_keep 26 = .ok (.ireturn, 1) := by decide +kernel
theorem dX10_restore_0 : decode cX10_restore 0 = .ok (.aload_n 0, 1) := by decide +kernel
theorem dX10_restore_1 : decode cX10_restore 1 = .ok (.getfield 184, 3) := by decide +kernel
theorem dX10_restore_4 : decode cX10_restore 4 = .ok (.ifCond .ne 6, 3) := by decide +kernel
theorem dX10_restore_7 : decode cX10_restore 7 = .ok (.bipush (-105), 2) := by decide +kernel
theorem dX10_restore_9 : decode cX10_restore 9 = .ok (.ireturn, 1) := by decide +kernel
theorem dX10_restore_10 : decode cX10_restore 10 = .ok (.aload_n 0, 1) := by decide +kernel
theorem dX10_restore_11 : decode cX10_restore 11 = .ok (.getfield 66, 3) := by decide +kernel
theorem dX10_restore_14 : decode cX10_restore 14 = .ok (.aload_n 0, 1) := by decide +kernel
theorem dX10_restore_15 : decode cX10_restore 15 = .ok (.getfield 53, 3) := by decide +kernel
theorem dX10_restore_18 : decode cX10_restore 18 = .ok (.invokevirtual 89, 3) := by decide +kernel
theorem dX10_restore_21 : decode cX10_restore 21 = .ok (.aload_n 0, 1) := by decide +kernel
theorem dX10_restore_22 : decode cX10_restore 22 = .ok (.getfield 53, 3) := by decide +kernel
theorem dX10_restore_25 : decode cX10_restore 25 = .ok (.aload_n 0, 1) := by decide +kernel
theorem dX10_restore_26 : decode cX10_restore 26 = .ok (.getfield 60, 3) := by decide +kernel
theorem dX10_restore_29 : decode cX10_restore 29 = .ok (.invokevirtual 149, 3) := by decide +kernel
theorem dX10_restore_32 : decode cX10_restore 32 = .ok (.aload_n 0, 1) := by decide +kernel
theorem dX10_restore_33 : decode cX10_restore 33 = .ok (.getfield 53, 3) := by decide +kernel
theorem dX10_restore_36 : decode cX10_restore 36 = .ok (.getfield 81, 3) := by decide +kernel
theorem dX10_restore_39 : decode cX10_restore 39 = .ok (.invokevirtual 123, 3) := by decide +kernel
theorem dX10_restore_42 : decode cX10_restore 42 = .ok (.ireturn, 1) := by decide +kernel
theorem dX10_point_0 : decode cX10_point 0 = .ok (.iload_n 1, 1) := by decide +kernel
theorem dX10_point_1 : decode cX10_point 1 = .ok (.invokestatic 77, 3) := by decide +kernel
theorem dX10_point_4 : decode cX10_point 4 = .ok (.ifCond .ne 6, 3) := by decide +kernel
theorem dX10_point_7 : decode cX10_point 7 = .ok (.bipush (-101), 2) := by decide +kernel
theorem dX10_point_9 : decode cX10_point 9 = .ok (.ireturn, 1) := by decide +kernel
theorem dX10_point_10 : decode cX10_point 10 = .ok (.iload_n 2, 1) := by decide +kernel
theorem dX10_point_11 : decode cX10_point 11 = .ok (.tableswitch 109 0 4 #[33, 45, 61, 77, 93], 33) := by decide +kernel
theorem dX10_point_44 : decode cX10_point 44 = .ok (.aload_n 0, 1) := by decide +kernel
theorem dX10_point_45 : decode cX10_point 45 = .ok (.getfield 53, 3) := by decide +kernel
theorem dX10_point_48 : decode cX10_point 48 = .ok (.getfield 81, 3) := by decide +kernel
theorem dX10_point_51 : decode cX10_point 51 = .ok (.iload_n 1, 1) := by decide +kernel
theorem dX10_point_52 : decode cX10_point 52 = .ok (.invokevirtual 114, 3) := by decide +kernel
theorem dX10_point_55 : decode cX10_point 55 = .ok (.ireturn, 1) := by decide +kernel
theorem dX10_point_56 : decode cX10_point 56 = .ok (.aload_n 0, 1) := by decide +kernel
theorem dX10_point_57 : decode cX10_point 57 = .ok (.getfield 30, 3) := by decide +kernel
theorem dX10_point_60 : decode cX10_point 60 = .ok (.aload_n 0, 1) := by decide +kernel
theorem dX10_point_61 : decode cX10_point 61 = .ok (.getfield 53, 3) := by decide +kernel
theorem dX10_point_64 : decode cX10_point 64 = .ok (.getfield 81, 3) := by decide +kernel
theorem dX10_point_67 : decode cX10_point 67 = .ok (.iload_n 1, 1) := by decide +kernel
theorem dX10_point_68 : decode cX10_point 68 = .ok (.invokevirtual 187, 3) := by decide +kernel
theorem dX10_point_71 : decode cX10_point 71 = .ok (.ireturn, 1) := by decide +kernel
theorem dX10_point_72 : decode cX10_point 72 = .ok (.aload_n 0, 1) := by decide +kernel
theorem dX10_point_73 : decode cX10_point 73 = .ok (.getfield 30, 3) := by decide +kernel
theorem dX10_point_76 : decode cX10_point 76 = .ok (.aload_n 0, 1) := by decide +kernel
theorem dX10_point_77 : decode cX10_point 77 = .ok (.getfield 53, 3) := by decide +kernel
theorem dX10_point_80 : decode cX10_point 80 = .ok (.getfield 81, 3) := by decide +kernel
theorem dX10_point_83 : decode cX10_point 83 = .ok (.iload_n 1, 1) := by decide +kernel
theorem dX10_point_84 : decode cX10_point 84 = .ok (.invokevirtual 190, 3) := by decide +kernel
theorem dX10_point_87 : decode cX10_point 87 = .ok (.ireturn, 1) := by decide +kernel
theorem dX10_point_88 : decode cX10_point 88 = .ok (.aload_n 0, 1) := by decide +kernel
theorem dX10_point_89 : decode cX10_point 89 = .ok (.getfield 30, 3) := by decide +kernel
theorem dX10_point_92 : decode cX10_point 92 = .ok (.aload_n 0, 1) := by decide +kernel
theorem dX10_point_93 : decode cX10_point 93 = .ok (.getfield 53, 3) := by decide +kernel
theorem dX10_point_96 : decode cX10_point 96 = .ok (.getfield 81, 3) := by decide +kernel
theorem dX10_point_99 : decode cX10_point 99 = .ok (.iload_n 1, 1) := by decide +kernel
theorem dX10_point_100 : decode cX10_point 100 = .ok (.invokevirtual 193, 3) := by decide +kernel
theorem dX10_point_103 : decode cX10_point 103 = .ok (.ireturn, 1) := by decide +kernel
theorem dX10_point_104 : decode cX10_point 104 = .ok (.aload_n 0, 1) := by decide +kernel
theorem dX10_point_105 : decode cX10_point 105 = .ok (.getfield 30, 3) := by decide +kernel
theorem dX10_point_108 : decode cX10_point 108 = .ok (.aload_n 0, 1) := by decide +kernel
theorem dX10_point_109 : decode cX10_point 109 = .ok (.getfield 53, 3) := by decide +kernel
theorem dX10_point_112 : decode cX10_point 112 = .ok (.getfield 81, 3) := by decide +kernel
theorem dX10_point_115 : decode cX10_point 115 = .ok (.iload_n 1, 1) := by decide +kernel
theorem dX10_point_116 : decode cX10_point 116 = .ok (.invokevirtual 196, 3) := by decide +kernel
theorem dX10_point_119 : decode cX10_point 119 = .ok (.ireturn, 1) := by decide +kernel
theorem dX10_point_120 : decode cX10_point 120 = .ok (.bipush (-102), 2) := by decide +kernel
theorem dX10_point_122 : decode cX10_point 122 = .ok (.ireturn, 1) := by decide +kernel
theorem dX10_way_0 : decode cX10_way 0 = .ok (.iload_n 1, 1) := by decide +kernel
theorem dX10_way_1 : decode cX10_way 1 = .ok (.invokestatic 77, 3) := by decide +kernel
theorem dX10_way_4 : decode cX10_way 4 = .ok (.ifCond .eq 10, 3) := by decide +kernel
theorem dX10_way_7 : decode cX10_way 7 = .ok (.iload_n 2, 1) := by decide +kernel
theorem dX10_way_8 : decode cX10_way 8 = .ok (.invokestatic 77, 3) := by decide +kernel
theorem dX10_way_11 : decode cX10_way 11 = .ok (.ifCond .ne 6, 3) := by decide +kernel
theorem dX10_way_14 : decode cX10_way 14 = .ok (.bipush (-101), 2) := by decide +kernel
theorem dX10_way_16 : decode cX10_way 16 = .ok (.ireturn, 1) := by decide +kernel
theorem dX10_way_17 : decode cX10_way 17 = .ok (.iload_n 3, 1) := by decide +kernel
theorem dX10_way_18 : decode cX10_way 18 = .ok (.ifCond .lt 8, 3) := by decide +kernel
theorem dX10_way_21 : decode cX10_way 21 = .ok (.iload_n 3, 1) := by decide +kernel
theorem dX10_way_22 : decode cX10_way 22 = .ok (.iconst 4, 1) := by decide +kernel
theorem dX10_way_23 : decode cX10_way 23 = .ok (.if_icmp .le 6, 3) := by decide +kernel
theorem dX10_way_26 : decode cX10_way 26 = .ok (.bipush (-102), 2) := by decide +kernel
theorem dX10_way_28 : decode cX10_way 28 = .ok (.ireturn, 1) := by decide +kernel
theorem dX10_way_29 : decode cX10_way 29 = .ok (.aload_n 0, 1) := by decide +kernel
theorem dX10_way_30 : decode cX10_way 30 = .ok (.getfield 30, 3) := by decide +kernel
theorem dX10_way_33 : decode cX10_way 33 = .ok (.aload_n 0, 1) := by decide +kernel
theorem dX10_way_34 : decode cX10_way 34 = .ok (.getfield 53, 3) := by decide +kernel
theorem dX10_way_37 : decode cX10_way 37 = .ok (.getfield 81, 3) := by decide +kernel
theorem dX10_way_40 : decode cX10_way 40 = .ok (.iload_n 1, 1) := by decide +kernel
theorem dX10_way_41 : decode cX10_way 41 = .ok (.iload_n 2, 1) := by decide +kernel
theorem dX10_way_42 : decode cX10_way 42 = .ok (.invokevirtual 199, 3) := by decide +kernel
theorem dX10_way_45 : decode cX10_way 45 = .ok (.ifCond .ne 6, 3) := by decide +kernel
theorem dX10_way_48 : decode cX10_way 48 = .ok (.bipush (-105), 2) := by decide +kernel
theorem dX10_way_50 : decode cX10_way 50 = .ok (.ireturn, 1) := by decide +kernel
theorem dX10_way_51 : decode cX10_way 51 = .ok (.iload_n 3, 1) := by decide +kernel
theorem dX10_way_52 : decode cX10_way 52 = .ok (.tableswitch 70 0 3 #[32, 40, 48, 59], 32) := by decide +kernel
theorem dX10_way_84 : decode cX10_way 84 = .ok (.aload_n 0, 1) := by decide +kernel
theorem dX10_way_85 : decode cX10_way 85 = .ok (.getfield 21, 3) := by decide +kernel
theorem dX10_way_88 : decode cX10_way 88 = .ok (.getfield 203, 3) := by decide +kernel
theorem dX10_way_91 : decode cX10_way 91 = .ok (.ireturn, 1) := by decide +kernel
theorem dX10_way_92 : decode cX10_way 92 = .ok (.aload_n 0, 1) := by decide +kernel
theorem dX10_way_93 : decode cX10_way 93 = .ok (.getfield 21, 3) := by decide +kernel
theorem dX10_way_96 : decode cX10_way 96 = .ok (.getfield 206, 3) := by decide +kernel
theorem dX10_way_99 : decode cX10_way 99 = .ok (.ireturn, 1) := by decide +kernel
theorem dX10_way_100 : decode cX10_way 100 = .ok (.aload_n 0, 1) := by decide +kernel
theorem dX10_way_101 : decode cX10_way 101 = .ok (.getfield 21, 3) := by decide +kernel
theorem dX10_way_104 : decode cX10_way 104 = .ok (.getfield 209, 3) := by decide +kernel
theorem dX10_way_107 : decode cX10_way 107 = .ok (.bipush 24, 2) := by decide +kernel
theorem dX10_way_109 : decode cX10_way 109 = .ok (.idiv, 1) := by decide +kernel
theorem dX10_way_110 : decode cX10_way 110 = .ok (.ireturn, 1) := by decide +kernel
theorem dX10_way_111 : decode cX10_way 111 = .ok (.aload_n 0, 1) := by decide +kernel
theorem dX10_way_112 : decode cX10_way 112 = .ok (.getfield 21, 3) := by decide +kernel
theorem dX10_way_115 : decode cX10_way 115 = .ok (.getfield 209, 3) := by decide +kernel
theorem dX10_way_118 : decode cX10_way 118 = .ok (.bipush 24, 2) := by decide +kernel
theorem dX10_way_120 : decode cX10_way 120 = .ok (.irem, 1) := by decide +kernel
theorem dX10_way_121 : decode cX10_way 121 = .ok (.ireturn, 1) := by decide +kernel
theorem dX10_way_122 : decode cX10_way 122 = .ok (.aload_n 0, 1) := by decide +kernel
theorem dX10_way_123 : decode cX10_way 123 = .ok (.getfield 21, 3) := by decide +kernel
theorem dX10_way_126 : decode cX10_way 126 = .ok (.getfield 212, 3) := by decide +kernel
theorem dX10_way_129 : decode cX10_way 129 = .ok (.ifCond .le 7, 3) := by decide +kernel
theorem dX10_way_132 : decode cX10_way 132 = .ok (.iconst 1, 1) := by decide +kernel
theorem dX10_way_133 : decode cX10_way 133 = .ok (.goto 4, 3) := by decide +kernel
theorem dX10_way_136 : decode cX10_way 136 = .ok (.iconst 0, 1) := by decide +kernel
theorem dX10_way_137 : decode cX10_way 137 = .ok (.ireturn, 1) := by decide +kernel
theorem dX10_circuit_0 : decode cX10_circuit 0 = .ok (.iload_n 1, 1) := by decide +kernel
theorem dX10_circuit_1 : decode cX10_circuit 1 = .ok (.ifCond .lt 18, 3) := by decide +kernel
theorem dX10_circuit_4 : decode cX10_circuit 4 = .ok (.iload_n 1, 1) := by decide +kernel
theorem dX10_circuit_5 : decode cX10_circuit 5 = .ok (.iconst 2, 1) := by decide +kernel
theorem dX10_circuit_6 : decode cX10_circuit 6 = .ok (.if_icmp .ge 13, 3) := by decide +kernel
theorem dX10_circuit_9 : decode cX10_circuit 9 = .ok (.iload_n 2, 1) := by decide +kernel
theorem dX10_circuit_10 : decode cX10_circuit 10 = .ok (.ifCond .lt 9, 3) := by decide +kernel
theorem dX10_circuit_13 : decode cX10_circuit 13 = .ok (.iload_n 2, 1) := by decide +kernel
theorem dX10_circuit_14 : decode cX10_circuit 14 = .ok (.bipush 24, 2) := by decide +kernel
theorem dX10_circuit_16 : decode cX10_circuit 16 = .ok (.if_icmp .lt 6, 3) := by decide +kernel
theorem dX10_circuit_19 : decode cX10_circuit 19 = .ok (.bipush (-101), 2) := by decide +kernel
theorem dX10_circuit_21 : decode cX10_circuit 21 = .ok (.ireturn, 1) := by decide +kernel
theorem dX10_circuit_22 : decode cX10_circuit 22 = .ok (.aload_n 0, 1) := by decide +kernel
theorem dX10_circuit_23 : decode cX10_circuit 23 = .ok (.getfield 10, 3) := by decide +kernel
theorem dX10_circuit_26 : decode cX10_circuit 26 = .ok (.iload_n 1, 1) := by decide +kernel
theorem dX10_circuit_27 : decode cX10_circuit 27 = .ok (.bipush 24, 2) := by decide +kernel
theorem dX10_circuit_29 : decode cX10_circuit 29 = .ok (.imul, 1) := by decide +kernel
theorem dX10_circuit_30 : decode cX10_circuit 30 = .ok (.iload_n 2, 1) := by decide +kernel
theorem dX10_circuit_31 : decode cX10_circuit 31 = .ok (.iadd, 1) := by decide +kernel
theorem dX10_circuit_32 : decode cX10_circuit 32 = .ok (.invokevirtual 215, 3) := by decide +kernel
theorem dX10_circuit_35 : decode cX10_circuit 35 = .ok (.ireturn, 1) := by decide +kernel
theorem dX10_reason_0 : decode cX10_reason 0 = .ok (.iload_n 1, 1) := by decide +kernel
theorem dX10_reason_1 : decode cX10_reason 1 = .ok (.invokestatic 77, 3) := by decide +kernel
theorem dX10_reason_4 : decode cX10_reason 4 = .ok (.ifCond .eq 10, 3) := by decide +kernel
theorem dX10_reason_7 : decode cX10_reason 7 = .ok (.iload_n 2, 1) := by decide +kernel
theorem dX10_reason_8 : decode cX10_reason 8 = .ok (.invokestatic 77, 3) := by decide +kernel
theorem dX10_reason_11 : decode cX10_reason 11 = .ok (.ifCond .ne 6, 3) := by decide +kernel
theorem dX10_reason_14 : decode cX10_reason 14 = .ok (.bipush (-101), 2) := by decide +kernel
theorem dX10_reason_16 : decode cX10_reason 16 = .ok (.ireturn, 1) := by decide +kernel
theorem dX10_reason_17 : decode cX10_reason 17 = .ok (.aload_n 0, 1) := by decide +kernel
theorem dX10_reason_18 : decode cX10_reason 18 = .ok (.getfield 30, 3) := by decide +kernel
theorem dX10_reason_21 : decode cX10_reason 21 = .ok (.aload_n 0, 1) := by decide +kernel
theorem dX10_reason_22 : decode cX10_reason 22 = .ok (.getfield 53, 3) := by decide +kernel
theorem dX10_reason_25 : decode cX10_reason 25 = .ok (.getfield 81, 3) := by decide +kernel
theorem dX10_reason_28 : decode cX10_reason 28 = .ok (.iload_n 1, 1) := by decide +kernel
theorem dX10_reason_29 : decode cX10_reason 29 = .ok (.iload_n 2, 1) := by decide +kernel
theorem dX10_reason_30 : decode cX10_reason 30 = .ok (.iload_n 3, 1) := by decide +kernel
theorem dX10_reason_31 : decode cX10_reason 31 = .ok (.invokevirtual 85, 3) := by decide +kernel
theorem dX10_reason_34 : decode cX10_reason 34 = .ok (.ireturn, 1) := by decide +kernel
theorem dX10_possible_0 : decode cX10_possible 0 = .ok (.iload_n 1, 1) := by decide +kernel
theorem dX10_possible_1 : decode cX10_possible 1 = .ok (.ifCond .ge 6, 3) := by decide +kernel
theorem dX10_possible_4 : decode cX10_possible 4 = .ok (.bipush (-102), 2) := by decide +kernel
theorem dX10_possible_6 : decode cX10_possible 6 = .ok (.ireturn, 1) := by decide +kernel
theorem dX10_possible_7 : decode cX10_possible 7 = .ok (.aload_n 0, 1) := by decide +kernel
theorem dX10_possible_8 : decode cX10_possible 8 = .ok (.getfield 30, 3) := by decide +kernel
theorem dX10_possible_11 : decode cX10_possible 11 = .ok (.aload_n 0, 1) := by decide +kernel
theorem dX10_possible_12 : decode cX10_possible 12 = .ok (.getfield 53, 3) := by decide +kernel
theorem dX10_possible_15 : decode cX10_possible 15 = .ok (.getfield 81, 3) := by decide +kernel
theorem dX10_possible_18 : decode cX10_possible 18 = .ok (.aload_n 0, 1) := by decide +kernel
theorem dX10_possible_19 : decode cX10_possible 19 = .ok (.getfield 37, 3) := by decide +kernel
theorem dX10_possible_22 : decode cX10_possible 22 = .ok (.invokevirtual 218, 3) := by decide +kernel
theorem dX10_possible_25 : decode cX10_possible 25 = .ok (.iload_n 1, 1) := by decide +kernel
theorem dX10_possible_26 : decode cX10_possible 26 = .ok (.aload_n 0, 1) := by decide +kernel
theorem dX10_possible_27 : decode cX10_possible 27 = .ok (.getfield 37, 3) := by decide +kernel
theorem dX10_possible_30 : decode cX10_possible 30 = .ok (.invokevirtual 222, 3) := by decide +kernel
theorem dX10_possible_33 : decode cX10_possible 33 = .ok (.if_icmp .ge 14, 3) := by decide +kernel
theorem dX10_possible_36 : decode cX10_possible 36 = .ok (.aload_n 0, 1) := by decide +kernel
theorem dX10_possible_37 : decode cX10_possible 37 = .ok (.getfield 37, 3) := by decide +kernel
theorem dX10_possible_40 : decode cX10_possible 40 = .ok (.iload_n 1, 1) := by decide +kernel
theorem dX10_possible_41 : decode cX10_possible 41 = .ok (.invokevirtual 223, 3) := by decide +kernel
theorem dX10_possible_44 : decode cX10_possible 44 = .ok (.goto 5, 3) := by decide +kernel
theorem dX10_possible_47 : decode cX10_possible 47 = .ok (.bipush (-105), 2) := by decide +kernel
theorem dX10_possible_49 : decode cX10_possible 49 = .ok (.ireturn, 1) := by decide +kernel
theorem dX10_look_0 : decode cX10_look 0 = .ok (.iload_n 1, 1) := by decide +kernel
theorem dX10_look_1 : decode cX10_look 1 = .ok (.ifCond .lt 8, 3) := by decide +kernel
theorem dX10_look_4 : decode cX10_look 4 = .ok (.iload_n 1, 1) := by decide +kernel
theorem dX10_look_5 : decode cX10_look 5 = .ok (.iconst 2, 1) := by decide +kernel
theorem dX10_look_6 : decode cX10_look 6 = .ok (.if_icmp .le 6, 3) := by decide +kernel
theorem dX10_look_9 : decode cX10_look 9 = .ok (.bipush (-102), 2) := by decide +kernel
theorem dX10_look_11 : decode cX10_look 11 = .ok (.ireturn, 1) := by decide +kernel
theorem dX10_look_12 : decode cX10_look 12 = .ok (.aload_n 0, 1) := by decide +kernel
theorem dX10_look_13 : decode cX10_look 13 = .ok (.getfield 46, 3) := by decide +kernel
theorem dX10_look_16 : decode cX10_look 16 = .ok (.aload_n 0, 1) := by decide +kernel
theorem dX10_look_17 : decode cX10_look 17 = .ok (.getfield 53, 3) := by decide +kernel
theorem dX10_look_20 : decode cX10_look 20 = .ok (.getfield 81, 3) := by decide +kernel
theorem dX10_look_23 : decode cX10_look 23 = .ok (.iload_n 1, 1) := by decide +kernel
theorem dX10_look_24 : decode cX10_look 24 = .ok (.invokevirtual 226, 3) := by decide +kernel
theorem dX10_look_27 : decode cX10_look 27 = .ok (.ireturn, 1) := by decide +kernel
theorem dX10_best_0 : decode cX10_best 0 = .ok (.iload_n 1, 1) := by decide +kernel
theorem dX10_best_1 : decode cX10_best 1 = .ok (.iconst 1, 1) := by decide +kernel
theorem dX10_best_2 : decode cX10_best 2 = .ok (.if_icmp .lt 8, 3) := by decide +kernel
theorem dX10_best_5 : decode cX10_best 5 = .ok (.iload_n 1, 1) := by decide +kernel
theorem dX10_best_6 : decode cX10_best 6 = .ok (.iconst 2, 1) := by decide +kernel
theorem dX10_best_7 : decode cX10_best 7 = .ok (.if_icmp .le 6, 3) := by decide +kernel
theorem dX10_best_10 : decode cX10_best 10 = .ok (.bipush (-102), 2) := by decide +kernel
theorem dX10_best_12 : decode cX10_best 12 = .ok (.ireturn, 1) := by decide +kernel
theorem dX10_best_13 : decode cX10_best 13 = .ok (.aload_n 0, 1) := by decide +kernel
theorem dX10_best_14 : decode cX10_best 14 = .ok (.getfield 46, 3) := by decide +kernel
theorem dX10_best_17 : decode cX10_best 17 = .ok (.aload_n 0, 1) := by decide +kernel
theorem dX10_best_18 : decode cX10_best 18 = .ok (.getfield 53, 3) := by decide +kernel
theorem dX10_best_21 : decode cX10_best 21 = .ok (.getfield 81, 3) := by decide +kernel
theorem dX10_best_24 : decode cX10_best 24 = .ok (.iload_n 1, 1) := by decide +kernel
theorem dX10_best_25 : decode cX10_best 25 = .ok (.invokevirtual 110, 3) := by decide +kernel
theorem dX10_best_28 : decode cX10_best 28 = .ok (.istore_n 2, 1) := by decide +kernel
theorem dX10_best_29 : decode cX10_best 29 = .ok (.iload_n 2, 1) := by decide +kernel
theorem dX10_best_30 : decode cX10_best 30 = .ok (.ifCond .ge 8, 3) := by decide +kernel
theorem dX10_best_33 : decode cX10_best 33 = .ok (.bipush (-105), 2) := by decide +kernel
theorem dX10_best_35 : decode cX10_best 35 = .ok (.goto 4, 3) := by decide +kernel
theorem dX10_best_38 : decode cX10_best 38 = .ok (.iload_n 2, 1) := by decide +kernel
theorem dX10_best_39 : decode cX10_best 39 = .ok (.ireturn, 1) := by decide +kernel
theorem dX10_count_0 : decode cX10_count 0 = .ok (.iload_n 1, 1) := by decide +kernel
theorem dX10_count_1 : decode cX10_count 1 = .ok (.tableswitch 194 0 13 #[71, 82, 82, 94, 105, 116, 122, 128, 136, 144, 152, 163, 178, 186], 71) := by decide +kernel
theorem dX10_count_72 : decode cX10_count 72 = .ok (.aload_n 0, 1) := by decide +kernel
theorem dX10_count_73 : decode cX10_count 73 = .ok (.getfield 53, 3) := by decide +kernel
theorem dX10_count_76 : decode cX10_count 76 = .ok (.getfield 81, 3) := by decide +kernel
theorem dX10_count_79 : decode cX10_count 79 = .ok (.invokevirtual 103, 3) := by decide +kernel
theorem dX10_count_82 : decode cX10_count 82 = .ok (.ireturn, 1) := by decide +kernel
theorem dX10_count_83 : decode cX10_count 83 = .ok (.aload_n 0, 1) := by decide +kernel
theorem dX10_count_84 : decode cX10_count 84 = .ok (.getfield 53, 3) := by decide +kernel
theorem dX10_count_87 : decode cX10_count 87 = .ok (.getfield 81, 3) := by decide +kernel
theorem dX10_count_90 : decode cX10_count 90 = .ok (.iload_n 1, 1) := by decide +kernel
theorem dX10_count_91 : decode cX10_count 91 = .ok (.invokevirtual 106, 3) := by decide +kernel
theorem dX10_count_94 : decode cX10_count 94 = .ok (.ireturn, 1) := by decide +kernel
theorem dX10_count_95 : decode cX10_count 95 = .ok (.aload_n 0, 1) := by decide +kernel
theorem dX10_count_96 : decode cX10_count 96 = .ok (.getfield 53, 3) := by decide +kernel
theorem dX10_count_99 : decode cX10_count 99 = .ok (.getfield 81, 3) := by decide +kernel
theorem dX10_count_102 : decode cX10_count 102 = .ok (.invokevirtual 97, 3) := by decide +kernel
theorem dX10_count_105 : decode cX10_count 105 = .ok (.ireturn, 1) := by decide +kernel
theorem dX10_count_106 : decode cX10_count 106 = .ok (.aload_n 0, 1) := by decide +kernel
theorem dX10_count_107 : decode cX10_count 107 = .ok (.getfield 53, 3) := by decide +kernel
theorem dX10_count_110 : decode cX10_count 110 = .ok (.getfield 81, 3) := by decide +kernel
theorem dX10_count_113 : decode cX10_count 113 = .ok (.invokevirtual 229, 3) := by decide +kernel
theorem dX10_count_116 : decode cX10_count 116 = .ok (.ireturn, 1) := by decide +kernel
theorem dX10_count_117 : decode cX10_count 117 = .ok (.aload_n 0, 1) := by decide +kernel
theorem dX10_count_118 : decode cX10_count 118 = .ok (.iconst 1, 1) := by decide +kernel
theorem dX10_count_119 : decode cX10_count 119 = .ok (.invokevirtual 232, 3) := by decide +kernel
theorem dX10_count_122 : decode cX10_count 122 = .ok (.ireturn, 1) := by decide +kernel
theorem dX10_count_123 : decode cX10_count 123 = .ok (.aload_n 0, 1) := by decide +kernel
theorem dX10_count_124 : decode cX10_count 124 = .ok (.iconst 0, 1) := by decide +kernel
theorem dX10_count_125 : decode cX10_count 125 = .ok (.invokevirtual 232, 3) := by decide +kernel
theorem dX10_count_128 : decode cX10_count 128 = .ok (.ireturn, 1) := by decide +kernel
theorem dX10_count_129 : decode cX10_count 129 = .ok (.aload_n 0, 1) := by decide +kernel
theorem dX10_count_130 : decode cX10_count 130 = .ok (.getfield 53, 3) := by decide +kernel
theorem dX10_count_133 : decode cX10_count 133 = .ok (.getfield 236, 3) := by decide +kernel
theorem dX10_count_136 : decode cX10_count 136 = .ok (.ireturn, 1) := by decide +kernel
theorem dX10_count_137 : decode cX10_count 137 = .ok (.aload_n 0, 1) := by decide +kernel
theorem dX10_count_138 : decode cX10_count 138 = .ok (.getfield 53, 3) := by decide +kernel
theorem dX10_count_141 : decode cX10_count 141 = .ok (.getfield 238, 3) := by decide +kernel
theorem dX10_count_144 : decode cX10_count 144 = .ok (.ireturn, 1) := by decide +kernel
theorem dX10_count_145 : decode cX10_count 145 = .ok (.aload_n 0, 1) := by decide +kernel
theorem dX10_count_146 : decode cX10_count 146 = .ok (.getfield 53, 3) := by decide +kernel
theorem dX10_count_149 : decode cX10_count 149 = .ok (.invokevirtual 241, 3) := by decide +kernel
theorem dX10_count_152 : decode cX10_count 152 = .ok (.ireturn, 1) := by decide +kernel
theorem dX10_count_153 : decode cX10_count 153 = .ok (.aload_n 0, 1) := by decide +kernel
theorem dX10_count_154 : decode cX10_count 154 = .ok (.getfield 53, 3) := by decide +kernel
theorem dX10_count_157 : decode cX10_count 157 = .ok (.getfield 81, 3) := by decide +kernel
theorem dX10_count_160 : decode cX10_count 160 = .ok (.invokevirtual 129, 3) := by decide +kernel
theorem dX10_count_163 : decode cX10_count 163 = .ok (.ireturn, 1) := by decide +kernel
theorem dX10_count_164 : decode cX10_count 164 = .ok (.aload_n 0, 1) := by decide +kernel
theorem dX10_count_165 : decode cX10_count 165 = .ok (.getfield 30, 3) := by decide +kernel
theorem dX10_count_168 : decode cX10_count 168 = .ok (.aload_n 0, 1) := by decide +kernel
theorem dX10_count_169 : decode cX10_count 169 = .ok (.getfield 53, 3) := by decide +kernel
theorem dX10_count_172 : decode cX10_count 172 = .ok (.getfield 81, 3) := by decide +kernel
theorem dX10_count_175 : decode cX10_count 175 = .ok (.invokevirtual 244, 3) := by decide +kernel
theorem dX10_count_178 : decode cX10_count 178 = .ok (.ireturn, 1) := by decide +kernel
theorem dX10_count_179 : decode cX10_count 179 = .ok (.aload_n 0, 1) := by decide +kernel
theorem dX10_count_180 : decode cX10_count 180 = .ok (.getfield 66, 3) := by decide +kernel
theorem dX10_count_183 : decode cX10_count 183 = .ok (.invokevirtual 178, 3) := by decide +kernel
theorem dX10_count_186 : decode cX10_count 186 = .ok (.ireturn, 1) := by decide +kernel
theorem dX10_count_187 : decode cX10_count 187 = .ok (.aload_n 0, 1) := by decide +kernel
theorem dX10_count_188 : decode cX10_count 188 = .ok (.getfield 73, 3) := by decide +kernel
theorem dX10_count_191 : decode cX10_count 191 = .ok (.invokevirtual 140, 3) := by decide +kernel
theorem dX10_count_194 : decode cX10_count 194 = .ok (.ireturn, 1) := by decide +kernel
theorem dX10_count_195 : decode cX10_count 195 = .ok (.bipush (-102), 2) := by decide +kernel
theorem dX10_count_197 : decode cX10_count 197 = .ok (.ireturn, 1) := by decide +kernel
theorem dX10_isPoint_0 : decode cX10_isPoint 0 = .ok (.iload_n 0, 1) := by decide +kernel
theorem dX10_isPoint_1 : decode cX10_isPoint 1 = .ok (.ifCond .lt 13, 3) := by decide +kernel
theorem dX10_isPoint_4 : decode cX10_isPoint 4 = .ok (.iload_n 0, 1) := by decide +kernel
theorem dX10_isPoint_5 : decode cX10_isPoint 5 = .ok (.bipush 36, 2) := by decide +kernel
theorem dX10_isPoint_7 : decode cX10_isPoint 7 = .ok (.if_icmp .ge 7, 3) := by decide +kernel
theorem dX10_isPoint_10 : decode cX10_isPoint 10 = .ok (.iconst 1, 1) := by decide +kernel
theorem dX10_isPoint_11 : decode cX10_isPoint 11 = .ok (.goto 4, 3) := by decide +kernel
theorem dX10_isPoint_14 : decode cX10_isPoint 14 = .ok (.iconst 0, 1) := by decide +kernel
theorem dX10_isPoint_15 : decode cX10_isPoint 15 = .ok (.ireturn, 1) := by decide +kernel
theorem dX10_possibleMoves_0 : decode cX10_possibleMoves 0 = .ok (.aload_n 0, 1) := by decide +kernel
theorem dX10_possibleMoves_1 : decode cX10_possibleMoves 1 = .ok (.getfield 30, 3) := by decide +kernel
theorem dX10_possibleMoves_4 : decode cX10_possibleMoves 4 = .ok (.aload_n 0, 1) := by decide +kernel
theorem dX10_possibleMoves_5 : decode cX10_possibleMoves 5 = .ok (.getfield 53, 3) := by decide +kernel
theorem dX10_possibleMoves_8 : decode cX10_possibleMoves 8 = .ok (.getfield 81, 3) := by decide +kernel
theorem dX10_possibleMoves_11 : decode cX10_possibleMoves 11 = .ok (.aload_n 0, 1) := by decide +kernel
theorem dX10_possibleMoves_12 : decode cX10_possibleMoves 12 = .ok (.getfield 37, 3) := by decide +kernel
theorem dX10_possibleMoves_15 : decode cX10_possibleMoves 15 = .ok (.invokevirtual 218, 3) := by decide +kernel
theorem dX10_possibleMoves_18 : decode cX10_possibleMoves 18 = .ok (.iload_n 1, 1) := by decide +kernel
theorem dX10_possibleMoves_19 : decode cX10_possibleMoves 19 = .ok (.ifCond .eq 13, 3) := by decide +kernel
theorem dX10_possibleMoves_22 : decode cX10_possibleMoves 22 = .ok (.aload_n 0, 1) := by decide +kernel
theorem dX10_possibleMoves_23 : decode cX10_possibleMoves 23 = .ok (.getfield 37, 3) := by decide +kernel
theorem dX10_possibleMoves_26 : decode cX10_possibleMoves 26 = .ok (.invokevirtual 248, 3) := by decide +kernel
theorem dX10_possibleMoves_29 : decode cX10_possibleMoves 29 = .ok (.goto 18, 3) := by decide +kernel
theorem dX10_possibleMoves_32 : decode cX10_possibleMoves 32 = .ok (.aload_n 0, 1) := by decide +kernel
theorem dX10_possibleMoves_33 : decode cX10_possibleMoves 33 = .ok (.getfield 37, 3) := by decide +kernel
theorem dX10_possibleMoves_36 : decode cX10_possibleMoves 36 = .ok (.invokevirtual 222, 3) := by decide +kernel
theorem dX10_possibleMoves_39 : decode cX10_possibleMoves 39 = .ok (.aload_n 0, 1) := by decide +kernel
theorem dX10_possibleMoves_40 : decode cX10_possibleMoves 40 = .ok (.getfield 37, 3) := by decide +kernel
theorem dX10_possibleMoves_43 : decode cX10_possibleMoves 43 = .ok (.invokevirtual 248, 3) := by decide +kernel
theorem dX10_possibleMoves_46 : decode cX10_possibleMoves 46 = .ok (.isub, 1) := by decide +kernel
theorem dX10_possibleMoves_47 : decode cX10_possibleMoves 47 = .ok (.ireturn, 1) := by decide +kernel
theorem dX10_noteStop_0 : decode cX10_noteStop 0 = .ok (.aload_n 0, 1) := by decide +kernel
theorem dX10_noteStop_1 : decode cX10_noteStop 1 = .ok (.iconst 1, 1) := by decide +kernel
theorem dX10_noteStop_2 : decode cX10_noteStop 2 = .ok (.putfield 167, 3) := by decide +kernel
theorem dX10_noteStop_5 : decode cX10_noteStop 5 = .ok (.aload_n 0, 1) := by decide +kernel
theorem dX10_noteStop_6 : decode cX10_noteStop 6 = .ok (.iload_n 1, 1) := by decide +kernel
theorem dX10_noteStop_7 : decode cX10_noteStop 7 = .ok (.putfield 171, 3) := by decide +kernel
theorem dX10_noteStop_10 : decode cX10_noteStop 10 = .ok (.aload_n 0, 1) := by decide +kernel
theorem dX10_noteStop_11 : decode cX10_noteStop 11 = .ok (.iload_n 2, 1) := by decide +kernel
theorem dX10_noteStop_12 : decode cX10_noteStop 12 = .ok (.putfield 175, 3) := by decide +kernel
theorem dX10_noteStop_15 : decode cX10_noteStop 15 = .ok (.return_, 1) := by decide +kernel
theorem dX11_init_0 : decode cX11_init 0 = .ok (.aload_n 0, 1) := by decide +kernel
theorem dX11_init_1 : decode cX11_init 1 = .ok (.invokespecial 1, 3) := by decide +kernel
theorem dX11_init_4 : decode cX11_init 4 = .ok (.aload_n 0, 1) := by decide +kernel
theorem dX11_init_5 : decode cX11_init 5 = .ok (.sipush 222, 3) := by decide +kernel
theorem dX11_init_8 : decode cX11_init 8 = .ok (.newarray .int, 2) := by decide +kernel
theorem dX11_init_10 : decode cX11_init 10 = .ok (.putfield 7, 3) := by decide +kernel
theorem dX11_init_13 : decode cX11_init 13 = .ok (.aload_n 0, 1) := by decide +kernel
theorem dX11_init_14 : decode cX11_init 14 = .ok (.sipush 222, 3) := by decide +kernel
theorem dX11_init_17 : decode cX11_init 17 = .ok (.newarray .int, 2) := by decide +kernel
theorem dX11_init_19 : decode cX11_init 19 = .ok (.putfield 13, 3) := by decide +kernel
theorem dX11_init_22 : decode cX11_init 22 = .ok (.aload_n 0, 1) := by decide +kernel
theorem dX11_init_23 : decode cX11_init 23 = .ok (.sipush 222, 3) := by decide +kernel
theorem dX11_init_26 : decode cX11_init 26 = .ok (.newarray .int, 2) := by decide +kernel
theorem dX11_init_28 : decode cX11_init 28 = .ok (.putfield 16, 3) := by decide +kernel
theorem dX11_init_31 : decode cX11_init 31 = .ok (.aload_n 0, 1) := by decide +kernel
theorem dX11_init_32 : decode cX11_init 32 = .ok (.sipush 222, 3) := by decide +kernel
theorem dX11_init_35 : decode cX11_init 35 = .ok (.newarray .int, 2) := by decide +kernel
theorem dX11_init_37 : decode cX11_init 37 = .ok (.putfield 19, 3) := by decide +kernel
theorem dX11_init_40 : decode cX11_init 40 = .ok (.aload_n 0, 1) := by decide +kernel
theorem dX11_init_41 : decode cX11_init 41 = .ok (.sipush 888, 3) := by decide +kernel
theorem dX11_init_44 : decode cX11_init 44 = .ok (.newarray .int, 2) := by decide +kernel
theorem dX11_init_46 : decode cX11_init 46 = .ok (.putfield 22, 3) := by decide +kernel
theorem dX11_init_49 : decode cX11_init 49 = .ok (.aload_n 0, 1) := by decide +kernel
theorem dX11_init_50 : decode cX11_init 50 = .ok (.sipush 222, 3) := by decide +kernel
theorem dX11_init_53 : decode cX11_init 53 = .ok (.newarray .int, 2) := by decide +kernel
theorem dX11_init_55 : decode cX11_init 55 = .ok (.putfield 25, 3) := by decide +kernel
theorem dX11_init_58 : decode cX11_init 58 = .ok (.aload_n 0, 1) := by decide +kernel
theorem dX11_init_59 : decode cX11_init 59 = .ok (.bipush 80, 2) := by decide +kernel
theorem dX11_init_61 : decode cX11_init 61 = .ok (.newarray .int, 2) := by decide +kernel
theorem dX11_init_63 : decode cX11_init 63 = .ok (.putfield 28, 3) := by decide +kernel
theorem dX11_init_66 : decode cX11_init 66 = .ok (.aload_n 0, 1) := by decide +kernel
theorem dX11_init_67 : decode cX11_init 67 = .ok (.bipush (-105), 2) := by decide +kernel
theorem dX11_init_69 : decode cX11_init 69 = .ok (.putfield 31, 3) := by decide +kernel
theorem dX11_init_72 : decode cX11_init 72 = .ok (.aload_n 0, 1) := by decide +kernel
theorem dX11_init_73 : decode cX11_init 73 = .ok (.bipush (-105), 2) := by decide +kernel
theorem dX11_init_75 : decode cX11_init 75 = .ok (.putfield 35, 3) := by decide +kernel
theorem dX11_init_78 : decode cX11_init 78 = .ok (.aload_n 0, 1) := by decide +kernel
theorem dX11_init_79 : decode cX11_init 79 = .ok (.getfield 7, 3) := by decide +kernel
theorem dX11_init_82 : decode cX11_init 82 = .ok (.iconst 4, 1) := by decide +kernel
theorem dX11_init_83 : decode cX11_init 83 = .ok (.bipush 20, 2) := by decide +kernel
theorem dX11_init_85 : decode cX11_init 85 = .ok (.iastore, 1) := by decide +kernel
theorem dX11_init_86 : decode cX11_init 86 = .ok (.aload_n 0, 1) := by decide +kernel
theorem dX11_init_87 : decode cX11_init 87 = .ok (.invokevirtual 38, 3) := by decide +kernel
theorem dX11_init_90 : decode cX11_init 90 = .ok (.return_, 1) := by decide +kernel
theorem dX11_in_0 : decode cX11_in 0 = .ok (.iload_n 0, 1) := by decide +kernel
theorem dX11_in_1 : decode cX11_in 1 = .ok (.iload_n 1, 1) := by decide +kernel
theorem dX11_in_2 : decode cX11_in 2 = .ok (.if_icmp .lt 12, 3) := by decide +kernel
theorem dX11_in_5 : decode cX11_in 5 = .ok (.iload_n 0, 1) := by decide +kernel
theorem dX11_in_6 : decode cX11_in 6 = .ok (.iload_n 2, 1) := by decide +kernel
theorem dX11_in_7 : decode cX11_in 7 = .ok (.if_icmp .gt 7, 3) := by decide +kernel
theorem dX11_in_10 : decode cX11_in 10 = .ok (.iconst 1, 1) := by decide +kernel
theorem dX11_in_11 : decode cX11_in 11 = .ok (.goto 4, 3) := by decide +kernel
theorem dX11_in_14 : decode cX11_in 14 = .ok (.iconst 0, 1) := by decide +kernel
theorem dX11_in_15 : decode cX11_in 15 = .ok (.ireturn, 1) := by decide +kernel
theorem dX11_isPoint_0 : decode cX11_isPoint 0 = .ok (.iload_n 0, 1) := by decide +kernel
theorem dX11_isPoint_1 : decode cX11_isPoint 1 = .ok (.iconst 0, 1) := by decide +kernel
theorem dX11_isPoint_2 : decode cX11_isPoint 2 = .ok (.bipush 35, 2) := by decide +kernel
theorem dX11_isPoint_4 : decode cX11_isPoint 4 = .ok (.invokestatic 41, 3) := by decide +kernel
theorem dX11_isPoint_7 : decode cX11_isPoint 7 = .ok (.ireturn, 1) := by decide +kernel
theorem dX11_copies_0 : decode cX11_copies 0 = .ok (.iconst 0, 1) := by decide +kernel
theorem dX11_copies_1 : decode cX11_copies 1 = .ok (.istore 4, 2) := by decide +kernel
theorem dX11_copies_3 : decode cX11_copies 3 = .ok (.iload 4, 2) := by decide +kernel
theorem dX11_copies_5 : decode cX11_copies 5 = .ok (.sipush 222, 3) := by decide +kernel
theorem dX11_copies_8 : decode cX11_copies 8 = .ok (.if_icmp .ge 21, 3) := by decide +kernel
theorem dX11_copies_11 : decode cX11_copies 11 = .ok (.aload_n 2, 1) := by decide +kernel
theorem dX11_copies_12 : decode cX11_copies 12 = .ok (.iload_n 3, 1) := by decide +kernel
theorem dX11_copies_13 : decode cX11_copies 13 = .ok (.iload 4, 2) := by decide +kernel
theorem dX11_copies_15 : decode cX11_copies 15 = .ok (.iadd, 1) := by decide +kernel
theorem dX11_copies_16 : decode cX11_copies 16 = .ok (.aload_n 0, 1) := by decide +kernel
theorem dX11_copies_17 : decode cX11_copies 17 = .ok (.iload_n 1, 1) := by decide +kernel
theorem dX11_copies_18 : decode cX11_copies 18 = .ok (.iload 4, 2) := by decide +kernel
theorem dX11_copies_20 : decode cX11_copies 20 = .ok (.iadd, 1) := by decide +kernel
theorem dX11_copies_21 : decode cX11_copies 21 = .ok (.iaload, 1) := by decide +kernel
theorem dX11_copies_22 : decode cX11_copies 22 = .ok (.iastore, 1) := by decide +kernel
theorem dX11_copies_23 : decode cX11_copies 23 = .ok (.iinc 4 1, 3) := by decide +kernel
theorem dX11_copies_26 : decode cX11_copies 26 = .ok (.goto (-23), 3) := by decide +kernel
theorem dX11_copies_29 : decode cX11_copies 29 = .ok (.return_, 1) := by decide +kernel
theorem dX11_records_0 : decode cX11_records 0 = .ok (.aload_n 0, 1) := by decide +kernel
theorem dX11_records_1 : decode cX11_records 1 = .ok (.getfield 45, 3) := by decide +kernel
theorem dX11_records_4 : decode cX11_records 4 = .ok (.iconst 4, 1) := by decide +kernel
theorem dX11_records_5 : decode cX11_records 5 = .ok (.if_icmp .ne 44, 3) := by decide +kernel
theorem dX11_records_8 : decode cX11_records 8 = .ok (.iconst 0, 1) := by decide +kernel
theorem dX11_records_9 : decode cX11_records 9 = .ok (.istore_n 1, 1) := by decide +kernel
theorem dX11_records_10 : decode cX11_records 10 = .ok (.iload_n 1, 1) := by decide +kernel
theorem dX11_records_11 : decode cX11_records 11 = .ok (.sipush 666, 3) := by decide +kernel
theorem dX11_records_14 : decode cX11_records 14 = .ok (.if_icmp .ge 25, 3) := by decide +kernel
theorem dX11_records_17 : decode cX11_records 17 = .ok (.aload_n 0, 1) := by decide +kernel
theorem dX11_records_18 : decode cX11_records 18 = .ok (.getfield 22, 3) := by decide +kernel
theorem dX11_records_21 : decode cX11_records 21 = .ok (.iload_n 1, 1) := by decide +kernel
theorem dX11_records_22 : decode cX11_records 22 = .ok (.aload_n 0, 1) := by decide +kernel
theorem dX11_records_23 : decode cX11_records 23 = .ok (.getfield 22, 3) := by decide +kernel
theorem dX11_records_26 : decode cX11_records 26 = .ok (.iload_n 1, 1) := by decide +kernel
theorem dX11_records_27 : decode cX11_records 27 = .ok (.sipush 222, 3) := by decide +kernel
theorem dX11_records_30 : decode cX11_records 30 = .ok (.iadd, 1) := by decide +kernel
theorem dX11_records_31 : decode cX11_records 31 = .ok (.iaload, 1) := by decide +kernel
theorem dX11_records_32 : decode cX11_records 32 = .ok (.iastore, 1) := by decide +kernel
theorem dX11_records_33 : decode cX11_records 33 = .ok (.iinc 1 1, 3) := by decide +kernel
theorem dX11_records_36 : decode cX11_records 36 = .ok (.goto (-26), 3) := by decide +kernel
theorem dX11_records_39 : decode cX11_records 39 = .ok (.aload_n 0, 1) := by decide +kernel
theorem dX11_records_40 : decode cX11_records 40 = .ok (.dup, 1) := by decide +kernel
theorem dX11_records_41 : decode cX11_records 41 = .ok (.getfield 45, 3) := by decide +kernel
theorem dX11_records_44 : decode cX11_records 44 = .ok (.iconst 1, 1) := by decide +kernel
theorem dX11_records_45 : decode cX11_records 45 = .ok (.isub, 1) := by decide +kernel
theorem dX11_records_46 : decode cX11_records 46 = .ok (.putfield 45, 3) := by decide +kernel
theorem dX11_records_49 : decode cX11_records 49 = .ok (.aload_n 0, 1) := by decide +kernel
theorem dX11_records_50 : decode cX11_records 50 = .ok (.getfield 7, 3) := by decide +kernel
theorem dX11_records_53 : decode cX11_records 53 = .ok (.iconst 0, 1) := by decide +kernel
theorem dX11_records_54 : decode cX11_records 54 = .ok (.aload_n 0, 1) := by decide +kernel
theorem dX11_records_55 : decode cX11_records 55 = .ok (.getfield 22, 3) := by decide +kernel
theorem dX11_records_58 : decode cX11_records 58 = .ok (.sipush 222, 3) := by decide +kernel
theorem dX11_records_61 : decode cX11_records 61 = .ok (.aload_n 0, 1) := by decide +kernel
theorem dX11_records_62 : decode cX11_records 62 = .ok (.getfield 45, 3) := by decide +kernel
theorem dX11_records_65 : decode cX11_records 65 = .ok (.imul, 1) := by decide +kernel
theorem dX11_records_66 : decode cX11_records 66 = .ok (.invokestatic 48, 3) := by decide +kernel
theorem dX11_records_69 : decode cX11_records 69 = .ok (.aload_n 0, 1) := by decide +kernel
theorem dX11_records_70 : decode cX11_records 70 = .ok (.dup, 1) := by decide +kernel
theorem dX11_records_71 : decode cX11_records 71 = .ok (.getfield 45, 3) := by decide +kernel
theorem dX11_records_74 : decode cX11_records 74 = .ok (.iconst 1, 1) := by decide +kernel
theorem dX11_records_75 : decode cX11_records 75 = .ok (.iadd, 1) := by decide +kernel
theorem dX11_records_76 : decode cX11_records 76 = .ok (.putfield 45, 3) := by decide +kernel
theorem dX11_records_79 : decode cX11_records 79 = .ok (.return_, 1) := by decide +kernel
theorem dX11_undo_0 : decode cX11_undo 0 = .ok (.aload_n 0, 1) := by decide +kernel
theorem dX11_undo_1 : decode cX11_undo 1 = .ok (.getfield 45, 3) := by decide +kernel
theorem dX11_undo_4 : decode cX11_undo 4 = .ok (.ifCond .ne 6, 3) := by decide +kernel
theorem dX11_undo_7 : decode cX11_undo 7 = .ok (.bipush (-105), 2) := by decide +kernel
theorem dX11_undo_9 : decode cX11_undo 9 = .ok (.ireturn, 1) := by decide +kernel
theorem dX11_undo_10 : decode cX11_undo 10 = .ok (.aload_n 0, 1) := by decide +kernel
theorem dX11_undo_11 : decode cX11_undo 11 = .ok (.dup, 1) := by decide +kernel
theorem dX11_undo_12 : decode cX11_undo 12 = .ok (.getfield 45, 3) := by decide +kernel
theorem dX11_undo_15 : decode cX11_undo 15 = .ok (.iconst 1, 1) := by decide +kernel
theorem dX11_undo_16 : decode cX11_undo 16 = .ok (.isub, 1) := by decide +kernel
theorem dX11_undo_17 : decode cX11_undo 17 = .ok (.putfield 45, 3) := by decide +kernel
theorem dX11_undo_20 : decode cX11_undo 20 = .ok (.aload_n 0, 1) := by decide +kernel
theorem dX11_undo_21 : decode cX11_undo 21 = .ok (.getfield 22, 3) := by decide +kernel
theorem dX11_undo_24 : decode cX11_undo 24 = .ok (.sipush 222, 3) := by decide +kernel
theorem dX11_undo_27 : decode cX11_undo 27 = .ok (.aload_n 0, 1) := by decide +kernel
theorem dX11_undo_28 : decode cX11_undo 28 = .ok (.getfield 45, 3) := by decide +kernel
theorem dX11_undo_31 : decode cX11_undo 31 = .ok (.imul, 1) := by decide +kernel
theorem dX11_undo_32 : decode cX11_undo 32 = .ok (.aload_n 0, 1) := by decide +kernel
theorem dX11_undo_33 : decode cX11_undo 33 = .ok (.getfield 7, 3) := by decide +kernel
theorem dX11_undo_36 : decode cX11_undo 36 = .ok (.iconst 0, 1) := by decide +kernel
theorem dX11_undo_37 : decode cX11_undo 37 = .ok (.invokestatic 48, 3) := by decide +kernel
theorem dX11_undo_40 : decode cX11_undo 40 = .ok (.aload_n 0, 1) := by decide +kernel
theorem dX11_undo_41 : decode cX11_undo 41 = .ok (.getfield 45, 3) := by decide +kernel
theorem dX11_undo_44 : decode cX11_undo 44 = .ok (.ireturn, 1) := by decide +kernel
theorem dX11_pieces_0 : decode cX11_pieces 0 = .ok (.iconst 0, 1) := by decide +kernel
theorem dX11_pieces_1 : decode cX11_pieces 1 = .ok (.istore_n 2, 1) := by decide +kernel
theorem dX11_pieces_2 : decode cX11_pieces 2 = .ok (.iconst 0, 1) := by decide +kernel
theorem dX11_pieces_3 : decode cX11_pieces 3 = .ok (.istore_n 3, 1) := by decide +kernel
theorem dX11_pieces_4 : decode cX11_pieces 4 = .ok (.iload_n 3, 1) := by decide +kernel
theorem dX11_pieces_5 : decode cX11_pieces 5 = .ok (.bipush 36, 2) := by decide +kernel
theorem dX11_pieces_7 : decode cX11_pieces 7 = .ok (.if_icmp .ge 27, 3) := by decide +kernel
theorem dX11_pieces_10 : decode cX11_pieces 10 = .ok (.iload_n 2, 1) := by decide +kernel
theorem dX11_pieces_11 : decode cX11_pieces 11 = .ok (.aload_n 0, 1) := by decide +kernel
theorem dX11_pieces_12 : decode cX11_pieces 12 = .ok (.bipush 6, 2) := by decide +kernel
theorem dX11_pieces_14 : decode cX11_pieces 14 = .ok (.iload_n 3, 1) := by decide +kernel
theorem dX11_pieces_15 : decode cX11_pieces 15 = .ok (.iadd, 1) := by decide +kernel
theorem dX11_pieces_16 : decode cX11_pieces 16 = .ok (.iaload, 1) := by decide +kernel
theorem dX11_pieces_17 : decode cX11_pieces 17 = .ok (.iload_n 1, 1) := by decide +kernel
theorem dX11_pieces_18 : decode cX11_pieces 18 = .ok (.if_icmp .ne 7, 3) := by decide +kernel
theorem dX11_pieces_21 : decode cX11_pieces 21 = .ok (.iconst 1, 1) := by decide +kernel
theorem dX11_pieces_22 : decode cX11_pieces 22 = .ok (.goto 4, 3) := by decide +kernel
theorem dX11_pieces_25 : decode cX11_pieces 25 = .ok (.iconst 0, 1) := by decide +kernel
theorem dX11_pieces_26 : decode cX11_pieces 26 = .ok (.iadd, 1) := by decide +kernel
theorem dX11_pieces_27 : decode cX11_pieces 27 = .ok (.istore_n 2, 1) := by decide +kernel
theorem dX11_pieces_28 : decode cX11_pieces 28 = .ok (.iinc 3 1, 3) := by decide +kernel
theorem dX11_pieces_31 : decode cX11_pieces 31 = .ok (.goto (-27), 3) := by decide +kernel
theorem dX11_pieces_34 : decode cX11_pieces 34 = .ok (.iload_n 2, 1) := by decide +kernel
theorem dX11_pieces_35 : decode cX11_pieces 35 = .ok (.ireturn, 1) := by decide +kernel
theorem dX11_allPieces_0 : decode cX11_allPieces 0 = .ok (.bipush 36, 2) := by decide +kernel
theorem dX11_allPieces_2 : decode cX11_allPieces 2 = .ok (.aload_n 0, 1) := by decide +kernel
theorem dX11_allPieces_3 : decode cX11_allPieces 3 = .ok (.getfield 7, 3) := by decide +kernel
theorem dX11_allPieces_6 : decode cX11_allPieces 6 = .ok (.iconst 0, 1) := by decide +kernel
theorem dX11_allPieces_7 : decode cX11_allPieces 7 = .ok (.invokestatic 52, 3) := by decide +kernel
theorem dX11_allPieces_10 : decode cX11_allPieces 10 = .ok (.isub, 1) := by decide +kernel
theorem dX11_allPieces_11 : decode cX11_allPieces 11 = .ok (.ireturn, 1) := by decide +kernel
theorem dX11_keep_0 : decode cX11_keep 0 = .ok (.aload_n 0, 1) := by decide +kernel
theorem dX11_keep_1 : decode cX11_keep 1 = .ok (.getfield 7, 3) := by decide +kernel
theorem dX11_keep_4 : decode cX11_keep 4 = .ok (.iconst 0, 1) := by decide +kernel
theorem dX11_keep_5 : decode cX11_keep 5 = .ok (.aload_n 0, 1) := by decide +kernel
theorem dX11_keep_6 : decode cX11_keep 6 = .ok (.getfield 25, 3) := by decide +kernel
theorem dX11_keep_9 : decode cX11_keep 9 = .ok (.iconst 0, 1) := by decide +kernel
theorem dX11_keep_10 : decode cX11_keep 10 = .ok (.invokestatic 48, 3) := by decide +kernel
theorem dX11_keep_13 : decode cX11_keep 13 = .ok (.aload_n 0, 1) := by decide +kernel
theorem dX11_keep_14 : decode cX11_keep 14 = .ok (.iconst 1, 1) := by decide +kernel
theorem dX11_keep_15 : decode cX11_keep 15 = .ok (.putfield 56, 3) := by decide +kernel
theorem dX11_keep_18 : decode cX11_keep 18 = .ok (.aload_n 0, 1) := by decide +kernel
theorem dX11_keep_19 : decode cX11_keep 19 = .ok (.invokevirtual 60, 3) := by decide +kernel
theorem dX11_keep_22 : decode cX11_keep 22 = .ok (.ireturn, 1) := by decide +kernel
theorem dX11_restore_0 : decode cX11_restore 0 = .ok (.aload_n 0, 1) := by decide +kernel
theorem dX11_restore_1 : decode cX11_restore 1 = .ok (.getfield 56, 3) := by decide +kernel
theorem dX11_restore_4 : decode cX11_restore 4 = .ok (.ifCond .ne 6, 3) := by decide +kernel
theorem dX11_restore_7 : decode cX11_restore 7 = .ok (.bipush (-105), 2) := by decide +kernel
theorem dX11_restore_9 : decode cX11_restore 9 = .ok (.ireturn, 1) := by decide +kernel
theorem dX11_restore_10 : decode cX11_restore 10 = .ok (.aload_n 0, 1) := by decide +kernel
theorem dX11_restore_11 : decode cX11_restore 11 = .ok (.invokevirtual 64, 3) := by decide +kernel
theorem dX11_restore_14 : decode cX11_restore 14 = .ok (.aload_n 0, 1) := by decide +kernel
theorem dX11_restore_15 : decode cX11_restore 15 = .ok (.getfield 25, 3) := by decide +kernel
theorem dX11_restore_18 : decode cX11_restore 18 = .ok (.iconst 0, 1) := by decide +kernel
theorem dX11_restore_19 : decode cX11_restore 19 = .ok (.aload_n 0, 1) := by decide +kernel
theorem dX11_restore_20 : decode cX11_restore 20 = .ok (.getfield 7, 3) := by decide +kernel
theorem dX11_restore_23 : decode cX11_restore 23 = .ok (.iconst 0, 1) := by decide +kernel
theorem dX11_restore_24 : decode cX11_restore 24 = .ok (.invokestatic 48, 3) := by decide +kernel
theorem dX11_restore_27 : decode cX11_restore 27 = .ok (.aload_n 0, 1) := by decide +kernel
theorem dX11_restore_28 : decode cX11_restore 28 = .ok (.invokevirtual 60, 3) := by decide +kernel
theorem dX11_restore_31 : decode cX11_restore 31 = .ok (.ireturn, 1) := by decide +kernel
theorem dX11_packed_0 : decode cX11_packed 0 = .ok (.iload_n 1, 1) := by decide +kernel
theorem dX11_packed_1 : decode cX11_packed 1 = .ok (.iconst 2, 1) := by decide +kernel
theorem dX11_packed_2 : decode cX11_packed 2 = .ok (.if_icmp .ne 9, 3) := by decide +kernel
theorem dX11_packed_5 : decode cX11_packed 5 = .ok (.aload_n 0, 1) := by decide +kernel
theorem dX11_packed_6 : decode cX11_packed 6 = .ok (.iconst 0, 1) := by decide +kernel
theorem dX11_packed_7 : decode cX11_packed 7 = .ok (.iaload, 1) := by decide +kernel
theorem dX11_packed_8 : decode cX11_packed 8 = .ok (.goto 4, 3) := by decide +kernel
theorem dX11_packed_11 : decode cX11_packed 11 = .ok (.iconst 0, 1) := by decide +kernel
theorem dX11_packed_12 : decode cX11_packed 12 = .ok (.istore_n 2, 1) := by decide +kernel
theorem dX11_packed_13 : decode cX11_packed 13 = .ok (.iconst 0, 1) := by decide +kernel
theorem dX11_packed_14 : decode cX11_packed 14 = .ok (.istore_n 3, 1) := by decide +kernel
theorem dX11_packed_15 : decode cX11_packed 15 = .ok (.iload_n 3, 1) := by decide +kernel
theorem dX11_packed_16 : decode cX11_packed 16 = .ok (.bipush 12, 2) := by decide +kernel
theorem dX11_packed_18 : decode cX11_packed 18 = .ok (.if_icmp .ge 25, 3) := by decide +kernel
theorem dX11_packed_21 : decode cX11_packed 21 = .ok (.iconst 3, 1) := by decide +kernel
theorem dX11_packed_22 : decode cX11_packed 22 = .ok (.iload_n 2, 1) := by decide +kernel
theorem dX11_packed_23 : decode cX11_packed 23 = .ok (.imul, 1) := by decide +kernel
theorem dX11_packed_24 : decode cX11_packed 24 = .ok (.aload_n 0, 1) := by decide +kernel
theorem dX11_packed_25 : decode cX11_packed 25 = .ok (.bipush 6, 2) := by decide +kernel
theorem dX11_packed_27 : decode cX11_packed 27 = .ok (.bipush 12, 2) := by decide +kernel
theorem dX11_packed_29 : decode cX11_packed 29 = .ok (.iload_n 1, 1) := by decide +kernel
theorem dX11_packed_30 : decode cX11_packed 30 = .ok (.imul, 1) := by decide +kernel
theorem dX11_packed_31 : decode cX11_packed 31 = .ok (.iadd, 1) := by decide +kernel
theorem dX11_packed_32 : decode cX11_packed 32 = .ok (.iload_n 3, 1) := by decide +kernel
theorem dX11_packed_33 : decode cX11_packed 33 = .ok (.iadd, 1) := by decide +kernel
theorem dX11_packed_34 : decode cX11_packed 34 = .ok (.iaload, 1) := by decide +kernel
theorem dX11_packed_35 : decode cX11_packed 35 = .ok (.iadd, 1) := by decide +kernel
theorem dX11_packed_36 : decode cX11_packed 36 = .ok (.istore_n 2, 1) := by decide +kernel
theorem dX11_packed_37 : decode cX11_packed 37 = .ok (.iinc 3 1, 3) := by decide +kernel
theorem dX11_packed_40 : decode cX11_packed 40 = .ok (.goto (-25), 3) := by decide +kernel
theorem dX11_packed_43 : decode cX11_packed 43 = .ok (.iload_n 2, 1) := by decide +kernel
theorem dX11_packed_44 : decode cX11_packed 44 = .ok (.ireturn, 1) := by decide +kernel
theorem dX11_notes_0 : decode cX11_notes 0 = .ok (.aload_n 0, 1) := by decide +kernel
theorem dX11_notes_1 : decode cX11_notes 1 = .ok (.iconst 5, 1) := by decide +kernel
theorem dX11_notes_2 : decode cX11_notes 2 = .ok (.iaload, 1) := by decide +kernel
theorem dX11_notes_3 : decode cX11_notes 3 = .ok (.bipush 60, 2) := by decide +kernel
theorem dX11_notes_5 : decode cX11_notes 5 = .ok (.if_icmp .ne 34, 3) := by decide +kernel
theorem dX11_notes_8 : decode cX11_notes 8 = .ok (.bipush 42, 2) := by decide +kernel
theorem dX11_notes_10 : decode cX11_notes 10 = .ok (.istore_n 1, 1) := by decide +kernel
theorem dX11_notes_11 : decode cX11_notes 11 = .ok (.iload_n 1, 1) := by decide +kernel
theorem dX11_notes_12 : decode cX11_notes 12 = .ok (.sipush 219, 3) := by decide +kernel
theorem dX11_notes_15 : decode cX11_notes 15 = .ok (.if_icmp .ge 17, 3) := by decide +kernel
theorem dX11_notes_18 : decode cX11_notes 18 = .ok (.aload_n 0, 1) := by decide +kernel
theorem dX11_notes_19 : decode cX11_notes 19 = .ok (.iload_n 1, 1) := by decide +kernel
theorem dX11_notes_20 : decode cX11_notes 20 = .ok (.aload_n 0, 1) := by decide +kernel
theorem dX11_notes_21 : decode cX11_notes 21 = .ok (.iload_n 1, 1) := by decide +kernel
theorem dX11_notes_22 : decode cX11_notes 22 = .ok (.iconst 3, 1) := by decide +kernel
theorem dX11_notes_23 : decode cX11_notes 23 = .ok (.iadd, 1) := by decide +kernel
theorem dX11_notes_24 : decode cX11_notes 24 = .ok (.iaload, 1) := by decide +kernel
theorem dX11_notes_25 : decode cX11_notes 25 = .ok (.iastore, 1) := by decide +kernel
theorem dX11_notes_26 : decode cX11_notes 26 = .ok (.iinc 1 1, 3) := by decide +kernel
theorem dX11_notes_29 : decode cX11_notes 29 = .ok (.goto (-18), 3) := by decide +kernel
theorem dX11_notes_32 : decode cX11_notes 32 = .ok (.aload_n 0, 1) := by decide +kernel
theorem dX11_notes_33 : decode cX11_notes 33 = .ok (.iconst 5, 1) := by decide +kernel
theorem dX11_notes_34 : decode cX11_notes 34 = .ok (.dup2, 1) := by decide +kernel
theorem dX11_notes_35 : decode cX11_notes 35 = .ok (.iaload, 1) := by decide +kernel
theorem dX11_notes_36 : decode cX11_notes 36 = .ok (.iconst 1, 1) := by decide +kernel
theorem dX11_notes_37 : decode cX11_notes 37 = .ok (.isub, 1) := by decide +kernel
theorem dX11_notes_38 : decode cX11_notes 38 = .ok (.iastore, 1) := by decide +kernel
theorem dX11_notes_39 : decode cX11_notes 39 = .ok (.iconst 0, 1) := by decide +kernel
theorem dX11_notes_40 : decode cX11_notes 40 = .ok (.istore_n 1, 1) := by decide +kernel
theorem dX11_notes_41 : decode cX11_notes 41 = .ok (.iload_n 1, 1) := by decide +kernel
theorem dX11_notes_42 : decode cX11_notes 42 = .ok (.iconst 3, 1) := by decide +kernel
theorem dX11_notes_43 : decode cX11_notes 43 = .ok (.if_icmp .ge 26, 3) := by decide +kernel
theorem dX11_notes_46 : decode cX11_notes 46 = .ok (.aload_n 0, 1) := by decide +kernel
theorem dX11_notes_47 : decode cX11_notes 47 = .ok (.bipush 42, 2) := by decide +kernel
theorem dX11_notes_49 : decode cX11_notes 49 = .ok (.iconst 3, 1) := by decide +kernel
theorem dX11_notes_50 : decode cX11_notes 50 = .ok (.aload_n 0, 1) := by decide +kernel
theorem dX11_notes_51 : decode cX11_notes 51 = .ok (.iconst 5, 1) := by decide +kernel
theorem dX11_notes_52 : decode cX11_notes 52 = .ok (.iaload, 1) := by decide +kernel
theorem dX11_notes_53 : decode cX11_notes 53 = .ok (.imul, 1) := by decide +kernel
theorem dX11_notes_54 : decode cX11_notes 54 = .ok (.iadd, 1) := by decide +kernel
theorem dX11_notes_55 : decode cX11_notes 55 = .ok (.iload_n 1, 1) := by decide +kernel
theorem dX11_notes_56 : decode cX11_notes 56 = .ok (.iadd, 1) := by decide +kernel
theorem dX11_notes_57 : decode cX11_notes 57 = .ok (.aload_n 0, 1) := by decide +kernel
theorem dX11_notes_58 : decode cX11_notes 58 = .ok (.iload_n 1, 1) := by decide +kernel
theorem dX11_notes_59 : decode cX11_notes 59 = .ok (.invokestatic 67, 3) := by decide +kernel
theorem dX11_notes_62 : decode cX11_notes 62 = .ok (.iastore, 1) := by decide +kernel
theorem dX11_notes_63 : decode cX11_notes 63 = .ok (.iinc 1 1, 3) := by decide +kernel
theorem dX11_notes_66 : decode cX11_notes 66 = .ok (.goto (-25), 3) := by decide +kernel
theorem dX11_notes_69 : decode cX11_notes 69 = .ok (.aload_n 0, 1) := by decide +kernel
theorem dX11_notes_70 : decode cX11_notes 70 = .ok (.iconst 5, 1) := by decide +kernel
theorem dX11_notes_71 : decode cX11_notes 71 = .ok (.dup2, 1) := by decide +kernel
theorem dX11_notes_72 : decode cX11_notes 72 = .ok (.iaload, 1) := by decide +kernel
theorem dX11_notes_73 : decode cX11_notes 73 = .ok (.iconst 1, 1) := by decide +kernel
theorem dX11_notes_74 : decode cX11_notes 74 = .ok (.iadd, 1) := by decide +kernel
theorem dX11_notes_75 : decode cX11_notes 75 = .ok (.iastore, 1) := by decide +kernel
theorem dX11_notes_76 : decode cX11_notes 76 = .ok (.return_, 1) := by decide +kernel
theorem dX11_forgets_0 : decode cX11_forgets 0 = .ok (.aload_n 0, 1) := by decide +kernel
theorem dX11_forgets_1 : decode cX11_forgets 1 = .ok (.iconst 1, 1) := by decide +kernel
theorem dX11_forgets_2 : decode cX11_forgets 2 = .ok (.iconst 0, 1) := by decide +kernel
theorem dX11_forgets_3 : decode cX11_forgets 3 = .ok (.iastore, 1) := by decide +kernel
theorem dX11_forgets_4 : decode cX11_forgets 4 = .ok (.aload_n 0, 1) := by decide +kernel
theorem dX11_forgets_5 : decode cX11_forgets 5 = .ok (.iconst 5, 1) := by decide +kernel
theorem dX11_forgets_6 : decode cX11_forgets 6 = .ok (.iconst 0, 1) := by decide +kernel
theorem dX11_forgets_7 : decode cX11_forgets 7 = .ok (.iastore, 1) := by decide +kernel
theorem dX11_forgets_8 : decode cX11_forgets 8 = .ok (.aload_n 0, 1) := by decide +kernel
theorem dX11_forgets_9 : decode cX11_forgets 9 = .ok (.invokestatic 70, 3) := by decide +kernel
theorem dX11_forgets_12 : decode cX11_forgets 12 = .ok (.return_, 1) := by decide +kernel
theorem dX11_were_0 : decode cX11_were 0 = .ok (.iconst 0, 1) := by decide +kernel
theorem dX11_were_1 : decode cX11_were 1 = .ok (.istore_n 1, 1) := by decide +kernel
theorem dX11_were_2 : decode cX11_were 2 = .ok (.bipush 42, 2) := by decide +kernel
theorem dX11_were_4 : decode cX11_were 4 = .ok (.iconst 3, 1) := by decide +kernel
theorem dX11_were_5 : decode cX11_were 5 = .ok (.aload_n 0, 1) := by decide +kernel
theorem dX11_were_6 : decode cX11_were 6 = .ok (.getfield 7, 3) := by decide +kernel
theorem dX11_were_9 : decode cX11_were 9 = .ok (.iconst 5, 1) := by decide +kernel
theorem dX11_were_10 : decode cX11_were 10 = .ok (.iaload, 1) := by decide +kernel
theorem dX11_were_11 : decode cX11_were 11 = .ok (.iconst 1, 1) := by decide +kernel
theorem dX11_were_12 : decode cX11_were 12 = .ok (.isub, 1) := by decide +kernel
theorem dX11_were_13 : decode cX11_were 13 = .ok (.imul, 1) := by decide +kernel
theorem dX11_were_14 : decode cX11_were 14 = .ok (.iadd, 1) := by decide +kernel
theorem dX11_were_15 : decode cX11_were 15 = .ok (.istore_n 2, 1) := by decide +kernel
theorem dX11_were_16 : decode cX11_were 16 = .ok (.iconst 0, 1) := by decide +kernel
theorem dX11_were_17 : decode cX11_were 17 = .ok (.istore_n 3, 1) := by decide +kernel
theorem dX11_were_18 : decode cX11_were 18 = .ok (.iload_n 3, 1) := by decide +kernel
theorem dX11_were_19 : decode cX11_were 19 = .ok (.aload_n 0, 1) := by decide +kernel
theorem dX11_were_20 : decode cX11_were 20 = .ok (.getfield 7, 3) := by decide +kernel
theorem dX11_were_23 : decode cX11_were 23 = .ok (.iconst 5, 1) := by decide +kernel
theorem dX11_were_24 : decode cX11_were 24 = .ok (.iaload, 1) := by decide +kernel
theorem dX11_were_25 : decode cX11_were 25 = .ok (.if_icmp .ge 81, 3) := by decide +kernel
theorem dX11_were_28 : decode cX11_were 28 = .ok (.bipush 42, 2) := by decide +kernel
theorem dX11_were_30 : decode cX11_were 30 = .ok (.iconst 3, 1) := by decide +kernel
theorem dX11_were_31 : decode cX11_were 31 = .ok (.iload_n 3, 1) := by decide +kernel
theorem dX11_were_32 : decode cX11_were 32 = .ok (.imul, 1) := by decide +kernel
theorem dX11_were_33 : decode cX11_were 33 = .ok (.iadd, 1) := by decide +kernel
theorem dX11_were_34 : decode cX11_were 34 = .ok (.istore 4, 2) := by decide +kernel
theorem dX11_were_36 : decode cX11_were 36 = .ok (.iload_n 1, 1) := by decide +kernel
theorem dX11_were_37 : decode cX11_were 37 = .ok (.aload_n 0, 1) := by decide +kernel
theorem dX11_were_38 : decode cX11_were 38 = .ok (.getfield 7, 3) := by decide +kernel
theorem dX11_were_41 : decode cX11_were 41 = .ok (.iload 4, 2) := by decide +kernel
theorem dX11_were_43 : decode cX11_were 43 = .ok (.iaload, 1) := by decide +kernel
theorem dX11_were_44 : decode cX11_were 44 = .ok (.aload_n 0, 1) := by decide +kernel
theorem dX11_were_45 : decode cX11_were 45 = .ok (.getfield 7, 3) := by decide +kernel
theorem dX11_were_48 : decode cX11_were 48 = .ok (.iload_n 2, 1) := by decide +kernel
theorem dX11_were_49 : decode cX11_were 49 = .ok (.iaload, 1) := by decide +kernel
theorem dX11_were_50 : decode cX11_were 50 = .ok (.if_icmp .ne 47, 3) := by decide +kernel
theorem dX11_were_53 : decode cX11_were 53 = .ok (.aload_n 0, 1) := by decide +kernel
theorem dX11_were_54 : decode cX11_were 54 = .ok (.getfield 7, 3) := by decide +kernel
theorem dX11_were_57 : decode cX11_were 57 = .ok (.iload 4, 2) := by decide +kernel
theorem dX11_were_59 : decode cX11_were 59 = .ok (.iconst 1, 1) := by decide +kernel
theorem dX11_were_60 : decode cX11_were 60 = .ok (.iadd, 1) := by decide +kernel
theorem dX11_were_61 : decode cX11_were 61 = .ok (.iaload, 1) := by decide +kernel
theorem dX11_were_62 : decode cX11_were 62 = .ok (.aload_n 0, 1) := by decide +kernel
theorem dX11_were_63 : decode cX11_were 63 = .ok (.getfield 7, 3) := by decide +kernel
theorem dX11_were_66 : decode cX11_were 66 = .ok (.iload_n 2, 1) := by decide +kernel
theorem dX11_were_67 : decode cX11_were 67 = .ok (.iconst 1, 1) := by decide +kernel
theorem dX11_were_68 : decode cX11_were 68 = .ok (.iadd, 1) := by decide +kernel
theorem dX11_were_69 : decode cX11_were 69 = .ok (.iaload, 1) := by decide +kernel
theorem dX11_were_70 : decode cX11_were 70 = .ok (.if_icmp .ne 27, 3) := by decide +kernel
theorem dX11_were_73 : decode cX11_were 73 = .ok (.aload_n 0, 1) := by decide +kernel
theorem dX11_were_74 : decode cX11_were 74 = .ok (.getfield 7, 3) := by decide +kernel
theorem dX11_were_77 : decode cX11_were 77 = .ok (.iload 4, 2) := by decide +kernel
theorem dX11_were_79 : decode cX11_were 79 = .ok (.iconst 2, 1) := by decide +kernel
theorem dX11_were_80 : decode cX11_were 80 = .ok (.iadd, 1) := by decide +kernel
theorem dX11_were_81 : decode cX11_were 81 = .ok (.iaload, 1) := by decide +kernel
theorem dX11_were_82 : decode cX11_were 82 = .ok (.aload_n 0, 1) := by decide +kernel
theorem dX11_were_83 : decode cX11_were 83 = .ok (.getfield 7, 3) := by decide +kernel
theorem dX11_were_86 : decode cX11_were 86 = .ok (.iload_n 2, 1) := by decide +kernel
theorem dX11_were_87 : decode cX11_were 87 = .ok (.iconst 2, 1) := by decide +kernel
theorem dX11_were_88 : decode cX11_were 88 = .ok (.iadd, 1) := by decide +kernel
theorem dX11_were_89 : decode cX11_were 89 = .ok (.iaload, 1) := by decide +kernel
theorem dX11_were_90 : decode cX11_were 90 = .ok (.if_icmp .ne 7, 3) := by decide +kernel
theorem dX11_were_93 : decode cX11_were 93 = .ok (.iconst 1, 1) := by decide +kernel
theorem dX11_were_94 : decode cX11_were 94 = .ok (.goto 4, 3) := by decide +kernel
theorem dX11_were_97 : decode cX11_were 97 = .ok (.iconst 0, 1) := by decide +kernel
theorem dX11_were_98 : decode cX11_were 98 = .ok (.iadd, 1) := by decide +kernel
theorem dX11_were_99 : decode cX11_were 99 = .ok (.istore_n 1, 1) := by decide +kernel
theorem dX11_were_100 : decode cX11_were 100 = .ok (.iinc 3 1, 3) := by decide +kernel
theorem dX11_were_103 : decode cX11_were 103 = .ok (.goto (-85), 3) := by decide +kernel
theorem dX11_were_106 : decode cX11_were 106 = .ok (.iload_n 1, 1) := by decide +kernel
theorem dX11_were_107 : decode cX11_were 107 = .ok (.ireturn, 1) := by decide +kernel
theorem dX11_begins_0 : decode cX11_begins 0 = .ok (.iconst 0, 1) := by decide +kernel
theorem dX11_begins_1 : decode cX11_begins 1 = .ok (.istore_n 1, 1) := by decide +kernel
theorem dX11_begins_2 : decode cX11_begins 2 = .ok (.iload_n 1, 1) := by decide +kernel
theorem dX11_begins_3 : decode cX11_begins 3 = .ok (.bipush 36, 2) := by decide +kernel
theorem dX11_begins_5 : decode cX11_begins 5 = .ok (.if_icmp .ge 39, 3) := by decide +kernel
theorem dX11_begins_8 : decode cX11_begins 8 = .ok (.aload_n 0, 1) := by decide +kernel
theorem dX11_begins_9 : decode cX11_begins 9 = .ok (.getfield 7, 3) := by decide +kernel
theorem dX11_begins_12 : decode cX11_begins 12 = .ok (.bipush 6, 2) := by decide +kernel
theorem dX11_begins_14 : decode cX11_begins 14 = .ok (.iload_n 1, 1) := by decide +kernel
theorem dX11_begins_15 : decode cX11_begins 15 = .ok (.iadd, 1) := by decide +kernel
theorem dX11_begins_16 : decode cX11_begins 16 = .ok (.iload_n 1, 1) := by decide +kernel
theorem dX11_begins_17 : decode cX11_begins 17 = .ok (.bipush 12, 2) := by decide +kernel
theorem dX11_begins_19 : decode cX11_begins 19 = .ok (.if_icmp .ge 7, 3) := by decide +kernel
theorem dX11_begins_22 : decode cX11_begins 22 = .ok (.iconst 1, 1) := by decide +kernel
theorem dX11_begins_23 : decode cX11_begins 23 = .ok (.goto 14, 3) := by decide +kernel
theorem dX11_begins_26 : decode cX11_begins 26 = .ok (.iload_n 1, 1) := by decide +kernel
theorem dX11_begins_27 : decode cX11_begins 27 = .ok (.bipush 24, 2) := by decide +kernel
theorem dX11_begins_29 : decode cX11_begins 29 = .ok (.if_icmp .ge 7, 3) := by decide +kernel
theorem dX11_begins_32 : decode cX11_begins 32 = .ok (.iconst 0, 1) := by decide +kernel
theorem dX11_begins_33 : decode cX11_begins 33 = .ok (.goto 4, 3) := by decide +kernel
theorem dX11_begins_36 : decode cX11_begins 36 = .ok (.iconst 2, 1) := by decide +kernel
theorem dX11_begins_37 : decode cX11_begins 37 = .ok (.iastore, 1) := by decide +kernel
theorem dX11_begins_38 : decode cX11_begins 38 = .ok (.iinc 1 1, 3) := by decide +kernel
theorem dX11_begins_41 : decode cX11_begins 41 = .ok (.goto (-39), 3) := by decide +kernel
theorem dX11_begins_44 : decode cX11_begins 44 = .ok (.aload_n 0, 1) := by decide +kernel
theorem dX11_begins_45 : decode cX11_begins 45 = .ok (.getfield 7, 3) := by decide +kernel
theorem dX11_begins_48 : decode cX11_begins 48 = .ok (.iconst 0, 1) := by decide +kernel
theorem dX11_begins_49 : decode cX11_begins 49 = .ok (.iconst 1, 1) := by decide +kernel
theorem dX11_begins_50 : decode cX11_begins 50 = .ok (.iastore, 1) := by decide +kernel
theorem dX11_begins_51 : decode cX11_begins 51 = .ok (.aload_n 0, 1) := by decide +kernel
theorem dX11_begins_52 : decode cX11_begins 52 = .ok (.getfield 7, 3) := by decide +kernel
theorem dX11_begins_55 : decode cX11_begins 55 = .ok (.iconst 2, 1) := by decide +kernel
theorem dX11_begins_56 : decode cX11_begins 56 = .ok (.iconst 0, 1) := by decide +kernel
theorem dX11_begins_57 : decode cX11_begins 57 = .ok (.iastore, 1) := by decide +kernel
theorem dX11_begins_58 : decode cX11_begins 58 = .ok (.aload_n 0, 1) := by decide +kernel
theorem dX11_begins_59 : decode cX11_begins 59 = .ok (.getfield 7, 3) := by decide +kernel
theorem dX11_begins_62 : decode cX11_begins 62 = .ok (.iconst 3, 1) := by decide +kernel
theorem dX11_begins_63 : decode cX11_begins 63 = .ok (.iconst 0, 1) := by decide +kernel
theorem dX11_begins_64 : decode cX11_begins 64 = .ok (.iastore, 1) := by decide +kernel
theorem dX11_begins_65 : decode cX11_begins 65 = .ok (.aload_n 0, 1) := by decide +kernel
theorem dX11_begins_66 : decode cX11_begins 66 = .ok (.getfield 7, 3) := by decide +kernel
theorem dX11_begins_69 : decode cX11_begins 69 = .ok (.invokestatic 74, 3) := by decide +kernel
theorem dX11_begins_72 : decode cX11_begins 72 = .ok (.return_, 1) := by decide +kernel
theorem dX11_pointAt_0 : decode cX11_pointAt 0 = .ok (.iconst 1, 1) := by decide +kernel
theorem dX11_pointAt_1 : decode cX11_pointAt 1 = .ok (.iload_n 0, 1) := by decide +kernel
theorem dX11_pointAt_2 : decode cX11_pointAt 2 = .ok (.iadd, 1) := by decide +kernel
theorem dX11_pointAt_3 : decode cX11_pointAt 3 = .ok (.istore_n 2, 1) := by decide +kernel
theorem dX11_pointAt_4 : decode cX11_pointAt 4 = .ok (.iconst 5, 1) := by decide +kernel
theorem dX11_pointAt_5 : decode cX11_pointAt 5 = .ok (.iload_n 2, 1) := by decide +kernel
theorem dX11_pointAt_6 : decode cX11_pointAt 6 = .ok (.isub, 1) := by decide +kernel
theorem dX11_pointAt_7 : decode cX11_pointAt 7 = .ok (.istore_n 3, 1) := by decide +kernel
theorem dX11_pointAt_8 : decode cX11_pointAt 8 = .ok (.iload_n 1, 1) := by decide +kernel
theorem dX11_pointAt_9 : decode cX11_pointAt 9 = .ok (.bipush 6, 2) := by decide +kernel
theorem dX11_pointAt_11 : decode cX11_pointAt 11 = .ok (.irem, 1) := by decide +kernel
theorem dX11_pointAt_12 : decode cX11_pointAt 12 = .ok (.istore 4, 2) := by decide +kernel
theorem dX11_pointAt_14 : decode cX11_pointAt 14 = .ok (.iload_n 1, 1) := by decide +kernel
theorem dX11_pointAt_15 : decode cX11_pointAt 15 = .ok (.bipush 6, 2) := by decide +kernel
theorem dX11_pointAt_17 : decode cX11_pointAt 17 = .ok (.idiv, 1) := by decide +kernel
theorem dX11_pointAt_18 : decode cX11_pointAt 18 = .ok (.tableswitch 52 0 2 #[26, 34, 42], 26) := by decide +kernel
theorem dX11_pointAt_44 : decode cX11_pointAt 44 = .ok (.bipush 6, 2) := by decide +kernel
theorem dX11_pointAt_46 : decode cX11_pointAt 46 = .ok (.iload_n 2, 1) := by decide +kernel
theorem dX11_pointAt_47 : decode cX11_pointAt 47 = .ok (.imul, 1) := by decide +kernel
theorem dX11_pointAt_48 : decode cX11_pointAt 48 = .ok (.iload 4, 2) := by decide +kernel
theorem dX11_pointAt_50 : decode cX11_pointAt 50 = .ok (.iadd, 1) := by decide +kernel
theorem dX11_pointAt_51 : decode cX11_pointAt 51 = .ok (.ireturn, 1) := by decide +kernel
theorem dX11_pointAt_52 : decode cX11_pointAt 52 = .ok (.bipush 6, 2) := by decide +kernel
theorem dX11_pointAt_54 : decode cX11_pointAt 54 = .ok (.iload 4, 2) := by decide +kernel
theorem dX11_pointAt_56 : decode cX11_pointAt 56 = .ok (.imul, 1) := by decide +kernel
theorem dX11_pointAt_57 : decode cX11_pointAt 57 = .ok (.iload_n 3, 1) := by decide +kernel
theorem dX11_pointAt_58 : decode cX11_pointAt 58 = .ok (.iadd, 1) := by decide +kernel
theorem dX11_pointAt_59 : decode cX11_pointAt 59 = .ok (.ireturn, 1) := by decide +kernel
theorem dX11_pointAt_60 : decode cX11_pointAt 60 = .ok (.bipush 6, 2) := by decide +kernel
theorem dX11_pointAt_62 : decode cX11_pointAt 62 = .ok (.iload_n 3, 1) := by decide +kernel
theorem dX11_pointAt_63 : decode cX11_pointAt 63 = .ok (.imul, 1) := by decide +kernel
theorem dX11_pointAt_64 : decode cX11_pointAt 64 = .ok (.iconst 5, 1) := by decide +kernel
theorem dX11_pointAt_65 : decode cX11_pointAt 65 = .ok (.iadd, 1) := by decide +kernel
theorem dX11_pointAt_66 : decode cX11_pointAt 66 = .ok (.iload 4, 2) := by decide +kernel
theorem dX11_pointAt_68 : decode cX11_pointAt 68 = .ok (.isub, 1) := by decide +kernel
theorem dX11_pointAt_69 : decode cX11_pointAt 69 = .ok (.ireturn, 1) := by decide +kernel
theorem dX11_pointAt_70 : decode cX11_pointAt 70 = .ok (.bipush 6, 2) := by decide +kernel
theorem dX11_pointAt_72 : decode cX11_pointAt 72 = .ok (.iconst 5, 1) := by decide +kernel
theorem dX11_pointAt_73 : decode cX11_pointAt 73 = .ok (.iload 4, 2) := by decide +kernel
theorem dX11_pointAt_75 : decode cX11_pointAt 75 = .ok (.isub, 1) := by decide +kernel
theorem dX11_pointAt_76 : decode cX11_pointAt 76 = .ok (.imul, 1) := by decide +kernel
theorem dX11_pointAt_77 : decode cX11_pointAt 77 = .ok (.iload_n 2, 1) := by decide +kernel
theorem dX11_pointAt_78 : decode cX11_pointAt 78 = .ok (.iadd, 1) := by decide +kernel
theorem dX11_pointAt_79 : decode cX11_pointAt 79 = .ok (.ireturn, 1) := by decide +kernel
theorem dX11_goes_0 : decode cX11_goes 0 = .ok (.iload_n 2, 1) := by decide +kernel
theorem dX11_goes_1 : decode cX11_goes 1 = .ok (.iload_n 3, 1) := by decide +kernel
theorem dX11_goes_2 : decode cX11_goes 2 = .ok (.invokestatic 77, 3) := by decide +kernel
theorem dX11_goes_5 : decode cX11_goes 5 = .ok (.istore 5, 2) := by decide +kernel
theorem dX11_goes_7 : decode cX11_goes 7 = .ok (.iload_n 3, 1) := by decide +kernel
theorem dX11_goes_8 : decode cX11_goes 8 = .ok (.istore 6, 2) := by decide +kernel
theorem dX11_goes_10 : decode cX11_goes 10 = .ok (.aload_n 0, 1) := by decide +kernel
theorem dX11_goes_11 : decode cX11_goes 11 = .ok (.iconst 0, 1) := by decide +kernel
theorem dX11_goes_12 : decode cX11_goes 12 = .ok (.putfield 81, 3) := by decide +kernel
theorem dX11_goes_15 : decode cX11_goes 15 = .ok (.aload_n 0, 1) := by decide +kernel
theorem dX11_goes_16 : decode cX11_goes 16 = .ok (.iconst 0, 1) := by decide +kernel
theorem dX11_goes_17 : decode cX11_goes 17 = .ok (.putfield 84, 3) := by decide +kernel
theorem dX11_goes_20 : decode cX11_goes 20 = .ok (.iconst 1, 1) := by decide +kernel
theorem dX11_goes_21 : decode cX11_goes 21 = .ok (.istore 7, 2) := by decide +kernel
theorem dX11_goes_23 : decode cX11_goes 23 = .ok (.iload 7, 2) := by decide +kernel
theorem dX11_goes_25 : decode cX11_goes 25 = .ok (.bipush 24, 2) := by decide +kernel
theorem dX11_goes_27 : decode cX11_goes 27 = .ok (.if_icmp .ge 117, 3) := by decide +kernel
theorem dX11_goes_30 : decode cX11_goes 30 = .ok (.aload_n 0, 1) := by decide +kernel
theorem dX11_goes_31 : decode cX11_goes 31 = .ok (.dup, 1) := by decide +kernel
theorem dX11_goes_32 : decode cX11_goes 32 = .ok (.getfield 81, 3) := by decide +kernel
theorem dX11_goes_35 : decode cX11_goes 35 = .ok (.iload 4, 2) := by decide +kernel
theorem dX11_goes_37 : decode cX11_goes 37 = .ok (.ifCond .eq 15, 3) := by decide +kernel
theorem dX11_goes_40 : decode cX11_goes 40 = .ok (.iload 6, 2) := by decide +kernel
theorem dX11_goes_42 : decode cX11_goes 42 = .ok (.bipush 6, 2) := by decide +kernel
theorem dX11_goes_44 : decode cX11_goes 44 = .ok (.irem, 1) := by decide +kernel
theorem dX11_goes_45 : decode cX11_goes 45 = .ok (.iconst 5, 1) := by decide +kernel
theorem dX11_goes_46 : decode cX11_goes 46 = .ok (.if_icmp .ne 18, 3) := by decide +kernel
theorem dX11_goes_49 : decode cX11_goes 49 = .ok (.goto 11, 3) := by decide +kernel
theorem dX11_goes_52 : decode cX11_goes 52 = .ok (.iload 6, 2) := by decide +kernel
theorem dX11_goes_54 : decode cX11_goes 54 = .ok (.bipush 6, 2) := by decide +kernel
theorem dX11_goes_56 : decode cX11_goes 56 = .ok (.irem, 1) := by decide +kernel
theorem dX11_goes_57 : decode cX11_goes 57 = .ok (.ifCond .ne 7, 3) := by decide +kernel
theorem dX11_goes_60 : decode cX11_goes 60 = .ok (.iconst 1, 1) := by decide +kernel
theorem dX11_goes_61 : decode cX11_goes 61 = .ok (.goto 4, 3) := by decide +kernel
theorem dX11_goes_64 : decode cX11_goes 64 = .ok (.iconst 0, 1) := by decide +kernel
theorem dX11_goes_65 : decode cX11_goes 65 = .ok (.iadd, 1) := by decide +kernel
theorem dX11_goes_66 : decode cX11_goes 66 = .ok (.putfield 81, 3) := by decide +kernel
theorem dX11_goes_69 : decode cX11_goes 69 = .ok (.iload 6, 2) := by decide +kernel
theorem dX11_goes_71 : decode cX11_goes 71 = .ok (.iload 4, 2) := by decide +kernel
theorem dX11_goes_73 : decode cX11_goes 73 = .ok (.ifCond .eq 7, 3) := by decide +kernel
theorem dX11_goes_76 : decode cX11_goes 76 = .ok (.iconst 1, 1) := by decide +kernel
theorem dX11_goes_77 : decode cX11_goes 77 = .ok (.goto 5, 3) := by decide +kernel
theorem dX11_goes_80 : decode cX11_goes 80 = .ok (.bipush 23, 2) := by decide +kernel
theorem dX11_goes_82 : decode cX11_goes 82 = .ok (.iadd, 1) := by decide +kernel
theorem dX11_goes_83 : decode cX11_goes 83 = .ok (.bipush 24, 2) := by decide +kernel
theorem dX11_goes_85 : decode cX11_goes 85 = .ok (.irem, 1) := by decide +kernel
theorem dX11_goes_86 : decode cX11_goes 86 = .ok (.istore 6, 2) := by decide +kernel
theorem dX11_goes_88 : decode cX11_goes 88 = .ok (.aload_n 0, 1) := by decide +kernel
theorem dX11_goes_89 : decode cX11_goes 89 = .ok (.dup, 1) := by decide +kernel
theorem dX11_goes_90 : decode cX11_goes 90 = .ok (.getfield 84, 3) := by decide +kernel
theorem dX11_goes_93 : decode cX11_goes 93 = .ok (.iconst 1, 1) := by decide +kernel
theorem dX11_goes_94 : decode cX11_goes 94 = .ok (.iadd, 1) := by decide +kernel
theorem dX11_goes_95 : decode cX11_goes 95 = .ok (.putfield 84, 3) := by decide +kernel
theorem dX11_goes_98 : decode cX11_goes 98 = .ok (.iload_n 2, 1) := by decide +kernel
theorem dX11_goes_99 : decode cX11_goes 99 = .ok (.iload 6, 2) := by decide +kernel
theorem dX11_goes_101 : decode cX11_goes 101 = .ok (.invokestatic 77, 3) := by decide +kernel
theorem dX11_goes_104 : decode cX11_goes 104 = .ok (.istore 8, 2) := by decide +kernel
theorem dX11_goes_106 : decode cX11_goes 106 = .ok (.iload 8, 2) := by decide +kernel
theorem dX11_goes_108 : decode cX11_goes 108 = .ok (.iload 5, 2) := by decide +kernel
theorem dX11_goes_110 : decode cX11_goes 110 = .ok (.if_icmp .eq 28, 3) := by decide +kernel
theorem dX11_goes_113 : decode cX11_goes 113 = .ok (.aload_n 1, 1) := by decide +kernel
theorem dX11_goes_114 : decode cX11_goes 114 = .ok (.bipush 6, 2) := by decide +kernel
theorem dX11_goes_116 : decode cX11_goes 116 = .ok (.iload 8, 2) := by decide +kernel
theorem dX11_goes_118 : decode cX11_goes 118 = .ok (.iadd, 1) := by decide +kernel
theorem dX11_goes_119 : decode cX11_goes 119 = .ok (.iaload, 1) := by decide +kernel
theorem dX11_goes_120 : decode cX11_goes 120 = .ok (.ifCond .le 18, 3) := by decide +kernel
theorem dX11_goes_123 : decode cX11_goes 123 = .ok (.aload_n 0, 1) := by decide +kernel
theorem dX11_goes_124 : decode cX11_goes 124 = .ok (.getfield 81, 3) := by decide +kernel
theorem dX11_goes_127 : decode cX11_goes 127 = .ok (.ifCond .le 8, 3) := by decide +kernel
theorem dX11_goes_130 : decode cX11_goes 130 = .ok (.iload 8, 2) := by decide +kernel
theorem dX11_goes_132 : decode cX11_goes 132 = .ok (.goto 5, 3) := by decide +kernel
theorem dX11_goes_135 : decode cX11_goes 135 = .ok (.bipush (-105), 2) := by decide +kernel
theorem dX11_goes_137 : decode cX11_goes 137 = .ok (.ireturn, 1) := by decide +kernel
theorem dX11_goes_138 : decode cX11_goes 138 = .ok (.iinc 7 1, 3) := by decide +kernel
theorem dX11_goes_141 : decode cX11_goes 141 = .ok (.goto (-118), 3) := by decide +kernel
theorem dX11_goes_144 : decode cX11_goes 144 = .ok (.bipush (-105), 2) := by decide +kernel
theorem dX11_goes_146 : decode cX11_goes 146 = .ok (.ireturn, 1) := by decide +kernel
theorem dX11_bestWay_0 : decode cX11_bestWay 0 = .ok (.bipush (-105), 2) := by decide +kernel
theorem dX11_bestWay_2 : decode cX11_bestWay 2 = .ok (.istore 4, 2) := by decide +kernel
theorem dX11_bestWay_4 : decode cX11_bestWay 4 = .ok (.sipush 1000, 3) := by decide +kernel
theorem dX11_bestWay_7 : decode cX11_bestWay 7 = .ok (.istore 5, 2) := by decide +kernel
theorem dX11_bestWay_9 : decode cX11_bestWay 9 = .ok (.sipush 1000, 3) := by decide +kernel
theorem dX11_bestWay_12 : decode cX11_bestWay 12 = .ok (.istore 6, 2) := by decide +kernel
theorem dX11_bestWay_14 : decode cX11_bestWay 14 = .ok (.iconst 0, 1) := by decide +kernel
theorem dX11_bestWay_15 : decode cX11_bestWay 15 = .ok (.istore 7, 2) := by decide +kernel
theorem dX11_bestWay_17 : decode cX11_bestWay 17 = .ok (.iload 7, 2) := by decide +kernel
theorem dX11_bestWay_19 : decode cX11_bestWay 19 = .ok (.bipush 96, 2) := by decide +kernel
theorem dX11_bestWay_21 : decode cX11_bestWay 21 = .ok (.if_icmp .ge 104, 3) := by decide +kernel
theorem dX11_bestWay_24 : decode cX11_bestWay 24 = .ok (.iload 7, 2) := by decide +kernel
theorem dX11_bestWay_26 : decode cX11_bestWay 26 = .ok (.bipush 48, 2) := by decide +kernel
theorem dX11_bestWay_28 : decode cX11_bestWay 28 = .ok (.idiv, 1) := by decide +kernel
theorem dX11_bestWay_29 : decode cX11_bestWay 29 = .ok (.istore 8, 2) := by decide +kernel
theorem dX11_bestWay_31 : decode cX11_bestWay 31 = .ok (.iload 7, 2) := by decide +kernel
theorem dX11_bestWay_33 : decode cX11_bestWay 33 = .ok (.iconst 2, 1) := by decide +kernel
theorem dX11_bestWay_34 : decode cX11_bestWay 34 = .ok (.idiv, 1) := by decide +kernel
theorem dX11_bestWay_35 : decode cX11_bestWay 35 = .ok (.bipush 24, 2) := by decide +kernel
theorem dX11_bestWay_37 : decode cX11_bestWay 37 = .ok (.irem, 1) := by decide +kernel
theorem dX11_bestWay_38 : decode cX11_bestWay 38 = .ok (.istore 9, 2) := by decide +kernel
theorem dX11_bestWay_40 : decode cX11_bestWay 40 = .ok (.iload 8, 2) := by decide +kernel
theorem dX11_bestWay_42 : decode cX11_bestWay 42 = .ok (.iload 9, 2) := by decide +kernel
theorem dX11_bestWay_44 : decode cX11_bestWay 44 = .ok (.invokestatic 77, 3) := by decide +kernel
theorem dX11_bestWay_47 : decode cX11_bestWay 47 = .ok (.iload_n 2, 1) := by decide +kernel
theorem dX11_bestWay_48 : decode cX11_bestWay 48 = .ok (.if_icmp .ne 71, 3) := by decide +kernel
theorem dX11_bestWay_51 : decode cX11_bestWay 51 = .ok (.aload_n 0, 1) := by decide +kernel
theorem dX11_bestWay_52 : decode cX11_bestWay 52 = .ok (.aload_n 1, 1) := by decide +kernel
theorem dX11_bestWay_53 : decode cX11_bestWay 53 = .ok (.iload 8, 2) := by decide +kernel
theorem dX11_bestWay_55 : decode cX11_bestWay 55 = .ok (.iload 9, 2) := by decide +kernel
theorem dX11_bestWay_57 : decode cX11_bestWay 57 = .ok (.iload 7, 2) := by decide +kernel
theorem dX11_bestWay_59 : decode cX11_bestWay 59 = .ok (.iconst 2, 1) := by decide +kernel
theorem dX11_bestWay_60 : decode cX11_bestWay 60 = .ok (.irem, 1) := by decide +kernel
theorem dX11_bestWay_61 : decode cX11_bestWay 61 = .ok (.ifCond .ne 7, 3) := by decide +kernel
theorem dX11_bestWay_64 : decode cX11_bestWay 64 = .ok (.iconst 1, 1) := by decide +kernel
theorem dX11_bestWay_65 : decode cX11_bestWay 65 = .ok (.goto 4, 3) := by decide +kernel
theorem dX11_bestWay_68 : decode cX11_bestWay 68 = .ok (.iconst 0, 1) := by decide +kernel
theorem dX11_bestWay_69 : decode cX11_bestWay 69 = .ok (.invokevirtual 87, 3) := by decide +kernel
theorem dX11_bestWay_72 : decode cX11_bestWay 72 = .ok (.iload_n 3, 1) := by decide +kernel
theorem dX11_bestWay_73 : decode cX11_bestWay 73 = .ok (.if_icmp .ne 46, 3) := by decide +kernel
theorem dX11_bestWay_76 : decode cX11_bestWay 76 = .ok (.aload_n 0, 1) := by decide +kernel
theorem dX11_bestWay_77 : decode cX11_bestWay 77 = .ok (.getfield 81, 3) := by decide +kernel
theorem dX11_bestWay_80 : decode cX11_bestWay 80 = .ok (.iload 5, 2) := by decide +kernel
theorem dX11_bestWay_82 : decode cX11_bestWay 82 = .ok (.if_icmp .lt 21, 3) := by decide +kernel
theorem dX11_bestWay_85 : decode cX11_bestWay 85 = .ok (.aload_n 0, 1) := by decide +kernel
theorem dX11_bestWay_86 : decode cX11_bestWay 86 = .ok (.getfield 81, 3) := by decide +kernel
theorem dX11_bestWay_89 : decode cX11_bestWay 89 = .ok (.iload 5, 2) := by decide +kernel
theorem dX11_bestWay_91 : decode cX11_bestWay 91 = .ok (.if_icmp .ne 28, 3) := by decide +kernel
theorem dX11_bestWay_94 : decode cX11_bestWay 94 = .ok (.aload_n 0, 1) := by decide +kernel
theorem dX11_bestWay_95 : decode cX11_bestWay 95 = .ok (.getfield 84, 3) := by decide +kernel
theorem dX11_bestWay_98 : decode cX11_bestWay 98 = .ok (.iload 6, 2) := by decide +kernel
theorem dX11_bestWay_100 : decode cX11_bestWay 100 = .ok (.if_icmp .ge 19, 3) := by decide +kernel
theorem dX11_bestWay_103 : decode cX11_bestWay 103 = .ok (.iload 7, 2) := by decide +kernel
theorem dX11_bestWay_105 : decode cX11_bestWay 105 = .ok (.istore 4, 2) := by decide +kernel
theorem dX11_bestWay_107 : decode cX11_bestWay 107 = .ok (.aload_n 0, 1) := by decide +kernel
theorem dX11_bestWay_108 : decode cX11_bestWay 108 = .ok (.getfield 81, 3) := by decide +kernel
theorem dX11_bestWay_111 : decode cX11_bestWay 111 = .ok (.istore 5, 2) := by decide +kernel
theorem dX11_bestWay_113 : decode cX11_bestWay 113 = .ok (.aload_n 0, 1) := by decide +kernel
theorem dX11_bestWay_114 : decode cX11_bestWay 114 = .ok (.getfield 84, 3) := by decide +kernel
theorem dX11_bestWay_117 : decode cX11_bestWay 117 = .ok (.istore 6, 2) := by decide +kernel
theorem dX11_bestWay_119 : decode cX11_bestWay 119 = .ok (.iinc 7 1, 3) := by decide +kernel
theorem dX11_bestWay_122 : decode cX11_bestWay 122 = .ok (.goto (-105), 3) := by decide +kernel
theorem dX11_bestWay_125 : decode cX11_bestWay 125 = .ok (.aload_n 0, 1) := by decide +kernel
theorem dX11_bestWay_126 : decode cX11_bestWay 126 = .ok (.iload 5, 2) := by decide +kernel
theorem dX11_bestWay_128 : decode cX11_bestWay 128 = .ok (.putfield 81, 3) := by decide +kernel
theorem dX11_bestWay_131 : decode cX11_bestWay 131 = .ok (.aload_n 0, 1) := by decide +kernel
theorem dX11_bestWay_132 : decode cX11_bestWay 132 = .ok (.iload 6, 2) := by decide +kernel
theorem dX11_bestWay_134 : decode cX11_bestWay 134 = .ok (.putfield 84, 3) := by decide +kernel
theorem dX11_bestWay_137 : decode cX11_bestWay 137 = .ok (.aload_n 0, 1) := by decide +kernel
theorem dX11_bestWay_138 : decode cX11_bestWay 138 = .ok (.iload 4, 2) := by decide +kernel
theorem dX11_bestWay_140 : decode cX11_bestWay 140 = .ok (.putfield 91, 3) := by decide +kernel
theorem dX11_bestWay_143 : decode cX11_bestWay 143 = .ok (.iload 4, 2) := by decide +kernel
theorem dX11_bestWay_145 : decode cX11_bestWay 145 = .ok (.ireturn, 1) := by decide +kernel
theorem dX11_targets_0 : decode cX11_targets 0 = .ok (.lconst 0, 1) := by decide +kernel
theorem dX11_targets_1 : decode cX11_targets 1 = .ok (.lstore_n 3, 1) := by decide +kernel
theorem dX11_targets_2 : decode cX11_targets 2 = .ok (.aload_n 1, 1) := by decide +kernel
theorem dX11_targets_3 : decode cX11_targets 3 = .ok (.bipush 6, 2) := by decide +kernel
theorem dX11_targets_5 : decode cX11_targets 5 = .ok (.iload_n 2, 1) := by decide +kernel
theorem dX11_targets_6 : decode cX11_targets 6 = .ok (.iadd, 1) := by decide +kernel
theorem dX11_targets_7 : decode cX11_targets 7 = .ok (.iaload, 1) := by decide +kernel
theorem dX11_targets_8 : decode cX11_targets 8 = .ok (.istore 5, 2) := by decide +kernel
theorem dX11_targets_10 : decode cX11_targets 10 = .ok (.iconst 0, 1) := by decide +kernel
theorem dX11_targets_11 : decode cX11_targets 11 = .ok (.istore 6, 2) := by decide +kernel
theorem dX11_targets_13 : decode cX11_targets 13 = .ok (.iload 6, 2) := by decide +kernel
theorem dX11_targets_15 : decode cX11_targets 15 = .ok (.bipush 96, 2) := by decide +kernel
theorem dX11_targets_17 : decode cX11_targets 17 = .ok (.if_icmp .ge 101, 3) := by decide +kernel
theorem dX11_targets_20 : decode cX11_targets 20 = .ok (.iload 5, 2) := by decide +kernel
theorem dX11_targets_22 : decode cX11_targets 22 = .ok (.ifCond .le 96, 3) := by decide +kernel
theorem dX11_targets_25 : decode cX11_targets 25 = .ok (.iload 6, 2) := by decide +kernel
theorem dX11_targets_27 : decode cX11_targets 27 = .ok (.bipush 48, 2) := by decide +kernel
theorem dX11_targets_29 : decode cX11_targets 29 = .ok (.idiv, 1) := by decide +kernel
theorem dX11_targets_30 : decode cX11_targets 30 = .ok (.istore 7, 2) := by decide +kernel
theorem dX11_targets_32 : decode cX11_targets 32 = .ok (.iload 6, 2) := by decide +kernel
theorem dX11_targets_34 : decode cX11_targets 34 = .ok (.iconst 2, 1) := by decide +kernel
theorem dX11_targets_35 : decode cX11_targets 35 = .ok (.idiv, 1) := by decide +kernel
theorem dX11_targets_36 : decode cX11_targets 36 = .ok (.bipush 24, 2) := by decide +kernel
theorem dX11_targets_38 : decode cX11_targets 38 = .ok (.irem, 1) := by decide +kernel
theorem dX11_targets_39 : decode cX11_targets 39 = .ok (.istore 8, 2) := by decide +kernel
theorem dX11_targets_41 : decode cX11_targets 41 = .ok (.iload 7, 2) := by decide +kernel
theorem dX11_targets_43 : decode cX11_targets 43 = .ok (.iload 8, 2) := by decide +kernel
theorem dX11_targets_45 : decode cX11_targets 45 = .ok (.invokestatic 77, 3) := by decide +kernel
theorem dX11_targets_48 : decode cX11_targets 48 = .ok (.iload_n 2, 1) := by decide +kernel
theorem dX11_targets_49 : decode cX11_targets 49 = .ok (.if_icmp .ne 27, 3) := by decide +kernel
theorem dX11_targets_52 : decode cX11_targets 52 = .ok (.aload_n 0, 1) := by decide +kernel
theorem dX11_targets_53 : decode cX11_targets 53 = .ok (.aload_n 1, 1) := by decide +kernel
theorem dX11_targets_54 : decode cX11_targets 54 = .ok (.iload 7, 2) := by decide +kernel
theorem dX11_targets_56 : decode cX11_targets 56 = .ok (.iload 8, 2) := by decide +kernel
theorem dX11_targets_58 : decode cX11_targets 58 = .ok (.iload 6, 2) := by decide +kernel
theorem dX11_targets_60 : decode cX11_targets 60 = .ok (.iconst 2, 1) := by decide +kernel
theorem dX11_targets_61 : decode cX11_targets 61 = .ok (.irem, 1) := by decide +kernel
theorem dX11_targets_62 : decode cX11_targets 62 = .ok (.ifCond .ne 7, 3) := by decide +kernel
theorem dX11_targets_65 : decode cX11_targets 65 = .ok (.iconst 1, 1) := by decide +kernel
theorem dX11_targets_66 : decode cX11_targets 66 = .ok (.goto 4, 3) := by decide +kernel
theorem dX11_targets_69 : decode cX11_targets 69 = .ok (.iconst 0, 1) := by decide +kernel
theorem dX11_targets_70 : decode cX11_targets 70 = .ok (.invokevirtual 87, 3) := by decide +kernel
theorem dX11_targets_73 : decode cX11_targets 73 = .ok (.goto 5, 3) := by decide +kernel
theorem dX11_targets_76 : decode cX11_targets 76 = .ok (.bipush (-105), 2) := by decide +kernel
theorem dX11_targets_78 : decode cX11_targets 78 = .ok (.istore 9, 2) := by decide +kernel
theorem dX11_targets_80 : decode cX11_targets 80 = .ok (.lload_n 3, 1) := by decide +kernel
theorem dX11_targets_81 : decode cX11_targets 81 = .ok (.iload 9, 2) := by decide +kernel
theorem dX11_targets_83 : decode cX11_targets 83 = .ok (.bipush (-105), 2) := by decide +kernel
theorem dX11_targets_85 : decode cX11_targets 85 = .ok (.if_icmp .eq 24, 3) := by decide +kernel
theorem dX11_targets_88 : decode cX11_targets 88 = .ok (.aload_n 1, 1) := by decide +kernel
theorem dX11_targets_89 : decode cX11_targets 89 = .ok (.bipush 6, 2) := by decide +kernel
theorem dX11_targets_91 : decode cX11_targets 91 = .ok (.iload 9, 2) := by decide +kernel
theorem dX11_targets_93 : decode cX11_targets 93 = .ok (.iadd, 1) := by decide +kernel
theorem dX11_targets_94 : decode cX11_targets 94 = .ok (.iaload, 1) := by decide +kernel
theorem dX11_targets_95 : decode cX11_targets 95 = .ok (.iconst 3, 1) := by decide +kernel
theorem dX11_targets_96 : decode cX11_targets 96 = .ok (.iload 5, 2) := by decide +kernel
theorem dX11_targets_98 : decode cX11_targets 98 = .ok (.isub, 1) := by decide +kernel
theorem dX11_targets_99 : decode cX11_targets 99 = .ok (.if_icmp .ne 10, 3) := by decide +kernel
theorem dX11_targets_102 : decode cX11_targets 102 = .ok (.lconst 1, 1) := by decide +kernel
theorem dX11_targets_103 : decode cX11_targets 103 = .ok (.iload 9, 2) := by decide +kernel
theorem dX11_targets_105 : decode cX11_targets 105 = .ok (.lshl, 1) := by decide +kernel
theorem dX11_targets_106 : decode cX11_targets 106 = .ok (.goto 4, 3) := by decide +kernel
theorem dX11_targets_109 : decode cX11_targets 109 = .ok (.lconst 0, 1) := by decide +kernel
theorem dX11_targets_110 : decode cX11_targets 110 = .ok (.lor, 1) := by decide +kernel
theorem dX11_targets_111 : decode cX11_targets 111 = .ok (.lstore_n 3, 1) := by decide +kernel
theorem dX11_targets_112 : decode cX11_targets 112 = .ok (.iinc 6 1, 3) := by decide +kernel
theorem dX11_targets_115 : decode cX11_targets 115 = .ok (.goto (-102), 3) := by decide +kernel
theorem dX11_targets_118 : decode cX11_targets 118 = .ok (.lload_n 3, 1) := by decide +kernel
theorem dX11_targets_119 : decode cX11_targets 119 = .ok (.lreturn, 1) := by decide +kernel
theorem dX11_isBeside_0 : decode cX11_isBeside 0 = .ok (.iload_n 0, 1) := by decide +kernel
theorem dX11_isBeside_1 : decode cX11_isBeside 1 = .ok (.bipush 6, 2) := by decide +kernel
theorem dX11_isBeside_3 : decode cX11_isBeside 3 = .ok (.irem, 1) := by decide +kernel
theorem dX11_isBeside_4 : decode cX11_isBeside 4 = .ok (.iload_n 1, 1) := by decide +kernel
theorem dX11_isBeside_5 : decode cX11_isBeside 5 = .ok (.bipush 6, 2) := by decide +kernel
theorem dX11_isBeside_7 : decode cX11_isBeside 7 = .ok (.irem, 1) := by decide +kernel
theorem dX11_isBeside_8 : decode cX11_isBeside 8 = .ok (.isub, 1) := by decide +kernel
theorem dX11_isBeside_9 : decode cX11_isBeside 9 = .ok (.istore_n 2, 1) := by decide +kernel
theorem dX11_isBeside_10 : decode cX11_isBeside 10 = .ok (.iload_n 0, 1) := by decide +kernel
theorem dX11_isBeside_11 : decode cX11_isBeside 11 = .ok (.bipush 6, 2) := by decide +kernel
theorem dX11_isBeside_13 : decode cX11_isBeside 13 = .ok (.idiv, 1) := by decide +kernel
theorem dX11_isBeside_14 : decode cX11_isBeside 14 = .ok (.iload_n 1, 1) := by decide +kernel
theorem dX11_isBeside_15 : decode cX11_isBeside 15 = .ok (.bipush 6, 2) := by decide +kernel
theorem dX11_isBeside_17 : decode cX11_isBeside 17 = .ok (.idiv, 1) := by decide +kernel
theorem dX11_isBeside_18 : decode cX11_isBeside 18 = .ok (.isub, 1) := by decide +kernel
theorem dX11_isBeside_19 : decode cX11_isBeside 19 = .ok (.istore_n 3, 1) := by decide +kernel
theorem dX11_isBeside_20 : decode cX11_isBeside 20 = .ok (.iload_n 0, 1) := by decide +kernel
theorem dX11_isBeside_21 : decode cX11_isBeside 21 = .ok (.iload_n 1, 1) := by decide +kernel
theorem dX11_isBeside_22 : decode cX11_isBeside 22 = .ok (.if_icmp .eq 25, 3) := by decide +kernel
theorem dX11_isBeside_25 : decode cX11_isBeside 25 = .ok (.iload_n 2, 1) := by decide +kernel
theorem dX11_isBeside_26 : decode cX11_isBeside 26 = .ok (.iconst (-1), 1) := by decide +kernel
theorem dX11_isBeside_27 : decode cX11_isBeside 27 = .ok (.iconst 1, 1) := by decide +kernel
theorem dX11_isBeside_28 : decode cX11_isBeside 28 = .ok (.invokestatic 41, 3) := by decide +kernel
theorem dX11_isBeside_31 : decode cX11_isBeside 31 = .ok (.ifCond .eq 16, 3) := by decide +kernel
theorem dX11_isBeside_34 : decode cX11_isBeside 34 = .ok (.iload_n 3, 1) := by decide +kernel
theorem dX11_isBeside_35 : decode cX11_isBeside 35 = .ok (.iconst (-1), 1) := by decide +kernel
theorem dX11_isBeside_36 : decode cX11_isBeside 36 = .ok (.iconst 1, 1) := by decide +kernel
theorem dX11_isBeside_37 : decode cX11_isBeside 37 = .ok (.invokestatic 41, 3) := by decide +kernel
theorem dX11_isBeside_40 : decode cX11_isBeside 40 = .ok (.ifCond .eq 7, 3) := by decide +kernel
theorem dX11_isBeside_43 : decode cX11_isBeside 43 = .ok (.iconst 1, 1) := by decide +kernel
theorem dX11_isBeside_44 : decode cX11_isBeside 44 = .ok (.goto 4, 3) := by decide +kernel
theorem dX11_isBeside_47 : decode cX11_isBeside 47 = .ok (.iconst 0, 1) := by decide +kernel
theorem dX11_isBeside_48 : decode cX11_isBeside 48 = .ok (.ireturn, 1) := by decide +kernel
theorem dX11_result_0 : decode cX11_result 0 = .ok (.aload_n 0, 1) := by decide +kernel
theorem dX11_result_1 : decode cX11_result 1 = .ok (.iconst 1, 1) := by decide +kernel
theorem dX11_result_2 : decode cX11_result 2 = .ok (.invokestatic 52, 3) := by decide +kernel
theorem dX11_result_5 : decode cX11_result 5 = .ok (.ifCond .le 7, 3) := by decide +kernel
theorem dX11_result_8 : decode cX11_result 8 = .ok (.iconst 1, 1) := by decide +kernel
theorem dX11_result_9 : decode cX11_result 9 = .ok (.goto 4, 3) := by decide +kernel
theorem dX11_result_12 : decode cX11_result 12 = .ok (.iconst 0, 1) := by decide +kernel
theorem dX11_result_13 : decode cX11_result 13 = .ok (.istore_n 1, 1) := by decide +kernel
theorem dX11_result_14 : decode cX11_result 14 = .ok (.aload_n 0, 1) := by decide +kernel
theorem dX11_result_15 : decode cX11_result 15 = .ok (.iconst 2, 1) := by decide +kernel
theorem dX11_result_16 : decode cX11_result 16 = .ok (.invokestatic 52, 3) := by decide +kernel
theorem dX11_result_19 : decode cX11_result 19 = .ok (.ifCond .le 7, 3) := by decide +kernel
theorem dX11_result_22 : decode cX11_result 22 = .ok (.iconst 1, 1) := by decide +kernel
theorem dX11_result_23 : decode cX11_result 23 = .ok (.goto 4, 3) := by decide +kernel
theorem dX11_result_26 : decode cX11_result 26 = .ok (.iconst 0, 1) := by decide +kernel
theorem dX11_result_27 : decode cX11_result 27 = .ok (.istore_n 2, 1) := by decide +kernel
theorem dX11_result_28 : decode cX11_result 28 = .ok (.iload_n 1, 1) := by decide +kernel
theorem dX11_result_29 : decode cX11_result 29 = .ok (.ifCond .eq 24, 3) := by decide +kernel
theorem dX11_result_32 : decode cX11_result 32 = .ok (.iload_n 2, 1) := by decide +kernel
theorem dX11_result_33 : decode cX11_result 33 = .ok (.ifCond .eq 20, 3) := by decide +kernel
theorem dX11_result_36 : decode cX11_result 36 = .ok (.aload_n 0, 1) := by decide +kernel
theorem dX11_result_37 : decode cX11_result 37 = .ok (.iconst 1, 1) := by decide +kernel
theorem dX11_result_38 : decode cX11_result 38 = .ok (.iaload, 1) := by decide +kernel
theorem dX11_result_39 : decode cX11_result 39 = .ok (.aload_n 0, 1) := by decide +kernel
theorem dX11_result_40 : decode cX11_result 40 = .ok (.iconst 4, 1) := by decide +kernel
theorem dX11_result_41 : decode cX11_result 41 = .ok (.iaload, 1) := by decide +kernel
theorem dX11_result_42 : decode cX11_result 42 = .ok (.if_icmp .lt 7, 3) := by decide +kernel
theorem dX11_result_45 : decode cX11_result 45 = .ok (.iconst 3, 1) := by decide +kernel
theorem dX11_result_46 : decode cX11_result 46 = .ok (.goto 24, 3) := by decide +kernel
theorem dX11_result_49 : decode cX11_result 49 = .ok (.iconst 0, 1) := by decide +kernel
theorem dX11_result_50 : decode cX11_result 50 = .ok (.goto 20, 3) := by decide +kernel
theorem dX11_result_53 : decode cX11_result 53 = .ok (.iload_n 1, 1) := by decide +kernel
theorem dX11_result_54 : decode cX11_result 54 = .ok (.ifCond .eq 7, 3) := by decide +kernel
theorem dX11_result_57 : decode cX11_result 57 = .ok (.iconst 1, 1) := by decide +kernel
theorem dX11_result_58 : decode cX11_result 58 = .ok (.goto 12, 3) := by decide +kernel
theorem dX11_result_61 : decode cX11_result 61 = .ok (.iload_n 2, 1) := by decide +kernel
theorem dX11_result_62 : decode cX11_result 62 = .ok (.ifCond .eq 7, 3) := by decide +kernel
theorem dX11_result_65 : decode cX11_result 65 = .ok (.iconst 2, 1) := by decide +kernel
theorem dX11_result_66 : decode cX11_result 66 = .ok (.goto 4, 3) := by decide +kernel
theorem dX11_result_69 : decode cX11_result 69 = .ok (.iconst 3, 1) := by decide +kernel
theorem dX11_result_70 : decode cX11_result 70 = .ok (.ireturn, 1) := by decide +kernel
theorem dX11_why_0 : decode cX11_why 0 = .ok (.aload_n 1, 1) := by decide +kernel
theorem dX11_why_1 : decode cX11_why 1 = .ok (.invokestatic 94, 3) := by decide +kernel
theorem dX11_why_4 : decode cX11_why 4 = .ok (.ifCond .le 5, 3) := by decide +kernel
theorem dX11_why_7 : decode cX11_why 7 = .ok (.iconst 1, 1) := by decide +kernel
theorem dX11_why_8 : decode cX11_why 8 = .ok (.ireturn, 1) := by decide +kernel
theorem dX11_why_9 : decode cX11_why 9 = .ok (.aload_n 1, 1) := by decide +kernel
theorem dX11_why_10 : decode cX11_why 10 = .ok (.bipush 6, 2) := by decide +kernel
theorem dX11_why_12 : decode cX11_why 12 = .ok (.iload_n 2, 1) := by decide +kernel
theorem dX11_why_13 : decode cX11_why 13 = .ok (.iadd, 1) := by decide +kernel
theorem dX11_why_14 : decode cX11_why 14 = .ok (.iaload, 1) := by decide +kernel
theorem dX11_why_15 : decode cX11_why 15 = .ok (.aload_n 1, 1) := by decide +kernel
theorem dX11_why_16 : decode cX11_why 16 = .ok (.iconst 0, 1) := by decide +kernel
theorem dX11_why_17 : decode cX11_why 17 = .ok (.iaload, 1) := by decide +kernel
theorem dX11_why_18 : decode cX11_why 18 = .ok (.if_icmp .eq 5, 3) := by decide +kernel
theorem dX11_why_21 : decode cX11_why 21 = .ok (.iconst 2, 1) := by decide +kernel
theorem dX11_why_22 : decode cX11_why 22 = .ok (.ireturn, 1) := by decide +kernel
theorem dX11_why_23 : decode cX11_why 23 = .ok (.aload_n 1, 1) := by decide +kernel
theorem dX11_why_24 : decode cX11_why 24 = .ok (.bipush 6, 2) := by decide +kernel
theorem dX11_why_26 : decode cX11_why 26 = .ok (.iload_n 3, 1) := by decide +kernel
theorem dX11_why_27 : decode cX11_why 27 = .ok (.iadd, 1) := by decide +kernel
theorem dX11_why_28 : decode cX11_why 28 = .ok (.iaload, 1) := by decide +kernel
theorem dX11_why_29 : decode cX11_why 29 = .ok (.aload_n 1, 1) := by decide +kernel
theorem dX11_why_30 : decode cX11_why 30 = .ok (.iconst 0, 1) := by decide +kernel
theorem dX11_why_31 : decode cX11_why 31 = .ok (.iaload, 1) := by decide +kernel
theorem dX11_why_32 : decode cX11_why 32 = .ok (.if_icmp .ne 5, 3) := by decide +kernel
theorem dX11_why_35 : decode cX11_why 35 = .ok (.iconst 3, 1) := by decide +kernel
theorem dX11_why_36 : decode cX11_why 36 = .ok (.ireturn, 1) := by decide +kernel
theorem dX11_why_37 : decode cX11_why 37 = .ok (.iload 4, 2) := by decide +kernel
theorem dX11_why_39 : decode cX11_why 39 = .ok (.ifCond .eq 26, 3) := by decide +kernel
theorem dX11_why_42 : decode cX11_why 42 = .ok (.aload_n 0, 1) := by decide +kernel
theorem dX11_why_43 : decode cX11_why 43 = .ok (.aload_n 1, 1) := by decide +kernel
theorem dX11_why_44 : decode cX11_why 44 = .ok (.iload_n 2, 1) := by decide +kernel
theorem dX11_why_45 : decode cX11_why 45 = .ok (.invokevirtual 98, 3) := by decide +kernel
theorem dX11_why_48 : decode cX11_why 48 = .ok (.iload_n 3, 1) := by decide +kernel
theorem dX11_why_49 : decode cX11_why 49 = .ok (.lshr, 1) := by decide +kernel
theorem dX11_why_50 : decode cX11_why 50 = .ok (.lconst 1, 1) := by decide +kernel
theorem dX11_why_51 : decode cX11_why 51 = .ok (.land, 1) := by decide +kernel
theorem dX11_why_52 : decode cX11_why 52 = .ok (.lconst 1, 1) := by decide +kernel
theorem dX11_why_53 : decode cX11_why 53 = .ok (.lcmp, 1) := by decide +kernel
theorem dX11_why_54 : decode cX11_why 54 = .ok (.ifCond .ne 7, 3) := by decide +kernel
theorem dX11_why_57 : decode cX11_why 57 = .ok (.iconst 1, 1) := by decide +kernel
theorem dX11_why_58 : decode cX11_why 58 = .ok (.goto 29, 3) := by decide +kernel
theorem dX11_why_61 : decode cX11_why 61 = .ok (.iconst 0, 1) := by decide +kernel
theorem dX11_why_62 : decode cX11_why 62 = .ok (.goto 25, 3) := by decide +kernel
theorem dX11_why_65 : decode cX11_why 65 = .ok (.aload_n 1, 1) := by decide +kernel
theorem dX11_why_66 : decode cX11_why 66 = .ok (.bipush 6, 2) := by decide +kernel
theorem dX11_why_68 : decode cX11_why 68 = .ok (.iload_n 3, 1) := by decide +kernel
theorem dX11_why_69 : decode cX11_why 69 = .ok (.iadd, 1) := by decide +kernel
theorem dX11_why_70 : decode cX11_why 70 = .ok (.iaload, 1) := by decide +kernel
theorem dX11_why_71 : decode cX11_why 71 = .ok (.ifCond .ne 15, 3) := by decide +kernel
theorem dX11_why_74 : decode cX11_why 74 = .ok (.iload_n 2, 1) := by decide +kernel
theorem dX11_why_75 : decode cX11_why 75 = .ok (.iload_n 3, 1) := by decide +kernel
theorem dX11_why_76 : decode cX11_why 76 = .ok (.invokestatic 102, 3) := by decide +kernel
theorem dX11_why_79 : decode cX11_why 79 = .ok (.ifCond .eq 7, 3) := by decide +kernel
theorem dX11_why_82 : decode cX11_why 82 = .ok (.iconst 1, 1) := by decide +kernel
theorem dX11_why_83 : decode cX11_why 83 = .ok (.goto 4, 3) := by decide +kernel
theorem dX11_why_86 : decode cX11_why 86 = .ok (.iconst 0, 1) := by decide +kernel
theorem dX11_why_87 : decode cX11_why 87 = .ok (.istore 5, 2) := by decide +kernel
theorem dX11_why_89 : decode cX11_why 89 = .ok (.iload 5, 2) := by decide +kernel
theorem dX11_why_91 : decode cX11_why 91 = .ok (.ifCond .eq 7, 3) := by decide +kernel
theorem dX11_why_94 : decode cX11_why 94 = .ok (.iconst 0, 1) := by decide +kernel
theorem dX11_why_95 : decode cX11_why 95 = .ok (.goto 4, 3) := by decide +kernel
theorem dX11_why_98 : decode cX11_why 98 = .ok (.iconst 4, 1) := by decide +kernel
theorem dX11_why_99 : decode cX11_why 99 = .ok (.ireturn, 1) := by decide +kernel
theorem dX11_makes_0 : decode cX11_makes 0 = .ok (.aload_n 0, 1) := by decide +kernel
theorem dX11_makes_1 : decode cX11_makes 1 = .ok (.bipush 6, 2) := by decide +kernel
theorem dX11_makes_3 : decode cX11_makes 3 = .ok (.iload_n 2, 1) := by decide +kernel
theorem dX11_makes_4 : decode cX11_makes 4 = .ok (.iadd, 1) := by decide +kernel
theorem dX11_makes_5 : decode cX11_makes 5 = .ok (.iaload, 1) := by decide +kernel
theorem dX11_makes_6 : decode cX11_makes 6 = .ok (.ifCond .le 7, 3) := by decide +kernel
theorem dX11_makes_9 : decode cX11_makes 9 = .ok (.iconst 1, 1) := by decide +kernel
theorem dX11_makes_10 : decode cX11_makes 10 = .ok (.goto 4, 3) := by decide +kernel
theorem dX11_makes_13 : decode cX11_makes 13 = .ok (.iconst 0, 1) := by decide +kernel
theorem dX11_makes_14 : decode cX11_makes 14 = .ok (.istore_n 3, 1) := by decide +kernel
theorem dX11_makes_15 : decode cX11_makes 15 = .ok (.aload_n 0, 1) := by decide +kernel
theorem dX11_makes_16 : decode cX11_makes 16 = .ok (.bipush 6, 2) := by decide +kernel
theorem dX11_makes_18 : decode cX11_makes 18 = .ok (.iload_n 2, 1) := by decide +kernel
theorem dX11_makes_19 : decode cX11_makes 19 = .ok (.iadd, 1) := by decide +kernel
theorem dX11_makes_20 : decode cX11_makes 20 = .ok (.aload_n 0, 1) := by decide +kernel
theorem dX11_makes_21 : decode cX11_makes 21 = .ok (.bipush 6, 2) := by decide +kernel
theorem dX11_makes_23 : decode cX11_makes 23 = .ok (.iload_n 1, 1) := by decide +kernel
theorem dX11_makes_24 : decode cX11_makes 24 = .ok (.iadd, 1) := by decide +kernel
theorem dX11_makes_25 : decode cX11_makes 25 = .ok (.iaload, 1) := by decide +kernel
theorem dX11_makes_26 : decode cX11_makes 26 = .ok (.iastore, 1) := by decide +kernel
theorem dX11_makes_27 : decode cX11_makes 27 = .ok (.aload_n 0, 1) := by decide +kernel
theorem dX11_makes_28 : decode cX11_makes 28 = .ok (.bipush 6, 2) := by decide +kernel
theorem dX11_makes_30 : decode cX11_makes 30 = .ok (.iload_n 1, 1) := by decide +kernel
theorem dX11_makes_31 : decode cX11_makes 31 = .ok (.iadd, 1) := by decide +kernel
theorem dX11_makes_32 : decode cX11_makes 32 = .ok (.iconst 0, 1) := by decide +kernel
theorem dX11_makes_33 : decode cX11_makes 33 = .ok (.iastore, 1) := by decide +kernel
theorem dX11_makes_34 : decode cX11_makes 34 = .ok (.aload_n 0, 1) := by decide +kernel
theorem dX11_makes_35 : decode cX11_makes 35 = .ok (.iconst 0, 1) := by decide +kernel
theorem dX11_makes_36 : decode cX11_makes 36 = .ok (.iconst 3, 1) := by decide +kernel
theorem dX11_makes_37 : decode cX11_makes 37 = .ok (.aload_n 0, 1) := by decide +kernel
theorem dX11_makes_38 : decode cX11_makes 38 = .ok (.iconst 0, 1) := by decide +kernel
theorem dX11_makes_39 : decode cX11_makes 39 = .ok (.iaload, 1) := by decide +kernel
theorem dX11_makes_40 : decode cX11_makes 40 = .ok (.isub, 1) := by decide +kernel
theorem dX11_makes_41 : decode cX11_makes 41 = .ok (.iastore, 1) := by decide +kernel
theorem dX11_makes_42 : decode cX11_makes 42 = .ok (.aload_n 0, 1) := by decide +kernel
theorem dX11_makes_43 : decode cX11_makes 43 = .ok (.iconst 2, 1) := by decide +kernel
theorem dX11_makes_44 : decode cX11_makes 44 = .ok (.dup2, 1) := by decide +kernel
theorem dX11_makes_45 : decode cX11_makes 45 = .ok (.iaload, 1) := by decide +kernel
theorem dX11_makes_46 : decode cX11_makes 46 = .ok (.iconst 1, 1) := by decide +kernel
theorem dX11_makes_47 : decode cX11_makes 47 = .ok (.iadd, 1) := by decide +kernel
theorem dX11_makes_48 : decode cX11_makes 48 = .ok (.iastore, 1) := by decide +kernel
theorem dX11_makes_49 : decode cX11_makes 49 = .ok (.iload_n 3, 1) := by decide +kernel
theorem dX11_makes_50 : decode cX11_makes 50 = .ok (.ifCond .eq 17, 3) := by decide +kernel
theorem dX11_makes_53 : decode cX11_makes 53 = .ok (.aload_n 0, 1) := by decide +kernel
theorem dX11_makes_54 : decode cX11_makes 54 = .ok (.iconst 3, 1) := by decide +kernel
theorem dX11_makes_55 : decode cX11_makes 55 = .ok (.dup2, 1) := by decide +kernel
theorem dX11_makes_56 : decode cX11_makes 56 = .ok (.iaload, 1) := by decide +kernel
theorem dX11_makes_57 : decode cX11_makes 57 = .ok (.iconst 1, 1) := by decide +kernel
theorem dX11_makes_58 : decode cX11_makes 58 = .ok (.iadd, 1) := by decide +kernel
theorem dX11_makes_59 : decode cX11_makes 59 = .ok (.iastore, 1) := by decide +kernel
theorem dX11_makes_60 : decode cX11_makes 60 = .ok (.aload_n 0, 1) := by decide +kernel
theorem dX11_makes_61 : decode cX11_makes 61 = .ok (.invokestatic 74, 3) := by decide +kernel
theorem dX11_makes_64 : decode cX11_makes 64 = .ok (.goto 14, 3) := by decide +kernel
theorem dX11_makes_67 : decode cX11_makes 67 = .ok (.aload_n 0, 1) := by decide +kernel
theorem dX11_makes_68 : decode cX11_makes 68 = .ok (.iconst 1, 1) := by decide +kernel
theorem dX11_makes_69 : decode cX11_makes 69 = .ok (.dup2, 1) := by decide +kernel
theorem dX11_makes_70 : decode cX11_makes 70 = .ok (.iaload, 1) := by decide +kernel
theorem dX11_makes_71 : decode cX11_makes 71 = .ok (.iconst 1, 1) := by decide +kernel
theorem dX11_makes_72 : decode cX11_makes 72 = .ok (.iadd, 1) := by decide +kernel
theorem dX11_makes_73 : decode cX11_makes 73 = .ok (.iastore, 1) := by decide +kernel
theorem dX11_makes_74 : decode cX11_makes 74 = .ok (.aload_n 0, 1) := by decide +kernel
theorem dX11_makes_75 : decode cX11_makes 75 = .ok (.invokestatic 70, 3) := by decide +kernel
theorem dX11_makes_78 : decode cX11_makes 78 = .ok (.return_, 1) := by decide +kernel
theorem dX11_moves_0 : decode cX11_moves 0 = .ok (.iload_n 1, 1) := by decide +kernel
theorem dX11_moves_1 : decode cX11_moves 1 = .ok (.invokestatic 106, 3) := by decide +kernel
theorem dX11_moves_4 : decode cX11_moves 4 = .ok (.ifCond .eq 10, 3) := by decide +kernel
theorem dX11_moves_7 : decode cX11_moves 7 = .ok (.iload_n 2, 1) := by decide +kernel
theorem dX11_moves_8 : decode cX11_moves 8 = .ok (.invokestatic 106, 3) := by decide +kernel
theorem dX11_moves_11 : decode cX11_moves 11 = .ok (.ifCond .ne 6, 3) := by decide +kernel
theorem dX11_moves_14 : decode cX11_moves 14 = .ok (.bipush (-101), 2) := by decide +kernel
theorem dX11_moves_16 : decode cX11_moves 16 = .ok (.ireturn, 1) := by decide +kernel
theorem dX11_moves_17 : decode cX11_moves 17 = .ok (.aload_n 0, 1) := by decide +kernel
theorem dX11_moves_18 : decode cX11_moves 18 = .ok (.aload_n 0, 1) := by decide +kernel
theorem dX11_moves_19 : decode cX11_moves 19 = .ok (.getfield 7, 3) := by decide +kernel
theorem dX11_moves_22 : decode cX11_moves 22 = .ok (.iload_n 1, 1) := by decide +kernel
theorem dX11_moves_23 : decode cX11_moves 23 = .ok (.iload_n 2, 1) := by decide +kernel
theorem dX11_moves_24 : decode cX11_moves 24 = .ok (.iload_n 3, 1) := by decide +kernel
theorem dX11_moves_25 : decode cX11_moves 25 = .ok (.invokevirtual 110, 3) := by decide +kernel
theorem dX11_moves_28 : decode cX11_moves 28 = .ok (.istore 4, 2) := by decide +kernel
theorem dX11_moves_30 : decode cX11_moves 30 = .ok (.iload 4, 2) := by decide +kernel
theorem dX11_moves_32 : decode cX11_moves 32 = .ok (.ifCond .le 9, 3) := by decide +kernel
theorem dX11_moves_35 : decode cX11_moves 35 = .ok (.bipush (-110), 2) := by decide +kernel
theorem dX11_moves_37 : decode cX11_moves 37 = .ok (.iload 4, 2) := by decide +kernel
theorem dX11_moves_39 : decode cX11_moves 39 = .ok (.isub, 1) := by decide +kernel
theorem dX11_moves_40 : decode cX11_moves 40 = .ok (.ireturn, 1) := by decide +kernel
theorem dX11_moves_41 : decode cX11_moves 41 = .ok (.aload_n 0, 1) := by decide +kernel
theorem dX11_moves_42 : decode cX11_moves 42 = .ok (.invokevirtual 64, 3) := by decide +kernel
theorem dX11_moves_45 : decode cX11_moves 45 = .ok (.aload_n 0, 1) := by decide +kernel
theorem dX11_moves_46 : decode cX11_moves 46 = .ok (.getfield 7, 3) := by decide +kernel
theorem dX11_moves_49 : decode cX11_moves 49 = .ok (.iload_n 1, 1) := by decide +kernel
theorem dX11_moves_50 : decode cX11_moves 50 = .ok (.iload_n 2, 1) := by decide +kernel
theorem dX11_moves_51 : decode cX11_moves 51 = .ok (.invokestatic 113, 3) := by decide +kernel
theorem dX11_moves_54 : decode cX11_moves 54 = .ok (.iload_n 3, 1) := by decide +kernel
theorem dX11_moves_55 : decode cX11_moves 55 = .ok (.ifCond .eq 19, 3) := by decide +kernel
theorem dX11_moves_58 : decode cX11_moves 58 = .ok (.aload_n 0, 1) := by decide +kernel
theorem dX11_moves_59 : decode cX11_moves 59 = .ok (.getfield 7, 3) := by decide +kernel
theorem dX11_moves_62 : decode cX11_moves 62 = .ok (.aload_n 0, 1) := by decide +kernel
theorem dX11_moves_63 : decode cX11_moves 63 = .ok (.getfield 7, 3) := by decide +kernel
theorem dX11_moves_66 : decode cX11_moves 66 = .ok (.iconst 0, 1) := by decide +kernel
theorem dX11_moves_67 : decode cX11_moves 67 = .ok (.iaload, 1) := by decide +kernel
theorem dX11_moves_68 : decode cX11_moves 68 = .ok (.invokestatic 52, 3) := by decide +kernel
theorem dX11_moves_71 : decode cX11_moves 71 = .ok (.goto 9, 3) := by decide +kernel
theorem dX11_moves_74 : decode cX11_moves 74 = .ok (.aload_n 0, 1) := by decide +kernel
theorem dX11_moves_75 : decode cX11_moves 75 = .ok (.getfield 7, 3) := by decide +kernel
theorem dX11_moves_78 : decode cX11_moves 78 = .ok (.iconst 1, 1) := by decide +kernel
theorem dX11_moves_79 : decode cX11_moves 79 = .ok (.iaload, 1) := by decide +kernel
theorem dX11_moves_80 : decode cX11_moves 80 = .ok (.ireturn, 1) := by decide +kernel
theorem dX11_move_0 : decode cX11_move 0 = .ok (.aload_n 0, 1) := by decide +kernel
theorem dX11_move_1 : decode cX11_move 1 = .ok (.iload_n 1, 1) := by decide +kernel
theorem dX11_move_2 : decode cX11_move 2 = .ok (.iload_n 2, 1) := by decide +kernel
theorem dX11_move_3 : decode cX11_move 3 = .ok (.iconst 0, 1) := by decide +kernel
theorem dX11_move_4 : decode cX11_move 4 = .ok (.invokevirtual 117, 3) := by decide +kernel
theorem dX11_move_7 : decode cX11_move 7 = .ok (.ireturn, 1) := by decide +kernel
theorem dX11_capture_0 : decode cX11_capture 0 = .ok (.aload_n 0, 1) := by decide +kernel
theorem dX11_capture_1 : decode cX11_capture 1 = .ok (.iload_n 1, 1) := by decide +kernel
theorem dX11_capture_2 : decode cX11_capture 2 = .ok (.iload_n 2, 1) := by decide +kernel
theorem dX11_capture_3 : decode cX11_capture 3 = .ok (.iconst 1, 1) := by decide +kernel
theorem dX11_capture_4 : decode cX11_capture 4 = .ok (.invokevirtual 117, 3) := by decide +kernel
theorem dX11_capture_7 : decode cX11_capture 7 = .ok (.ireturn, 1) := by decide +kernel
theorem dX11_ends_0 : decode cX11_ends 0 = .ok (.aload_n 1, 1) := by decide +kernel
theorem dX11_ends_1 : decode cX11_ends 1 = .ok (.bipush 6, 2) := by decide +kernel
theorem dX11_ends_3 : decode cX11_ends 3 = .ok (.iload_n 2, 1) := by decide +kernel
theorem dX11_ends_4 : decode cX11_ends 4 = .ok (.iadd, 1) := by decide +kernel
theorem dX11_ends_5 : decode cX11_ends 5 = .ok (.iaload, 1) := by decide +kernel
theorem dX11_ends_6 : decode cX11_ends 6 = .ok (.aload_n 1, 1) := by decide +kernel
theorem dX11_ends_7 : decode cX11_ends 7 = .ok (.iconst 0, 1) := by decide +kernel
theorem dX11_ends_8 : decode cX11_ends 8 = .ok (.iaload, 1) := by decide +kernel
theorem dX11_ends_9 : decode cX11_ends 9 = .ok (.if_icmp .eq 5, 3) := by decide +kernel
theorem dX11_ends_12 : decode cX11_ends 12 = .ok (.lconst 0, 1) := by decide +kernel
theorem dX11_ends_13 : decode cX11_ends 13 = .ok (.lreturn, 1) := by decide +kernel
theorem dX11_ends_14 : decode cX11_ends 14 = .ok (.iload_n 3, 1) := by decide +kernel
theorem dX11_ends_15 : decode cX11_ends 15 = .ok (.ifCond .eq 12, 3) := by decide +kernel
theorem dX11_ends_18 : decode cX11_ends 18 = .ok (.aload_n 0, 1) := by decide +kernel
theorem dX11_ends_19 : decode cX11_ends 19 = .ok (.aload_n 1, 1) := by decide +kernel
theorem dX11_ends_20 : decode cX11_ends 20 = .ok (.iload_n 2, 1) := by decide +kernel
theorem dX11_ends_21 : decode cX11_ends 21 = .ok (.invokevirtual 98, 3) := by decide +kernel
theorem dX11_ends_24 : decode cX11_ends 24 = .ok (.goto 4, 3) := by decide +kernel
theorem dX11_ends_27 : decode cX11_ends 27 = .ok (.lconst 0, 1) := by decide +kernel
theorem dX11_ends_28 : decode cX11_ends 28 = .ok (.lstore 4, 2) := by decide +kernel
theorem dX11_ends_30 : decode cX11_ends 30 = .ok (.iconst 0, 1) := by decide +kernel
theorem dX11_ends_31 : decode cX11_ends 31 = .ok (.istore 6, 2) := by decide +kernel
theorem dX11_ends_33 : decode cX11_ends 33 = .ok (.iload 6, 2) := by decide +kernel
theorem dX11_ends_35 : decode cX11_ends 35 = .ok (.bipush 36, 2) := by decide +kernel
theorem dX11_ends_37 : decode cX11_ends 37 = .ok (.if_icmp .ge 45, 3) := by decide +kernel
theorem dX11_ends_40 : decode cX11_ends 40 = .ok (.iload_n 3, 1) := by decide +kernel
theorem dX11_ends_41 : decode cX11_ends 41 = .ok (.ifCond .ne 41, 3) := by decide +kernel
theorem dX11_ends_44 : decode cX11_ends 44 = .ok (.lload 4, 2) := by decide +kernel
theorem dX11_ends_46 : decode cX11_ends 46 = .ok (.aload_n 1, 1) := by decide +kernel
theorem dX11_ends_47 : decode cX11_ends 47 = .ok (.bipush 6, 2) := by decide +kernel
theorem dX11_ends_49 : decode cX11_ends 49 = .ok (.iload 6, 2) := by decide +kernel
theorem dX11_ends_51 : decode cX11_ends 51 = .ok (.iadd, 1) := by decide +kernel
theorem dX11_ends_52 : decode cX11_ends 52 = .ok (.iaload, 1) := by decide +kernel
theorem dX11_ends_53 : decode cX11_ends 53 = .ok (.ifCond .ne 19, 3) := by decide +kernel
theorem dX11_ends_56 : decode cX11_ends 56 = .ok (.iload_n 2, 1) := by decide +kernel
theorem dX11_ends_57 : decode cX11_ends 57 = .ok (.iload 6, 2) := by decide +kernel
theorem dX11_ends_59 : decode cX11_ends 59 = .ok (.invokestatic 102, 3) := by decide +kernel
theorem dX11_ends_62 : decode cX11_ends 62 = .ok (.ifCond .eq 10, 3) := by decide +kernel
theorem dX11_ends_65 : decode cX11_ends 65 = .ok (.lconst 1, 1) := by decide +kernel
theorem dX11_ends_66 : decode cX11_ends 66 = .ok (.iload 6, 2) := by decide +kernel
theorem dX11_ends_68 : decode cX11_ends 68 = .ok (.lshl, 1) := by decide +kernel
theorem dX11_ends_69 : decode cX11_ends 69 = .ok (.goto 4, 3) := by decide +kernel
theorem dX11_ends_72 : decode cX11_ends 72 = .ok (.lconst 0, 1) := by decide +kernel
theorem dX11_ends_73 : decode cX11_ends 73 = .ok (.lor, 1) := by decide +kernel
theorem dX11_ends_74 : decode cX11_ends 74 = .ok (.lstore 4, 2) := by decide +kernel
theorem dX11_ends_76 : decode cX11_ends 76 = .ok (.iinc 6 1, 3) := by decide +kernel
theorem dX11_ends_79 : decode cX11_ends 79 = .ok (.goto (-46), 3) := by decide +kernel
theorem dX11_ends_82 : decode cX11_ends 82 = .ok (.lload 4, 2) := by decide +kernel
theorem dX11_ends_84 : decode cX11_ends 84 = .ok (.lreturn, 1) := by decide +kernel
theorem dX11_worth_0 : decode cX11_worth 0 = .ok (.aload_n 0, 1) := by decide +kernel
theorem dX11_worth_1 : decode cX11_worth 1 = .ok (.aload_n 0, 1) := by decide +kernel
theorem dX11_worth_2 : decode cX11_worth 2 = .ok (.iconst 0, 1) := by decide +kernel
theorem dX11_worth_3 : decode cX11_worth 3 = .ok (.iaload, 1) := by decide +kernel
theorem dX11_worth_4 : decode cX11_worth 4 = .ok (.invokestatic 52, 3) := by decide +kernel
theorem dX11_worth_7 : decode cX11_worth 7 = .ok (.aload_n 0, 1) := by decide +kernel
theorem dX11_worth_8 : decode cX11_worth 8 = .ok (.iconst 3, 1) := by decide +kernel
theorem dX11_worth_9 : decode cX11_worth 9 = .ok (.aload_n 0, 1) := by decide +kernel
theorem dX11_worth_10 : decode cX11_worth 10 = .ok (.iconst 0, 1) := by decide +kernel
theorem dX11_worth_11 : decode cX11_worth 11 = .ok (.iaload, 1) := by decide +kernel
theorem dX11_worth_12 : decode cX11_worth 12 = .ok (.isub, 1) := by decide +kernel
theorem dX11_worth_13 : decode cX11_worth 13 = .ok (.invokestatic 52, 3) := by decide +kernel
theorem dX11_worth_16 : decode cX11_worth 16 = .ok (.isub, 1) := by decide +kernel
theorem dX11_worth_17 : decode cX11_worth 17 = .ok (.ireturn, 1) := by decide +kernel
theorem dX11_deep_0 : decode cX11_deep 0 = .ok (.sipush (-1000), 3) := by decide +kernel
theorem dX11_deep_3 : decode cX11_deep 3 = .ok (.istore_n 2, 1) := by decide +kernel
theorem dX11_deep_4 : decode cX11_deep 4 = .ok (.iconst 0, 1) := by decide +kernel
theorem dX11_deep_5 : decode cX11_deep 5 = .ok (.istore_n 3, 1) := by decide +kernel
theorem dX11_deep_6 : decode cX11_deep 6 = .ok (.iload_n 3, 1) := by decide +kernel
theorem dX11_deep_7 : decode cX11_deep 7 = .ok (.bipush 72, 2) := by decide +kernel
theorem dX11_deep_9 : decode cX11_deep 9 = .ok (.if_icmp .ge 101, 3) := by decide +kernel
theorem dX11_deep_12 : decode cX11_deep 12 = .ok (.aload_n 1, 1) := by decide +kernel
theorem dX11_deep_13 : decode cX11_deep 13 = .ok (.invokestatic 94, 3) := by decide +kernel
theorem dX11_deep_16 : decode cX11_deep 16 = .ok (.ifCond .ne 94, 3) := by decide +kernel
theorem dX11_deep_19 : decode cX11_deep 19 = .ok (.iload_n 3, 1) := by decide +kernel
theorem dX11_deep_20 : decode cX11_deep 20 = .ok (.bipush 36, 2) := by decide +kernel
theorem dX11_deep_22 : decode cX11_deep 22 = .ok (.irem, 1) := by decide +kernel
theorem dX11_deep_23 : decode cX11_deep 23 = .ok (.istore 4, 2) := by decide +kernel
theorem dX11_deep_25 : decode cX11_deep 25 = .ok (.aload_n 0, 1) := by decide +kernel
theorem dX11_deep_26 : decode cX11_deep 26 = .ok (.aload_n 1, 1) := by decide +kernel
theorem dX11_deep_27 : decode cX11_deep 27 = .ok (.iload 4, 2) := by decide +kernel
theorem dX11_deep_29 : decode cX11_deep 29 = .ok (.iload_n 3, 1) := by decide +kernel
theorem dX11_deep_30 : decode cX11_deep 30 = .ok (.bipush 36, 2) := by decide +kernel
theorem dX11_deep_32 : decode cX11_deep 32 = .ok (.if_icmp .ge 7, 3) := by decide +kernel
theorem dX11_deep_35 : decode cX11_deep 35 = .ok (.iconst 1, 1) := by decide +kernel
theorem dX11_deep_36 : decode cX11_deep 36 = .ok (.goto 4, 3) := by decide +kernel
theorem dX11_deep_39 : decode cX11_deep 39 = .ok (.iconst 0, 1) := by decide +kernel
theorem dX11_deep_40 : decode cX11_deep 40 = .ok (.invokevirtual 121, 3) := by decide +kernel
theorem dX11_deep_43 : decode cX11_deep 43 = .ok (.lstore 5, 2) := by decide +kernel
theorem dX11_deep_45 : decode cX11_deep 45 = .ok (.iconst 0, 1) := by decide +kernel
theorem dX11_deep_46 : decode cX11_deep 46 = .ok (.istore 7, 2) := by decide +kernel
theorem dX11_deep_48 : decode cX11_deep 48 = .ok (.iload 7, 2) := by decide +kernel
theorem dX11_deep_50 : decode cX11_deep 50 = .ok (.bipush 36, 2) := by decide +kernel
theorem dX11_deep_52 : decode cX11_deep 52 = .ok (.if_icmp .ge 52, 3) := by decide +kernel
theorem dX11_deep_55 : decode cX11_deep 55 = .ok (.lload 5, 2) := by decide +kernel
theorem dX11_deep_57 : decode cX11_deep 57 = .ok (.iload 7, 2) := by decide +kernel
theorem dX11_deep_59 : decode cX11_deep 59 = .ok (.lshr, 1) := by decide +kernel
theorem dX11_deep_60 : decode cX11_deep 60 = .ok (.lconst 1, 1) := by decide +kernel
theorem dX11_deep_61 : decode cX11_deep 61 = .ok (.land, 1) := by decide +kernel
theorem dX11_deep_62 : decode cX11_deep 62 = .ok (.lconst 1, 1) := by decide +kernel
theorem dX11_deep_63 : decode cX11_deep 63 = .ok (.lcmp, 1) := by decide +kernel
theorem dX11_deep_64 : decode cX11_deep 64 = .ok (.ifCond .ne 34, 3) := by decide +kernel
theorem dX11_deep_67 : decode cX11_deep 67 = .ok (.aload_n 1, 1) := by decide +kernel
theorem dX11_deep_68 : decode cX11_deep 68 = .ok (.invokestatic 125, 3) := by decide +kernel
theorem dX11_deep_71 : decode cX11_deep 71 = .ok (.iload_n 3, 1) := by decide +kernel
theorem dX11_deep_72 : decode cX11_deep 72 = .ok (.bipush 36, 2) := by decide +kernel
theorem dX11_deep_74 : decode cX11_deep 74 = .ok (.if_icmp .ge 7, 3) := by decide +kernel
theorem dX11_deep_77 : decode cX11_deep 77 = .ok (.iconst 1, 1) := by decide +kernel
theorem dX11_deep_78 : decode cX11_deep 78 = .ok (.goto 4, 3) := by decide +kernel
theorem dX11_deep_81 : decode cX11_deep 81 = .ok (.iconst 0, 1) := by decide +kernel
theorem dX11_deep_82 : decode cX11_deep 82 = .ok (.iadd, 1) := by decide +kernel
theorem dX11_deep_83 : decode cX11_deep 83 = .ok (.istore 8, 2) := by decide +kernel
theorem dX11_deep_85 : decode cX11_deep 85 = .ok (.iload 8, 2) := by decide +kernel
theorem dX11_deep_87 : decode cX11_deep 87 = .ok (.iload_n 2, 1) := by decide +kernel
theorem dX11_deep_88 : decode cX11_deep 88 = .ok (.if_icmp .le 8, 3) := by decide +kernel
theorem dX11_deep_91 : decode cX11_deep 91 = .ok (.iload 8, 2) := by decide +kernel
theorem dX11_deep_93 : decode cX11_deep 93 = .ok (.goto 4, 3) := by decide +kernel
theorem dX11_deep_96 : decode cX11_deep 96 = .ok (.iload_n 2, 1) := by decide +kernel
theorem dX11_deep_97 : decode cX11_deep 97 = .ok (.istore_n 2, 1) := by decide +kernel
theorem dX11_deep_98 : decode cX11_deep 98 = .ok (.iinc 7 1, 3) := by decide +kernel
theorem dX11_deep_101 : decode cX11_deep 101 = .ok (.goto (-53), 3) := by decide +kernel
theorem dX11_deep_104 : decode cX11_deep 104 = .ok (.iinc 3 1, 3) := by decide +kernel
theorem dX11_deep_107 : decode cX11_deep 107 = .ok (.goto (-101), 3) := by decide +kernel
theorem dX11_deep_110 : decode cX11_deep 110 = .ok (.iload_n 2, 1) := by decide +kernel
theorem dX11_deep_111 : decode cX11_deep 111 = .ok (.sipush (-1000), 3) := by decide +kernel
theorem dX11_deep_114 : decode cX11_deep 114 = .ok (.if_icmp .ne 10, 3) := by decide +kernel
theorem dX11_deep_117 : decode cX11_deep 117 = .ok (.aload_n 1, 1) := by decide +kernel
theorem dX11_deep_118 : decode cX11_deep 118 = .ok (.invokestatic 125, 3) := by decide +kernel
theorem dX11_deep_121 : decode cX11_deep 121 = .ok (.goto 4, 3) := by decide +kernel
theorem dX11_deep_124 : decode cX11_deep 124 = .ok (.iload_n 2, 1) := by decide +kernel
theorem dX11_deep_125 : decode cX11_deep 125 = .ok (.ireturn, 1) := by decide +kernel
theorem dX11_bestOf_0 : decode cX11_bestOf 0 = .ok (.bipush (-105), 2) := by decide +kernel
theorem dX11_bestOf_2 : decode cX11_bestOf 2 = .ok (.istore_n 2, 1) := by decide +kernel
theorem dX11_bestOf_3 : decode cX11_bestOf 3 = .ok (.aload_n 0, 1) := by decide +kernel
theorem dX11_bestOf_4 : decode cX11_bestOf 4 = .ok (.aload_n 0, 1) := by decide +kernel
theorem dX11_bestOf_5 : decode cX11_bestOf 5 = .ok (.getfield 7, 3) := by decide +kernel
theorem dX11_bestOf_8 : decode cX11_bestOf 8 = .ok (.invokestatic 125, 3) := by decide +kernel
theorem dX11_bestOf_11 : decode cX11_bestOf 11 = .ok (.putfield 128, 3) := by decide +kernel
theorem dX11_bestOf_14 : decode cX11_bestOf 14 = .ok (.iconst 0, 1) := by decide +kernel
theorem dX11_bestOf_15 : decode cX11_bestOf 15 = .ok (.istore_n 3, 1) := by decide +kernel
theorem dX11_bestOf_16 : decode cX11_bestOf 16 = .ok (.iload_n 3, 1) := by decide +kernel
theorem dX11_bestOf_17 : decode cX11_bestOf 17 = .ok (.bipush 72, 2) := by decide +kernel
theorem dX11_bestOf_19 : decode cX11_bestOf 19 = .ok (.if_icmp .ge 185, 3) := by decide +kernel
theorem dX11_bestOf_22 : decode cX11_bestOf 22 = .ok (.aload_n 0, 1) := by decide +kernel
theorem dX11_bestOf_23 : decode cX11_bestOf 23 = .ok (.getfield 7, 3) := by decide +kernel
theorem dX11_bestOf_26 : decode cX11_bestOf 26 = .ok (.invokestatic 94, 3) := by decide +kernel
theorem dX11_bestOf_29 : decode cX11_bestOf 29 = .ok (.ifCond .ne 175, 3) := by decide +kernel
theorem dX11_bestOf_32 : decode cX11_bestOf 32 = .ok (.iload_n 3, 1) := by decide +kernel
theorem dX11_bestOf_33 : decode cX11_bestOf 33 = .ok (.bipush 36, 2) := by decide +kernel
theorem dX11_bestOf_35 : decode cX11_bestOf 35 = .ok (.irem, 1) := by decide +kernel
theorem dX11_bestOf_36 : decode cX11_bestOf 36 = .ok (.istore 4, 2) := by decide +kernel
theorem dX11_bestOf_38 : decode cX11_bestOf 38 = .ok (.aload_n 0, 1) := by decide +kernel
theorem dX11_bestOf_39 : decode cX11_bestOf 39 = .ok (.aload_n 0, 1) := by decide +kernel
theorem dX11_bestOf_40 : decode cX11_bestOf 40 = .ok (.getfield 7, 3) := by decide +kernel
theorem dX11_bestOf_43 : decode cX11_bestOf 43 = .ok (.iload 4, 2) := by decide +kernel
theorem dX11_bestOf_45 : decode cX11_bestOf 45 = .ok (.iload_n 3, 1) := by decide +kernel
theorem dX11_bestOf_46 : decode cX11_bestOf 46 = .ok (.bipush 36, 2) := by decide +kernel
theorem dX11_bestOf_48 : decode cX11_bestOf 48 = .ok (.if_icmp .ge 7, 3) := by decide +kernel
theorem dX11_bestOf_51 : decode cX11_bestOf 51 = .ok (.iconst 1, 1) := by decide +kernel
theorem dX11_bestOf_52 : decode cX11_bestOf 52 = .ok (.goto 4, 3) := by decide +kernel
theorem dX11_bestOf_55 : decode cX11_bestOf 55 = .ok (.iconst 0, 1) := by decide +kernel
theorem dX11_bestOf_56 : decode cX11_bestOf 56 = .ok (.invokevirtual 121, 3) := by decide +kernel
theorem dX11_bestOf_59 : decode cX11_bestOf 59 = .ok (.lstore 5, 2) := by decide +kernel
theorem dX11_bestOf_61 : decode cX11_bestOf 61 = .ok (.iconst 0, 1) := by decide +kernel
theorem dX11_bestOf_62 : decode cX11_bestOf 62 = .ok (.istore 7, 2) := by decide +kernel
theorem dX11_bestOf_64 : decode cX11_bestOf 64 = .ok (.iload 7, 2) := by decide +kernel
theorem dX11_bestOf_66 : decode cX11_bestOf 66 = .ok (.bipush 36, 2) := by decide +kernel
theorem dX11_bestOf_68 : decode cX11_bestOf 68 = .ok (.if_icmp .ge 130, 3) := by decide +kernel
theorem dX11_bestOf_71 : decode cX11_bestOf 71 = .ok (.lload 5, 2) := by decide +kernel
theorem dX11_bestOf_73 : decode cX11_bestOf 73 = .ok (.iload 7, 2) := by decide +kernel
theorem dX11_bestOf_75 : decode cX11_bestOf 75 = .ok (.lshr, 1) := by decide +kernel
theorem dX11_bestOf_76 : decode cX11_bestOf 76 = .ok (.lconst 1, 1) := by decide +kernel
theorem dX11_bestOf_77 : decode cX11_bestOf 77 = .ok (.land, 1) := by decide +kernel
theorem dX11_bestOf_78 : decode cX11_bestOf 78 = .ok (.lconst 1, 1) := by decide +kernel
theorem dX11_bestOf_79 : decode cX11_bestOf 79 = .ok (.lcmp, 1) := by decide +kernel
theorem dX11_bestOf_80 : decode cX11_bestOf 80 = .ok (.ifCond .ne 112, 3) := by decide +kernel
theorem dX11_bestOf_83 : decode cX11_bestOf 83 = .ok (.aload_n 0, 1) := by decide +kernel
theorem dX11_bestOf_84 : decode cX11_bestOf 84 = .ok (.getfield 7, 3) := by decide +kernel
theorem dX11_bestOf_87 : decode cX11_bestOf 87 = .ok (.iconst 0, 1) := by decide +kernel
theorem dX11_bestOf_88 : decode cX11_bestOf 88 = .ok (.aload_n 0, 1) := by decide +kernel
theorem dX11_bestOf_89 : decode cX11_bestOf 89 = .ok (.getfield 13, 3) := by decide +kernel
theorem dX11_bestOf_92 : decode cX11_bestOf 92 = .ok (.iconst 0, 1) := by decide +kernel
theorem dX11_bestOf_93 : decode cX11_bestOf 93 = .ok (.invokestatic 48, 3) := by decide +kernel
theorem dX11_bestOf_96 : decode cX11_bestOf 96 = .ok (.aload_n 0, 1) := by decide +kernel
theorem dX11_bestOf_97 : decode cX11_bestOf 97 = .ok (.getfield 13, 3) := by decide +kernel
theorem dX11_bestOf_100 : decode cX11_bestOf 100 = .ok (.iload 4, 2) := by decide +kernel
theorem dX11_bestOf_102 : decode cX11_bestOf 102 = .ok (.iload 7, 2) := by decide +kernel
theorem dX11_bestOf_104 : decode cX11_bestOf 104 = .ok (.invokestatic 113, 3) := by decide +kernel
theorem dX11_bestOf_107 : decode cX11_bestOf 107 = .ok (.iload_n 1, 1) := by decide +kernel
theorem dX11_bestOf_108 : decode cX11_bestOf 108 = .ok (.iconst 1, 1) := by decide +kernel
theorem dX11_bestOf_109 : decode cX11_bestOf 109 = .ok (.if_icmp .ne 14, 3) := by decide +kernel
theorem dX11_bestOf_112 : decode cX11_bestOf 112 = .ok (.aload_n 0, 1) := by decide +kernel
theorem dX11_bestOf_113 : decode cX11_bestOf 113 = .ok (.getfield 13, 3) := by decide +kernel
theorem dX11_bestOf_116 : decode cX11_bestOf 116 = .ok (.invokestatic 125, 3) := by decide +kernel
theorem dX11_bestOf_119 : decode cX11_bestOf 119 = .ok (.ineg, 1) := by decide +kernel
theorem dX11_bestOf_120 : decode cX11_bestOf 120 = .ok (.goto 12, 3) := by decide +kernel
theorem dX11_bestOf_123 : decode cX11_bestOf 123 = .ok (.aload_n 0, 1) := by decide +kernel
theorem dX11_bestOf_124 : decode cX11_bestOf 124 = .ok (.aload_n 0, 1) := by decide +kernel
theorem dX11_bestOf_125 : decode cX11_bestOf 125 = .ok (.getfield 13, 3) := by decide +kernel
theorem dX11_bestOf_128 : decode cX11_bestOf 128 = .ok (.invokevirtual 131, 3) := by decide +kernel
theorem dX11_bestOf_131 : decode cX11_bestOf 131 = .ok (.ineg, 1) := by decide +kernel
theorem dX11_bestOf_132 : decode cX11_bestOf 132 = .ok (.istore 8, 2) := by decide +kernel
theorem dX11_bestOf_134 : decode cX11_bestOf 134 = .ok (.iload_n 2, 1) := by decide +kernel
theorem dX11_bestOf_135 : decode cX11_bestOf 135 = .ok (.bipush (-105), 2) := by decide +kernel
theorem dX11_bestOf_137 : decode cX11_bestOf 137 = .ok (.if_icmp .eq 12, 3) := by decide +kernel
theorem dX11_bestOf_140 : decode cX11_bestOf 140 = .ok (.iload 8, 2) := by decide +kernel
theorem dX11_bestOf_142 : decode cX11_bestOf 142 = .ok (.aload_n 0, 1) := by decide +kernel
theorem dX11_bestOf_143 : decode cX11_bestOf 143 = .ok (.getfield 128, 3) := by decide +kernel
theorem dX11_bestOf_146 : decode cX11_bestOf 146 = .ok (.if_icmp .le 7, 3) := by decide +kernel
theorem dX11_bestOf_149 : decode cX11_bestOf 149 = .ok (.iconst 1, 1) := by decide +kernel
theorem dX11_bestOf_150 : decode cX11_bestOf 150 = .ok (.goto 4, 3) := by decide +kernel
theorem dX11_bestOf_153 : decode cX11_bestOf 153 = .ok (.iconst 0, 1) := by decide +kernel
theorem dX11_bestOf_154 : decode cX11_bestOf 154 = .ok (.istore 9, 2) := by decide +kernel
theorem dX11_bestOf_156 : decode cX11_bestOf 156 = .ok (.iload 9, 2) := by decide +kernel
theorem dX11_bestOf_158 : decode cX11_bestOf 158 = .ok (.ifCond .eq 14, 3) := by decide +kernel
theorem dX11_bestOf_161 : decode cX11_bestOf 161 = .ok (.bipush 100, 2) := by decide +kernel
theorem dX11_bestOf_163 : decode cX11_bestOf 163 = .ok (.iload 4, 2) := by decide +kernel
theorem dX11_bestOf_165 : decode cX11_bestOf 165 = .ok (.imul, 1) := by decide +kernel
theorem dX11_bestOf_166 : decode cX11_bestOf 166 = .ok (.iload 7, 2) := by decide +kernel
theorem dX11_bestOf_168 : decode cX11_bestOf 168 = .ok (.iadd, 1) := by decide +kernel
theorem dX11_bestOf_169 : decode cX11_bestOf 169 = .ok (.goto 4, 3) := by decide +kernel
theorem dX11_bestOf_172 : decode cX11_bestOf 172 = .ok (.iload_n 2, 1) := by decide +kernel
theorem dX11_bestOf_173 : decode cX11_bestOf 173 = .ok (.istore_n 2, 1) := by decide +kernel
theorem dX11_bestOf_174 : decode cX11_bestOf 174 = .ok (.aload_n 0, 1) := by decide +kernel
theorem dX11_bestOf_175 : decode cX11_bestOf 175 = .ok (.iload 9, 2) := by decide +kernel
theorem dX11_bestOf_177 : decode cX11_bestOf 177 = .ok (.ifCond .eq 8, 3) := by decide +kernel
theorem dX11_bestOf_180 : decode cX11_bestOf 180 = .ok (.iload 8, 2) := by decide +kernel
theorem dX11_bestOf_182 : decode cX11_bestOf 182 = .ok (.goto 7, 3) := by decide +kernel
theorem dX11_bestOf_185 : decode cX11_bestOf 185 = .ok (.aload_n 0, 1) := by decide +kernel
theorem dX11_bestOf_186 : decode cX11_bestOf 186 = .ok (.getfield 128, 3) := by decide +kernel
theorem dX11_bestOf_189 : decode cX11_bestOf 189 = .ok (.putfield 128, 3) := by decide +kernel
theorem dX11_bestOf_192 : decode cX11_bestOf 192 = .ok (.iinc 7 1, 3) := by decide +kernel
theorem dX11_bestOf_195 : decode cX11_bestOf 195 = .ok (.goto (-131), 3) := by decide +kernel
theorem dX11_bestOf_198 : decode cX11_bestOf 198 = .ok (.iinc 3 1, 3) := by decide +kernel
theorem dX11_bestOf_201 : decode cX11_bestOf 201 = .ok (.goto (-185), 3) := by decide +kernel
theorem dX11_bestOf_204 : decode cX11_bestOf 204 = .ok (.iload_n 2, 1) := by decide +kernel
theorem dX11_bestOf_205 : decode cX11_bestOf 205 = .ok (.ireturn, 1) := by decide +kernel
theorem dX11_play_0 : decode cX11_play 0 = .ok (.iload_n 1, 1) := by decide +kernel
theorem dX11_play_1 : decode cX11_play 1 = .ok (.iconst 1, 1) := by decide +kernel
theorem dX11_play_2 : decode cX11_play 2 = .ok (.iconst 2, 1) := by decide +kernel
theorem dX11_play_3 : decode cX11_play 3 = .ok (.invokestatic 41, 3) := by decide +kernel
theorem dX11_play_6 : decode cX11_play 6 = .ok (.ifCond .ne 6, 3) := by decide +kernel
theorem dX11_play_9 : decode cX11_play 9 = .ok (.bipush (-102), 2) := by decide +kernel
theorem dX11_play_11 : decode cX11_play 11 = .ok (.ireturn, 1) := by decide +kernel
theorem dX11_play_12 : decode cX11_play 12 = .ok (.aload_n 0, 1) := by decide +kernel
theorem dX11_play_13 : decode cX11_play 13 = .ok (.iload_n 1, 1) := by decide +kernel
theorem dX11_play_14 : decode cX11_play 14 = .ok (.invokevirtual 134, 3) := by decide +kernel
theorem dX11_play_17 : decode cX11_play 17 = .ok (.istore_n 2, 1) := by decide +kernel
theorem dX11_play_18 : decode cX11_play 18 = .ok (.iload_n 2, 1) := by decide +kernel
theorem dX11_play_19 : decode cX11_play 19 = .ok (.bipush (-105), 2) := by decide +kernel
theorem dX11_play_21 : decode cX11_play 21 = .ok (.if_icmp .ne 6, 3) := by decide +kernel
theorem dX11_play_24 : decode cX11_play 24 = .ok (.bipush (-104), 2) := by decide +kernel
theorem dX11_play_26 : decode cX11_play 26 = .ok (.ireturn, 1) := by decide +kernel
theorem dX11_play_27 : decode cX11_play 27 = .ok (.aload_n 0, 1) := by decide +kernel
theorem dX11_play_28 : decode cX11_play 28 = .ok (.invokevirtual 64, 3) := by decide +kernel
theorem dX11_play_31 : decode cX11_play 31 = .ok (.aload_n 0, 1) := by decide +kernel
theorem dX11_play_32 : decode cX11_play 32 = .ok (.getfield 7, 3) := by decide +kernel
theorem dX11_play_35 : decode cX11_play 35 = .ok (.iload_n 2, 1) := by decide +kernel
theorem dX11_play_36 : decode cX11_play 36 = .ok (.bipush 100, 2) := by decide +kernel
theorem dX11_play_38 : decode cX11_play 38 = .ok (.idiv, 1) := by decide +kernel
theorem dX11_play_39 : decode cX11_play 39 = .ok (.iload_n 2, 1) := by decide +kernel
theorem dX11_play_40 : decode cX11_play 40 = .ok (.bipush 100, 2) := by decide +kernel
theorem dX11_play_42 : decode cX11_play 42 = .ok (.irem, 1) := by decide +kernel
theorem dX11_play_43 : decode cX11_play 43 = .ok (.invokestatic 113, 3) := by decide +kernel
theorem dX11_play_46 : decode cX11_play 46 = .ok (.iload_n 2, 1) := by decide +kernel
theorem dX11_play_47 : decode cX11_play 47 = .ok (.ireturn, 1) := by decide +kernel
theorem dX11_setUp_0 : decode cX11_setUp 0 = .ok (.iload_n 1, 1) := by decide +kernel
theorem dX11_setUp_1 : decode cX11_setUp 1 = .ok (.invokestatic 106, 3) := by decide +kernel
theorem dX11_setUp_4 : decode cX11_setUp 4 = .ok (.ifCond .ne 6, 3) := by decide +kernel
theorem dX11_setUp_7 : decode cX11_setUp 7 = .ok (.bipush (-101), 2) := by decide +kernel
theorem dX11_setUp_9 : decode cX11_setUp 9 = .ok (.ireturn, 1) := by decide +kernel
theorem dX11_setUp_10 : decode cX11_setUp 10 = .ok (.iload_n 2, 1) := by decide +kernel
theorem dX11_setUp_11 : decode cX11_setUp 11 = .ok (.iconst 0, 1) := by decide +kernel
theorem dX11_setUp_12 : decode cX11_setUp 12 = .ok (.iconst 2, 1) := by decide +kernel
theorem dX11_setUp_13 : decode cX11_setUp 13 = .ok (.invokestatic 41, 3) := by decide +kernel
theorem dX11_setUp_16 : decode cX11_setUp 16 = .ok (.ifCond .ne 6, 3) := by decide +kernel
theorem dX11_setUp_19 : decode cX11_setUp 19 = .ok (.bipush (-102), 2) := by decide +kernel
theorem dX11_setUp_21 : decode cX11_setUp 21 = .ok (.ireturn, 1) := by decide +kernel
theorem dX11_setUp_22 : decode cX11_setUp 22 = .ok (.aload_n 0, 1) := by decide +kernel
theorem dX11_setUp_23 : decode cX11_setUp 23 = .ok (.getfield 7, 3) := by decide +kernel
theorem dX11_setUp_26 : decode cX11_setUp 26 = .ok (.bipush 6, 2) := by decide +kernel
theorem dX11_setUp_28 : decode cX11_setUp 28 = .ok (.iload_n 1, 1) := by decide +kernel
theorem dX11_setUp_29 : decode cX11_setUp 29 = .ok (.iadd, 1) := by decide +kernel
theorem dX11_setUp_30 : decode cX11_setUp 30 = .ok (.iaload, 1) := by decide +kernel
theorem dX11_setUp_31 : decode cX11_setUp 31 = .ok (.istore_n 3, 1) := by decide +kernel
theorem dX11_setUp_32 : decode cX11_setUp 32 = .ok (.iload_n 3, 1) := by decide +kernel
theorem dX11_setUp_33 : decode cX11_setUp 33 = .ok (.iload_n 2, 1) := by decide +kernel
theorem dX11_setUp_34 : decode cX11_setUp 34 = .ok (.if_icmp .ne 6, 3) := by decide +kernel
theorem dX11_setUp_37 : decode cX11_setUp 37 = .ok (.bipush (-105), 2) := by decide +kernel
theorem dX11_setUp_39 : decode cX11_setUp 39 = .ok (.ireturn, 1) := by decide +kernel
theorem dX11_setUp_40 : decode cX11_setUp 40 = .ok (.aload_n 0, 1) := by decide +kernel
theorem dX11_setUp_41 : decode cX11_setUp 41 = .ok (.invokevirtual 64, 3) := by decide +kernel
theorem dX11_setUp_44 : decode cX11_setUp 44 = .ok (.aload_n 0, 1) := by decide +kernel
theorem dX11_setUp_45 : decode cX11_setUp 45 = .ok (.getfield 7, 3) := by decide +kernel
theorem dX11_setUp_48 : decode cX11_setUp 48 = .ok (.bipush 6, 2) := by decide +kernel
theorem dX11_setUp_50 : decode cX11_setUp 50 = .ok (.iload_n 1, 1) := by decide +kernel
theorem dX11_setUp_51 : decode cX11_setUp 51 = .ok (.iadd, 1) := by decide +kernel
theorem dX11_setUp_52 : decode cX11_setUp 52 = .ok (.iload_n 2, 1) := by decide +kernel
theorem dX11_setUp_53 : decode cX11_setUp 53 = .ok (.iastore, 1) := by decide +kernel
theorem dX11_setUp_54 : decode cX11_setUp 54 = .ok (.aload_n 0, 1) := by decide +kernel
theorem dX11_setUp_55 : decode cX11_setUp 55 = .ok (.getfield 7, 3) := by decide +kernel
theorem dX11_setUp_58 : decode cX11_setUp 58 = .ok (.invokestatic 74, 3) := by decide +kernel
theorem dX11_setUp_61 : decode cX11_setUp 61 = .ok (.iload_n 3, 1) := by decide +kernel
theorem dX11_setUp_62 : decode cX11_setUp 62 = .ok (.ireturn, 1) := by decide +kernel
theorem dX11_turn_0 : decode cX11_turn 0 = .ok (.aload_n 0, 1) := by decide +kernel
theorem dX11_turn_1 : decode cX11_turn 1 = .ok (.invokevirtual 64, 3) := by decide +kernel
theorem dX11_turn_4 : decode cX11_turn 4 = .ok (.aload_n 0, 1) := by decide +kernel
theorem dX11_turn_5 : decode cX11_turn 5 = .ok (.getfield 7, 3) := by decide +kernel
theorem dX11_turn_8 : decode cX11_turn 8 = .ok (.iconst 0, 1) := by decide +kernel
theorem dX11_turn_9 : decode cX11_turn 9 = .ok (.iconst 3, 1) := by decide +kernel
theorem dX11_turn_10 : decode cX11_turn 10 = .ok (.aload_n 0, 1) := by decide +kernel
theorem dX11_turn_11 : decode cX11_turn 11 = .ok (.getfield 7, 3) := by decide +kernel
theorem dX11_turn_14 : decode cX11_turn 14 = .ok (.iconst 0, 1) := by decide +kernel
theorem dX11_turn_15 : decode cX11_turn 15 = .ok (.iaload, 1) := by decide +kernel
theorem dX11_turn_16 : decode cX11_turn 16 = .ok (.isub, 1) := by decide +kernel
theorem dX11_turn_17 : decode cX11_turn 17 = .ok (.iastore, 1) := by decide +kernel
theorem dX11_turn_18 : decode cX11_turn 18 = .ok (.aload_n 0, 1) := by decide +kernel
theorem dX11_turn_19 : decode cX11_turn 19 = .ok (.getfield 7, 3) := by decide +kernel
theorem dX11_turn_22 : decode cX11_turn 22 = .ok (.invokestatic 74, 3) := by decide +kernel
theorem dX11_turn_25 : decode cX11_turn 25 = .ok (.aload_n 0, 1) := by decide +kernel
theorem dX11_turn_26 : decode cX11_turn 26 = .ok (.getfield 7, 3) := by decide +kernel
theorem dX11_turn_29 : decode cX11_turn 29 = .ok (.iconst 0, 1) := by decide +kernel
theorem dX11_turn_30 : decode cX11_turn 30 = .ok (.iaload, 1) := by decide +kernel
theorem dX11_turn_31 : decode cX11_turn 31 = .ok (.ireturn, 1) := by decide +kernel
theorem dX11_begin_0 : decode cX11_begin 0 = .ok (.aload_n 0, 1) := by decide +kernel
theorem dX11_begin_1 : decode cX11_begin 1 = .ok (.invokevirtual 64, 3) := by decide +kernel
theorem dX11_begin_4 : decode cX11_begin 4 = .ok (.aload_n 0, 1) := by decide +kernel
theorem dX11_begin_5 : decode cX11_begin 5 = .ok (.invokevirtual 60, 3) := by decide +kernel
theorem dX11_begin_8 : decode cX11_begin 8 = .ok (.istore_n 1, 1) := by decide +kernel
theorem dX11_begin_9 : decode cX11_begin 9 = .ok (.aload_n 0, 1) := by decide +kernel
theorem dX11_begin_10 : decode cX11_begin 10 = .ok (.invokevirtual 38, 3) := by decide +kernel
theorem dX11_begin_13 : decode cX11_begin 13 = .ok (.iload_n 1, 1) := by decide +kernel
theorem dX11_begin_14 : decode cX11_begin 14 = .ok (.ireturn, 1) := by decide +kernel
theorem dX11_setLimit_0 : decode cX11_setLimit 0 = .ok (.iload_n 1, 1) := by decide +kernel
theorem dX11_setLimit_1 : decode cX11_setLimit 1 = .ok (.iconst 4, 1) := by decide +kernel
theorem dX11_setLimit_2 : decode cX11_setLimit 2 = .ok (.bipush 60, 2) := by decide +kernel
theorem dX11_setLimit_4 : decode cX11_setLimit 4 = .ok (.invokestatic 41, 3) := by decide +kernel
theorem dX11_setLimit_7 : decode cX11_setLimit 7 = .ok (.ifCond .ne 6, 3) := by decide +kernel
theorem dX11_setLimit_10 : decode cX11_setLimit 10 = .ok (.bipush (-102), 2) := by decide +kernel
theorem dX11_setLimit_12 : decode cX11_setLimit 12 = .ok (.ireturn, 1) := by decide +kernel
theorem dX11_setLimit_13 : decode cX11_setLimit 13 = .ok (.aload_n 0, 1) := by decide +kernel
theorem dX11_setLimit_14 : decode cX11_setLimit 14 = .ok (.getfield 7, 3) := by decide +kernel
theorem dX11_setLimit_17 : decode cX11_setLimit 17 = .ok (.iconst 4, 1) := by decide +kernel
theorem dX11_setLimit_18 : decode cX11_setLimit 18 = .ok (.iaload, 1) := by decide +kernel
theorem dX11_setLimit_19 : decode cX11_setLimit 19 = .ok (.istore_n 2, 1) := by decide +kernel
theorem dX11_setLimit_20 : decode cX11_setLimit 20 = .ok (.iload_n 2, 1) := by decide +kernel
theorem dX11_setLimit_21 : decode cX11_setLimit 21 = .ok (.iload_n 1, 1) := by decide +kernel
theorem dX11_setLimit_22 : decode cX11_setLimit 22 = .ok (.if_icmp .ne 6, 3) := by decide +kernel
theorem dX11_setLimit_25 : decode cX11_setLimit 25 = .ok (.bipush (-105), 2) := by decide +kernel
theorem dX11_setLimit_27 : decode cX11_setLimit 27 = .ok (.ireturn, 1) := by decide +kernel
theorem dX11_setLimit_28 : decode cX11_setLimit 28 = .ok (.aload_n 0, 1) := by decide +kernel
theorem dX11_setLimit_29 : decode cX11_setLimit 29 = .ok (.invokevirtual 64, 3) := by decide +kernel
theorem dX11_setLimit_32 : decode cX11_setLimit 32 = .ok (.aload_n 0, 1) := by decide +kernel
theorem dX11_setLimit_33 : decode cX11_setLimit 33 = .ok (.getfield 7, 3) := by decide +kernel
theorem dX11_setLimit_36 : decode cX11_setLimit 36 = .ok (.iconst 4, 1) := by decide +kernel
theorem dX11_setLimit_37 : decode cX11_setLimit 37 = .ok (.iload_n 1, 1) := by decide +kernel
theorem dX11_setLimit_38 : decode cX11_setLimit 38 = .ok (.iastore, 1) := by decide +kernel
theorem dX11_setLimit_39 : decode cX11_setLimit 39 = .ok (.iload_n 2, 1) := by decide +kernel
theorem dX11_setLimit_40 : decode cX11_setLimit 40 = .ok (.ireturn, 1) := by decide +kernel
theorem dX11_type_0 : decode cX11_type 0 = .ok (.aload_n 0, 1) := by decide +kernel
theorem dX11_type_1 : decode cX11_type 1 = .ok (.getfield 138, 3) := by decide +kernel
theorem dX11_type_4 : decode cX11_type 4 = .ok (.bipush 80, 2) := by decide +kernel
theorem dX11_type_6 : decode cX11_type 6 = .ok (.if_icmp .ne 6, 3) := by decide +kernel
theorem dX11_type_9 : decode cX11_type 9 = .ok (.bipush (-103), 2) := by decide +kernel
theorem dX11_type_11 : decode cX11_type 11 = .ok (.ireturn, 1) := by decide +kernel
theorem dX11_type_12 : decode cX11_type 12 = .ok (.aload_n 0, 1) := by decide +kernel
theorem dX11_type_13 : decode cX11_type 13 = .ok (.getfield 28, 3) := by decide +kernel
theorem dX11_type_16 : decode cX11_type 16 = .ok (.aload_n 0, 1) := by decide +kernel
theorem dX11_type_17 : decode cX11_type 17 = .ok (.getfield 138, 3) := by decide +kernel
theorem dX11_type_20 : decode cX11_type 20 = .ok (.iload_n 1, 1) := by decide +kernel
theorem dX11_type_21 : decode cX11_type 21 = .ok (.iastore, 1) := by decide +kernel
theorem dX11_type_22 : decode cX11_type 22 = .ok (.aload_n 0, 1) := by decide +kernel
theorem dX11_type_23 : decode cX11_type 23 = .ok (.dup, 1) := by decide +kernel
theorem dX11_type_24 : decode cX11_type 24 = .ok (.getfield 138, 3) := by decide +kernel
theorem dX11_type_27 : decode cX11_type 27 = .ok (.iconst 1, 1) := by decide +kernel
theorem dX11_type_28 : decode cX11_type 28 = .ok (.iadd, 1) := by decide +kernel
theorem dX11_type_29 : decode cX11_type 29 = .ok (.putfield 138, 3) := by decide +kernel
theorem dX11_type_32 : decode cX11_type 32 = .ok (.aload_n 0, 1) := by decide +kernel
theorem dX11_type_33 : decode cX11_type 33 = .ok (.getfield 138, 3) := by decide +kernel
theorem dX11_type_36 : decode cX11_type 36 = .ok (.ireturn, 1) := by decide +kernel
theorem dX11_clearText_0 : decode cX11_clearText 0 = .ok (.aload_n 0, 1) := by decide +kernel
theorem dX11_clearText_1 : decode cX11_clearText 1 = .ok (.getfield 138, 3) := by decide +kernel
theorem dX11_clearText_4 : decode cX11_clearText 4 = .ok (.istore_n 1, 1) := by decide +kernel
theorem dX11_clearText_5 : decode cX11_clearText 5 = .ok (.aload_n 0, 1) := by decide +kernel
theorem dX11_clearText_6 : decode cX11_clearText 6 = .ok (.iconst 0, 1) := by decide +kernel
theorem dX11_clearText_7 : decode cX11_clearText 7 = .ok (.putfield 138, 3) := by decide +kernel
theorem dX11_clearText_10 : decode cX11_clearText 10 = .ok (.iload_n 1, 1) := by decide +kernel
theorem dX11_clearText_11 : decode cX11_clearText 11 = .ok (.ireturn, 1) := by decide +kernel
theorem dX11_isAllowed_0 : decode cX11_isAllowed 0 = .ok (.iload_n 0, 1) := by decide +kernel
theorem dX11_isAllowed_1 : decode cX11_isAllowed 1 = .ok (.tableswitch 71 0 4 #[35, 44, 53, 35, 44], 35) := by decide +kernel
theorem dX11_isAllowed_36 : decode cX11_isAllowed 36 = .ok (.iload_n 1, 1) := by decide +kernel
theorem dX11_isAllowed_37 : decode cX11_isAllowed 37 = .ok (.bipush 97, 2) := by decide +kernel
theorem dX11_isAllowed_39 : decode cX11_isAllowed 39 = .ok (.bipush 102, 2) := by decide +kernel
theorem dX11_isAllowed_41 : decode cX11_isAllowed 41 = .ok (.invokestatic 41, 3) := by decide +kernel
theorem dX11_isAllowed_44 : decode cX11_isAllowed 44 = .ok (.ireturn, 1) := by decide +kernel
theorem dX11_isAllowed_45 : decode cX11_isAllowed 45 = .ok (.iload_n 1, 1) := by decide +kernel
theorem dX11_isAllowed_46 : decode cX11_isAllowed 46 = .ok (.bipush 49, 2) := by decide +kernel
theorem dX11_isAllowed_48 : decode cX11_isAllowed 48 = .ok (.bipush 54, 2) := by decide +kernel
theorem dX11_isAllowed_50 : decode cX11_isAllowed 50 = .ok (.invokestatic 41, 3) := by decide +kernel
theorem dX11_isAllowed_53 : decode cX11_isAllowed 53 = .ok (.ireturn, 1) := by decide +kernel
theorem dX11_isAllowed_54 : decode cX11_isAllowed 54 = .ok (.iload_n 1, 1) := by decide +kernel
theorem dX11_isAllowed_55 : decode cX11_isAllowed 55 = .ok (.bipush 45, 2) := by decide +kernel
theorem dX11_isAllowed_57 : decode cX11_isAllowed 57 = .ok (.if_icmp .eq 9, 3) := by decide +kernel
theorem dX11_isAllowed_60 : decode cX11_isAllowed 60 = .ok (.iload_n 1, 1) := by decide +kernel
theorem dX11_isAllowed_61 : decode cX11_isAllowed 61 = .ok (.bipush 120, 2) := by decide +kernel
theorem dX11_isAllowed_63 : decode cX11_isAllowed 63 = .ok (.if_icmp .ne 7, 3) := by decide +kernel
theorem dX11_isAllowed_66 : decode cX11_isAllowed 66 = .ok (.iconst 1, 1) := by decide +kernel
theorem dX11_isAllowed_67 : decode cX11_isAllowed 67 = .ok (.goto 4, 3) := by decide +kernel
theorem dX11_isAllowed_70 : decode cX11_isAllowed 70 = .ok (.iconst 0, 1) := by decide +kernel
theorem dX11_isAllowed_71 : decode cX11_isAllowed 71 = .ok (.ireturn, 1) := by decide +kernel
theorem dX11_isAllowed_72 : decode cX11_isAllowed 72 = .ok (.iload_n 1, 1) := by decide +kernel
theorem dX11_isAllowed_73 : decode cX11_isAllowed 73 = .ok (.bipush 59, 2) := by decide +kernel
theorem dX11_isAllowed_75 : decode cX11_isAllowed 75 = .ok (.if_icmp .ne 7, 3) := by decide +kernel
theorem dX11_isAllowed_78 : decode cX11_isAllowed 78 = .ok (.iconst 1, 1) := by decide +kernel
theorem dX11_isAllowed_79 : decode cX11_isAllowed 79 = .ok (.goto 4, 3) := by decide +kernel
theorem dX11_isAllowed_82 : decode cX11_isAllowed 82 = .ok (.iconst 0, 1) := by decide +kernel
theorem dX11_isAllowed_83 : decode cX11_isAllowed 83 = .ok (.ireturn, 1) := by decide +kernel
theorem dX11_isText_0 : decode cX11_isText 0 = .ok (.aload_n 0, 1) := by decide +kernel
theorem dX11_isText_1 : decode cX11_isText 1 = .ok (.iconst 0, 1) := by decide +kernel
theorem dX11_isText_2 : decode cX11_isText 2 = .ok (.putfield 141, 3) := by decide +kernel
theorem dX11_isText_5 : decode cX11_isText 5 = .ok (.aload_n 0, 1) := by decide +kernel
theorem dX11_isText_6 : decode cX11_isText 6 = .ok (.getfield 141, 3) := by decide +kernel
theorem dX11_isText_9 : decode cX11_isText 9 = .ok (.aload_n 0, 1) := by decide +kernel
theorem dX11_isText_10 : decode cX11_isText 10 = .ok (.getfield 138, 3) := by decide +kernel
theorem dX11_isText_13 : decode cX11_isText 13 = .ok (.if_icmp .ge 38, 3) := by decide +kernel
theorem dX11_isText_16 : decode cX11_isText 16 = .ok (.aload_n 0, 1) := by decide +kernel
theorem dX11_isText_17 : decode cX11_isText 17 = .ok (.getfield 141, 3) := by decide +kernel
theorem dX11_isText_20 : decode cX11_isText 20 = .ok (.bipush 6, 2) := by decide +kernel
theorem dX11_isText_22 : decode cX11_isText 22 = .ok (.irem, 1) := by decide +kernel
theorem dX11_isText_23 : decode cX11_isText 23 = .ok (.aload_n 0, 1) := by decide +kernel
theorem dX11_isText_24 : decode cX11_isText 24 = .ok (.getfield 28, 3) := by decide +kernel
theorem dX11_isText_27 : decode cX11_isText 27 = .ok (.aload_n 0, 1) := by decide +kernel
theorem dX11_isText_28 : decode cX11_isText 28 = .ok (.getfield 141, 3) := by decide +kernel
theorem dX11_isText_31 : decode cX11_isText 31 = .ok (.iaload, 1) := by decide +kernel
theorem dX11_isText_32 : decode cX11_isText 32 = .ok (.invokestatic 144, 3) := by decide +kernel
theorem dX11_isText_35 : decode cX11_isText 35 = .ok (.ifCond .eq 16, 3) := by decide +kernel
theorem dX11_isText_38 : decode cX11_isText 38 = .ok (.aload_n 0, 1) := by decide +kernel
theorem dX11_isText_39 : decode cX11_isText 39 = .ok (.dup, 1) := by decide +kernel
theorem dX11_isText_40 : decode cX11_isText 40 = .ok (.getfield 141, 3) := by decide +kernel
theorem dX11_isText_43 : decode cX11_isText 43 = .ok (.iconst 1, 1) := by decide +kernel
theorem dX11_isText_44 : decode cX11_isText 44 = .ok (.iadd, 1) := by decide +kernel
theorem dX11_isText_45 : decode cX11_isText 45 = .ok (.putfield 141, 3) := by decide +kernel
theorem dX11_isText_48 : decode cX11_isText 48 = .ok (.goto (-43), 3) := by decide +kernel
theorem dX11_isText_51 : decode cX11_isText 51 = .ok (.aload_n 0, 1) := by decide +kernel
theorem dX11_isText_52 : decode cX11_isText 52 = .ok (.getfield 141, 3) := by decide +kernel
theorem dX11_isText_55 : decode cX11_isText 55 = .ok (.aload_n 0, 1) := by decide +kernel
theorem dX11_isText_56 : decode cX11_isText 56 = .ok (.getfield 138, 3) := by decide +kernel
theorem dX11_isText_59 : decode cX11_isText 59 = .ok (.if_icmp .ne 18, 3) := by decide +kernel
theorem dX11_isText_62 : decode cX11_isText 62 = .ok (.aload_n 0, 1) := by decide +kernel
theorem dX11_isText_63 : decode cX11_isText 63 = .ok (.getfield 141, 3) := by decide +kernel
theorem dX11_isText_66 : decode cX11_isText 66 = .ok (.bipush 6, 2) := by decide +kernel
theorem dX11_isText_68 : decode cX11_isText 68 = .ok (.irem, 1) := by decide +kernel
theorem dX11_isText_69 : decode cX11_isText 69 = .ok (.iconst 5, 1) := by decide +kernel
theorem dX11_isText_70 : decode cX11_isText 70 = .ok (.if_icmp .ne 7, 3) := by decide +kernel
theorem dX11_isText_73 : decode cX11_isText 73 = .ok (.iconst 1, 1) := by decide +kernel
theorem dX11_isText_74 : decode cX11_isText 74 = .ok (.goto 4, 3) := by decide +kernel
theorem dX11_isText_77 : decode cX11_isText 77 = .ok (.iconst 0, 1) := by decide +kernel
theorem dX11_isText_78 : decode cX11_isText 78 = .ok (.ireturn, 1) := by decide +kernel
theorem dX11_toldPoint_0 : decode cX11_toldPoint 0 = .ok (.bipush 6, 2) := by decide +kernel
theorem dX11_toldPoint_2 : decode cX11_toldPoint 2 = .ok (.aload_n 0, 1) := by decide +kernel
theorem dX11_toldPoint_3 : decode cX11_toldPoint 3 = .ok (.getfield 28, 3) := by decide +kernel
theorem dX11_toldPoint_6 : decode cX11_toldPoint 6 = .ok (.iload_n 1, 1) := by decide +kernel
theorem dX11_toldPoint_7 : decode cX11_toldPoint 7 = .ok (.iconst 1, 1) := by decide +kernel
theorem dX11_toldPoint_8 : decode cX11_toldPoint 8 = .ok (.iadd, 1) := by decide +kernel
theorem dX11_toldPoint_9 : decode cX11_toldPoint 9 = .ok (.iaload, 1) := by decide +kernel
theorem dX11_toldPoint_10 : decode cX11_toldPoint 10 = .ok (.bipush 49, 2) := by decide +kernel
theorem dX11_toldPoint_12 : decode cX11_toldPoint 12 = .ok (.isub, 1) := by decide +kernel
theorem dX11_toldPoint_13 : decode cX11_toldPoint 13 = .ok (.imul, 1) := by decide +kernel
theorem dX11_toldPoint_14 : decode cX11_toldPoint 14 = .ok (.aload_n 0, 1) := by decide +kernel
theorem dX11_toldPoint_15 : decode cX11_toldPoint 15 = .ok (.getfield 28, 3) := by decide +kernel
theorem dX11_toldPoint_18 : decode cX11_toldPoint 18 = .ok (.iload_n 1, 1) := by decide +kernel
theorem dX11_toldPoint_19 : decode cX11_toldPoint 19 = .ok (.iaload, 1) := by decide +kernel
theorem dX11_toldPoint_20 : decode cX11_toldPoint 20 = .ok (.iadd, 1) := by decide +kernel
theorem dX11_toldPoint_21 : decode cX11_toldPoint 21 = .ok (.bipush 97, 2) := by decide +kernel
theorem dX11_toldPoint_23 : decode cX11_toldPoint 23 = .ok (.isub, 1) := by decide +kernel
theorem dX11_toldPoint_24 : decode cX11_toldPoint 24 = .ok (.ireturn, 1) := by decide +kernel
theorem dX11_perform_0 : decode cX11_perform 0 = .ok (.aload_n 0, 1) := by decide +kernel
theorem dX11_perform_1 : decode cX11_perform 1 = .ok (.invokevirtual 147, 3) := by decide +kernel
theorem dX11_perform_4 : decode cX11_perform 4 = .ok (.ifCond .ne 12, 3) := by decide +kernel
theorem dX11_perform_7 : decode cX11_perform 7 = .ok (.sipush (-200), 3) := by decide +kernel
theorem dX11_perform_10 : decode cX11_perform 10 = .ok (.aload_n 0, 1) := by decide +kernel
theorem dX11_perform_11 : decode cX11_perform 11 = .ok (.getfield 141, 3) := by decide +kernel
theorem dX11_perform_14 : decode cX11_perform 14 = .ok (.isub, 1) := by decide +kernel
theorem dX11_perform_15 : decode cX11_perform 15 = .ok (.ireturn, 1) := by decide +kernel
theorem dX11_perform_16 : decode cX11_perform 16 = .ok (.aload_n 0, 1) := by decide +kernel
theorem dX11_perform_17 : decode cX11_perform 17 = .ok (.getfield 7, 3) := by decide +kernel
theorem dX11_perform_20 : decode cX11_perform 20 = .ok (.iconst 0, 1) := by decide +kernel
theorem dX11_perform_21 : decode cX11_perform 21 = .ok (.aload_n 0, 1) := by decide +kernel
theorem dX11_perform_22 : decode cX11_perform 22 = .ok (.getfield 19, 3) := by decide +kernel
theorem dX11_perform_25 : decode cX11_perform 25 = .ok (.iconst 0, 1) := by decide +kernel
theorem dX11_perform_26 : decode cX11_perform 26 = .ok (.invokestatic 48, 3) := by decide +kernel
theorem dX11_perform_29 : decode cX11_perform 29 = .ok (.aload_n 0, 1) := by decide +kernel
theorem dX11_perform_30 : decode cX11_perform 30 = .ok (.getfield 138, 3) := by decide +kernel
theorem dX11_perform_33 : decode cX11_perform 33 = .ok (.iconst 1, 1) := by decide +kernel
theorem dX11_perform_34 : decode cX11_perform 34 = .ok (.iadd, 1) := by decide +kernel
theorem dX11_perform_35 : decode cX11_perform 35 = .ok (.bipush 6, 2) := by decide +kernel
theorem dX11_perform_37 : decode cX11_perform 37 = .ok (.idiv, 1) := by decide +kernel
theorem dX11_perform_38 : decode cX11_perform 38 = .ok (.istore_n 1, 1) := by decide +kernel
theorem dX11_perform_39 : decode cX11_perform 39 = .ok (.iconst 0, 1) := by decide +kernel
theorem dX11_perform_40 : decode cX11_perform 40 = .ok (.istore_n 2, 1) := by decide +kernel
theorem dX11_perform_41 : decode cX11_perform 41 = .ok (.iload_n 2, 1) := by decide +kernel
theorem dX11_perform_42 : decode cX11_perform 42 = .ok (.iload_n 1, 1) := by decide +kernel
theorem dX11_perform_43 : decode cX11_perform 43 = .ok (.if_icmp .ge 93, 3) := by decide +kernel
theorem dX11_perform_46 : decode cX11_perform 46 = .ok (.aload_n 0, 1) := by decide +kernel
theorem dX11_perform_47 : decode cX11_perform 47 = .ok (.bipush 6, 2) := by decide +kernel
theorem dX11_perform_49 : decode cX11_perform 49 = .ok (.iload_n 2, 1) := by decide +kernel
theorem dX11_perform_50 : decode cX11_perform 50 = .ok (.imul, 1) := by decide +kernel
theorem dX11_perform_51 : decode cX11_perform 51 = .ok (.invokevirtual 151, 3) := by decide +kernel
theorem dX11_perform_54 : decode cX11_perform 54 = .ok (.istore_n 3, 1) := by decide +kernel
theorem dX11_perform_55 : decode cX11_perform 55 = .ok (.aload_n 0, 1) := by decide +kernel
theorem dX11_perform_56 : decode cX11_perform 56 = .ok (.bipush 6, 2) := by decide +kernel
theorem dX11_perform_58 : decode cX11_perform 58 = .ok (.iload_n 2, 1) := by decide +kernel
theorem dX11_perform_59 : decode cX11_perform 59 = .ok (.imul, 1) := by decide +kernel
theorem dX11_perform_60 : decode cX11_perform 60 = .ok (.iconst 3, 1) := by decide +kernel
theorem dX11_perform_61 : decode cX11_perform 61 = .ok (.iadd, 1) := by decide +kernel
theorem dX11_perform_62 : decode cX11_perform 62 = .ok (.invokevirtual 151, 3) := by decide +kernel
theorem dX11_perform_65 : decode cX11_perform 65 = .ok (.istore 4, 2) := by decide +kernel
theorem dX11_perform_67 : decode cX11_perform 67 = .ok (.aload_n 0, 1) := by decide +kernel
theorem dX11_perform_68 : decode cX11_perform 68 = .ok (.aload_n 0, 1) := by decide +kernel
theorem dX11_perform_69 : decode cX11_perform 69 = .ok (.getfield 19, 3) := by decide +kernel
theorem dX11_perform_72 : decode cX11_perform 72 = .ok (.iload_n 3, 1) := by decide +kernel
theorem dX11_perform_73 : decode cX11_perform 73 = .ok (.iload 4, 2) := by decide +kernel
theorem dX11_perform_75 : decode cX11_perform 75 = .ok (.aload_n 0, 1) := by decide +kernel
theorem dX11_perform_76 : decode cX11_perform 76 = .ok (.getfield 28, 3) := by decide +kernel
theorem dX11_perform_79 : decode cX11_perform 79 = .ok (.bipush 6, 2) := by decide +kernel
theorem dX11_perform_81 : decode cX11_perform 81 = .ok (.iload_n 2, 1) := by decide +kernel
theorem dX11_perform_82 : decode cX11_perform 82 = .ok (.imul, 1) := by decide +kernel
theorem dX11_perform_83 : decode cX11_perform 83 = .ok (.iconst 2, 1) := by decide +kernel
theorem dX11_perform_84 : decode cX11_perform 84 = .ok (.iadd, 1) := by decide +kernel
theorem dX11_perform_85 : decode cX11_perform 85 = .ok (.iaload, 1) := by decide +kernel
theorem dX11_perform_86 : decode cX11_perform 86 = .ok (.bipush 120, 2) := by decide +kernel
theorem dX11_perform_88 : decode cX11_perform 88 = .ok (.if_icmp .ne 7, 3) := by decide +kernel
theorem dX11_perform_91 : decode cX11_perform 91 = .ok (.iconst 1, 1) := by decide +kernel
theorem dX11_perform_92 : decode cX11_perform 92 = .ok (.goto 4, 3) := by decide +kernel
theorem dX11_perform_95 : decode cX11_perform 95 = .ok (.iconst 0, 1) := by decide +kernel
theorem dX11_perform_96 : decode cX11_perform 96 = .ok (.invokevirtual 110, 3) := by decide +kernel
theorem dX11_perform_99 : decode cX11_perform 99 = .ok (.istore 5, 2) := by decide +kernel
theorem dX11_perform_101 : decode cX11_perform 101 = .ok (.iload 5, 2) := by decide +kernel
theorem dX11_perform_103 : decode cX11_perform 103 = .ok (.ifCond .le 17, 3) := by decide +kernel
theorem dX11_perform_106 : decode cX11_perform 106 = .ok (.aload_n 0, 1) := by decide +kernel
theorem dX11_perform_107 : decode cX11_perform 107 = .ok (.iload_n 2, 1) := by decide +kernel
theorem dX11_perform_108 : decode cX11_perform 108 = .ok (.putfield 31, 3) := by decide +kernel
theorem dX11_perform_111 : decode cX11_perform 111 = .ok (.aload_n 0, 1) := by decide +kernel
theorem dX11_perform_112 : decode cX11_perform 112 = .ok (.iload 5, 2) := by decide +kernel
theorem dX11_perform_114 : decode cX11_perform 114 = .ok (.putfield 35, 3) := by decide +kernel
theorem dX11_perform_117 : decode cX11_perform 117 = .ok (.bipush (-104), 2) := by decide +kernel
theorem dX11_perform_119 : decode cX11_perform 119 = .ok (.ireturn, 1) := by decide +kernel
theorem dX11_perform_120 : decode cX11_perform 120 = .ok (.aload_n 0, 1) := by decide +kernel
theorem dX11_perform_121 : decode cX11_perform 121 = .ok (.getfield 19, 3) := by decide +kernel
theorem dX11_perform_124 : decode cX11_perform 124 = .ok (.iload_n 3, 1) := by decide +kernel
theorem dX11_perform_125 : decode cX11_perform 125 = .ok (.iload 4, 2) := by decide +kernel
theorem dX11_perform_127 : decode cX11_perform 127 = .ok (.invokestatic 113, 3) := by decide +kernel
theorem dX11_perform_130 : decode cX11_perform 130 = .ok (.iinc 2 1, 3) := by decide +kernel
theorem dX11_perform_133 : decode cX11_perform 133 = .ok (.goto (-92), 3) := by decide +kernel
theorem dX11_perform_136 : decode cX11_perform 136 = .ok (.aload_n 0, 1) := by decide +kernel
theorem dX11_perform_137 : decode cX11_perform 137 = .ok (.invokevirtual 64, 3) := by decide +kernel
theorem dX11_perform_140 : decode cX11_perform 140 = .ok (.aload_n 0, 1) := by decide +kernel
theorem dX11_perform_141 : decode cX11_perform 141 = .ok (.getfield 19, 3) := by decide +kernel
theorem dX11_perform_144 : decode cX11_perform 144 = .ok (.iconst 0, 1) := by decide +kernel
theorem dX11_perform_145 : decode cX11_perform 145 = .ok (.aload_n 0, 1) := by decide +kernel
theorem dX11_perform_146 : decode cX11_perform 146 = .ok (.getfield 7, 3) := by decide +kernel
theorem dX11_perform_149 : decode cX11_perform 149 = .ok (.iconst 0, 1) := by decide +kernel
theorem dX11_perform_150 : decode cX11_perform 150 = .ok (.invokestatic 48, 3) := by decide +kernel
theorem dX11_perform_153 : decode cX11_perform 153 = .ok (.iload_n 1, 1) := by decide +kernel
theorem dX11_perform_154 : decode cX11_perform 154 = .ok (.ireturn, 1) := by decide +kernel
theorem dX11_stopped_0 : decode cX11_stopped 0 = .ok (.iload_n 1, 1) := by decide +kernel
theorem dX11_stopped_1 : decode cX11_stopped 1 = .ok (.ifCond .ne 10, 3) := by decide +kernel
theorem dX11_stopped_4 : decode cX11_stopped 4 = .ok (.aload_n 0, 1) := by decide +kernel
theorem dX11_stopped_5 : decode cX11_stopped 5 = .ok (.getfield 31, 3) := by decide +kernel
theorem dX11_stopped_8 : decode cX11_stopped 8 = .ok (.goto 17, 3) := by decide +kernel
theorem dX11_stopped_11 : decode cX11_stopped 11 = .ok (.iload_n 1, 1) := by decide +kernel
theorem dX11_stopped_12 : decode cX11_stopped 12 = .ok (.iconst 1, 1) := by decide +kernel
theorem dX11_stopped_13 : decode cX11_stopped 13 = .ok (.if_icmp .ne 10, 3) := by decide +kernel
theorem dX11_stopped_16 : decode cX11_stopped 16 = .ok (.aload_n 0, 1) := by decide +kernel
theorem dX11_stopped_17 : decode cX11_stopped 17 = .ok (.getfield 35, 3) := by decide +kernel
theorem dX11_stopped_20 : decode cX11_stopped 20 = .ok (.goto 5, 3) := by decide +kernel
theorem dX11_stopped_23 : decode cX11_stopped 23 = .ok (.bipush (-102), 2) := by decide +kernel
theorem dX11_stopped_25 : decode cX11_stopped 25 = .ok (.ireturn, 1) := by decide +kernel
theorem dX11_captors_0 : decode cX11_captors 0 = .ok (.iconst 0, 1) := by decide +kernel
theorem dX11_captors_1 : decode cX11_captors 1 = .ok (.istore 4, 2) := by decide +kernel
theorem dX11_captors_3 : decode cX11_captors 3 = .ok (.iconst 0, 1) := by decide +kernel
theorem dX11_captors_4 : decode cX11_captors 4 = .ok (.istore 5, 2) := by decide +kernel
theorem dX11_captors_6 : decode cX11_captors 6 = .ok (.iload 5, 2) := by decide +kernel
theorem dX11_captors_8 : decode cX11_captors 8 = .ok (.bipush 36, 2) := by decide +kernel
theorem dX11_captors_10 : decode cX11_captors 10 = .ok (.if_icmp .ge 46, 3) := by decide +kernel
theorem dX11_captors_13 : decode cX11_captors 13 = .ok (.iload 4, 2) := by decide +kernel
theorem dX11_captors_15 : decode cX11_captors 15 = .ok (.aload_n 1, 1) := by decide +kernel
theorem dX11_captors_16 : decode cX11_captors 16 = .ok (.bipush 6, 2) := by decide +kernel
theorem dX11_captors_18 : decode cX11_captors 18 = .ok (.iload 5, 2) := by decide +kernel
theorem dX11_captors_20 : decode cX11_captors 20 = .ok (.iadd, 1) := by decide +kernel
theorem dX11_captors_21 : decode cX11_captors 21 = .ok (.iaload, 1) := by decide +kernel
theorem dX11_captors_22 : decode cX11_captors 22 = .ok (.iload_n 3, 1) := by decide +kernel
theorem dX11_captors_23 : decode cX11_captors 23 = .ok (.if_icmp .ne 23, 3) := by decide +kernel
theorem dX11_captors_26 : decode cX11_captors 26 = .ok (.aload_n 0, 1) := by decide +kernel
theorem dX11_captors_27 : decode cX11_captors 27 = .ok (.aload_n 1, 1) := by decide +kernel
theorem dX11_captors_28 : decode cX11_captors 28 = .ok (.iload 5, 2) := by decide +kernel
theorem dX11_captors_30 : decode cX11_captors 30 = .ok (.invokevirtual 98, 3) := by decide +kernel
theorem dX11_captors_33 : decode cX11_captors 33 = .ok (.iload_n 2, 1) := by decide +kernel
theorem dX11_captors_34 : decode cX11_captors 34 = .ok (.lshr, 1) := by decide +kernel
theorem dX11_captors_35 : decode cX11_captors 35 = .ok (.lconst 1, 1) := by decide +kernel
theorem dX11_captors_36 : decode cX11_captors 36 = .ok (.land, 1) := by decide +kernel
theorem dX11_captors_37 : decode cX11_captors 37 = .ok (.lconst 1, 1) := by decide +kernel
theorem dX11_captors_38 : decode cX11_captors 38 = .ok (.lcmp, 1) := by decide +kernel
theorem dX11_captors_39 : decode cX11_captors 39 = .ok (.ifCond .ne 7, 3) := by decide +kernel
theorem dX11_captors_42 : decode cX11_captors 42 = .ok (.iconst 1, 1) := by decide +kernel
theorem dX11_captors_43 : decode cX11_captors 43 = .ok (.goto 4, 3) := by decide +kernel
theorem dX11_captors_46 : decode cX11_captors 46 = .ok (.iconst 0, 1) := by decide +kernel
theorem dX11_captors_47 : decode cX11_captors 47 = .ok (.iadd, 1) := by decide +kernel
theorem dX11_captors_48 : decode cX11_captors 48 = .ok (.istore 4, 2) := by decide +kernel
theorem dX11_captors_50 : decode cX11_captors 50 = .ok (.iinc 5 1, 3) := by decide +kernel
theorem dX11_captors_53 : decode cX11_captors 53 = .ok (.goto (-47), 3) := by decide +kernel
theorem dX11_captors_56 : decode cX11_captors 56 = .ok (.iload 4, 2) := by decide +kernel
theorem dX11_captors_58 : decode cX11_captors 58 = .ok (.ireturn, 1) := by decide +kernel
theorem dX11_ones_0 : decode cX11_ones 0 = .ok (.iconst 0, 1) := by decide +kernel
theorem dX11_ones_1 : decode cX11_ones 1 = .ok (.istore_n 2, 1) := by decide +kernel
theorem dX11_ones_2 : decode cX11_ones 2 = .ok (.lload_n 0, 1) := by decide +kernel
theorem dX11_ones_3 : decode cX11_ones 3 = .ok (.lstore_n 3, 1) := by decide +kernel
theorem dX11_ones_4 : decode cX11_ones 4 = .ok (.lload_n 3, 1) := by decide +kernel
theorem dX11_ones_5 : decode cX11_ones 5 = .ok (.lconst 0, 1) := by decide +kernel
theorem dX11_ones_6 : decode cX11_ones 6 = .ok (.lcmp, 1) := by decide +kernel
theorem dX11_ones_7 : decode cX11_ones 7 = .ok (.ifCond .eq 15, 3) := by decide +kernel
theorem dX11_ones_10 : decode cX11_ones 10 = .ok (.iinc 2 1, 3) := by decide +kernel
theorem dX11_ones_13 : decode cX11_ones 13 = .ok (.lload_n 3, 1) := by decide +kernel
theorem dX11_ones_14 : decode cX11_ones 14 = .ok (.lload_n 3, 1) := by decide +kernel
theorem dX11_ones_15 : decode cX11_ones 15 = .ok (.lconst 1, 1) := by decide +kernel
theorem dX11_ones_16 : decode cX11_ones 16 = .ok (.lsub, 1) := by decide +kernel
theorem dX11_ones_17 : decode cX11_ones 17 = .ok (.land, 1) := by decide +kernel
theorem dX11_ones_18 : decode cX11_ones 18 = .ok (.lstore_n 3, 1) := by decide +kernel
theorem dX11_ones_19 : decode cX11_ones 19 = .ok (.goto (-15), 3) := by decide +kernel
theorem dX11_ones_22 : decode cX11_ones 22 = .ok (.iload_n 2, 1) := by decide +kernel
theorem dX11_ones_23 : decode cX11_ones 23 = .ok (.ireturn, 1) := by decide +kernel
theorem dX11_covered_0 : decode cX11_covered 0 = .ok (.aload_n 0, 1) := by decide +kernel
theorem dX11_covered_1 : decode cX11_covered 1 = .ok (.getfield 7, 3) := by decide +kernel
theorem dX11_covered_4 : decode cX11_covered 4 = .ok (.bipush 6, 2) := by decide +kernel
theorem dX11_covered_6 : decode cX11_covered 6 = .ok (.iload_n 1, 1) := by decide +kernel
theorem dX11_covered_7 : decode cX11_covered 7 = .ok (.iadd, 1) := by decide +kernel
theorem dX11_covered_8 : decode cX11_covered 8 = .ok (.iaload, 1) := by decide +kernel
theorem dX11_covered_9 : decode cX11_covered 9 = .ok (.istore_n 2, 1) := by decide +kernel
theorem dX11_covered_10 : decode cX11_covered 10 = .ok (.aload_n 0, 1) := by decide +kernel
theorem dX11_covered_11 : decode cX11_covered 11 = .ok (.getfield 7, 3) := by decide +kernel
theorem dX11_covered_14 : decode cX11_covered 14 = .ok (.iconst 0, 1) := by decide +kernel
theorem dX11_covered_15 : decode cX11_covered 15 = .ok (.aload_n 0, 1) := by decide +kernel
theorem dX11_covered_16 : decode cX11_covered 16 = .ok (.getfield 16, 3) := by decide +kernel
theorem dX11_covered_19 : decode cX11_covered 19 = .ok (.iconst 0, 1) := by decide +kernel
theorem dX11_covered_20 : decode cX11_covered 20 = .ok (.invokestatic 48, 3) := by decide +kernel
theorem dX11_covered_23 : decode cX11_covered 23 = .ok (.aload_n 0, 1) := by decide +kernel
theorem dX11_covered_24 : decode cX11_covered 24 = .ok (.getfield 16, 3) := by decide +kernel
theorem dX11_covered_27 : decode cX11_covered 27 = .ok (.bipush 6, 2) := by decide +kernel
theorem dX11_covered_29 : decode cX11_covered 29 = .ok (.iload_n 1, 1) := by decide +kernel
theorem dX11_covered_30 : decode cX11_covered 30 = .ok (.iadd, 1) := by decide +kernel
theorem dX11_covered_31 : decode cX11_covered 31 = .ok (.iconst 3, 1) := by decide +kernel
theorem dX11_covered_32 : decode cX11_covered 32 = .ok (.iload_n 2, 1) := by decide +kernel
theorem dX11_covered_33 : decode cX11_covered 33 = .ok (.isub, 1) := by decide +kernel
theorem dX11_covered_34 : decode cX11_covered 34 = .ok (.iastore, 1) := by decide +kernel
theorem dX11_covered_35 : decode cX11_covered 35 = .ok (.aload_n 0, 1) := by decide +kernel
theorem dX11_covered_36 : decode cX11_covered 36 = .ok (.aload_n 0, 1) := by decide +kernel
theorem dX11_covered_37 : decode cX11_covered 37 = .ok (.getfield 16, 3) := by decide +kernel
theorem dX11_covered_40 : decode cX11_covered 40 = .ok (.iload_n 1, 1) := by decide +kernel
theorem dX11_covered_41 : decode cX11_covered 41 = .ok (.iload_n 2, 1) := by decide +kernel
theorem dX11_covered_42 : decode cX11_covered 42 = .ok (.invokevirtual 154, 3) := by decide +kernel
theorem dX11_covered_45 : decode cX11_covered 45 = .ok (.ireturn, 1) := by decide +kernel
theorem dX11_quietOnes_0 : decode cX11_quietOnes 0 = .ok (.iconst 0, 1) := by decide +kernel
theorem dX11_quietOnes_1 : decode cX11_quietOnes 1 = .ok (.istore_n 2, 1) := by decide +kernel
theorem dX11_quietOnes_2 : decode cX11_quietOnes 2 = .ok (.iconst 0, 1) := by decide +kernel
theorem dX11_quietOnes_3 : decode cX11_quietOnes 3 = .ok (.istore_n 3, 1) := by decide +kernel
theorem dX11_quietOnes_4 : decode cX11_quietOnes 4 = .ok (.iload_n 3, 1) := by decide +kernel
theorem dX11_quietOnes_5 : decode cX11_quietOnes 5 = .ok (.bipush 36, 2) := by decide +kernel
theorem dX11_quietOnes_7 : decode cX11_quietOnes 7 = .ok (.if_icmp .ge 37, 3) := by decide +kernel
theorem dX11_quietOnes_10 : decode cX11_quietOnes 10 = .ok (.iload_n 2, 1) := by decide +kernel
theorem dX11_quietOnes_11 : decode cX11_quietOnes 11 = .ok (.aload_n 0, 1) := by decide +kernel
theorem dX11_quietOnes_12 : decode cX11_quietOnes 12 = .ok (.getfield 7, 3) := by decide +kernel
theorem dX11_quietOnes_15 : decode cX11_quietOnes 15 = .ok (.bipush 6, 2) := by decide +kernel
theorem dX11_quietOnes_17 : decode cX11_quietOnes 17 = .ok (.iload_n 3, 1) := by decide +kernel
theorem dX11_quietOnes_18 : decode cX11_quietOnes 18 = .ok (.iadd, 1) := by decide +kernel
theorem dX11_quietOnes_19 : decode cX11_quietOnes 19 = .ok (.iaload, 1) := by decide +kernel
theorem dX11_quietOnes_20 : decode cX11_quietOnes 20 = .ok (.ifCond .ne 15, 3) := by decide +kernel
theorem dX11_quietOnes_23 : decode cX11_quietOnes 23 = .ok (.iload_n 1, 1) := by decide +kernel
theorem dX11_quietOnes_24 : decode cX11_quietOnes 24 = .ok (.iload_n 3, 1) := by decide +kernel
theorem dX11_quietOnes_25 : decode cX11_quietOnes 25 = .ok (.invokestatic 102, 3) := by decide +kernel
theorem dX11_quietOnes_28 : decode cX11_quietOnes 28 = .ok (.ifCond .eq 7, 3) := by decide +kernel
theorem dX11_quietOnes_31 : decode cX11_quietOnes 31 = .ok (.iconst 1, 1) := by decide +kernel
theorem dX11_quietOnes_32 : decode cX11_quietOnes 32 = .ok (.goto 4, 3) := by decide +kernel
theorem dX11_quietOnes_35 : decode cX11_quietOnes 35 = .ok (.iconst 0, 1) := by decide +kernel
theorem dX11_quietOnes_36 : decode cX11_quietOnes 36 = .ok (.iadd, 1) := by decide +kernel
theorem dX11_quietOnes_37 : decode cX11_quietOnes 37 = .ok (.istore_n 2, 1) := by decide +kernel
theorem dX11_quietOnes_38 : decode cX11_quietOnes 38 = .ok (.iinc 3 1, 3) := by decide +kernel
theorem dX11_quietOnes_41 : decode cX11_quietOnes 41 = .ok (.goto (-37), 3) := by decide +kernel
theorem dX11_quietOnes_44 : decode cX11_quietOnes 44 = .ok (.iload_n 2, 1) := by decide +kernel
theorem dX11_quietOnes_45 : decode cX11_quietOnes 45 = .ok (.ireturn, 1) := by decide +kernel
theorem dX11_point_0 : decode cX11_point 0 = .ok (.iload_n 1, 1) := by decide +kernel
theorem dX11_point_1 : decode cX11_point 1 = .ok (.invokestatic 106, 3) := by decide +kernel
theorem dX11_point_4 : decode cX11_point 4 = .ok (.ifCond .ne 6, 3) := by decide +kernel
theorem dX11_point_7 : decode cX11_point 7 = .ok (.bipush (-101), 2) := by decide +kernel
theorem dX11_point_9 : decode cX11_point 9 = .ok (.ireturn, 1) := by decide +kernel
theorem dX11_point_10 : decode cX11_point 10 = .ok (.iload_n 2, 1) := by decide +kernel
theorem dX11_point_11 : decode cX11_point 11 = .ok (.iconst 0, 1) := by decide +kernel
theorem dX11_point_12 : decode cX11_point 12 = .ok (.iconst 4, 1) := by decide +kernel
theorem dX11_point_13 : decode cX11_point 13 = .ok (.invokestatic 41, 3) := by decide +kernel
theorem dX11_point_16 : decode cX11_point 16 = .ok (.ifCond .ne 6, 3) := by decide +kernel
theorem dX11_point_19 : decode cX11_point 19 = .ok (.bipush (-102), 2) := by decide +kernel
theorem dX11_point_21 : decode cX11_point 21 = .ok (.ireturn, 1) := by decide +kernel
theorem dX11_point_22 : decode cX11_point 22 = .ok (.aload_n 0, 1) := by decide +kernel
theorem dX11_point_23 : decode cX11_point 23 = .ok (.getfield 7, 3) := by decide +kernel
theorem dX11_point_26 : decode cX11_point 26 = .ok (.bipush 6, 2) := by decide +kernel
theorem dX11_point_28 : decode cX11_point 28 = .ok (.iload_n 1, 1) := by decide +kernel
theorem dX11_point_29 : decode cX11_point 29 = .ok (.iadd, 1) := by decide +kernel
theorem dX11_point_30 : decode cX11_point 30 = .ok (.iaload, 1) := by decide +kernel
theorem dX11_point_31 : decode cX11_point 31 = .ok (.istore_n 3, 1) := by decide +kernel
theorem dX11_point_32 : decode cX11_point 32 = .ok (.iload_n 2, 1) := by decide +kernel
theorem dX11_point_33 : decode cX11_point 33 = .ok (.ifCond .eq 7, 3) := by decide +kernel
theorem dX11_point_36 : decode cX11_point 36 = .ok (.iload_n 3, 1) := by decide +kernel
theorem dX11_point_37 : decode cX11_point 37 = .ok (.ifCond .ne 5, 3) := by decide +kernel
theorem dX11_point_40 : decode cX11_point 40 = .ok (.iload_n 3, 1) := by decide +kernel
theorem dX11_point_41 : decode cX11_point 41 = .ok (.ireturn, 1) := by decide +kernel
theorem dX11_point_42 : decode cX11_point 42 = .ok (.iload_n 2, 1) := by decide +kernel
theorem dX11_point_43 : decode cX11_point 43 = .ok (.iconst 1, 1) := by decide +kernel
theorem dX11_point_44 : decode cX11_point 44 = .ok (.if_icmp .ne 18, 3) := by decide +kernel
theorem dX11_point_47 : decode cX11_point 47 = .ok (.aload_n 0, 1) := by decide +kernel
theorem dX11_point_48 : decode cX11_point 48 = .ok (.aload_n 0, 1) := by decide +kernel
theorem dX11_point_49 : decode cX11_point 49 = .ok (.getfield 7, 3) := by decide +kernel
theorem dX11_point_52 : decode cX11_point 52 = .ok (.iload_n 1, 1) := by decide +kernel
theorem dX11_point_53 : decode cX11_point 53 = .ok (.iconst 3, 1) := by decide +kernel
theorem dX11_point_54 : decode cX11_point 54 = .ok (.iload_n 3, 1) := by decide +kernel
theorem dX11_point_55 : decode cX11_point 55 = .ok (.isub, 1) := by decide +kernel
theorem dX11_point_56 : decode cX11_point 56 = .ok (.invokevirtual 154, 3) := by decide +kernel
theorem dX11_point_59 : decode cX11_point 59 = .ok (.goto 41, 3) := by decide +kernel
theorem dX11_point_62 : decode cX11_point 62 = .ok (.iload_n 2, 1) := by decide +kernel
theorem dX11_point_63 : decode cX11_point 63 = .ok (.iconst 2, 1) := by decide +kernel
theorem dX11_point_64 : decode cX11_point 64 = .ok (.if_icmp .ne 11, 3) := by decide +kernel
theorem dX11_point_67 : decode cX11_point 67 = .ok (.aload_n 0, 1) := by decide +kernel
theorem dX11_point_68 : decode cX11_point 68 = .ok (.iload_n 1, 1) := by decide +kernel
theorem dX11_point_69 : decode cX11_point 69 = .ok (.invokevirtual 158, 3) := by decide +kernel
theorem dX11_point_72 : decode cX11_point 72 = .ok (.goto 28, 3) := by decide +kernel
theorem dX11_point_75 : decode cX11_point 75 = .ok (.iload_n 2, 1) := by decide +kernel
theorem dX11_point_76 : decode cX11_point 76 = .ok (.iconst 3, 1) := by decide +kernel
theorem dX11_point_77 : decode cX11_point 77 = .ok (.if_icmp .ne 18, 3) := by decide +kernel
theorem dX11_point_80 : decode cX11_point 80 = .ok (.aload_n 0, 1) := by decide +kernel
theorem dX11_point_81 : decode cX11_point 81 = .ok (.aload_n 0, 1) := by decide +kernel
theorem dX11_point_82 : decode cX11_point 82 = .ok (.getfield 7, 3) := by decide +kernel
theorem dX11_point_85 : decode cX11_point 85 = .ok (.iload_n 1, 1) := by decide +kernel
theorem dX11_point_86 : decode cX11_point 86 = .ok (.invokevirtual 98, 3) := by decide +kernel
theorem dX11_point_89 : decode cX11_point 89 = .ok (.invokestatic 161, 3) := by decide +kernel
theorem dX11_point_92 : decode cX11_point 92 = .ok (.goto 8, 3) := by decide +kernel
theorem dX11_point_95 : decode cX11_point 95 = .ok (.aload_n 0, 1) := by decide +kernel
theorem dX11_point_96 : decode cX11_point 96 = .ok (.iload_n 1, 1) := by decide +kernel
theorem dX11_point_97 : decode cX11_point 97 = .ok (.invokevirtual 165, 3) := by decide +kernel
theorem dX11_point_100 : decode cX11_point 100 = .ok (.ireturn, 1) := by decide +kernel
theorem dX11_way_0 : decode cX11_way 0 = .ok (.iload_n 1, 1) := by decide +kernel
theorem dX11_way_1 : decode cX11_way 1 = .ok (.invokestatic 106, 3) := by decide +kernel
theorem dX11_way_4 : decode cX11_way 4 = .ok (.ifCond .eq 10, 3) := by decide +kernel
theorem dX11_way_7 : decode cX11_way 7 = .ok (.iload_n 2, 1) := by decide +kernel
theorem dX11_way_8 : decode cX11_way 8 = .ok (.invokestatic 106, 3) := by decide +kernel
theorem dX11_way_11 : decode cX11_way 11 = .ok (.ifCond .ne 6, 3) := by decide +kernel
theorem dX11_way_14 : decode cX11_way 14 = .ok (.bipush (-101), 2) := by decide +kernel
theorem dX11_way_16 : decode cX11_way 16 = .ok (.ireturn, 1) := by decide +kernel
theorem dX11_way_17 : decode cX11_way 17 = .ok (.iload_n 3, 1) := by decide +kernel
theorem dX11_way_18 : decode cX11_way 18 = .ok (.iconst 0, 1) := by decide +kernel
theorem dX11_way_19 : decode cX11_way 19 = .ok (.iconst 4, 1) := by decide +kernel
theorem dX11_way_20 : decode cX11_way 20 = .ok (.invokestatic 41, 3) := by decide +kernel
theorem dX11_way_23 : decode cX11_way 23 = .ok (.ifCond .ne 6, 3) := by decide +kernel
theorem dX11_way_26 : decode cX11_way 26 = .ok (.bipush (-102), 2) := by decide +kernel
theorem dX11_way_28 : decode cX11_way 28 = .ok (.ireturn, 1) := by decide +kernel
theorem dX11_way_29 : decode cX11_way 29 = .ok (.aload_n 0, 1) := by decide +kernel
theorem dX11_way_30 : decode cX11_way 30 = .ok (.getfield 7, 3) := by decide +kernel
theorem dX11_way_33 : decode cX11_way 33 = .ok (.bipush 6, 2) := by decide +kernel
theorem dX11_way_35 : decode cX11_way 35 = .ok (.iload_n 1, 1) := by decide +kernel
theorem dX11_way_36 : decode cX11_way 36 = .ok (.iadd, 1) := by decide +kernel
theorem dX11_way_37 : decode cX11_way 37 = .ok (.iaload, 1) := by decide +kernel
theorem dX11_way_38 : decode cX11_way 38 = .ok (.ifCond .le 30, 3) := by decide +kernel
theorem dX11_way_41 : decode cX11_way 41 = .ok (.aload_n 0, 1) := by decide +kernel
theorem dX11_way_42 : decode cX11_way 42 = .ok (.getfield 7, 3) := by decide +kernel
theorem dX11_way_45 : decode cX11_way 45 = .ok (.bipush 6, 2) := by decide +kernel
theorem dX11_way_47 : decode cX11_way 47 = .ok (.iload_n 2, 1) := by decide +kernel
theorem dX11_way_48 : decode cX11_way 48 = .ok (.iadd, 1) := by decide +kernel
theorem dX11_way_49 : decode cX11_way 49 = .ok (.iaload, 1) := by decide +kernel
theorem dX11_way_50 : decode cX11_way 50 = .ok (.iconst 3, 1) := by decide +kernel
theorem dX11_way_51 : decode cX11_way 51 = .ok (.aload_n 0, 1) := by decide +kernel
theorem dX11_way_52 : decode cX11_way 52 = .ok (.getfield 7, 3) := by decide +kernel
theorem dX11_way_55 : decode cX11_way 55 = .ok (.bipush 6, 2) := by decide +kernel
theorem dX11_way_57 : decode cX11_way 57 = .ok (.iload_n 1, 1) := by decide +kernel
theorem dX11_way_58 : decode cX11_way 58 = .ok (.iadd, 1) := by decide +kernel
theorem dX11_way_59 : decode cX11_way 59 = .ok (.iaload, 1) := by decide +kernel
theorem dX11_way_60 : decode cX11_way 60 = .ok (.isub, 1) := by decide +kernel
theorem dX11_way_61 : decode cX11_way 61 = .ok (.if_icmp .ne 7, 3) := by decide +kernel
theorem dX11_way_64 : decode cX11_way 64 = .ok (.iconst 1, 1) := by decide +kernel
theorem dX11_way_65 : decode cX11_way 65 = .ok (.goto 4, 3) := by decide +kernel
theorem dX11_way_68 : decode cX11_way 68 = .ok (.iconst 0, 1) := by decide +kernel
theorem dX11_way_69 : decode cX11_way 69 = .ok (.istore 4, 2) := by decide +kernel
theorem dX11_way_71 : decode cX11_way 71 = .ok (.iload 4, 2) := by decide +kernel
theorem dX11_way_73 : decode cX11_way 73 = .ok (.ifCond .eq 18, 3) := by decide +kernel
theorem dX11_way_76 : decode cX11_way 76 = .ok (.aload_n 0, 1) := by decide +kernel
theorem dX11_way_77 : decode cX11_way 77 = .ok (.aload_n 0, 1) := by decide +kernel
theorem dX11_way_78 : decode cX11_way 78 = .ok (.getfield 7, 3) := by decide +kernel
theorem dX11_way_81 : decode cX11_way 81 = .ok (.iload_n 1, 1) := by decide +kernel
theorem dX11_way_82 : decode cX11_way 82 = .ok (.iload_n 2, 1) := by decide +kernel
theorem dX11_way_83 : decode cX11_way 83 = .ok (.invokevirtual 168, 3) := by decide +kernel
theorem dX11_way_86 : decode cX11_way 86 = .ok (.bipush (-105), 2) := by decide +kernel
theorem dX11_way_88 : decode cX11_way 88 = .ok (.if_icmp .ne 6, 3) := by decide +kernel
theorem dX11_way_91 : decode cX11_way 91 = .ok (.bipush (-105), 2) := by decide +kernel
theorem dX11_way_93 : decode cX11_way 93 = .ok (.ireturn, 1) := by decide +kernel
theorem dX11_way_94 : decode cX11_way 94 = .ok (.iload_n 3, 1) := by decide +kernel
theorem dX11_way_95 : decode cX11_way 95 = .ok (.tableswitch 57 0 3 #[29, 34, 39, 47], 29) := by decide +kernel
theorem dX11_way_124 : decode cX11_way 124 = .ok (.aload_n 0, 1) := by decide +kernel
theorem dX11_way_125 : decode cX11_way 125 = .ok (.getfield 81, 3) := by decide +kernel
theorem dX11_way_128 : decode cX11_way 128 = .ok (.ireturn, 1) := by decide +kernel
theorem dX11_way_129 : decode cX11_way 129 = .ok (.aload_n 0, 1) := by decide +kernel
theorem dX11_way_130 : decode cX11_way 130 = .ok (.getfield 84, 3) := by decide +kernel
theorem dX11_way_133 : decode cX11_way 133 = .ok (.ireturn, 1) := by decide +kernel
theorem dX11_way_134 : decode cX11_way 134 = .ok (.aload_n 0, 1) := by decide +kernel
theorem dX11_way_135 : decode cX11_way 135 = .ok (.getfield 91, 3) := by decide +kernel
theorem dX11_way_138 : decode cX11_way 138 = .ok (.bipush 48, 2) := by decide +kernel
theorem dX11_way_140 : decode cX11_way 140 = .ok (.idiv, 1) := by decide +kernel
theorem dX11_way_141 : decode cX11_way 141 = .ok (.ireturn, 1) := by decide +kernel
theorem dX11_way_142 : decode cX11_way 142 = .ok (.aload_n 0, 1) := by decide +kernel
theorem dX11_way_143 : decode cX11_way 143 = .ok (.getfield 91, 3) := by decide +kernel
theorem dX11_way_146 : decode cX11_way 146 = .ok (.iconst 2, 1) := by decide +kernel
theorem dX11_way_147 : decode cX11_way 147 = .ok (.idiv, 1) := by decide +kernel
theorem dX11_way_148 : decode cX11_way 148 = .ok (.bipush 24, 2) := by decide +kernel
theorem dX11_way_150 : decode cX11_way 150 = .ok (.irem, 1) := by decide +kernel
theorem dX11_way_151 : decode cX11_way 151 = .ok (.ireturn, 1) := by decide +kernel
theorem dX11_way_152 : decode cX11_way 152 = .ok (.iconst 1, 1) := by decide +kernel
theorem dX11_way_153 : decode cX11_way 153 = .ok (.aload_n 0, 1) := by decide +kernel
theorem dX11_way_154 : decode cX11_way 154 = .ok (.getfield 91, 3) := by decide +kernel
theorem dX11_way_157 : decode cX11_way 157 = .ok (.iconst 2, 1) := by decide +kernel
theorem dX11_way_158 : decode cX11_way 158 = .ok (.irem, 1) := by decide +kernel
theorem dX11_way_159 : decode cX11_way 159 = .ok (.isub, 1) := by decide +kernel
theorem dX11_way_160 : decode cX11_way 160 = .ok (.ireturn, 1) := by decide +kernel
theorem dX11_circuit_0 : decode cX11_circuit 0 = .ok (.iload_n 1, 1) := by decide +kernel
theorem dX11_circuit_1 : decode cX11_circuit 1 = .ok (.iconst 0, 1) := by decide +kernel
theorem dX11_circuit_2 : decode cX11_circuit 2 = .ok (.iconst 1, 1) := by decide +kernel
theorem dX11_circuit_3 : decode cX11_circuit 3 = .ok (.invokestatic 41, 3) := by decide +kernel
theorem dX11_circuit_6 : decode cX11_circuit 6 = .ok (.ifCond .eq 21, 3) := by decide +kernel
theorem dX11_circuit_9 : decode cX11_circuit 9 = .ok (.iload_n 2, 1) := by decide +kernel
theorem dX11_circuit_10 : decode cX11_circuit 10 = .ok (.iconst 0, 1) := by decide +kernel
theorem dX11_circuit_11 : decode cX11_circuit 11 = .ok (.bipush 23, 2) := by decide +kernel
theorem dX11_circuit_13 : decode cX11_circuit 13 = .ok (.invokestatic 41, 3) := by decide +kernel
theorem dX11_circuit_16 : decode cX11_circuit 16 = .ok (.ifCond .eq 11, 3) := by decide +kernel
theorem dX11_circuit_19 : decode cX11_circuit 19 = .ok (.iload_n 1, 1) := by decide +kernel
theorem dX11_circuit_20 : decode cX11_circuit 20 = .ok (.iload_n 2, 1) := by decide +kernel
theorem dX11_circuit_21 : decode cX11_circuit 21 = .ok (.invokestatic 77, 3) := by decide +kernel
theorem dX11_circuit_24 : decode cX11_circuit 24 = .ok (.goto 5, 3) := by decide +kernel
theorem dX11_circuit_27 : decode cX11_circuit 27 = .ok (.bipush (-101), 2) := by decide +kernel
theorem dX11_circuit_29 : decode cX11_circuit 29 = .ok (.ireturn, 1) := by decide +kernel
theorem dX11_reason_0 : decode cX11_reason 0 = .ok (.iload_n 1, 1) := by decide +kernel
theorem dX11_reason_1 : decode cX11_reason 1 = .ok (.invokestatic 106, 3) := by decide +kernel
theorem dX11_reason_4 : decode cX11_reason 4 = .ok (.ifCond .eq 24, 3) := by decide +kernel
theorem dX11_reason_7 : decode cX11_reason 7 = .ok (.iload_n 2, 1) := by decide +kernel
theorem dX11_reason_8 : decode cX11_reason 8 = .ok (.invokestatic 106, 3) := by decide +kernel
theorem dX11_reason_11 : decode cX11_reason 11 = .ok (.ifCond .eq 17, 3) := by decide +kernel
theorem dX11_reason_14 : decode cX11_reason 14 = .ok (.aload_n 0, 1) := by decide +kernel
theorem dX11_reason_15 : decode cX11_reason 15 = .ok (.aload_n 0, 1) := by decide +kernel
theorem dX11_reason_16 : decode cX11_reason 16 = .ok (.getfield 7, 3) := by decide +kernel
theorem dX11_reason_19 : decode cX11_reason 19 = .ok (.iload_n 1, 1) := by decide +kernel
theorem dX11_reason_20 : decode cX11_reason 20 = .ok (.iload_n 2, 1) := by decide +kernel
theorem dX11_reason_21 : decode cX11_reason 21 = .ok (.iload_n 3, 1) := by decide +kernel
theorem dX11_reason_22 : decode cX11_reason 22 = .ok (.invokevirtual 110, 3) := by decide +kernel
theorem dX11_reason_25 : decode cX11_reason 25 = .ok (.goto 5, 3) := by decide +kernel
theorem dX11_reason_28 : decode cX11_reason 28 = .ok (.bipush (-101), 2) := by decide +kernel
theorem dX11_reason_30 : decode cX11_reason 30 = .ok (.ireturn, 1) := by decide +kernel
theorem dX11_many_0 : decode cX11_many 0 = .ok (.iconst 0, 1) := by decide +kernel
theorem dX11_many_1 : decode cX11_many 1 = .ok (.istore_n 2, 1) := by decide +kernel
theorem dX11_many_2 : decode cX11_many 2 = .ok (.iconst 0, 1) := by decide +kernel
theorem dX11_many_3 : decode cX11_many 3 = .ok (.istore_n 3, 1) := by decide +kernel
theorem dX11_many_4 : decode cX11_many 4 = .ok (.iload_n 3, 1) := by decide +kernel
theorem dX11_many_5 : decode cX11_many 5 = .ok (.bipush 36, 2) := by decide +kernel
theorem dX11_many_7 : decode cX11_many 7 = .ok (.if_icmp .ge 35, 3) := by decide +kernel
theorem dX11_many_10 : decode cX11_many 10 = .ok (.aload_n 0, 1) := by decide +kernel
theorem dX11_many_11 : decode cX11_many 11 = .ok (.getfield 7, 3) := by decide +kernel
theorem dX11_many_14 : decode cX11_many 14 = .ok (.invokestatic 94, 3) := by decide +kernel
theorem dX11_many_17 : decode cX11_many 17 = .ok (.ifCond .ne 25, 3) := by decide +kernel
theorem dX11_many_20 : decode cX11_many 20 = .ok (.iload_n 2, 1) := by decide +kernel
theorem dX11_many_21 : decode cX11_many 21 = .ok (.aload_n 0, 1) := by decide +kernel
theorem dX11_many_22 : decode cX11_many 22 = .ok (.aload_n 0, 1) := by decide +kernel
theorem dX11_many_23 : decode cX11_many 23 = .ok (.getfield 7, 3) := by decide +kernel
theorem dX11_many_26 : decode cX11_many 26 = .ok (.iload_n 3, 1) := by decide +kernel
theorem dX11_many_27 : decode cX11_many 27 = .ok (.iload_n 1, 1) := by decide +kernel
theorem dX11_many_28 : decode cX11_many 28 = .ok (.invokevirtual 121, 3) := by decide +kernel
theorem dX11_many_31 : decode cX11_many 31 = .ok (.invokestatic 161, 3) := by decide +kernel
theorem dX11_many_34 : decode cX11_many 34 = .ok (.iadd, 1) := by decide +kernel
theorem dX11_many_35 : decode cX11_many 35 = .ok (.istore_n 2, 1) := by decide +kernel
theorem dX11_many_36 : decode cX11_many 36 = .ok (.iinc 3 1, 3) := by decide +kernel
theorem dX11_many_39 : decode cX11_many 39 = .ok (.goto (-35), 3) := by decide +kernel
theorem dX11_many_42 : decode cX11_many 42 = .ok (.iload_n 2, 1) := by decide +kernel
theorem dX11_many_43 : decode cX11_many 43 = .ok (.ireturn, 1) := by decide +kernel
theorem dX11_possible_0 : decode cX11_possible 0 = .ok (.iload_n 1, 1) := by decide +kernel
theorem dX11_possible_1 : decode cX11_possible 1 = .ok (.ifCond .ge 6, 3) := by decide +kernel
theorem dX11_possible_4 : decode cX11_possible 4 = .ok (.bipush (-102), 2) := by decide +kernel
theorem dX11_possible_6 : decode cX11_possible 6 = .ok (.ireturn, 1) := by decide +kernel
theorem dX11_possible_7 : decode cX11_possible 7 = .ok (.iload_n 1, 1) := by decide +kernel
theorem dX11_possible_8 : decode cX11_possible 8 = .ok (.istore_n 2, 1) := by decide +kernel
theorem dX11_possible_9 : decode cX11_possible 9 = .ok (.iconst 0, 1) := by decide +kernel
theorem dX11_possible_10 : decode cX11_possible 10 = .ok (.istore_n 3, 1) := by decide +kernel
theorem dX11_possible_11 : decode cX11_possible 11 = .ok (.iload_n 3, 1) := by decide +kernel
theorem dX11_possible_12 : decode cX11_possible 12 = .ok (.bipush 72, 2) := by decide +kernel
theorem dX11_possible_14 : decode cX11_possible 14 = .ok (.if_icmp .ge 92, 3) := by decide +kernel
theorem dX11_possible_17 : decode cX11_possible 17 = .ok (.aload_n 0, 1) := by decide +kernel
theorem dX11_possible_18 : decode cX11_possible 18 = .ok (.getfield 7, 3) := by decide +kernel
theorem dX11_possible_21 : decode cX11_possible 21 = .ok (.invokestatic 94, 3) := by decide +kernel
theorem dX11_possible_24 : decode cX11_possible 24 = .ok (.ifCond .ne 82, 3) := by decide +kernel
theorem dX11_possible_27 : decode cX11_possible 27 = .ok (.iload_n 3, 1) := by decide +kernel
theorem dX11_possible_28 : decode cX11_possible 28 = .ok (.bipush 36, 2) := by decide +kernel
theorem dX11_possible_30 : decode cX11_possible 30 = .ok (.irem, 1) := by decide +kernel
theorem dX11_possible_31 : decode cX11_possible 31 = .ok (.istore 4, 2) := by decide +kernel
theorem dX11_possible_33 : decode cX11_possible 33 = .ok (.aload_n 0, 1) := by decide +kernel
theorem dX11_possible_34 : decode cX11_possible 34 = .ok (.aload_n 0, 1) := by decide +kernel
theorem dX11_possible_35 : decode cX11_possible 35 = .ok (.getfield 7, 3) := by decide +kernel
theorem dX11_possible_38 : decode cX11_possible 38 = .ok (.iload 4, 2) := by decide +kernel
theorem dX11_possible_40 : decode cX11_possible 40 = .ok (.iload_n 3, 1) := by decide +kernel
theorem dX11_possible_41 : decode cX11_possible 41 = .ok (.bipush 36, 2) := by decide +kernel
theorem dX11_possible_43 : decode cX11_possible 43 = .ok (.if_icmp .ge 7, 3) := by decide +kernel
theorem dX11_possible_46 : decode cX11_possible 46 = .ok (.iconst 1, 1) := by decide +kernel
theorem dX11_possible_47 : decode cX11_possible 47 = .ok (.goto 4, 3) := by decide +kernel
theorem dX11_possible_50 : decode cX11_possible 50 = .ok (.iconst 0, 1) := by decide +kernel
theorem dX11_possible_51 : decode cX11_possible 51 = .ok (.invokevirtual 121, 3) := by decide +kernel
theorem dX11_possible_54 : decode cX11_possible 54 = .ok (.lstore 5, 2) := by decide +kernel
theorem dX11_possible_56 : decode cX11_possible 56 = .ok (.iconst 0, 1) := by decide +kernel
theorem dX11_possible_57 : decode cX11_possible 57 = .ok (.istore 7, 2) := by decide +kernel
theorem dX11_possible_59 : decode cX11_possible 59 = .ok (.iload 7, 2) := by decide +kernel
theorem dX11_possible_61 : decode cX11_possible 61 = .ok (.bipush 36, 2) := by decide +kernel
theorem dX11_possible_63 : decode cX11_possible 63 = .ok (.if_icmp .ge 37, 3) := by decide +kernel
theorem dX11_possible_66 : decode cX11_possible 66 = .ok (.lload 5, 2) := by decide +kernel
theorem dX11_possible_68 : decode cX11_possible 68 = .ok (.iload 7, 2) := by decide +kernel
theorem dX11_possible_70 : decode cX11_possible 70 = .ok (.lshr, 1) := by decide +kernel
theorem dX11_possible_71 : decode cX11_possible 71 = .ok (.lconst 1, 1) := by decide +kernel
theorem dX11_possible_72 : decode cX11_possible 72 = .ok (.land, 1) := by decide +kernel
theorem dX11_possible_73 : decode cX11_possible 73 = .ok (.lconst 1, 1) := by decide +kernel
theorem dX11_possible_74 : decode cX11_possible 74 = .ok (.lcmp, 1) := by decide +kernel
theorem dX11_possible_75 : decode cX11_possible 75 = .ok (.ifCond .ne 19, 3) := by decide +kernel
theorem dX11_possible_78 : decode cX11_possible 78 = .ok (.iload_n 2, 1) := by decide +kernel
theorem dX11_possible_79 : decode cX11_possible 79 = .ok (.ifCond .ne 12, 3) := by decide +kernel
theorem dX11_possible_82 : decode cX11_possible 82 = .ok (.bipush 100, 2) := by decide +kernel
theorem dX11_possible_84 : decode cX11_possible 84 = .ok (.iload 4, 2) := by decide +kernel
theorem dX11_possible_86 : decode cX11_possible 86 = .ok (.imul, 1) := by decide +kernel
theorem dX11_possible_87 : decode cX11_possible 87 = .ok (.iload 7, 2) := by decide +kernel
theorem dX11_possible_89 : decode cX11_possible 89 = .ok (.iadd, 1) := by decide +kernel
theorem dX11_possible_90 : decode cX11_possible 90 = .ok (.ireturn, 1) := by decide +kernel
theorem dX11_possible_91 : decode cX11_possible 91 = .ok (.iinc 2 (-1), 3) := by decide +kernel
theorem dX11_possible_94 : decode cX11_possible 94 = .ok (.iinc 7 1, 3) := by decide +kernel
theorem dX11_possible_97 : decode cX11_possible 97 = .ok (.goto (-38), 3) := by decide +kernel
theorem dX11_possible_100 : decode cX11_possible 100 = .ok (.iinc 3 1, 3) := by decide +kernel
theorem dX11_possible_103 : decode cX11_possible 103 = .ok (.goto (-92), 3) := by decide +kernel
theorem dX11_possible_106 : decode cX11_possible 106 = .ok (.bipush (-105), 2) := by decide +kernel
theorem dX11_possible_108 : decode cX11_possible 108 = .ok (.ireturn, 1) := by decide +kernel
theorem dX11_look_0 : decode cX11_look 0 = .ok (.iload_n 1, 1) := by decide +kernel
theorem dX11_look_1 : decode cX11_look 1 = .ok (.iconst 0, 1) := by decide +kernel
theorem dX11_look_2 : decode cX11_look 2 = .ok (.iconst 2, 1) := by decide +kernel
theorem dX11_look_3 : decode cX11_look 3 = .ok (.invokestatic 41, 3) := by decide +kernel
theorem dX11_look_6 : decode cX11_look 6 = .ok (.ifCond .ne 6, 3) := by decide +kernel
theorem dX11_look_9 : decode cX11_look 9 = .ok (.bipush (-102), 2) := by decide +kernel
theorem dX11_look_11 : decode cX11_look 11 = .ok (.ireturn, 1) := by decide +kernel
theorem dX11_look_12 : decode cX11_look 12 = .ok (.iload_n 1, 1) := by decide +kernel
theorem dX11_look_13 : decode cX11_look 13 = .ok (.ifCond .eq 13, 3) := by decide +kernel
theorem dX11_look_16 : decode cX11_look 16 = .ok (.aload_n 0, 1) := by decide +kernel
theorem dX11_look_17 : decode cX11_look 17 = .ok (.iload_n 1, 1) := by decide +kernel
theorem dX11_look_18 : decode cX11_look 18 = .ok (.invokevirtual 134, 3) := by decide +kernel
theorem dX11_look_21 : decode cX11_look 21 = .ok (.bipush (-105), 2) := by decide +kernel
theorem dX11_look_23 : decode cX11_look 23 = .ok (.if_icmp .ne 11, 3) := by decide +kernel
theorem dX11_look_26 : decode cX11_look 26 = .ok (.aload_n 0, 1) := by decide +kernel
theorem dX11_look_27 : decode cX11_look 27 = .ok (.getfield 7, 3) := by decide +kernel
theorem dX11_look_30 : decode cX11_look 30 = .ok (.invokestatic 125, 3) := by decide +kernel
theorem dX11_look_33 : decode cX11_look 33 = .ok (.ireturn, 1) := by decide +kernel
theorem dX11_look_34 : decode cX11_look 34 = .ok (.aload_n 0, 1) := by decide +kernel
theorem dX11_look_35 : decode cX11_look 35 = .ok (.getfield 128, 3) := by decide +kernel
theorem dX11_look_38 : decode cX11_look 38 = .ok (.ireturn, 1) := by decide +kernel
theorem dX11_best_0 : decode cX11_best 0 = .ok (.iload_n 1, 1) := by decide +kernel
theorem dX11_best_1 : decode cX11_best 1 = .ok (.iconst 1, 1) := by decide +kernel
theorem dX11_best_2 : decode cX11_best 2 = .ok (.iconst 2, 1) := by decide +kernel
theorem dX11_best_3 : decode cX11_best 3 = .ok (.invokestatic 41, 3) := by decide +kernel
theorem dX11_best_6 : decode cX11_best 6 = .ok (.ifCond .eq 11, 3) := by decide +kernel
theorem dX11_best_9 : decode cX11_best 9 = .ok (.aload_n 0, 1) := by decide +kernel
theorem dX11_best_10 : decode cX11_best 10 = .ok (.iload_n 1, 1) := by decide +kernel
theorem dX11_best_11 : decode cX11_best 11 = .ok (.invokevirtual 134, 3) := by decide +kernel
theorem dX11_best_14 : decode cX11_best 14 = .ok (.goto 5, 3) := by decide +kernel
theorem dX11_best_17 : decode cX11_best 17 = .ok (.bipush (-102), 2) := by decide +kernel
theorem dX11_best_19 : decode cX11_best 19 = .ok (.ireturn, 1) := by decide +kernel
theorem dX11_threatened_0 : decode cX11_threatened 0 = .ok (.iconst 0, 1) := by decide +kernel
theorem dX11_threatened_1 : decode cX11_threatened 1 = .ok (.istore_n 1, 1) := by decide +kernel
theorem dX11_threatened_2 : decode cX11_threatened 2 = .ok (.iconst 0, 1) := by decide +kernel
theorem dX11_threatened_3 : decode cX11_threatened 3 = .ok (.istore_n 2, 1) := by decide +kernel
theorem dX11_threatened_4 : decode cX11_threatened 4 = .ok (.iload_n 2, 1) := by decide +kernel
theorem dX11_threatened_5 : decode cX11_threatened 5 = .ok (.bipush 36, 2) := by decide +kernel
theorem dX11_threatened_7 : decode cX11_threatened 7 = .ok (.if_icmp .ge 55, 3) := by decide +kernel
theorem dX11_threatened_10 : decode cX11_threatened 10 = .ok (.iload_n 1, 1) := by decide +kernel
theorem dX11_threatened_11 : decode cX11_threatened 11 = .ok (.aload_n 0, 1) := by decide +kernel
theorem dX11_threatened_12 : decode cX11_threatened 12 = .ok (.getfield 7, 3) := by decide +kernel
theorem dX11_threatened_15 : decode cX11_threatened 15 = .ok (.bipush 6, 2) := by decide +kernel
theorem dX11_threatened_17 : decode cX11_threatened 17 = .ok (.iload_n 2, 1) := by decide +kernel
theorem dX11_threatened_18 : decode cX11_threatened 18 = .ok (.iadd, 1) := by decide +kernel
theorem dX11_threatened_19 : decode cX11_threatened 19 = .ok (.iaload, 1) := by decide +kernel
theorem dX11_threatened_20 : decode cX11_threatened 20 = .ok (.aload_n 0, 1) := by decide +kernel
theorem dX11_threatened_21 : decode cX11_threatened 21 = .ok (.getfield 7, 3) := by decide +kernel
theorem dX11_threatened_24 : decode cX11_threatened 24 = .ok (.iconst 0, 1) := by decide +kernel
theorem dX11_threatened_25 : decode cX11_threatened 25 = .ok (.iaload, 1) := by decide +kernel
theorem dX11_threatened_26 : decode cX11_threatened 26 = .ok (.if_icmp .ne 27, 3) := by decide +kernel
theorem dX11_threatened_29 : decode cX11_threatened 29 = .ok (.aload_n 0, 1) := by decide +kernel
theorem dX11_threatened_30 : decode cX11_threatened 30 = .ok (.aload_n 0, 1) := by decide +kernel
theorem dX11_threatened_31 : decode cX11_threatened 31 = .ok (.getfield 7, 3) := by decide +kernel
theorem dX11_threatened_34 : decode cX11_threatened 34 = .ok (.iload_n 2, 1) := by decide +kernel
theorem dX11_threatened_35 : decode cX11_threatened 35 = .ok (.iconst 3, 1) := by decide +kernel
theorem dX11_threatened_36 : decode cX11_threatened 36 = .ok (.aload_n 0, 1) := by decide +kernel
theorem dX11_threatened_37 : decode cX11_threatened 37 = .ok (.getfield 7, 3) := by decide +kernel
theorem dX11_threatened_40 : decode cX11_threatened 40 = .ok (.iconst 0, 1) := by decide +kernel
theorem dX11_threatened_41 : decode cX11_threatened 41 = .ok (.iaload, 1) := by decide +kernel
theorem dX11_threatened_42 : decode cX11_threatened 42 = .ok (.isub, 1) := by decide +kernel
theorem dX11_threatened_43 : decode cX11_threatened 43 = .ok (.invokevirtual 154, 3) := by decide +kernel
theorem dX11_threatened_46 : decode cX11_threatened 46 = .ok (.ifCond .le 7, 3) := by decide +kernel
theorem dX11_threatened_49 : decode cX11_threatened 49 = .ok (.iconst 1, 1) := by decide +kernel
theorem dX11_threatened_50 : decode cX11_threatened 50 = .ok (.goto 4, 3) := by decide +kernel
theorem dX11_threatened_53 : decode cX11_threatened 53 = .ok (.iconst 0, 1) := by decide +kernel
theorem dX11_threatened_54 : decode cX11_threatened 54 = .ok (.iadd, 1) := by decide +kernel
theorem dX11_threatened_55 : decode cX11_threatened 55 = .ok (.istore_n 1, 1) := by decide +kernel
theorem dX11_threatened_56 : decode cX11_threatened 56 = .ok (.iinc 2 1, 3) := by decide +kernel
theorem dX11_threatened_59 : decode cX11_threatened 59 = .ok (.goto (-55), 3) := by decide +kernel
theorem dX11_threatened_62 : decode cX11_threatened 62 = .ok (.iload_n 1, 1) := by decide +kernel
theorem dX11_threatened_63 : decode cX11_threatened 63 = .ok (.ireturn, 1) := by decide +kernel
theorem dX11_count_0 : decode cX11_count 0 = .ok (.iload_n 1, 1) := by decide +kernel
theorem dX11_count_1 : decode cX11_count 1 = .ok (.tableswitch 156 0 13 #[71, 78, 78, 87, 94, 102, 102, 117, 117, 129, 134, 141, 146, 151], 71) := by decide +kernel
theorem dX11_count_72 : decode cX11_count 72 = .ok (.aload_n 0, 1) := by decide +kernel
theorem dX11_count_73 : decode cX11_count 73 = .ok (.getfield 7, 3) := by decide +kernel
theorem dX11_count_76 : decode cX11_count 76 = .ok (.iconst 0, 1) := by decide +kernel
theorem dX11_count_77 : decode cX11_count 77 = .ok (.iaload, 1) := by decide +kernel
theorem dX11_count_78 : decode cX11_count 78 = .ok (.ireturn, 1) := by decide +kernel
theorem dX11_count_79 : decode cX11_count 79 = .ok (.aload_n 0, 1) := by decide +kernel
theorem dX11_count_80 : decode cX11_count 80 = .ok (.getfield 7, 3) := by decide +kernel
theorem dX11_count_83 : decode cX11_count 83 = .ok (.iload_n 1, 1) := by decide +kernel
theorem dX11_count_84 : decode cX11_count 84 = .ok (.invokestatic 52, 3) := by decide +kernel
theorem dX11_count_87 : decode cX11_count 87 = .ok (.ireturn, 1) := by decide +kernel
theorem dX11_count_88 : decode cX11_count 88 = .ok (.aload_n 0, 1) := by decide +kernel
theorem dX11_count_89 : decode cX11_count 89 = .ok (.getfield 7, 3) := by decide +kernel
theorem dX11_count_92 : decode cX11_count 92 = .ok (.iconst 1, 1) := by decide +kernel
theorem dX11_count_93 : decode cX11_count 93 = .ok (.iaload, 1) := by decide +kernel
theorem dX11_count_94 : decode cX11_count 94 = .ok (.ireturn, 1) := by decide +kernel
theorem dX11_count_95 : decode cX11_count 95 = .ok (.aload_n 0, 1) := by decide +kernel
theorem dX11_count_96 : decode cX11_count 96 = .ok (.getfield 7, 3) := by decide +kernel
theorem dX11_count_99 : decode cX11_count 99 = .ok (.invokestatic 94, 3) := by decide +kernel
theorem dX11_count_102 : decode cX11_count 102 = .ok (.ireturn, 1) := by decide +kernel
theorem dX11_count_103 : decode cX11_count 103 = .ok (.aload_n 0, 1) := by decide +kernel
theorem dX11_count_104 : decode cX11_count 104 = .ok (.iload_n 1, 1) := by decide +kernel
theorem dX11_count_105 : decode cX11_count 105 = .ok (.iconst 5, 1) := by decide +kernel
theorem dX11_count_106 : decode cX11_count 106 = .ok (.if_icmp .ne 7, 3) := by decide +kernel
theorem dX11_count_109 : decode cX11_count 109 = .ok (.iconst 1, 1) := by decide +kernel
theorem dX11_count_110 : decode cX11_count 110 = .ok (.goto 4, 3) := by decide +kernel
theorem dX11_count_113 : decode cX11_count 113 = .ok (.iconst 0, 1) := by decide +kernel
theorem dX11_count_114 : decode cX11_count 114 = .ok (.invokevirtual 171, 3) := by decide +kernel
theorem dX11_count_117 : decode cX11_count 117 = .ok (.ireturn, 1) := by decide +kernel
theorem dX11_count_118 : decode cX11_count 118 = .ok (.aload_n 0, 1) := by decide +kernel
theorem dX11_count_119 : decode cX11_count 119 = .ok (.getfield 7, 3) := by decide +kernel
theorem dX11_count_122 : decode cX11_count 122 = .ok (.iconst 2, 1) := by decide +kernel
theorem dX11_count_123 : decode cX11_count 123 = .ok (.iload_n 1, 1) := by decide +kernel
theorem dX11_count_124 : decode cX11_count 124 = .ok (.iadd, 1) := by decide +kernel
theorem dX11_count_125 : decode cX11_count 125 = .ok (.bipush 7, 2) := by decide +kernel
theorem dX11_count_127 : decode cX11_count 127 = .ok (.isub, 1) := by decide +kernel
theorem dX11_count_128 : decode cX11_count 128 = .ok (.iaload, 1) := by decide +kernel
theorem dX11_count_129 : decode cX11_count 129 = .ok (.ireturn, 1) := by decide +kernel
theorem dX11_count_130 : decode cX11_count 130 = .ok (.aload_n 0, 1) := by decide +kernel
theorem dX11_count_131 : decode cX11_count 131 = .ok (.invokevirtual 175, 3) := by decide +kernel
theorem dX11_count_134 : decode cX11_count 134 = .ok (.ireturn, 1) := by decide +kernel
theorem dX11_count_135 : decode cX11_count 135 = .ok (.aload_n 0, 1) := by decide +kernel
theorem dX11_count_136 : decode cX11_count 136 = .ok (.getfield 7, 3) := by decide +kernel
theorem dX11_count_139 : decode cX11_count 139 = .ok (.iconst 4, 1) := by decide +kernel
theorem dX11_count_140 : decode cX11_count 140 = .ok (.iaload, 1) := by decide +kernel
theorem dX11_count_141 : decode cX11_count 141 = .ok (.ireturn, 1) := by decide +kernel
theorem dX11_count_142 : decode cX11_count 142 = .ok (.aload_n 0, 1) := by decide +kernel
theorem dX11_count_143 : decode cX11_count 143 = .ok (.invokevirtual 178, 3) := by decide +kernel
theorem dX11_count_146 : decode cX11_count 146 = .ok (.ireturn, 1) := by decide +kernel
theorem dX11_count_147 : decode cX11_count 147 = .ok (.aload_n 0, 1) := by decide +kernel
theorem dX11_count_148 : decode cX11_count 148 = .ok (.getfield 45, 3) := by decide +kernel
theorem dX11_count_151 : decode cX11_count 151 = .ok (.ireturn, 1) := by decide +kernel
theorem dX11_count_152 : decode cX11_count 152 = .ok (.aload_n 0, 1) := by decide +kernel
theorem dX11_count_153 : decode cX11_count 153 = .ok (.getfield 138, 3) := by decide +kernel
theorem dX11_count_156 : decode cX11_count 156 = .ok (.ireturn, 1) := by decide +kernel
theorem dX11_count_157 : decode cX11_count 157 = .ok (.bipush (-102), 2) := by decide +kernel
theorem dX11_count_159 : decode cX11_count 159 = .ok (.ireturn, 1) := by decide +kernel
theorem dJ9_abs_0f7a4_0 : decode cJ9_abs_0f7a4 0 = .ok (.iload_n 0, 1) := by decide +kernel
theorem dJ9_abs_0f7a4_1 : decode cJ9_abs_0f7a4 1 = .ok (.ifCond .ge 8, 3) := by decide +kernel
theorem dJ9_abs_0f7a4_4 : decode cJ9_abs_0f7a4 4 = .ok (.iload_n 0, 1) := by decide +kernel
theorem dJ9_abs_0f7a4_5 : decode cJ9_abs_0f7a4 5 = .ok (.ineg, 1) := by decide +kernel
theorem dJ9_abs_0f7a4_6 : decode cJ9_abs_0f7a4 6 = .ok (.goto 4, 3) := by decide +kernel
theorem dJ9_abs_0f7a4_9 : decode cJ9_abs_0f7a4 9 = .ok (.iload_n 0, 1) := by decide +kernel
theorem dJ9_abs_0f7a4_10 : decode cJ9_abs_0f7a4 10 = .ok (.ireturn, 1) := by decide +kernel
theorem dJ9_max_7cf53_0 : decode cJ9_max_7cf53 0 = .ok (.iload_n 0, 1) := by decide +kernel
theorem dJ9_max_7cf53_1 : decode cJ9_max_7cf53 1 = .ok (.iload_n 1, 1) := by decide +kernel
theorem dJ9_max_7cf53_2 : decode cJ9_max_7cf53 2 = .ok (.if_icmp .lt 7, 3) := by decide +kernel
theorem dJ9_max_7cf53_5 : decode cJ9_max_7cf53 5 = .ok (.iload_n 0, 1) := by decide +kernel
theorem dJ9_max_7cf53_6 : decode cJ9_max_7cf53 6 = .ok (.goto 4, 3) := by decide +kernel
theorem dJ9_max_7cf53_9 : decode cJ9_max_7cf53 9 = .ok (.iload_n 1, 1) := by decide +kernel
theorem dJ9_max_7cf53_10 : decode cJ9_max_7cf53 10 = .ok (.ireturn, 1) := by decide +kernel
theorem dJ9_min_7cf53_0 : decode cJ9_min_7cf53 0 = .ok (.iload_n 0, 1) := by decide +kernel
theorem dJ9_min_7cf53_1 : decode cJ9_min_7cf53 1 = .ok (.iload_n 1, 1) := by decide +kernel
theorem dJ9_min_7cf53_2 : decode cJ9_min_7cf53 2 = .ok (.if_icmp .gt 7, 3) := by decide +kernel
theorem dJ9_min_7cf53_5 : decode cJ9_min_7cf53 5 = .ok (.iload_n 0, 1) := by decide +kernel
theorem dJ9_min_7cf53_6 : decode cJ9_min_7cf53 6 = .ok (.goto 4, 3) := by decide +kernel
theorem dJ9_min_7cf53_9 : decode cJ9_min_7cf53 9 = .ok (.iload_n 1, 1) := by decide +kernel
theorem dJ9_min_7cf53_10 : decode cJ9_min_7cf53 10 = .ok (.ireturn, 1) := by decide +kernel
theorem dL_law_0 : decode cL_law 0 = .ok (.new 7, 3) := by decide +kernel
theorem dL_law_3 : decode cL_law 3 = .ok (.dup, 1) := by decide +kernel
theorem dL_law_4 : decode cL_law 4 = .ok (.invokespecial 9, 3) := by decide +kernel
theorem dL_law_7 : decode cL_law 7 = .ok (.astore_n 1, 1) := by decide +kernel
theorem dL_law_8 : decode cL_law 8 = .ok (.new 10, 3) := by decide +kernel
theorem dL_law_11 : decode cL_law 11 = .ok (.dup, 1) := by decide +kernel
theorem dL_law_12 : decode cL_law 12 = .ok (.invokespecial 12, 3) := by decide +kernel
theorem dL_law_15 : decode cL_law 15 = .ok (.astore_n 2, 1) := by decide +kernel
theorem dL_law_16 : decode cL_law 16 = .ok (.iconst 0, 1) := by decide +kernel
theorem dL_law_17 : decode cL_law 17 = .ok (.istore_n 3, 1) := by decide +kernel
theorem dL_law_18 : decode cL_law 18 = .ok (.iload_n 3, 1) := by decide +kernel
theorem dL_law_19 : decode cL_law 19 = .ok (.aload_n 0, 1) := by decide +kernel
theorem dL_law_20 : decode cL_law 20 = .ok (.arraylength, 1) := by decide +kernel
theorem dL_law_21 : decode cL_law 21 = .ok (.iconst 4, 1) := by decide +kernel
theorem dL_law_22 : decode cL_law 22 = .ok (.isub, 1) := by decide +kernel
theorem dL_law_23 : decode cL_law 23 = .ok (.if_icmp .gt 663, 3) := by decide +kernel
theorem dL_law_26 : decode cL_law 26 = .ok (.aload_n 0, 1) := by decide +kernel
theorem dL_law_27 : decode cL_law 27 = .ok (.iload_n 3, 1) := by decide +kernel
theorem dL_law_28 : decode cL_law 28 = .ok (.iaload, 1) := by decide +kernel
theorem dL_law_29 : decode cL_law 29 = .ok (.bipush 31, 2) := by decide +kernel
theorem dL_law_31 : decode cL_law 31 = .ok (.iand, 1) := by decide +kernel
theorem dL_law_32 : decode cL_law 32 = .ok (.tableswitch 648 0 21 #[104, 137, 170, 193, 226, 239, 252, 275, 300, 313, 326, 349, 362, 375, 388, 421, 464, 497, 556, 579, 602, 625], 104) := by decide +kernel
theorem dL_law_136 : decode cL_law 136 = .ok (.aload_n 1, 1) := by decide +kernel
theorem dL_law_137 : decode cL_law 137 = .ok (.aload_n 0, 1) := by decide +kernel
theorem dL_law_138 : decode cL_law 138 = .ok (.iload_n 3, 1) := by decide +kernel
theorem dL_law_139 : decode cL_law 139 = .ok (.iconst 1, 1) := by decide +kernel
theorem dL_law_140 : decode cL_law 140 = .ok (.iadd, 1) := by decide +kernel
theorem dL_law_141 : decode cL_law 141 = .ok (.iaload, 1) := by decide +kernel
theorem dL_law_142 : decode cL_law 142 = .ok (.aload_n 0, 1) := by decide +kernel
theorem dL_law_143 : decode cL_law 143 = .ok (.iload_n 3, 1) := by decide +kernel
theorem dL_law_144 : decode cL_law 144 = .ok (.iconst 2, 1) := by decide +kernel
theorem dL_law_145 : decode cL_law 145 = .ok (.iadd, 1) := by decide +kernel
theorem dL_law_146 : decode cL_law 146 = .ok (.iaload, 1) := by decide +kernel
theorem dL_law_147 : decode cL_law 147 = .ok (.invokevirtual 13, 3) := by decide +kernel
theorem dL_law_150 : decode cL_law 150 = .ok (.aload_n 2, 1) := by decide +kernel
theorem dL_law_151 : decode cL_law 151 = .ok (.aload_n 0, 1) := by decide +kernel
theorem dL_law_152 : decode cL_law 152 = .ok (.iload_n 3, 1) := by decide +kernel
theorem dL_law_153 : decode cL_law 153 = .ok (.iconst 1, 1) := by decide +kernel
theorem dL_law_154 : decode cL_law 154 = .ok (.iadd, 1) := by decide +kernel
theorem dL_law_155 : decode cL_law 155 = .ok (.iaload, 1) := by decide +kernel
theorem dL_law_156 : decode cL_law 156 = .ok (.aload_n 0, 1) := by decide +kernel
theorem dL_law_157 : decode cL_law 157 = .ok (.iload_n 3, 1) := by decide +kernel
theorem dL_law_158 : decode cL_law 158 = .ok (.iconst 2, 1) := by decide +kernel
theorem dL_law_159 : decode cL_law 159 = .ok (.iadd, 1) := by decide +kernel
theorem dL_law_160 : decode cL_law 160 = .ok (.iaload, 1) := by decide +kernel
theorem dL_law_161 : decode cL_law 161 = .ok (.invokevirtual 17, 3) := by decide +kernel
theorem dL_law_164 : decode cL_law 164 = .ok (.if_icmp .eq 516, 3) := by decide +kernel
theorem dL_law_167 : decode cL_law 167 = .ok (.iconst 0, 1) := by decide +kernel
theorem dL_law_168 : decode cL_law 168 = .ok (.ireturn, 1) := by decide +kernel
theorem dL_law_169 : decode cL_law 169 = .ok (.aload_n 1, 1) := by decide +kernel
theorem dL_law_170 : decode cL_law 170 = .ok (.aload_n 0, 1) := by decide +kernel
theorem dL_law_171 : decode cL_law 171 = .ok (.iload_n 3, 1) := by decide +kernel
theorem dL_law_172 : decode cL_law 172 = .ok (.iconst 1, 1) := by decide +kernel
theorem dL_law_173 : decode cL_law 173 = .ok (.iadd, 1) := by decide +kernel
theorem dL_law_174 : decode cL_law 174 = .ok (.iaload, 1) := by decide +kernel
theorem dL_law_175 : decode cL_law 175 = .ok (.aload_n 0, 1) := by decide +kernel
theorem dL_law_176 : decode cL_law 176 = .ok (.iload_n 3, 1) := by decide +kernel
theorem dL_law_177 : decode cL_law 177 = .ok (.iconst 2, 1) := by decide +kernel
theorem dL_law_178 : decode cL_law 178 = .ok (.iadd, 1) := by decide +kernel
theorem dL_law_179 : decode cL_law 179 = .ok (.iaload, 1) := by decide +kernel
theorem dL_law_180 : decode cL_law 180 = .ok (.invokevirtual 18, 3) := by decide +kernel
theorem dL_law_183 : decode cL_law 183 = .ok (.aload_n 2, 1) := by decide +kernel
theorem dL_law_184 : decode cL_law 184 = .ok (.aload_n 0, 1) := by decide +kernel
theorem dL_law_185 : decode cL_law 185 = .ok (.iload_n 3, 1) := by decide +kernel
theorem dL_law_186 : decode cL_law 186 = .ok (.iconst 1, 1) := by decide +kernel
theorem dL_law_187 : decode cL_law 187 = .ok (.iadd, 1) := by decide +kernel
theorem dL_law_188 : decode cL_law 188 = .ok (.iaload, 1) := by decide +kernel
theorem dL_law_189 : decode cL_law 189 = .ok (.aload_n 0, 1) := by decide +kernel
theorem dL_law_190 : decode cL_law 190 = .ok (.iload_n 3, 1) := by decide +kernel
theorem dL_law_191 : decode cL_law 191 = .ok (.iconst 2, 1) := by decide +kernel
theorem dL_law_192 : decode cL_law 192 = .ok (.iadd, 1) := by decide +kernel
theorem dL_law_193 : decode cL_law 193 = .ok (.iaload, 1) := by decide +kernel
theorem dL_law_194 : decode cL_law 194 = .ok (.invokevirtual 21, 3) := by decide +kernel
theorem dL_law_197 : decode cL_law 197 = .ok (.if_icmp .eq 483, 3) := by decide +kernel
theorem dL_law_200 : decode cL_law 200 = .ok (.iconst 0, 1) := by decide +kernel
theorem dL_law_201 : decode cL_law 201 = .ok (.ireturn, 1) := by decide +kernel
theorem dL_law_202 : decode cL_law 202 = .ok (.aload_n 1, 1) := by decide +kernel
theorem dL_law_203 : decode cL_law 203 = .ok (.aload_n 0, 1) := by decide +kernel
theorem dL_law_204 : decode cL_law 204 = .ok (.iload_n 3, 1) := by decide +kernel
theorem dL_law_205 : decode cL_law 205 = .ok (.iconst 1, 1) := by decide +kernel
theorem dL_law_206 : decode cL_law 206 = .ok (.iadd, 1) := by decide +kernel
theorem dL_law_207 : decode cL_law 207 = .ok (.iaload, 1) := by decide +kernel
theorem dL_law_208 : decode cL_law 208 = .ok (.invokevirtual 22, 3) := by decide +kernel
theorem dL_law_211 : decode cL_law 211 = .ok (.aload_n 2, 1) := by decide +kernel
theorem dL_law_212 : decode cL_law 212 = .ok (.aload_n 0, 1) := by decide +kernel
theorem dL_law_213 : decode cL_law 213 = .ok (.iload_n 3, 1) := by decide +kernel
theorem dL_law_214 : decode cL_law 214 = .ok (.iconst 1, 1) := by decide +kernel
theorem dL_law_215 : decode cL_law 215 = .ok (.iadd, 1) := by decide +kernel
theorem dL_law_216 : decode cL_law 216 = .ok (.iaload, 1) := by decide +kernel
theorem dL_law_217 : decode cL_law 217 = .ok (.invokevirtual 26, 3) := by decide +kernel
theorem dL_law_220 : decode cL_law 220 = .ok (.if_icmp .eq 460, 3) := by decide +kernel
theorem dL_law_223 : decode cL_law 223 = .ok (.iconst 0, 1) := by decide +kernel
theorem dL_law_224 : decode cL_law 224 = .ok (.ireturn, 1) := by decide +kernel
theorem dL_law_225 : decode cL_law 225 = .ok (.aload_n 1, 1) := by decide +kernel
theorem dL_law_226 : decode cL_law 226 = .ok (.aload_n 0, 1) := by decide +kernel
theorem dL_law_227 : decode cL_law 227 = .ok (.iload_n 3, 1) := by decide +kernel
theorem dL_law_228 : decode cL_law 228 = .ok (.iconst 1, 1) := by decide +kernel
theorem dL_law_229 : decode cL_law 229 = .ok (.iadd, 1) := by decide +kernel
theorem dL_law_230 : decode cL_law 230 = .ok (.iaload, 1) := by decide +kernel
theorem dL_law_231 : decode cL_law 231 = .ok (.aload_n 0, 1) := by decide +kernel
theorem dL_law_232 : decode cL_law 232 = .ok (.iload_n 3, 1) := by decide +kernel
theorem dL_law_233 : decode cL_law 233 = .ok (.iconst 2, 1) := by decide +kernel
theorem dL_law_234 : decode cL_law 234 = .ok (.iadd, 1) := by decide +kernel
theorem dL_law_235 : decode cL_law 235 = .ok (.iaload, 1) := by decide +kernel
theorem dL_law_236 : decode cL_law 236 = .ok (.invokevirtual 27, 3) := by decide +kernel
theorem dL_law_239 : decode cL_law 239 = .ok (.aload_n 2, 1) := by decide +kernel
theorem dL_law_240 : decode cL_law 240 = .ok (.aload_n 0, 1) := by decide +kernel
theorem dL_law_241 : decode cL_law 241 = .ok (.iload_n 3, 1) := by decide +kernel
theorem dL_law_242 : decode cL_law 242 = .ok (.iconst 1, 1) := by decide +kernel
theorem dL_law_243 : decode cL_law 243 = .ok (.iadd, 1) := by decide +kernel
theorem dL_law_244 : decode cL_law 244 = .ok (.iaload, 1) := by decide +kernel
theorem dL_law_245 : decode cL_law 245 = .ok (.aload_n 0, 1) := by decide +kernel
theorem dL_law_246 : decode cL_law 246 = .ok (.iload_n 3, 1) := by decide +kernel
theorem dL_law_247 : decode cL_law 247 = .ok (.iconst 2, 1) := by decide +kernel
theorem dL_law_248 : decode cL_law 248 = .ok (.iadd, 1) := by decide +kernel
theorem dL_law_249 : decode cL_law 249 = .ok (.iaload, 1) := by decide +kernel
theorem dL_law_250 : decode cL_law 250 = .ok (.invokevirtual 30, 3) := by decide +kernel
theorem dL_law_253 : decode cL_law 253 = .ok (.if_icmp .eq 427, 3) := by decide +kernel
theorem dL_law_256 : decode cL_law 256 = .ok (.iconst 0, 1) := by decide +kernel
theorem dL_law_257 : decode cL_law 257 = .ok (.ireturn, 1) := by decide +kernel
theorem dL_law_258 : decode cL_law 258 = .ok (.aload_n 1, 1) := by decide +kernel
theorem dL_law_259 : decode cL_law 259 = .ok (.invokevirtual 31, 3) := by decide +kernel
theorem dL_law_262 : decode cL_law 262 = .ok (.aload_n 2, 1) := by decide +kernel
theorem dL_law_263 : decode cL_law 263 = .ok (.invokevirtual 35, 3) := by decide +kernel
theorem dL_law_266 : decode cL_law 266 = .ok (.if_icmp .eq 414, 3) := by decide +kernel
theorem dL_law_269 : decode cL_law 269 = .ok (.iconst 0, 1) := by decide +kernel
theorem dL_law_270 : decode cL_law 270 = .ok (.ireturn, 1) := by decide +kernel
theorem dL_law_271 : decode cL_law 271 = .ok (.aload_n 1, 1) := by decide +kernel
theorem dL_law_272 : decode cL_law 272 = .ok (.invokevirtual 36, 3) := by decide +kernel
theorem dL_law_275 : decode cL_law 275 = .ok (.aload_n 2, 1) := by decide +kernel
theorem dL_law_276 : decode cL_law 276 = .ok (.invokevirtual 39, 3) := by decide +kernel
theorem dL_law_279 : decode cL_law 279 = .ok (.if_icmp .eq 401, 3) := by decide +kernel
theorem dL_law_282 : decode cL_law 282 = .ok (.iconst 0, 1) := by decide +kernel
theorem dL_law_283 : decode cL_law 283 = .ok (.ireturn, 1) := by decide +kernel
theorem dL_law_284 : decode cL_law 284 = .ok (.aload_n 1, 1) := by decide +kernel
theorem dL_law_285 : decode cL_law 285 = .ok (.aload_n 0, 1) := by decide +kernel
theorem dL_law_286 : decode cL_law 286 = .ok (.iload_n 3, 1) := by decide +kernel
theorem dL_law_287 : decode cL_law 287 = .ok (.iconst 1, 1) := by decide +kernel
theorem dL_law_288 : decode cL_law 288 = .ok (.iadd, 1) := by decide +kernel
theorem dL_law_289 : decode cL_law 289 = .ok (.iaload, 1) := by decide +kernel
theorem dL_law_290 : decode cL_law 290 = .ok (.invokevirtual 40, 3) := by decide +kernel
theorem dL_law_293 : decode cL_law 293 = .ok (.aload_n 2, 1) := by decide +kernel
theorem dL_law_294 : decode cL_law 294 = .ok (.aload_n 0, 1) := by decide +kernel
theorem dL_law_295 : decode cL_law 295 = .ok (.iload_n 3, 1) := by decide +kernel
theorem dL_law_296 : decode cL_law 296 = .ok (.iconst 1, 1) := by decide +kernel
theorem dL_law_297 : decode cL_law 297 = .ok (.iadd, 1) := by decide +kernel
theorem dL_law_298 : decode cL_law 298 = .ok (.iaload, 1) := by decide +kernel
theorem dL_law_299 : decode cL_law 299 = .ok (.invokevirtual 43, 3) := by decide +kernel
theorem dL_law_302 : decode cL_law 302 = .ok (.if_icmp .eq 378, 3) := by decide +kernel
theorem dL_law_305 : decode cL_law 305 = .ok (.iconst 0, 1) := by decide +kernel
theorem dL_law_306 : decode cL_law 306 = .ok (.ireturn, 1) := by decide +kernel
theorem dL_law_307 : decode cL_law 307 = .ok (.aload_n 1, 1) := by decide +kernel
theorem dL_law_308 : decode cL_law 308 = .ok (.aload_n 0, 1) := by decide +kernel
theorem dL_law_309 : decode cL_law 309 = .ok (.iload_n 3, 1) := by decide +kernel
theorem dL_law_310 : decode cL_law 310 = .ok (.iconst 1, 1) := by decide +kernel
theorem dL_law_311 : decode cL_law 311 = .ok (.iadd, 1) := by decide +kernel
theorem dL_law_312 : decode cL_law 312 = .ok (.iaload, 1) := by decide +kernel
theorem dL_law_313 : decode cL_law 313 = .ok (.i2c, 1) := by decide +kernel
theorem dL_law_314 : decode cL_law 314 = .ok (.invokevirtual 44, 3) := by decide +kernel
theorem dL_law_317 : decode cL_law 317 = .ok (.aload_n 2, 1) := by decide +kernel
theorem dL_law_318 : decode cL_law 318 = .ok (.aload_n 0, 1) := by decide +kernel
theorem dL_law_319 : decode cL_law 319 = .ok (.iload_n 3, 1) := by decide +kernel
theorem dL_law_320 : decode cL_law 320 = .ok (.iconst 1, 1) := by decide +kernel
theorem dL_law_321 : decode cL_law 321 = .ok (.iadd, 1) := by decide +kernel
theorem dL_law_322 : decode cL_law 322 = .ok (.iaload, 1) := by decide +kernel
theorem dL_law_323 : decode cL_law 323 = .ok (.i2c, 1) := by decide +kernel
theorem dL_law_324 : decode cL_law 324 = .ok (.invokevirtual 48, 3) := by decide +kernel
theorem dL_law_327 : decode cL_law 327 = .ok (.if_icmp .eq 353, 3) := by decide +kernel
theorem dL_law_330 : decode cL_law 330 = .ok (.iconst 0, 1) := by decide +kernel
theorem dL_law_331 : decode cL_law 331 = .ok (.ireturn, 1) := by decide +kernel
theorem dL_law_332 : decode cL_law 332 = .ok (.aload_n 1, 1) := by decide +kernel
theorem dL_law_333 : decode cL_law 333 = .ok (.invokevirtual 49, 3) := by decide +kernel
theorem dL_law_336 : decode cL_law 336 = .ok (.aload_n 2, 1) := by decide +kernel
theorem dL_law_337 : decode cL_law 337 = .ok (.invokevirtual 52, 3) := by decide +kernel
theorem dL_law_340 : decode cL_law 340 = .ok (.if_icmp .eq 340, 3) := by decide +kernel
theorem dL_law_343 : decode cL_law 343 = .ok (.iconst 0, 1) := by decide +kernel
theorem dL_law_344 : decode cL_law 344 = .ok (.ireturn, 1) := by decide +kernel
theorem dL_law_345 : decode cL_law 345 = .ok (.aload_n 1, 1) := by decide +kernel
theorem dL_law_346 : decode cL_law 346 = .ok (.invokevirtual 53, 3) := by decide +kernel
theorem dL_law_349 : decode cL_law 349 = .ok (.aload_n 2, 1) := by decide +kernel
theorem dL_law_350 : decode cL_law 350 = .ok (.invokevirtual 56, 3) := by decide +kernel
theorem dL_law_353 : decode cL_law 353 = .ok (.if_icmp .eq 327, 3) := by decide +kernel
theorem dL_law_356 : decode cL_law 356 = .ok (.iconst 0, 1) := by decide +kernel
theorem dL_law_357 : decode cL_law 357 = .ok (.ireturn, 1) := by decide +kernel
theorem dL_law_358 : decode cL_law 358 = .ok (.aload_n 1, 1) := by decide +kernel
theorem dL_law_359 : decode cL_law 359 = .ok (.aload_n 0, 1) := by decide +kernel
theorem dL_law_360 : decode cL_law 360 = .ok (.iload_n 3, 1) := by decide +kernel
theorem dL_law_361 : decode cL_law 361 = .ok (.iconst 1, 1) := by decide +kernel
theorem dL_law_362 : decode cL_law 362 = .ok (.iadd, 1) := by decide +kernel
theorem dL_law_363 : decode cL_law 363 = .ok (.iaload, 1) := by decide +kernel
theorem dL_law_364 : decode cL_law 364 = .ok (.invokevirtual 57, 3) := by decide +kernel
theorem dL_law_367 : decode cL_law 367 = .ok (.aload_n 2, 1) := by decide +kernel
theorem dL_law_368 : decode cL_law 368 = .ok (.aload_n 0, 1) := by decide +kernel
theorem dL_law_369 : decode cL_law 369 = .ok (.iload_n 3, 1) := by decide +kernel
theorem dL_law_370 : decode cL_law 370 = .ok (.iconst 1, 1) := by decide +kernel
theorem dL_law_371 : decode cL_law 371 = .ok (.iadd, 1) := by decide +kernel
theorem dL_law_372 : decode cL_law 372 = .ok (.iaload, 1) := by decide +kernel
theorem dL_law_373 : decode cL_law 373 = .ok (.invokevirtual 60, 3) := by decide +kernel
theorem dL_law_376 : decode cL_law 376 = .ok (.if_icmp .eq 304, 3) := by decide +kernel
theorem dL_law_379 : decode cL_law 379 = .ok (.iconst 0, 1) := by decide +kernel
theorem dL_law_380 : decode cL_law 380 = .ok (.ireturn, 1) := by decide +kernel
theorem dL_law_381 : decode cL_law 381 = .ok (.aload_n 1, 1) := by decide +kernel
theorem dL_law_382 : decode cL_law 382 = .ok (.invokevirtual 61, 3) := by decide +kernel
theorem dL_law_385 : decode cL_law 385 = .ok (.aload_n 2, 1) := by decide +kernel
theorem dL_law_386 : decode cL_law 386 = .ok (.invokevirtual 64, 3) := by decide +kernel
theorem dL_law_389 : decode cL_law 389 = .ok (.if_icmp .eq 291, 3) := by decide +kernel
theorem dL_law_392 : decode cL_law 392 = .ok (.iconst 0, 1) := by decide +kernel
theorem dL_law_393 : decode cL_law 393 = .ok (.ireturn, 1) := by decide +kernel
theorem dL_law_394 : decode cL_law 394 = .ok (.aload_n 1, 1) := by decide +kernel
theorem dL_law_395 : decode cL_law 395 = .ok (.invokevirtual 65, 3) := by decide +kernel
theorem dL_law_398 : decode cL_law 398 = .ok (.aload_n 2, 1) := by decide +kernel
theorem dL_law_399 : decode cL_law 399 = .ok (.invokevirtual 68, 3) := by decide +kernel
theorem dL_law_402 : decode cL_law 402 = .ok (.if_icmp .eq 278, 3) := by decide +kernel
theorem dL_law_405 : decode cL_law 405 = .ok (.iconst 0, 1) := by decide +kernel
theorem dL_law_406 : decode cL_law 406 = .ok (.ireturn, 1) := by decide +kernel
theorem dL_law_407 : decode cL_law 407 = .ok (.aload_n 1, 1) := by decide +kernel
theorem dL_law_408 : decode cL_law 408 = .ok (.invokevirtual 69, 3) := by decide +kernel
theorem dL_law_411 : decode cL_law 411 = .ok (.aload_n 2, 1) := by decide +kernel
theorem dL_law_412 : decode cL_law 412 = .ok (.invokevirtual 72, 3) := by decide +kernel
theorem dL_law_415 : decode cL_law 415 = .ok (.if_icmp .eq 265, 3) := by decide +kernel
theorem dL_law_418 : decode cL_law 418 = .ok (.iconst 0, 1) := by decide +kernel
theorem dL_law_419 : decode cL_law 419 = .ok (.ireturn, 1) := by decide +kernel
theorem dL_law_420 : decode cL_law 420 = .ok (.aload_n 1, 1) := by decide +kernel
theorem dL_law_421 : decode cL_law 421 = .ok (.aload_n 0, 1) := by decide +kernel
theorem dL_law_422 : decode cL_law 422 = .ok (.iload_n 3, 1) := by decide +kernel
theorem dL_law_423 : decode cL_law 423 = .ok (.iconst 1, 1) := by decide +kernel
theorem dL_law_424 : decode cL_law 424 = .ok (.iadd, 1) := by decide +kernel
theorem dL_law_425 : decode cL_law 425 = .ok (.iaload, 1) := by decide +kernel
theorem dL_law_426 : decode cL_law 426 = .ok (.aload_n 0, 1) := by decide +kernel
theorem dL_law_427 : decode cL_law 427 = .ok (.iload_n 3, 1) := by decide +kernel
theorem dL_law_428 : decode cL_law 428 = .ok (.iconst 2, 1) := by decide +kernel
theorem dL_law_429 : decode cL_law 429 = .ok (.iadd, 1) := by decide +kernel
theorem dL_law_430 : decode cL_law 430 = .ok (.iaload, 1) := by decide +kernel
theorem dL_law_431 : decode cL_law 431 = .ok (.invokevirtual 73, 3) := by decide +kernel
theorem dL_law_434 : decode cL_law 434 = .ok (.aload_n 2, 1) := by decide +kernel
theorem dL_law_435 : decode cL_law 435 = .ok (.aload_n 0, 1) := by decide +kernel
theorem dL_law_436 : decode cL_law 436 = .ok (.iload_n 3, 1) := by decide +kernel
theorem dL_law_437 : decode cL_law 437 = .ok (.iconst 1, 1) := by decide +kernel
theorem dL_law_438 : decode cL_law 438 = .ok (.iadd, 1) := by decide +kernel
theorem dL_law_439 : decode cL_law 439 = .ok (.iaload, 1) := by decide +kernel
theorem dL_law_440 : decode cL_law 440 = .ok (.aload_n 0, 1) := by decide +kernel
theorem dL_law_441 : decode cL_law 441 = .ok (.iload_n 3, 1) := by decide +kernel
theorem dL_law_442 : decode cL_law 442 = .ok (.iconst 2, 1) := by decide +kernel
theorem dL_law_443 : decode cL_law 443 = .ok (.iadd, 1) := by decide +kernel
theorem dL_law_444 : decode cL_law 444 = .ok (.iaload, 1) := by decide +kernel
theorem dL_law_445 : decode cL_law 445 = .ok (.invokevirtual 76, 3) := by decide +kernel
theorem dL_law_448 : decode cL_law 448 = .ok (.if_icmp .eq 232, 3) := by decide +kernel
theorem dL_law_451 : decode cL_law 451 = .ok (.iconst 0, 1) := by decide +kernel
theorem dL_law_452 : decode cL_law 452 = .ok (.ireturn, 1) := by decide +kernel
theorem dL_law_453 : decode cL_law 453 = .ok (.aload_n 1, 1) := by decide +kernel
theorem dL_law_454 : decode cL_law 454 = .ok (.aload_n 0, 1) := by decide +kernel
theorem dL_law_455 : decode cL_law 455 = .ok (.iload_n 3, 1) := by decide +kernel
theorem dL_law_456 : decode cL_law 456 = .ok (.iconst 1, 1) := by decide +kernel
theorem dL_law_457 : decode cL_law 457 = .ok (.iadd, 1) := by decide +kernel
theorem dL_law_458 : decode cL_law 458 = .ok (.iaload, 1) := by decide +kernel
theorem dL_law_459 : decode cL_law 459 = .ok (.aload_n 0, 1) := by decide +kernel
theorem dL_law_460 : decode cL_law 460 = .ok (.iload_n 3, 1) := by decide +kernel
theorem dL_law_461 : decode cL_law 461 = .ok (.iconst 2, 1) := by decide +kernel
theorem dL_law_462 : decode cL_law 462 = .ok (.iadd, 1) := by decide +kernel
theorem dL_law_463 : decode cL_law 463 = .ok (.iaload, 1) := by decide +kernel
theorem dL_law_464 : decode cL_law 464 = .ok (.aload_n 0, 1) := by decide +kernel
theorem dL_law_465 : decode cL_law 465 = .ok (.iload_n 3, 1) := by decide +kernel
theorem dL_law_466 : decode cL_law 466 = .ok (.iconst 3, 1) := by decide +kernel
theorem dL_law_467 : decode cL_law 467 = .ok (.iadd, 1) := by decide +kernel
theorem dL_law_468 : decode cL_law 468 = .ok (.iaload, 1) := by decide +kernel
theorem dL_law_469 : decode cL_law 469 = .ok (.invokevirtual 77, 3) := by decide +kernel
theorem dL_law_472 : decode cL_law 472 = .ok (.aload_n 2, 1) := by decide +kernel
theorem dL_law_473 : decode cL_law 473 = .ok (.aload_n 0, 1) := by decide +kernel
theorem dL_law_474 : decode cL_law 474 = .ok (.iload_n 3, 1) := by decide +kernel
theorem dL_law_475 : decode cL_law 475 = .ok (.iconst 1, 1) := by decide +kernel
theorem dL_law_476 : decode cL_law 476 = .ok (.iadd, 1) := by decide +kernel
theorem dL_law_477 : decode cL_law 477 = .ok (.iaload, 1) := by decide +kernel
theorem dL_law_478 : decode cL_law 478 = .ok (.aload_n 0, 1) := by decide +kernel
theorem dL_law_479 : decode cL_law 479 = .ok (.iload_n 3, 1) := by decide +kernel
theorem dL_law_480 : decode cL_law 480 = .ok (.iconst 2, 1) := by decide +kernel
theorem dL_law_481 : decode cL_law 481 = .ok (.iadd, 1) := by decide +kernel
theorem dL_law_482 : decode cL_law 482 = .ok (.iaload, 1) := by decide +kernel
theorem dL_law_483 : decode cL_law 483 = .ok (.aload_n 0, 1) := by decide +kernel
theorem dL_law_484 : decode cL_law 484 = .ok (.iload_n 3, 1) := by decide +kernel
theorem dL_law_485 : decode cL_law 485 = .ok (.iconst 3, 1) := by decide +kernel
theorem dL_law_486 : decode cL_law 486 = .ok (.iadd, 1) := by decide +kernel
theorem dL_law_487 : decode cL_law 487 = .ok (.iaload, 1) := by decide +kernel
theorem dL_law_488 : decode cL_law 488 = .ok (.invokevirtual 81, 3) := by decide +kernel
theorem dL_law_491 : decode cL_law 491 = .ok (.if_icmp .eq 189, 3) := by decide +kernel
theorem dL_law_494 : decode cL_law 494 = .ok (.iconst 0, 1) := by decide +kernel
theorem dL_law_495 : decode cL_law 495 = .ok (.ireturn, 1) := by decide +kernel
theorem dL_law_496 : decode cL_law 496 = .ok (.aload_n 1, 1) := by decide +kernel
theorem dL_law_497 : decode cL_law 497 = .ok (.aload_n 0, 1) := by decide +kernel
theorem dL_law_498 : decode cL_law 498 = .ok (.iload_n 3, 1) := by decide +kernel
theorem dL_law_499 : decode cL_law 499 = .ok (.iconst 1, 1) := by decide +kernel
theorem dL_law_500 : decode cL_law 500 = .ok (.iadd, 1) := by decide +kernel
theorem dL_law_501 : decode cL_law 501 = .ok (.iaload, 1) := by decide +kernel
theorem dL_law_502 : decode cL_law 502 = .ok (.aload_n 0, 1) := by decide +kernel
theorem dL_law_503 : decode cL_law 503 = .ok (.iload_n 3, 1) := by decide +kernel
theorem dL_law_504 : decode cL_law 504 = .ok (.iconst 2, 1) := by decide +kernel
theorem dL_law_505 : decode cL_law 505 = .ok (.iadd, 1) := by decide +kernel
theorem dL_law_506 : decode cL_law 506 = .ok (.iaload, 1) := by decide +kernel
theorem dL_law_507 : decode cL_law 507 = .ok (.invokevirtual 82, 3) := by decide +kernel
theorem dL_law_510 : decode cL_law 510 = .ok (.aload_n 2, 1) := by decide +kernel
theorem dL_law_511 : decode cL_law 511 = .ok (.aload_n 0, 1) := by decide +kernel
theorem dL_law_512 : decode cL_law 512 = .ok (.iload_n 3, 1) := by decide +kernel
theorem dL_law_513 : decode cL_law 513 = .ok (.iconst 1, 1) := by decide +kernel
theorem dL_law_514 : decode cL_law 514 = .ok (.iadd, 1) := by decide +kernel
theorem dL_law_515 : decode cL_law 515 = .ok (.iaload, 1) := by decide +kernel
theorem dL_law_516 : decode cL_law 516 = .ok (.aload_n 0, 1) := by decide +kernel
theorem dL_law_517 : decode cL_law 517 = .ok (.iload_n 3, 1) := by decide +kernel
theorem dL_law_518 : decode cL_law 518 = .ok (.iconst 2, 1) := by decide +kernel
theorem dL_law_519 : decode cL_law 519 = .ok (.iadd, 1) := by decide +kernel
theorem dL_law_520 : decode cL_law 520 = .ok (.iaload, 1) := by decide +kernel
theorem dL_law_521 : decode cL_law 521 = .ok (.invokevirtual 85, 3) := by decide +kernel
theorem dL_law_524 : decode cL_law 524 = .ok (.if_icmp .eq 156, 3) := by decide +kernel
theorem dL_law_527 : decode cL_law 527 = .ok (.iconst 0, 1) := by decide +kernel
theorem dL_law_528 : decode cL_law 528 = .ok (.ireturn, 1) := by decide +kernel
theorem dL_law_529 : decode cL_law 529 = .ok (.aload_n 1, 1) := by decide +kernel
theorem dL_law_530 : decode cL_law 530 = .ok (.aload_n 0, 1) := by decide +kernel
theorem dL_law_531 : decode cL_law 531 = .ok (.iload_n 3, 1) := by decide +kernel
theorem dL_law_532 : decode cL_law 532 = .ok (.iconst 1, 1) := by decide +kernel
theorem dL_law_533 : decode cL_law 533 = .ok (.iadd, 1) := by decide +kernel
theorem dL_law_534 : decode cL_law 534 = .ok (.iaload, 1) := by decide +kernel
theorem dL_law_535 : decode cL_law 535 = .ok (.aload_n 0, 1) := by decide +kernel
theorem dL_law_536 : decode cL_law 536 = .ok (.iload_n 3, 1) := by decide +kernel
theorem dL_law_537 : decode cL_law 537 = .ok (.iconst 2, 1) := by decide +kernel
theorem dL_law_538 : decode cL_law 538 = .ok (.iadd, 1) := by decide +kernel
theorem dL_law_539 : decode cL_law 539 = .ok (.iaload, 1) := by decide +kernel
theorem dL_law_540 : decode cL_law 540 = .ok (.aload_n 0, 1) := by decide +kernel
theorem dL_law_541 : decode cL_law 541 = .ok (.iload_n 3, 1) := by decide +kernel
theorem dL_law_542 : decode cL_law 542 = .ok (.iconst 3, 1) := by decide +kernel
theorem dL_law_543 : decode cL_law 543 = .ok (.iadd, 1) := by decide +kernel
theorem dL_law_544 : decode cL_law 544 = .ok (.iaload, 1) := by decide +kernel
theorem dL_law_545 : decode cL_law 545 = .ok (.ifCond .eq 7, 3) := by decide +kernel
theorem dL_law_548 : decode cL_law 548 = .ok (.iconst 1, 1) := by decide +kernel
theorem dL_law_549 : decode cL_law 549 = .ok (.goto 4, 3) := by decide +kernel
theorem dL_law_552 : decode cL_law 552 = .ok (.iconst 0, 1) := by decide +kernel
theorem dL_law_553 : decode cL_law 553 = .ok (.invokevirtual 86, 3) := by decide +kernel
theorem dL_law_556 : decode cL_law 556 = .ok (.aload_n 2, 1) := by decide +kernel
theorem dL_law_557 : decode cL_law 557 = .ok (.aload_n 0, 1) := by decide +kernel
theorem dL_law_558 : decode cL_law 558 = .ok (.iload_n 3, 1) := by decide +kernel
theorem dL_law_559 : decode cL_law 559 = .ok (.iconst 1, 1) := by decide +kernel
theorem dL_law_560 : decode cL_law 560 = .ok (.iadd, 1) := by decide +kernel
theorem dL_law_561 : decode cL_law 561 = .ok (.iaload, 1) := by decide +kernel
theorem dL_law_562 : decode cL_law 562 = .ok (.aload_n 0, 1) := by decide +kernel
theorem dL_law_563 : decode cL_law 563 = .ok (.iload_n 3, 1) := by decide +kernel
theorem dL_law_564 : decode cL_law 564 = .ok (.iconst 2, 1) := by decide +kernel
theorem dL_law_565 : decode cL_law 565 = .ok (.iadd, 1) := by decide +kernel
theorem dL_law_566 : decode cL_law 566 = .ok (.iaload, 1) := by decide +kernel
theorem dL_law_567 : decode cL_law 567 = .ok (.aload_n 0, 1) := by decide +kernel
theorem dL_law_568 : decode cL_law 568 = .ok (.iload_n 3, 1) := by decide +kernel
theorem dL_law_569 : decode cL_law 569 = .ok (.iconst 3, 1) := by decide +kernel
theorem dL_law_570 : decode cL_law 570 = .ok (.iadd, 1) := by decide +kernel
theorem dL_law_571 : decode cL_law 571 = .ok (.iaload, 1) := by decide +kernel
theorem dL_law_572 : decode cL_law 572 = .ok (.ifCond .eq 7, 3) := by decide +kernel
theorem dL_law_575 : decode cL_law 575 = .ok (.iconst 1, 1) := by decide +kernel
theorem dL_law_576 : decode cL_law 576 = .ok (.goto 4, 3) := by decide +kernel
theorem dL_law_579 : decode cL_law 579 = .ok (.iconst 0, 1) := by decide +kernel
theorem dL_law_580 : decode cL_law 580 = .ok (.invokevirtual 90, 3) := by decide +kernel
theorem dL_law_583 : decode cL_law 583 = .ok (.if_icmp .eq 97, 3) := by decide +kernel
theorem dL_law_586 : decode cL_law 586 = .ok (.iconst 0, 1) := by decide +kernel
theorem dL_law_587 : decode cL_law 587 = .ok (.ireturn, 1) := by decide +kernel
theorem dL_law_588 : decode cL_law 588 = .ok (.aload_n 1, 1) := by decide +kernel
theorem dL_law_589 : decode cL_law 589 = .ok (.aload_n 0, 1) := by decide +kernel
theorem dL_law_590 : decode cL_law 590 = .ok (.iload_n 3, 1) := by decide +kernel
theorem dL_law_591 : decode cL_law 591 = .ok (.iconst 1, 1) := by decide +kernel
theorem dL_law_592 : decode cL_law 592 = .ok (.iadd, 1) := by decide +kernel
theorem dL_law_593 : decode cL_law 593 = .ok (.iaload, 1) := by decide +kernel
theorem dL_law_594 : decode cL_law 594 = .ok (.invokevirtual 91, 3) := by decide +kernel
theorem dL_law_597 : decode cL_law 597 = .ok (.aload_n 2, 1) := by decide +kernel
theorem dL_law_598 : decode cL_law 598 = .ok (.aload_n 0, 1) := by decide +kernel
theorem dL_law_599 : decode cL_law 599 = .ok (.iload_n 3, 1) := by decide +kernel
theorem dL_law_600 : decode cL_law 600 = .ok (.iconst 1, 1) := by decide +kernel
theorem dL_law_601 : decode cL_law 601 = .ok (.iadd, 1) := by decide +kernel
theorem dL_law_602 : decode cL_law 602 = .ok (.iaload, 1) := by decide +kernel
theorem dL_law_603 : decode cL_law 603 = .ok (.invokevirtual 94, 3) := by decide +kernel
theorem dL_law_606 : decode cL_law 606 = .ok (.if_icmp .eq 74, 3) := by decide +kernel
theorem dL_law_609 : decode cL_law 609 = .ok (.iconst 0, 1) := by decide +kernel
theorem dL_law_610 : decode cL_law 610 = .ok (.ireturn, 1) := by decide +kernel
theorem dL_law_611 : decode cL_law 611 = .ok (.aload_n 1, 1) := by decide +kernel
theorem dL_law_612 : decode cL_law 612 = .ok (.aload_n 0, 1) := by decide +kernel
theorem dL_law_613 : decode cL_law 613 = .ok (.iload_n 3, 1) := by decide +kernel
theorem dL_law_614 : decode cL_law 614 = .ok (.iconst 1, 1) := by decide +kernel
theorem dL_law_615 : decode cL_law 615 = .ok (.iadd, 1) := by decide +kernel
theorem dL_law_616 : decode cL_law 616 = .ok (.iaload, 1) := by decide +kernel
theorem dL_law_617 : decode cL_law 617 = .ok (.invokevirtual 95, 3) := by decide +kernel
theorem dL_law_620 : decode cL_law 620 = .ok (.aload_n 2, 1) := by decide +kernel
theorem dL_law_621 : decode cL_law 621 = .ok (.aload_n 0, 1) := by decide +kernel
theorem dL_law_622 : decode cL_law 622 = .ok (.iload_n 3, 1) := by decide +kernel
theorem dL_law_623 : decode cL_law 623 = .ok (.iconst 1, 1) := by decide +kernel
theorem dL_law_624 : decode cL_law 624 = .ok (.iadd, 1) := by decide +kernel
theorem dL_law_625 : decode cL_law 625 = .ok (.iaload, 1) := by decide +kernel
theorem dL_law_626 : decode cL_law 626 = .ok (.invokevirtual 98, 3) := by decide +kernel
theorem dL_law_629 : decode cL_law 629 = .ok (.if_icmp .eq 51, 3) := by decide +kernel
theorem dL_law_632 : decode cL_law 632 = .ok (.iconst 0, 1) := by decide +kernel
theorem dL_law_633 : decode cL_law 633 = .ok (.ireturn, 1) := by decide +kernel
theorem dL_law_634 : decode cL_law 634 = .ok (.aload_n 1, 1) := by decide +kernel
theorem dL_law_635 : decode cL_law 635 = .ok (.aload_n 0, 1) := by decide +kernel
theorem dL_law_636 : decode cL_law 636 = .ok (.iload_n 3, 1) := by decide +kernel
theorem dL_law_637 : decode cL_law 637 = .ok (.iconst 1, 1) := by decide +kernel
theorem dL_law_638 : decode cL_law 638 = .ok (.iadd, 1) := by decide +kernel
theorem dL_law_639 : decode cL_law 639 = .ok (.iaload, 1) := by decide +kernel
theorem dL_law_640 : decode cL_law 640 = .ok (.invokevirtual 99, 3) := by decide +kernel
theorem dL_law_643 : decode cL_law 643 = .ok (.aload_n 2, 1) := by decide +kernel
theorem dL_law_644 : decode cL_law 644 = .ok (.aload_n 0, 1) := by decide +kernel
theorem dL_law_645 : decode cL_law 645 = .ok (.iload_n 3, 1) := by decide +kernel
theorem dL_law_646 : decode cL_law 646 = .ok (.iconst 1, 1) := by decide +kernel
theorem dL_law_647 : decode cL_law 647 = .ok (.iadd, 1) := by decide +kernel
theorem dL_law_648 : decode cL_law 648 = .ok (.iaload, 1) := by decide +kernel
theorem dL_law_649 : decode cL_law 649 = .ok (.invokevirtual 102, 3) := by decide +kernel
theorem dL_law_652 : decode cL_law 652 = .ok (.if_icmp .eq 28, 3) := by decide +kernel
theorem dL_law_655 : decode cL_law 655 = .ok (.iconst 0, 1) := by decide +kernel
theorem dL_law_656 : decode cL_law 656 = .ok (.ireturn, 1) := by decide +kernel
theorem dL_law_657 : decode cL_law 657 = .ok (.aload_n 1, 1) := by decide +kernel
theorem dL_law_658 : decode cL_law 658 = .ok (.aload_n 0, 1) := by decide +kernel
theorem dL_law_659 : decode cL_law 659 = .ok (.iload_n 3, 1) := by decide +kernel
theorem dL_law_660 : decode cL_law 660 = .ok (.iconst 1, 1) := by decide +kernel
theorem dL_law_661 : decode cL_law 661 = .ok (.iadd, 1) := by decide +kernel
theorem dL_law_662 : decode cL_law 662 = .ok (.iaload, 1) := by decide +kernel
theorem dL_law_663 : decode cL_law 663 = .ok (.invokevirtual 103, 3) := by decide +kernel
theorem dL_law_666 : decode cL_law 666 = .ok (.aload_n 2, 1) := by decide +kernel
theorem dL_law_667 : decode cL_law 667 = .ok (.aload_n 0, 1) := by decide +kernel
theorem dL_law_668 : decode cL_law 668 = .ok (.iload_n 3, 1) := by decide +kernel
theorem dL_law_669 : decode cL_law 669 = .ok (.iconst 1, 1) := by decide +kernel
theorem dL_law_670 : decode cL_law 670 = .ok (.iadd, 1) := by decide +kernel
theorem dL_law_671 : decode cL_law 671 = .ok (.iaload, 1) := by decide +kernel
theorem dL_law_672 : decode cL_law 672 = .ok (.invokevirtual 106, 3) := by decide +kernel
theorem dL_law_675 : decode cL_law 675 = .ok (.if_icmp .eq 5, 3) := by decide +kernel
theorem dL_law_678 : decode cL_law 678 = .ok (.iconst 0, 1) := by decide +kernel
theorem dL_law_679 : decode cL_law 679 = .ok (.ireturn, 1) := by decide +kernel
theorem dL_law_680 : decode cL_law 680 = .ok (.iinc 3 4, 3) := by decide +kernel
theorem dL_law_683 : decode cL_law 683 = .ok (.goto (-665), 3) := by decide +kernel
theorem dL_law_686 : decode cL_law 686 = .ok (.iconst 1, 1) := by decide +kernel
theorem dL_law_687 : decode cL_law 687 = .ok (.ireturn, 1) := by decide +kernel
abbrev vwCl : List vw_C := [(RX0, TX0, 6), (RX1, TX1, 2), (RX2, TX2, 2), (RX3, TX3, 5), (RX4, TX4, 3), (RX5, TX5, 2), (RX6, TX6, 3), (RX7, TX7, 5), (RX8, TX8, 4), (RX9, TX9, 6), (RX10, TX10, 14), (RX11, TX11, 17)]
