section
-- ===== PART A: goes FIRST, ahead of the names: the tables' words, and 'selects' of the private methods out of them =====
/-- a private method of a class that the tables say can be made, by its rows of tables_1 -/
def lw_okq (q : MethodName × Nat) : Prop := (q.1.cls ≠ "java/lang/invoke/MethodHandle" ∧ q.1.cls ≠ "java/lang/invoke/VarHandle") ∧ Cond.instantiable q.1.cls q.2 ∈ tables_1 ∧ Cond.privateMethod q.1 ∈ tables_1 ∧ Cond.instanceMethod q.1 ∈ tables_1
theorem lw_p0 : lw_okq (⟨"LoopCaptures$Circuits", "layOut", "(I)V"⟩, 2) := ⟨⟨by decide +kernel, by decide +kernel⟩, List.mem_of_getElem? (i := 23) (by decide +kernel), List.mem_of_getElem? (i := 29) (by decide +kernel), List.mem_of_getElem? (i := 30) (by decide +kernel)⟩
theorem lw_p1 : lw_okq (⟨"LoopCaptures$Circuits", "put", "(III)V"⟩, 2) := ⟨⟨by decide +kernel, by decide +kernel⟩, List.mem_of_getElem? (i := 23) (by decide +kernel), List.mem_of_getElem? (i := 33) (by decide +kernel), List.mem_of_getElem? (i := 34) (by decide +kernel)⟩
theorem lw_p2 : lw_okq (⟨"LoopCaptures$Circuits", "addSpot", "(II)V"⟩, 2) := ⟨⟨by decide +kernel, by decide +kernel⟩, List.mem_of_getElem? (i := 23) (by decide +kernel), List.mem_of_getElem? (i := 37) (by decide +kernel), List.mem_of_getElem? (i := 38) (by decide +kernel)⟩
theorem lw_p3 : lw_okq (⟨"LoopCaptures$Board", "tally", "(II)V"⟩, 6) := ⟨⟨by decide +kernel, by decide +kernel⟩, List.mem_of_getElem? (i := 141) (by decide +kernel), List.mem_of_getElem? (i := 158) (by decide +kernel), List.mem_of_getElem? (i := 159) (by decide +kernel)⟩
theorem lw_p4 : lw_okq (⟨"LoopCaptures$State", "remember", "()V"⟩, 5) := ⟨⟨by decide +kernel, by decide +kernel⟩, List.mem_of_getElem? (i := 199) (by decide +kernel), List.mem_of_getElem? (i := 207) (by decide +kernel), List.mem_of_getElem? (i := 208) (by decide +kernel)⟩
theorem lw_p5 : lw_okq (⟨"LoopCaptures$Way", "tryFrom", "(LLoopCaptures$Board;III)V"⟩, 6) := ⟨⟨by decide +kernel, by decide +kernel⟩, List.mem_of_getElem? (i := 49) (by decide +kernel), List.mem_of_getElem? (i := 347) (by decide +kernel), List.mem_of_getElem? (i := 348) (by decide +kernel)⟩
theorem lw_p6 : lw_okq (⟨"LoopCaptures$Way", "walkIsShorter", "()Z"⟩, 6) := ⟨⟨by decide +kernel, by decide +kernel⟩, List.mem_of_getElem? (i := 49) (by decide +kernel), List.mem_of_getElem? (i := 364) (by decide +kernel), List.mem_of_getElem? (i := 365) (by decide +kernel)⟩
theorem lw_p7 : lw_okq (⟨"LoopCaptures$History", "dropOldest", "()V"⟩, 2) := ⟨⟨by decide +kernel, by decide +kernel⟩, List.mem_of_getElem? (i := 236) (by decide +kernel), List.mem_of_getElem? (i := 378) (by decide +kernel), List.mem_of_getElem? (i := 379) (by decide +kernel)⟩
theorem lw_p8 : lw_okq (⟨"LoopCaptures$State", "forgetPositions", "()V"⟩, 5) := ⟨⟨by decide +kernel, by decide +kernel⟩, List.mem_of_getElem? (i := 199) (by decide +kernel), List.mem_of_getElem? (i := 403) (by decide +kernel), List.mem_of_getElem? (i := 404) (by decide +kernel)⟩
theorem lw_p9 : lw_okq (⟨"LoopCaptures$Lookahead", "search", "(I)I"⟩, 5) := ⟨⟨by decide +kernel, by decide +kernel⟩, List.mem_of_getElem? (i := 135) (by decide +kernel), List.mem_of_getElem? (i := 429) (by decide +kernel), List.mem_of_getElem? (i := 430) (by decide +kernel)⟩
theorem lw_p10 : lw_okq (⟨"LoopCaptures$Rules", "listCaptures", "(LLoopCaptures$Board;ILLoopCaptures$MoveList;)V"⟩, 3) := ⟨⟨by decide +kernel, by decide +kernel⟩, List.mem_of_getElem? (i := 101) (by decide +kernel), List.mem_of_getElem? (i := 445) (by decide +kernel), List.mem_of_getElem? (i := 446) (by decide +kernel)⟩
theorem lw_p11 : lw_okq (⟨"LoopCaptures$MoveText", "at", "(I)C"⟩, 2) := ⟨⟨by decide +kernel, by decide +kernel⟩, List.mem_of_getElem? (i := 252) (by decide +kernel), List.mem_of_getElem? (i := 558) (by decide +kernel), List.mem_of_getElem? (i := 559) (by decide +kernel)⟩
theorem lw_p12 : lw_okq (⟨"LoopCaptures$MoveText", "pointAt", "(I)I"⟩, 2) := ⟨⟨by decide +kernel, by decide +kernel⟩, List.mem_of_getElem? (i := 252) (by decide +kernel), List.mem_of_getElem? (i := 574) (by decide +kernel), List.mem_of_getElem? (i := 575) (by decide +kernel)⟩
theorem lw_p13 : lw_okq (⟨"LoopCaptures", "noteStop", "(II)V"⟩, 14) := ⟨⟨by decide +kernel, by decide +kernel⟩, List.mem_of_getElem? (i := 15) (by decide +kernel), List.mem_of_getElem? (i := 586) (by decide +kernel), List.mem_of_getElem? (i := 587) (by decide +kernel)⟩
theorem lw_p14 : lw_okq (⟨"LoopCaptures", "possibleMoves", "(Z)I"⟩, 14) := ⟨⟨by decide +kernel, by decide +kernel⟩, List.mem_of_getElem? (i := 15) (by decide +kernel), List.mem_of_getElem? (i := 672) (by decide +kernel), List.mem_of_getElem? (i := 673) (by decide +kernel)⟩
theorem lw_p15 : lw_okq (⟨"LoopCapturesModel", "begins", "()V"⟩, 17) := ⟨⟨by decide +kernel, by decide +kernel⟩, List.mem_of_getElem? (i := 689) (by decide +kernel), List.mem_of_getElem? (i := 695) (by decide +kernel), List.mem_of_getElem? (i := 696) (by decide +kernel)⟩
def lw_privs_1 : List (MethodName × Nat) := [(⟨"LoopCaptures$Circuits", "layOut", "(I)V"⟩, 2), (⟨"LoopCaptures$Circuits", "put", "(III)V"⟩, 2), (⟨"LoopCaptures$Circuits", "addSpot", "(II)V"⟩, 2), (⟨"LoopCaptures$Board", "tally", "(II)V"⟩, 6), (⟨"LoopCaptures$State", "remember", "()V"⟩, 5), (⟨"LoopCaptures$Way", "tryFrom", "(LLoopCaptures$Board;III)V"⟩, 6), (⟨"LoopCaptures$Way", "walkIsShorter", "()Z"⟩, 6), (⟨"LoopCaptures$History", "dropOldest", "()V"⟩, 2), (⟨"LoopCaptures$State", "forgetPositions", "()V"⟩, 5), (⟨"LoopCaptures$Lookahead", "search", "(I)I"⟩, 5), (⟨"LoopCaptures$Rules", "listCaptures", "(LLoopCaptures$Board;ILLoopCaptures$MoveList;)V"⟩, 3), (⟨"LoopCaptures$MoveText", "at", "(I)C"⟩, 2), (⟨"LoopCaptures$MoveText", "pointAt", "(I)I"⟩, 2), (⟨"LoopCaptures", "noteStop", "(II)V"⟩, 14), (⟨"LoopCaptures", "possibleMoves", "(Z)I"⟩, 14), (⟨"LoopCapturesModel", "begins", "()V"⟩, 17)]
theorem lw_r1 : ∀ q ∈ lw_privs_1, lw_okq q := List.forall_mem_cons.mpr ⟨lw_p0, List.forall_mem_cons.mpr ⟨lw_p1, List.forall_mem_cons.mpr ⟨lw_p2, List.forall_mem_cons.mpr ⟨lw_p3, List.forall_mem_cons.mpr ⟨lw_p4, List.forall_mem_cons.mpr ⟨lw_p5, List.forall_mem_cons.mpr ⟨lw_p6, List.forall_mem_cons.mpr ⟨lw_p7, List.forall_mem_cons.mpr ⟨lw_p8, List.forall_mem_cons.mpr ⟨lw_p9, List.forall_mem_cons.mpr ⟨lw_p10, List.forall_mem_cons.mpr ⟨lw_p11, List.forall_mem_cons.mpr ⟨lw_p12, List.forall_mem_cons.mpr ⟨lw_p13, List.forall_mem_cons.mpr ⟨lw_p14, List.forall_mem_cons.mpr ⟨lw_p15, fun _ h => absurd h List.not_mem_nil⟩⟩⟩⟩⟩⟩⟩⟩⟩⟩⟩⟩⟩⟩⟩⟩
theorem lw_p16 : lw_okq (⟨"LoopCapturesModel", "allPieces", "()I"⟩, 17) := ⟨⟨by decide +kernel, by decide +kernel⟩, List.mem_of_getElem? (i := 689) (by decide +kernel), List.mem_of_getElem? (i := 771) (by decide +kernel), List.mem_of_getElem? (i := 772) (by decide +kernel)⟩
theorem lw_p17 : lw_okq (⟨"LoopCapturesModel", "records", "()V"⟩, 17) := ⟨⟨by decide +kernel, by decide +kernel⟩, List.mem_of_getElem? (i := 689) (by decide +kernel), List.mem_of_getElem? (i := 782) (by decide +kernel), List.mem_of_getElem? (i := 783) (by decide +kernel)⟩
theorem lw_p18 : lw_okq (⟨"LoopCapturesModel", "moves", "(IIZ)I"⟩, 17) := ⟨⟨by decide +kernel, by decide +kernel⟩, List.mem_of_getElem? (i := 689) (by decide +kernel), List.mem_of_getElem? (i := 790) (by decide +kernel), List.mem_of_getElem? (i := 791) (by decide +kernel)⟩
theorem lw_p19 : lw_okq (⟨"LoopCapturesModel", "why", "([IIIZ)I"⟩, 17) := ⟨⟨by decide +kernel, by decide +kernel⟩, List.mem_of_getElem? (i := 689) (by decide +kernel), List.mem_of_getElem? (i := 800) (by decide +kernel), List.mem_of_getElem? (i := 801) (by decide +kernel)⟩
theorem lw_p20 : lw_okq (⟨"LoopCapturesModel", "targets", "([II)J"⟩, 17) := ⟨⟨by decide +kernel, by decide +kernel⟩, List.mem_of_getElem? (i := 689) (by decide +kernel), List.mem_of_getElem? (i := 807) (by decide +kernel), List.mem_of_getElem? (i := 808) (by decide +kernel)⟩
theorem lw_p21 : lw_okq (⟨"LoopCapturesModel", "goes", "([IIIZ)I"⟩, 17) := ⟨⟨by decide +kernel, by decide +kernel⟩, List.mem_of_getElem? (i := 689) (by decide +kernel), List.mem_of_getElem? (i := 814) (by decide +kernel), List.mem_of_getElem? (i := 815) (by decide +kernel)⟩
theorem lw_p22 : lw_okq (⟨"LoopCapturesModel", "bestOf", "(I)I"⟩, 17) := ⟨⟨by decide +kernel, by decide +kernel⟩, List.mem_of_getElem? (i := 689) (by decide +kernel), List.mem_of_getElem? (i := 832) (by decide +kernel), List.mem_of_getElem? (i := 833) (by decide +kernel)⟩
theorem lw_p23 : lw_okq (⟨"LoopCapturesModel", "ends", "([IIZ)J"⟩, 17) := ⟨⟨by decide +kernel, by decide +kernel⟩, List.mem_of_getElem? (i := 689) (by decide +kernel), List.mem_of_getElem? (i := 839) (by decide +kernel), List.mem_of_getElem? (i := 840) (by decide +kernel)⟩
theorem lw_p24 : lw_okq (⟨"LoopCapturesModel", "deep", "([I)I"⟩, 17) := ⟨⟨by decide +kernel, by decide +kernel⟩, List.mem_of_getElem? (i := 689) (by decide +kernel), List.mem_of_getElem? (i := 843) (by decide +kernel), List.mem_of_getElem? (i := 844) (by decide +kernel)⟩
theorem lw_p25 : lw_okq (⟨"LoopCapturesModel", "isText", "()Z"⟩, 17) := ⟨⟨by decide +kernel, by decide +kernel⟩, List.mem_of_getElem? (i := 689) (by decide +kernel), List.mem_of_getElem? (i := 875) (by decide +kernel), List.mem_of_getElem? (i := 876) (by decide +kernel)⟩
theorem lw_p26 : lw_okq (⟨"LoopCapturesModel", "toldPoint", "(I)I"⟩, 17) := ⟨⟨by decide +kernel, by decide +kernel⟩, List.mem_of_getElem? (i := 689) (by decide +kernel), List.mem_of_getElem? (i := 882) (by decide +kernel), List.mem_of_getElem? (i := 883) (by decide +kernel)⟩
theorem lw_p27 : lw_okq (⟨"LoopCapturesModel", "captors", "([III)I"⟩, 17) := ⟨⟨by decide +kernel, by decide +kernel⟩, List.mem_of_getElem? (i := 689) (by decide +kernel), List.mem_of_getElem? (i := 894) (by decide +kernel), List.mem_of_getElem? (i := 895) (by decide +kernel)⟩
theorem lw_p28 : lw_okq (⟨"LoopCapturesModel", "covered", "(I)I"⟩, 17) := ⟨⟨by decide +kernel, by decide +kernel⟩, List.mem_of_getElem? (i := 689) (by decide +kernel), List.mem_of_getElem? (i := 898) (by decide +kernel), List.mem_of_getElem? (i := 899) (by decide +kernel)⟩
theorem lw_p29 : lw_okq (⟨"LoopCapturesModel", "quietOnes", "(I)I"⟩, 17) := ⟨⟨by decide +kernel, by decide +kernel⟩, List.mem_of_getElem? (i := 689) (by decide +kernel), List.mem_of_getElem? (i := 905) (by decide +kernel), List.mem_of_getElem? (i := 906) (by decide +kernel)⟩
theorem lw_p30 : lw_okq (⟨"LoopCapturesModel", "bestWay", "([III)I"⟩, 17) := ⟨⟨by decide +kernel, by decide +kernel⟩, List.mem_of_getElem? (i := 689) (by decide +kernel), List.mem_of_getElem? (i := 913) (by decide +kernel), List.mem_of_getElem? (i := 914) (by decide +kernel)⟩
theorem lw_p31 : lw_okq (⟨"LoopCapturesModel", "many", "(Z)I"⟩, 17) := ⟨⟨by decide +kernel, by decide +kernel⟩, List.mem_of_getElem? (i := 689) (by decide +kernel), List.mem_of_getElem? (i := 941) (by decide +kernel), List.mem_of_getElem? (i := 942) (by decide +kernel)⟩
def lw_privs_2 : List (MethodName × Nat) := [(⟨"LoopCapturesModel", "allPieces", "()I"⟩, 17), (⟨"LoopCapturesModel", "records", "()V"⟩, 17), (⟨"LoopCapturesModel", "moves", "(IIZ)I"⟩, 17), (⟨"LoopCapturesModel", "why", "([IIIZ)I"⟩, 17), (⟨"LoopCapturesModel", "targets", "([II)J"⟩, 17), (⟨"LoopCapturesModel", "goes", "([IIIZ)I"⟩, 17), (⟨"LoopCapturesModel", "bestOf", "(I)I"⟩, 17), (⟨"LoopCapturesModel", "ends", "([IIZ)J"⟩, 17), (⟨"LoopCapturesModel", "deep", "([I)I"⟩, 17), (⟨"LoopCapturesModel", "isText", "()Z"⟩, 17), (⟨"LoopCapturesModel", "toldPoint", "(I)I"⟩, 17), (⟨"LoopCapturesModel", "captors", "([III)I"⟩, 17), (⟨"LoopCapturesModel", "covered", "(I)I"⟩, 17), (⟨"LoopCapturesModel", "quietOnes", "(I)I"⟩, 17), (⟨"LoopCapturesModel", "bestWay", "([III)I"⟩, 17), (⟨"LoopCapturesModel", "many", "(Z)I"⟩, 17)]
theorem lw_r2 : ∀ q ∈ lw_privs_2, lw_okq q := List.forall_mem_cons.mpr ⟨lw_p16, List.forall_mem_cons.mpr ⟨lw_p17, List.forall_mem_cons.mpr ⟨lw_p18, List.forall_mem_cons.mpr ⟨lw_p19, List.forall_mem_cons.mpr ⟨lw_p20, List.forall_mem_cons.mpr ⟨lw_p21, List.forall_mem_cons.mpr ⟨lw_p22, List.forall_mem_cons.mpr ⟨lw_p23, List.forall_mem_cons.mpr ⟨lw_p24, List.forall_mem_cons.mpr ⟨lw_p25, List.forall_mem_cons.mpr ⟨lw_p26, List.forall_mem_cons.mpr ⟨lw_p27, List.forall_mem_cons.mpr ⟨lw_p28, List.forall_mem_cons.mpr ⟨lw_p29, List.forall_mem_cons.mpr ⟨lw_p30, List.forall_mem_cons.mpr ⟨lw_p31, fun _ h => absurd h List.not_mem_nil⟩⟩⟩⟩⟩⟩⟩⟩⟩⟩⟩⟩⟩⟩⟩⟩
theorem lw_p32 : lw_okq (⟨"LoopCapturesModel", "were", "()I"⟩, 17) := ⟨⟨by decide +kernel, by decide +kernel⟩, List.mem_of_getElem? (i := 689) (by decide +kernel), List.mem_of_getElem? (i := 945) (by decide +kernel), List.mem_of_getElem? (i := 946) (by decide +kernel)⟩
theorem lw_p33 : lw_okq (⟨"LoopCapturesModel", "threatened", "()I"⟩, 17) := ⟨⟨by decide +kernel, by decide +kernel⟩, List.mem_of_getElem? (i := 689) (by decide +kernel), List.mem_of_getElem? (i := 949) (by decide +kernel), List.mem_of_getElem? (i := 950) (by decide +kernel)⟩
def lw_privs_3 : List (MethodName × Nat) := [(⟨"LoopCapturesModel", "were", "()I"⟩, 17), (⟨"LoopCapturesModel", "threatened", "()I"⟩, 17)]
theorem lw_r3 : ∀ q ∈ lw_privs_3, lw_okq q := List.forall_mem_cons.mpr ⟨lw_p32, List.forall_mem_cons.mpr ⟨lw_p33, fun _ h => absurd h List.not_mem_nil⟩⟩
def lw_privs : List (MethodName × Nat) := lw_privs_1 ++ (lw_privs_2 ++ (lw_privs_3))
def lw_tbl : List Cond := k2_sels lw_privs ++ tables_1
theorem lw_privs_ok : ∀ q ∈ lw_privs, lw_okq q := by
  show ∀ q ∈ lw_privs_1 ++ (lw_privs_2 ++ (lw_privs_3)), lw_okq q
  exact List.forall_mem_append.mpr ⟨lw_r1, List.forall_mem_append.mpr ⟨lw_r2, lw_r3⟩⟩
end
section
/-! ===== BEGIN words of one list among another's, by their places ===== -/
theorem goodIn_r {big : List Cond} (ws : List Cond) (ps : List Nat) (hp : ws = ps.filterMap (fun i => big[i]?)) (h : ws.all goodWord = true) : GoodIn big ws := by
  intro w hw
  have h1 := List.all_eq_true.mp h w hw
  rw [hp] at hw
  obtain ⟨i, -, hi⟩ := List.mem_filterMap.mp hw
  have hm : w ∈ big := by first | exact List.mem_of_getElem? hi | exact List.getElem?_mem hi
  exact ⟨hm, good_of_word h1⟩
theorem goodIn_app {big a b : List Cond} (ha : GoodIn big a) (hb : GoodIn big b) : GoodIn big (a ++ b) := fun w h => (List.mem_append.mp h).elim (ha w) (hb w)
theorem goodIn_ca {big a b : List Cond} {c : Cond} (ha : GoodIn big (c :: a)) (hb : GoodIn big b) : GoodIn big (c :: (a ++ b)) := fun w h => (List.mem_cons.mp h).elim (fun e => ha w (List.mem_cons.mpr (Or.inl e))) (fun h => (List.mem_append.mp h).elim (fun h => ha w (List.mem_cons.mpr (Or.inr h))) (hb w))
theorem goodIn_sub {big ws : List Cond} (hm : ∀ w ∈ ws, w ∈ big) (h : ws.all goodWord = true) : GoodIn big ws := fun w hw => ⟨hm w hw, good_of_word (List.all_eq_true.mp h w hw)⟩
/-! ===== END ===== -/

/-! ===== BEGIN printed: names, fields, word lists, decode rows ===== -/
def RX0 : String := "LoopCaptures$Board"
def TX0 : u_T := fun k => match k with
  | 0 => ("LoopCaptures$Board", "stands", "[I", true)
  | 1 => ("LoopCaptures$Board", "ones", "I", false)
  | 2 => ("LoopCaptures$Board", "twos", "I", false)
  | 3 => ("LoopCaptures$Board", "side", "I", false)
  | 4 => ("LoopCaptures$Board", "quiet", "I", false)
  | _ => ("LoopCaptures$Board", "limit", "I", false)
def tyX0 : Nat → FieldType := fun k => match k with
  | 0 => .array .int
  | 1 => .int
  | 2 => .int
  | 3 => .int
  | 4 => .int
  | _ => .int
abbrev wsX00 : List Cond := u_ws RX0 TX0 6
theorem nmX0 : ∀ a, a < 6 → ∀ b, b < 6 → a ≠ b → (TX0 a).2.1 ≠ (TX0 b).2.1 := by decide +kernel
theorem tyX0_ok : ∀ k, k < 6 → parseFieldDescriptor (TX0 k).2.2.1 = some (tyX0 k) := by decide +kernel
abbrev cX0_init : ByteArray := prog_2_method_1_code
def yX0_init : MethodName := ⟨RX0, "<init>", "()V"⟩
abbrev cX0_startAnew : ByteArray := prog_2_method_2_code
def yX0_startAnew : MethodName := ⟨RX0, "startAnew", "()V"⟩
abbrev cX0_firstSideAt : ByteArray := prog_2_method_3_code
def yX0_firstSideAt : MethodName := ⟨RX0, "firstSideAt", "(I)I"⟩
abbrev cX0_copyFrom : ByteArray := prog_2_method_4_code
def yX0_copyFrom : MethodName := ⟨RX0, "copyFrom", "(LLoopCaptures$Board;)V"⟩
abbrev cX0_at : ByteArray := prog_2_method_5_code
def yX0_at : MethodName := ⟨RX0, "at", "(I)I"⟩
abbrev cX0_put : ByteArray := prog_2_method_6_code
def yX0_put : MethodName := ⟨RX0, "put", "(II)V"⟩
abbrev cX0_tally : ByteArray := prog_2_method_7_code
def yX0_tally : MethodName := ⟨RX0, "tally", "(II)V"⟩
abbrev cX0_piecesOf : ByteArray := prog_2_method_8_code
def yX0_piecesOf : MethodName := ⟨RX0, "piecesOf", "(I)I"⟩
abbrev cX0_allPieces : ByteArray := prog_2_method_9_code
def yX0_allPieces : MethodName := ⟨RX0, "allPieces", "()I"⟩
abbrev cX0_sideToMove : ByteArray := prog_2_method_10_code
def yX0_sideToMove : MethodName := ⟨RX0, "sideToMove", "()I"⟩
abbrev cX0_quietMoves : ByteArray := prog_2_method_11_code
def yX0_quietMoves : MethodName := ⟨RX0, "quietMoves", "()I"⟩
abbrev cX0_limit : ByteArray := prog_2_method_12_code
def yX0_limit : MethodName := ⟨RX0, "limit", "()I"⟩
abbrev cX0_changeLimit : ByteArray := prog_2_method_13_code
def yX0_changeLimit : MethodName := ⟨RX0, "changeLimit", "(I)V"⟩
abbrev cX0_forgetQuietMoves : ByteArray := prog_2_method_14_code
def yX0_forgetQuietMoves : MethodName := ⟨RX0, "forgetQuietMoves", "()V"⟩
abbrev cX0_changeSide : ByteArray := prog_2_method_15_code
def yX0_changeSide : MethodName := ⟨RX0, "changeSide", "()V"⟩
abbrev cX0_result : ByteArray := prog_2_method_16_code
def yX0_result : MethodName := ⟨RX0, "result", "()I"⟩
abbrev cX0_worth : ByteArray := prog_2_method_17_code
def yX0_worth : MethodName := ⟨RX0, "worth", "()I"⟩
abbrev cX0_make : ByteArray := prog_2_method_18_code
def yX0_make : MethodName := ⟨RX0, "make", "(II)I"⟩
abbrev cX0_takeBack : ByteArray := prog_2_method_19_code
def yX0_takeBack : MethodName := ⟨RX0, "takeBack", "(IIII)V"⟩
abbrev cX0_key : ByteArray := prog_2_method_20_code
def yX0_key : MethodName := ⟨RX0, "key", "()J"⟩
def RX1 : String := "LoopCaptures$Circuits"
def TX1 : u_T := fun k => match k with
  | 0 => ("LoopCaptures$Circuits", "points", "[I", true)
  | _ => ("LoopCaptures$Circuits", "spots", "[I", true)
def tyX1 : Nat → FieldType := fun k => match k with
  | 0 => .array .int
  | _ => .array .int
abbrev wsX10 : List Cond := u_ws RX1 TX1 2
theorem nmX1 : ∀ a, a < 2 → ∀ b, b < 2 → a ≠ b → (TX1 a).2.1 ≠ (TX1 b).2.1 := by decide +kernel
theorem tyX1_ok : ∀ k, k < 2 → parseFieldDescriptor (TX1 k).2.2.1 = some (tyX1 k) := by decide +kernel
abbrev cX1_init : ByteArray := prog_3_method_1_code
def yX1_init : MethodName := ⟨RX1, "<init>", "()V"⟩
abbrev cX1_layOut : ByteArray := prog_3_method_2_code
def yX1_layOut : MethodName := ⟨RX1, "layOut", "(I)V"⟩
abbrev cX1_put : ByteArray := prog_3_method_3_code
def yX1_put : MethodName := ⟨RX1, "put", "(III)V"⟩
abbrev cX1_addSpot : ByteArray := prog_3_method_4_code
def yX1_addSpot : MethodName := ⟨RX1, "addSpot", "(II)V"⟩
abbrev cX1_pointAt : ByteArray := prog_3_method_5_code
def yX1_pointAt : MethodName := ⟨RX1, "pointAt", "(I)I"⟩
abbrev cX1_spotOf : ByteArray := prog_3_method_6_code
def yX1_spotOf : MethodName := ⟨RX1, "spotOf", "(II)I"⟩
def RX2 : String := "LoopCaptures$History"
def TX2 : u_T := fun k => match k with
  | 0 => ("LoopCaptures$History", "states", "[LLoopCaptures$State;", true)
  | _ => ("LoopCaptures$History", "size", "I", false)
def tyX2 : Nat → FieldType := fun k => match k with
  | 0 => .array (.object "LoopCaptures$State")
  | _ => .int
abbrev wsX20 : List Cond := u_ws RX2 TX2 2
theorem nmX2 : ∀ a, a < 2 → ∀ b, b < 2 → a ≠ b → (TX2 a).2.1 ≠ (TX2 b).2.1 := by decide +kernel
theorem tyX2_ok : ∀ k, k < 2 → parseFieldDescriptor (TX2 k).2.2.1 = some (tyX2 k) := by decide +kernel
abbrev cX2_init : ByteArray := prog_4_method_1_code
def yX2_init : MethodName := ⟨RX2, "<init>", "()V"⟩
abbrev cX2_size : ByteArray := prog_4_method_2_code
def yX2_size : MethodName := ⟨RX2, "size", "()I"⟩
abbrev cX2_push : ByteArray := prog_4_method_3_code
def yX2_push : MethodName := ⟨RX2, "push", "(LLoopCaptures$State;)V"⟩
abbrev cX2_dropOldest : ByteArray := prog_4_method_4_code
def yX2_dropOldest : MethodName := ⟨RX2, "dropOldest", "()V"⟩
abbrev cX2_takeLatest : ByteArray := prog_4_method_5_code
def yX2_takeLatest : MethodName := ⟨RX2, "takeLatest", "(LLoopCaptures$State;)V"⟩
def RX3 : String := "LoopCaptures$Lookahead"
def TX3 : u_T := fun k => match k with
  | 0 => ("LoopCaptures$Lookahead", "rules", "LLoopCaptures$Rules;", true)
  | 1 => ("LoopCaptures$Lookahead", "board", "LLoopCaptures$Board;", true)
  | 2 => ("LoopCaptures$Lookahead", "movesAtOne", "LLoopCaptures$MoveList;", true)
  | 3 => ("LoopCaptures$Lookahead", "movesAtTwo", "LLoopCaptures$MoveList;", true)
  | _ => ("LoopCaptures$Lookahead", "chosen", "I", false)
def tyX3 : Nat → FieldType := fun k => match k with
  | 0 => .object "LoopCaptures$Rules"
  | 1 => .object "LoopCaptures$Board"
  | 2 => .object "LoopCaptures$MoveList"
  | 3 => .object "LoopCaptures$MoveList"
  | _ => .int
abbrev wsX30 : List Cond := u_ws RX3 TX3 5
theorem nmX3 : ∀ a, a < 5 → ∀ b, b < 5 → a ≠ b → (TX3 a).2.1 ≠ (TX3 b).2.1 := by decide +kernel
theorem tyX3_ok : ∀ k, k < 5 → parseFieldDescriptor (TX3 k).2.2.1 = some (tyX3 k) := by decide +kernel
abbrev cX3_init : ByteArray := prog_5_method_1_code
def yX3_init : MethodName := ⟨RX3, "<init>", "(LLoopCaptures$Rules;)V"⟩
abbrev cX3_worthAhead : ByteArray := prog_5_method_2_code
def yX3_worthAhead : MethodName := ⟨RX3, "worthAhead", "(LLoopCaptures$Board;I)I"⟩
abbrev cX3_bestMove : ByteArray := prog_5_method_3_code
def yX3_bestMove : MethodName := ⟨RX3, "bestMove", "(LLoopCaptures$Board;I)I"⟩
abbrev cX3_search : ByteArray := prog_5_method_4_code
def yX3_search : MethodName := ⟨RX3, "search", "(I)I"⟩
def RX4 : String := "LoopCaptures$MoveList"
def TX4 : u_T := fun k => match k with
  | 0 => ("LoopCaptures$MoveList", "moves", "[I", true)
  | 1 => ("LoopCaptures$MoveList", "size", "I", false)
  | _ => ("LoopCaptures$MoveList", "captures", "I", false)
def tyX4 : Nat → FieldType := fun k => match k with
  | 0 => .array .int
  | 1 => .int
  | _ => .int
abbrev wsX40 : List Cond := u_ws RX4 TX4 3
theorem nmX4 : ∀ a, a < 3 → ∀ b, b < 3 → a ≠ b → (TX4 a).2.1 ≠ (TX4 b).2.1 := by decide +kernel
theorem tyX4_ok : ∀ k, k < 3 → parseFieldDescriptor (TX4 k).2.2.1 = some (tyX4 k) := by decide +kernel
abbrev cX4_init : ByteArray := prog_6_method_1_code
def yX4_init : MethodName := ⟨RX4, "<init>", "()V"⟩
abbrev cX4_clear : ByteArray := prog_6_method_2_code
def yX4_clear : MethodName := ⟨RX4, "clear", "()V"⟩
abbrev cX4_size : ByteArray := prog_6_method_3_code
def yX4_size : MethodName := ⟨RX4, "size", "()I"⟩
abbrev cX4_captures : ByteArray := prog_6_method_4_code
def yX4_captures : MethodName := ⟨RX4, "captures", "()I"⟩
abbrev cX4_get : ByteArray := prog_6_method_5_code
def yX4_get : MethodName := ⟨RX4, "get", "(I)I"⟩
abbrev cX4_addQuiet : ByteArray := prog_6_method_6_code
def yX4_addQuiet : MethodName := ⟨RX4, "addQuiet", "(I)V"⟩
abbrev cX4_addCapture : ByteArray := prog_6_method_7_code
def yX4_addCapture : MethodName := ⟨RX4, "addCapture", "(I)V"⟩
def RX5 : String := "LoopCaptures$MoveText"
def TX5 : u_T := fun k => match k with
  | 0 => ("LoopCaptures$MoveText", "characters", "[C", true)
  | _ => ("LoopCaptures$MoveText", "length", "I", false)
def tyX5 : Nat → FieldType := fun k => match k with
  | 0 => .array .char
  | _ => .int
abbrev wsX50 : List Cond := u_ws RX5 TX5 2
theorem nmX5 : ∀ a, a < 2 → ∀ b, b < 2 → a ≠ b → (TX5 a).2.1 ≠ (TX5 b).2.1 := by decide +kernel
theorem tyX5_ok : ∀ k, k < 2 → parseFieldDescriptor (TX5 k).2.2.1 = some (tyX5 k) := by decide +kernel
abbrev cX5_init : ByteArray := prog_7_method_1_code
def yX5_init : MethodName := ⟨RX5, "<init>", "()V"⟩
abbrev cX5_length : ByteArray := prog_7_method_2_code
def yX5_length : MethodName := ⟨RX5, "length", "()I"⟩
abbrev cX5_empty : ByteArray := prog_7_method_3_code
def yX5_empty : MethodName := ⟨RX5, "empty", "()V"⟩
abbrev cX5_append : ByteArray := prog_7_method_4_code
def yX5_append : MethodName := ⟨RX5, "append", "(C)Z"⟩
abbrev cX5_fault : ByteArray := prog_7_method_5_code
def yX5_fault : MethodName := ⟨RX5, "fault", "()I"⟩
abbrev cX5_isAllowed : ByteArray := prog_7_method_6_code
def yX5_isAllowed : MethodName := ⟨RX5, "isAllowed", "(CI)Z"⟩
abbrev cX5_moves : ByteArray := prog_7_method_7_code
def yX5_moves : MethodName := ⟨RX5, "moves", "()I"⟩
abbrev cX5_fromOf : ByteArray := prog_7_method_8_code
def yX5_fromOf : MethodName := ⟨RX5, "fromOf", "(I)I"⟩
abbrev cX5_toOf : ByteArray := prog_7_method_9_code
def yX5_toOf : MethodName := ⟨RX5, "toOf", "(I)I"⟩
abbrev cX5_isCapture : ByteArray := prog_7_method_10_code
def yX5_isCapture : MethodName := ⟨RX5, "isCapture", "(I)Z"⟩
abbrev cX5_pointAt : ByteArray := prog_7_method_11_code
def yX5_pointAt : MethodName := ⟨RX5, "pointAt", "(I)I"⟩
abbrev cX5_at : ByteArray := prog_7_method_12_code
def yX5_at : MethodName := ⟨RX5, "at", "(I)C"⟩
def RX6 : String := "LoopCaptures$Rules"
def TX6 : u_T := fun k => match k with
  | 0 => ("LoopCaptures$Rules", "circuits", "LLoopCaptures$Circuits;", true)
  | 1 => ("LoopCaptures$Rules", "walk", "LLoopCaptures$Walk;", true)
  | _ => ("LoopCaptures$Rules", "way", "LLoopCaptures$Way;", true)
def tyX6 : Nat → FieldType := fun k => match k with
  | 0 => .object "LoopCaptures$Circuits"
  | 1 => .object "LoopCaptures$Walk"
  | _ => .object "LoopCaptures$Way"
abbrev wsX60 : List Cond := u_ws RX6 TX6 3
theorem nmX6 : ∀ a, a < 3 → ∀ b, b < 3 → a ≠ b → (TX6 a).2.1 ≠ (TX6 b).2.1 := by decide +kernel
theorem tyX6_ok : ∀ k, k < 3 → parseFieldDescriptor (TX6 k).2.2.1 = some (tyX6 k) := by decide +kernel
abbrev cX6_init : ByteArray := prog_8_method_1_code
def yX6_init : MethodName := ⟨RX6, "<init>", "(LLoopCaptures$Circuits;LLoopCaptures$Way;)V"⟩
abbrev cX6_whyNot : ByteArray := prog_8_method_2_code
def yX6_whyNot : MethodName := ⟨RX6, "whyNot", "(LLoopCaptures$Board;IIZ)I"⟩
abbrev cX6_couldCapture : ByteArray := prog_8_method_3_code
def yX6_couldCapture : MethodName := ⟨RX6, "couldCapture", "(LLoopCaptures$Board;II)Z"⟩
abbrev cX6_areOfTwoSides : ByteArray := prog_8_method_4_code
def yX6_areOfTwoSides : MethodName := ⟨RX6, "areOfTwoSides", "(II)Z"⟩
abbrev cX6_couldStep : ByteArray := prog_8_method_5_code
def yX6_couldStep : MethodName := ⟨RX6, "couldStep", "(LLoopCaptures$Board;II)Z"⟩
abbrev cX6_threatsTo : ByteArray := prog_8_method_6_code
def yX6_threatsTo : MethodName := ⟨RX6, "threatsTo", "(LLoopCaptures$Board;I)I"⟩
abbrev cX6_coversOf : ByteArray := prog_8_method_7_code
def yX6_coversOf : MethodName := ⟨RX6, "coversOf", "(LLoopCaptures$Board;I)I"⟩
abbrev cX6_capturesFrom : ByteArray := prog_8_method_8_code
def yX6_capturesFrom : MethodName := ⟨RX6, "capturesFrom", "(LLoopCaptures$Board;I)I"⟩
abbrev cX6_quietMovesFrom : ByteArray := prog_8_method_9_code
def yX6_quietMovesFrom : MethodName := ⟨RX6, "quietMovesFrom", "(LLoopCaptures$Board;I)I"⟩
abbrev cX6_threatened : ByteArray := prog_8_method_10_code
def yX6_threatened : MethodName := ⟨RX6, "threatened", "(LLoopCaptures$Board;)I"⟩
abbrev cX6_listMoves : ByteArray := prog_8_method_11_code
def yX6_listMoves : MethodName := ⟨RX6, "listMoves", "(LLoopCaptures$Board;LLoopCaptures$MoveList;)V"⟩
abbrev cX6_listCaptures : ByteArray := prog_8_method_12_code
def yX6_listCaptures : MethodName := ⟨RX6, "listCaptures", "(LLoopCaptures$Board;ILLoopCaptures$MoveList;)V"⟩
abbrev cX6_listQuietMoves : ByteArray := prog_8_method_13_code
def yX6_listQuietMoves : MethodName := ⟨RX6, "listQuietMoves", "(LLoopCaptures$Board;ILLoopCaptures$MoveList;)V"⟩
def RX7 : String := "LoopCaptures$State"
def TX7 : u_T := fun k => match k with
  | 0 => ("LoopCaptures$State", "board", "LLoopCaptures$Board;", true)
  | 1 => ("LoopCaptures$State", "moves", "I", false)
  | 2 => ("LoopCaptures$State", "captures", "I", false)
  | 3 => ("LoopCaptures$State", "seen", "[J", true)
  | _ => ("LoopCaptures$State", "seenCount", "I", false)
def tyX7 : Nat → FieldType := fun k => match k with
  | 0 => .object "LoopCaptures$Board"
  | 1 => .int
  | 2 => .int
  | 3 => .array .long
  | _ => .int
abbrev wsX70 : List Cond := u_ws RX7 TX7 5
theorem nmX7 : ∀ a, a < 5 → ∀ b, b < 5 → a ≠ b → (TX7 a).2.1 ≠ (TX7 b).2.1 := by decide +kernel
theorem tyX7_ok : ∀ k, k < 5 → parseFieldDescriptor (TX7 k).2.2.1 = some (tyX7 k) := by decide +kernel
abbrev cX7_init : ByteArray := prog_9_method_1_code
def yX7_init : MethodName := ⟨RX7, "<init>", "()V"⟩
abbrev cX7_startAnew : ByteArray := prog_9_method_2_code
def yX7_startAnew : MethodName := ⟨RX7, "startAnew", "()V"⟩
abbrev cX7_makeMove : ByteArray := prog_9_method_3_code
def yX7_makeMove : MethodName := ⟨RX7, "makeMove", "(II)V"⟩
abbrev cX7_place : ByteArray := prog_9_method_4_code
def yX7_place : MethodName := ⟨RX7, "place", "(II)V"⟩
abbrev cX7_changeSide : ByteArray := prog_9_method_5_code
def yX7_changeSide : MethodName := ⟨RX7, "changeSide", "()V"⟩
abbrev cX7_forgetPositions : ByteArray := prog_9_method_6_code
def yX7_forgetPositions : MethodName := ⟨RX7, "forgetPositions", "()V"⟩
abbrev cX7_remember : ByteArray := prog_9_method_7_code
def yX7_remember : MethodName := ⟨RX7, "remember", "()V"⟩
abbrev cX7_timesSeen : ByteArray := prog_9_method_8_code
def yX7_timesSeen : MethodName := ⟨RX7, "timesSeen", "()I"⟩
abbrev cX7_copyFrom : ByteArray := prog_9_method_9_code
def yX7_copyFrom : MethodName := ⟨RX7, "copyFrom", "(LLoopCaptures$State;)V"⟩
def RX8 : String := "LoopCaptures$Walk"
def TX8 : u_T := fun k => match k with
  | 0 => ("LoopCaptures$Walk", "circuits", "LLoopCaptures$Circuits;", true)
  | 1 => ("LoopCaptures$Walk", "met", "I", false)
  | 2 => ("LoopCaptures$Walk", "loops", "I", false)
  | _ => ("LoopCaptures$Walk", "steps", "I", false)
def tyX8 : Nat → FieldType := fun k => match k with
  | 0 => .object "LoopCaptures$Circuits"
  | 1 => .int
  | 2 => .int
  | _ => .int
abbrev wsX80 : List Cond := u_ws RX8 TX8 4
theorem nmX8 : ∀ a, a < 4 → ∀ b, b < 4 → a ≠ b → (TX8 a).2.1 ≠ (TX8 b).2.1 := by decide +kernel
theorem tyX8_ok : ∀ k, k < 4 → parseFieldDescriptor (TX8 k).2.2.1 = some (tyX8 k) := by decide +kernel
abbrev cX8_init : ByteArray := prog_10_method_1_code
def yX8_init : MethodName := ⟨RX8, "<init>", "(LLoopCaptures$Circuits;)V"⟩
abbrev cX8_go : ByteArray := prog_10_method_2_code
def yX8_go : MethodName := ⟨RX8, "go", "(LLoopCaptures$Board;II)V"⟩
abbrev cX8_wentOverLoopTo : ByteArray := prog_10_method_3_code
def yX8_wentOverLoopTo : MethodName := ⟨RX8, "wentOverLoopTo", "(I)Z"⟩
def RX9 : String := "LoopCaptures$Way"
def TX9 : u_T := fun k => match k with
  | 0 => ("LoopCaptures$Way", "circuits", "LLoopCaptures$Circuits;", true)
  | 1 => ("LoopCaptures$Way", "walk", "LLoopCaptures$Walk;", true)
  | 2 => ("LoopCaptures$Way", "loops", "I", false)
  | 3 => ("LoopCaptures$Way", "steps", "I", false)
  | 4 => ("LoopCaptures$Way", "spot", "I", false)
  | _ => ("LoopCaptures$Way", "direction", "I", false)
def tyX9 : Nat → FieldType := fun k => match k with
  | 0 => .object "LoopCaptures$Circuits"
  | 1 => .object "LoopCaptures$Walk"
  | 2 => .int
  | 3 => .int
  | 4 => .int
  | _ => .int
abbrev wsX90 : List Cond := u_ws RX9 TX9 6
theorem nmX9 : ∀ a, a < 6 → ∀ b, b < 6 → a ≠ b → (TX9 a).2.1 ≠ (TX9 b).2.1 := by decide +kernel
theorem tyX9_ok : ∀ k, k < 6 → parseFieldDescriptor (TX9 k).2.2.1 = some (tyX9 k) := by decide +kernel
abbrev cX9_init : ByteArray := prog_11_method_1_code
def yX9_init : MethodName := ⟨RX9, "<init>", "(LLoopCaptures$Circuits;)V"⟩
abbrev cX9_find : ByteArray := prog_11_method_2_code
def yX9_find : MethodName := ⟨RX9, "find", "(LLoopCaptures$Board;II)Z"⟩
abbrev cX9_tryFrom : ByteArray := prog_11_method_3_code
def yX9_tryFrom : MethodName := ⟨RX9, "tryFrom", "(LLoopCaptures$Board;III)V"⟩
abbrev cX9_walkIsShorter : ByteArray := prog_11_method_4_code
def yX9_walkIsShorter : MethodName := ⟨RX9, "walkIsShorter", "()Z"⟩
def RX10 : String := "LoopCaptures"
def TX10 : u_T := fun k => match k with
  | 0 => ("LoopCaptures", "circuits", "LLoopCaptures$Circuits;", true)
  | 1 => ("LoopCaptures", "foundWay", "LLoopCaptures$Way;", true)
  | 2 => ("LoopCaptures", "rules", "LLoopCaptures$Rules;", true)
  | 3 => ("LoopCaptures", "moveList", "LLoopCaptures$MoveList;", true)
  | 4 => ("LoopCaptures", "lookahead", "LLoopCaptures$Lookahead;", true)
  | 5 => ("LoopCaptures", "now", "LLoopCaptures$State;", true)
  | 6 => ("LoopCaptures", "before", "LLoopCaptures$State;", true)
  | 7 => ("LoopCaptures", "snapshot", "LLoopCaptures$State;", true)
  | 8 => ("LoopCaptures", "history", "LLoopCaptures$History;", true)
  | 9 => ("LoopCaptures", "text", "LLoopCaptures$MoveText;", true)
  | 10 => ("LoopCaptures", "hasSnapshot", "Z", false)
  | 11 => ("LoopCaptures", "hasStopped", "Z", false)
  | 12 => ("LoopCaptures", "stopNumber", "I", false)
  | _ => ("LoopCaptures", "stopReason", "I", false)
def tyX10 : Nat → FieldType := fun k => match k with
  | 0 => .object "LoopCaptures$Circuits"
  | 1 => .object "LoopCaptures$Way"
  | 2 => .object "LoopCaptures$Rules"
  | 3 => .object "LoopCaptures$MoveList"
  | 4 => .object "LoopCaptures$Lookahead"
  | 5 => .object "LoopCaptures$State"
  | 6 => .object "LoopCaptures$State"
  | 7 => .object "LoopCaptures$State"
  | 8 => .object "LoopCaptures$History"
  | 9 => .object "LoopCaptures$MoveText"
  | 10 => .boolean
  | 11 => .boolean
  | 12 => .int
  | _ => .int
abbrev wsX100 : List Cond := u_ws RX10 TX10 14
theorem nmX10 : ∀ a, a < 14 → ∀ b, b < 14 → a ≠ b → (TX10 a).2.1 ≠ (TX10 b).2.1 := by decide +kernel
theorem tyX10_ok : ∀ k, k < 14 → parseFieldDescriptor (TX10 k).2.2.1 = some (tyX10 k) := by decide +kernel
abbrev cX10_init : ByteArray := prog_1_method_1_code
def yX10_init : MethodName := ⟨RX10, "<init>", "()V"⟩
abbrev cX10_move : ByteArray := prog_1_method_2_code
def yX10_move : MethodName := ⟨RX10, "move", "(II)I"⟩
abbrev cX10_capture : ByteArray := prog_1_method_3_code
def yX10_capture : MethodName := ⟨RX10, "capture", "(II)I"⟩
abbrev cX10_play : ByteArray := prog_1_method_4_code
def yX10_play : MethodName := ⟨RX10, "play", "(I)I"⟩
abbrev cX10_setUp : ByteArray := prog_1_method_5_code
def yX10_setUp : MethodName := ⟨RX10, "setUp", "(II)I"⟩
abbrev cX10_turn : ByteArray := prog_1_method_6_code
def yX10_turn : MethodName := ⟨RX10, "turn", "()I"⟩
abbrev cX10_begin : ByteArray := prog_1_method_7_code
def yX10_begin : MethodName := ⟨RX10, "begin", "()I"⟩
abbrev cX10_setLimit : ByteArray := prog_1_method_8_code
def yX10_setLimit : MethodName := ⟨RX10, "setLimit", "(I)I"⟩
abbrev cX10_type : ByteArray := prog_1_method_9_code
def yX10_type : MethodName := ⟨RX10, "type", "(C)I"⟩
abbrev cX10_clearText : ByteArray := prog_1_method_10_code
def yX10_clearText : MethodName := ⟨RX10, "clearText", "()I"⟩
abbrev cX10_perform : ByteArray := prog_1_method_11_code
def yX10_perform : MethodName := ⟨RX10, "perform", "()I"⟩
abbrev cX10_stopped : ByteArray := prog_1_method_12_code
def yX10_stopped : MethodName := ⟨RX10, "stopped", "(I)I"⟩
abbrev cX10_undo : ByteArray := prog_1_method_13_code
def yX10_undo : MethodName := ⟨RX10, "undo", "()I"⟩
abbrev cX10_keep : ByteArray := prog_1_method_14_code
def yX10_keep : MethodName := ⟨RX10, "keep", "()I"⟩
abbrev cX10_restore : ByteArray := prog_1_method_15_code
def yX10_restore : MethodName := ⟨RX10, "restore", "()I"⟩
abbrev cX10_point : ByteArray := prog_1_method_16_code
def yX10_point : MethodName := ⟨RX10, "point", "(II)I"⟩
abbrev cX10_way : ByteArray := prog_1_method_17_code
def yX10_way : MethodName := ⟨RX10, "way", "(III)I"⟩
abbrev cX10_circuit : ByteArray := prog_1_method_18_code
def yX10_circuit : MethodName := ⟨RX10, "circuit", "(II)I"⟩
abbrev cX10_reason : ByteArray := prog_1_method_19_code
def yX10_reason : MethodName := ⟨RX10, "reason", "(IIZ)I"⟩
abbrev cX10_possible : ByteArray := prog_1_method_20_code
def yX10_possible : MethodName := ⟨RX10, "possible", "(I)I"⟩
abbrev cX10_look : ByteArray := prog_1_method_21_code
def yX10_look : MethodName := ⟨RX10, "look", "(I)I"⟩
abbrev cX10_best : ByteArray := prog_1_method_22_code
def yX10_best : MethodName := ⟨RX10, "best", "(I)I"⟩
abbrev cX10_count : ByteArray := prog_1_method_23_code
def yX10_count : MethodName := ⟨RX10, "count", "(I)I"⟩
abbrev cX10_isPoint : ByteArray := prog_1_method_24_code
def yX10_isPoint : MethodName := ⟨RX10, "isPoint", "(I)Z"⟩
abbrev cX10_possibleMoves : ByteArray := prog_1_method_25_code
def yX10_possibleMoves : MethodName := ⟨RX10, "possibleMoves", "(Z)I"⟩
abbrev cX10_noteStop : ByteArray := prog_1_method_26_code
def yX10_noteStop : MethodName := ⟨RX10, "noteStop", "(II)V"⟩
def RX11 : String := "LoopCapturesModel"
def TX11 : u_T := fun k => match k with
  | 0 => ("LoopCapturesModel", "now", "[I", true)
  | 1 => ("LoopCapturesModel", "one", "[I", true)
  | 2 => ("LoopCapturesModel", "two", "[I", true)
  | 3 => ("LoopCapturesModel", "trial", "[I", true)
  | 4 => ("LoopCapturesModel", "past", "[I", true)
  | 5 => ("LoopCapturesModel", "kept", "I", false)
  | 6 => ("LoopCapturesModel", "snapshot", "[I", true)
  | 7 => ("LoopCapturesModel", "isFilled", "Z", false)
  | 8 => ("LoopCapturesModel", "text", "[I", true)
  | 9 => ("LoopCapturesModel", "typed", "I", false)
  | 10 => ("LoopCapturesModel", "at", "I", false)
  | 11 => ("LoopCapturesModel", "stop", "I", false)
  | 12 => ("LoopCapturesModel", "stopReason", "I", false)
  | 13 => ("LoopCapturesModel", "wayLoops", "I", false)
  | 14 => ("LoopCapturesModel", "wayPlaces", "I", false)
  | 15 => ("LoopCapturesModel", "wayNumber", "I", false)
  | _ => ("LoopCapturesModel", "bestWorth", "I", false)
def tyX11 : Nat → FieldType := fun k => match k with
  | 0 => .array .int
  | 1 => .array .int
  | 2 => .array .int
  | 3 => .array .int
  | 4 => .array .int
  | 5 => .int
  | 6 => .array .int
  | 7 => .boolean
  | 8 => .array .int
  | 9 => .int
  | 10 => .int
  | 11 => .int
  | 12 => .int
  | 13 => .int
  | 14 => .int
  | 15 => .int
  | _ => .int
abbrev wsX110 : List Cond := u_ws RX11 TX11 17
theorem nmX11 : ∀ a, a < 17 → ∀ b, b < 17 → a ≠ b → (TX11 a).2.1 ≠ (TX11 b).2.1 := by decide +kernel
theorem tyX11_ok : ∀ k, k < 17 → parseFieldDescriptor (TX11 k).2.2.1 = some (tyX11 k) := by decide +kernel
abbrev cX11_init : ByteArray := prog_13_method_1_code
def yX11_init : MethodName := ⟨RX11, "<init>", "()V"⟩
abbrev cX11_in : ByteArray := prog_13_method_3_code
def yX11_in : MethodName := ⟨RX11, "in", "(III)Z"⟩
abbrev cX11_isPoint : ByteArray := prog_13_method_4_code
def yX11_isPoint : MethodName := ⟨RX11, "isPoint", "(I)Z"⟩
abbrev cX11_copies : ByteArray := prog_13_method_5_code
def yX11_copies : MethodName := ⟨RX11, "copies", "([II[II)V"⟩
abbrev cX11_records : ByteArray := prog_13_method_6_code
def yX11_records : MethodName := ⟨RX11, "records", "()V"⟩
abbrev cX11_undo : ByteArray := prog_13_method_7_code
def yX11_undo : MethodName := ⟨RX11, "undo", "()I"⟩
abbrev cX11_pieces : ByteArray := prog_13_method_8_code
def yX11_pieces : MethodName := ⟨RX11, "pieces", "([II)I"⟩
abbrev cX11_allPieces : ByteArray := prog_13_method_9_code
def yX11_allPieces : MethodName := ⟨RX11, "allPieces", "()I"⟩
abbrev cX11_keep : ByteArray := prog_13_method_10_code
def yX11_keep : MethodName := ⟨RX11, "keep", "()I"⟩
abbrev cX11_restore : ByteArray := prog_13_method_11_code
def yX11_restore : MethodName := ⟨RX11, "restore", "()I"⟩
abbrev cX11_packed : ByteArray := prog_13_method_12_code
def yX11_packed : MethodName := ⟨RX11, "packed", "([II)I"⟩
abbrev cX11_notes : ByteArray := prog_13_method_13_code
def yX11_notes : MethodName := ⟨RX11, "notes", "([I)V"⟩
abbrev cX11_forgets : ByteArray := prog_13_method_14_code
def yX11_forgets : MethodName := ⟨RX11, "forgets", "([I)V"⟩
abbrev cX11_were : ByteArray := prog_13_method_15_code
def yX11_were : MethodName := ⟨RX11, "were", "()I"⟩
abbrev cX11_begins : ByteArray := prog_13_method_16_code
def yX11_begins : MethodName := ⟨RX11, "begins", "()V"⟩
abbrev cX11_pointAt : ByteArray := prog_13_method_17_code
def yX11_pointAt : MethodName := ⟨RX11, "pointAt", "(II)I"⟩
abbrev cX11_goes : ByteArray := prog_13_method_18_code
def yX11_goes : MethodName := ⟨RX11, "goes", "([IIIZ)I"⟩
abbrev cX11_bestWay : ByteArray := prog_13_method_19_code
def yX11_bestWay : MethodName := ⟨RX11, "bestWay", "([III)I"⟩
abbrev cX11_targets : ByteArray := prog_13_method_20_code
def yX11_targets : MethodName := ⟨RX11, "targets", "([II)J"⟩
abbrev cX11_isBeside : ByteArray := prog_13_method_21_code
def yX11_isBeside : MethodName := ⟨RX11, "isBeside", "(II)Z"⟩
abbrev cX11_result : ByteArray := prog_13_method_22_code
def yX11_result : MethodName := ⟨RX11, "result", "([I)I"⟩
abbrev cX11_why : ByteArray := prog_13_method_23_code
def yX11_why : MethodName := ⟨RX11, "why", "([IIIZ)I"⟩
abbrev cX11_makes : ByteArray := prog_13_method_24_code
def yX11_makes : MethodName := ⟨RX11, "makes", "([III)V"⟩
abbrev cX11_moves : ByteArray := prog_13_method_25_code
def yX11_moves : MethodName := ⟨RX11, "moves", "(IIZ)I"⟩
abbrev cX11_move : ByteArray := prog_13_method_26_code
def yX11_move : MethodName := ⟨RX11, "move", "(II)I"⟩
abbrev cX11_capture : ByteArray := prog_13_method_27_code
def yX11_capture : MethodName := ⟨RX11, "capture", "(II)I"⟩
abbrev cX11_ends : ByteArray := prog_13_method_28_code
def yX11_ends : MethodName := ⟨RX11, "ends", "([IIZ)J"⟩
abbrev cX11_worth : ByteArray := prog_13_method_29_code
def yX11_worth : MethodName := ⟨RX11, "worth", "([I)I"⟩
abbrev cX11_deep : ByteArray := prog_13_method_30_code
def yX11_deep : MethodName := ⟨RX11, "deep", "([I)I"⟩
abbrev cX11_bestOf : ByteArray := prog_13_method_31_code
def yX11_bestOf : MethodName := ⟨RX11, "bestOf", "(I)I"⟩
abbrev cX11_play : ByteArray := prog_13_method_32_code
def yX11_play : MethodName := ⟨RX11, "play", "(I)I"⟩
abbrev cX11_setUp : ByteArray := prog_13_method_33_code
def yX11_setUp : MethodName := ⟨RX11, "setUp", "(II)I"⟩
abbrev cX11_turn : ByteArray := prog_13_method_34_code
def yX11_turn : MethodName := ⟨RX11, "turn", "()I"⟩
abbrev cX11_begin : ByteArray := prog_13_method_35_code
def yX11_begin : MethodName := ⟨RX11, "begin", "()I"⟩
abbrev cX11_setLimit : ByteArray := prog_13_method_36_code
def yX11_setLimit : MethodName := ⟨RX11, "setLimit", "(I)I"⟩
abbrev cX11_type : ByteArray := prog_13_method_37_code
def yX11_type : MethodName := ⟨RX11, "type", "(C)I"⟩
abbrev cX11_clearText : ByteArray := prog_13_method_38_code
def yX11_clearText : MethodName := ⟨RX11, "clearText", "()I"⟩
abbrev cX11_isAllowed : ByteArray := prog_13_method_39_code
def yX11_isAllowed : MethodName := ⟨RX11, "isAllowed", "(II)Z"⟩
abbrev cX11_isText : ByteArray := prog_13_method_40_code
def yX11_isText : MethodName := ⟨RX11, "isText", "()Z"⟩
abbrev cX11_toldPoint : ByteArray := prog_13_method_41_code
def yX11_toldPoint : MethodName := ⟨RX11, "toldPoint", "(I)I"⟩
abbrev cX11_perform : ByteArray := prog_13_method_42_code
def yX11_perform : MethodName := ⟨RX11, "perform", "()I"⟩
abbrev cX11_stopped : ByteArray := prog_13_method_43_code
def yX11_stopped : MethodName := ⟨RX11, "stopped", "(I)I"⟩
abbrev cX11_captors : ByteArray := prog_13_method_44_code
def yX11_captors : MethodName := ⟨RX11, "captors", "([III)I"⟩
abbrev cX11_ones : ByteArray := prog_13_method_45_code
def yX11_ones : MethodName := ⟨RX11, "ones", "(J)I"⟩
abbrev cX11_covered : ByteArray := prog_13_method_46_code
def yX11_covered : MethodName := ⟨RX11, "covered", "(I)I"⟩
abbrev cX11_quietOnes : ByteArray := prog_13_method_47_code
def yX11_quietOnes : MethodName := ⟨RX11, "quietOnes", "(I)I"⟩
abbrev cX11_point : ByteArray := prog_13_method_48_code
def yX11_point : MethodName := ⟨RX11, "point", "(II)I"⟩
abbrev cX11_way : ByteArray := prog_13_method_49_code
def yX11_way : MethodName := ⟨RX11, "way", "(III)I"⟩
abbrev cX11_circuit : ByteArray := prog_13_method_50_code
def yX11_circuit : MethodName := ⟨RX11, "circuit", "(II)I"⟩
abbrev cX11_reason : ByteArray := prog_13_method_51_code
def yX11_reason : MethodName := ⟨RX11, "reason", "(IIZ)I"⟩
abbrev cX11_many : ByteArray := prog_13_method_52_code
def yX11_many : MethodName := ⟨RX11, "many", "(Z)I"⟩
abbrev cX11_possible : ByteArray := prog_13_method_53_code
def yX11_possible : MethodName := ⟨RX11, "possible", "(I)I"⟩
abbrev cX11_look : ByteArray := prog_13_method_54_code
def yX11_look : MethodName := ⟨RX11, "look", "(I)I"⟩
abbrev cX11_best : ByteArray := prog_13_method_55_code
def yX11_best : MethodName := ⟨RX11, "best", "(I)I"⟩
abbrev cX11_threatened : ByteArray := prog_13_method_56_code
def yX11_threatened : MethodName := ⟨RX11, "threatened", "()I"⟩
abbrev cX11_count : ByteArray := prog_13_method_57_code
def yX11_count : MethodName := ⟨RX11, "count", "(I)I"⟩
def RJ9 : String := "java/lang/Math"
def TJ9 : u_T := fun k => match k with
  | _ => ("", "", "", false)
def tyJ9 : Nat → FieldType := fun k => match k with
  | _ => .int
theorem nmJ9 : ∀ a, a < 0 → ∀ b, b < 0 → a ≠ b → (TJ9 a).2.1 ≠ (TJ9 b).2.1 := by decide +kernel
theorem tyJ9_ok : ∀ k, k < 0 → parseFieldDescriptor (TJ9 k).2.2.1 = some (tyJ9 k) := by decide +kernel
abbrev cJ9_abs_0f7a4 : ByteArray := prog_14_method_59_code
def yJ9_abs_0f7a4 : MethodName := ⟨RJ9, "abs", "(I)I"⟩
abbrev cJ9_max_7cf53 : ByteArray := prog_14_method_65_code
def yJ9_max_7cf53 : MethodName := ⟨RJ9, "max", "(II)I"⟩
abbrev cJ9_min_7cf53 : ByteArray := prog_14_method_69_code
def yJ9_min_7cf53 : MethodName := ⟨RJ9, "min", "(II)I"⟩
def RL : String := "LoopCapturesLaw"
abbrev cL_law : ByteArray := code
def yL_law : MethodName := ⟨RL, "law", "([I)Z"⟩
theorem dX0_init_0 : decode cX0_init 0 = .ok (.aload_n 0, 1) := by decide +kernel
theorem dX0_init_1 : decode cX0_init 1 = .ok (.invokespecial 3, 3) := by decide +kernel
theorem dX0_init_4 : decode cX0_init 4 = .ok (.aload_n 0, 1) := by decide +kernel
theorem dX0_init_5 : decode cX0_init 5 = .ok (.bipush 36, 2) := by decide +kernel
theorem dX0_init_7 : decode cX0_init 7 = .ok (.newarray .int, 2) := by decide +kernel
theorem dX0_init_9 : decode cX0_init 9 = .ok (.putfield 9, 3) := by decide +kernel
theorem dX0_init_12 : decode cX0_init 12 = .ok (.aload_n 0, 1) := by decide +kernel
theorem dX0_init_13 : decode cX0_init 13 = .ok (.bipush 20, 2) := by decide +kernel
theorem dX0_init_15 : decode cX0_init 15 = .ok (.putfield 15, 3) := by decide +kernel
theorem dX0_init_18 : decode cX0_init 18 = .ok (.aload_n 0, 1) := by decide +kernel
theorem dX0_init_19 : decode cX0_init 19 = .ok (.invokevirtual 19, 3) := by decide +kernel
theorem dX0_init_22 : decode cX0_init 22 = .ok (.return_, 1) := by decide +kernel
theorem dX0_startAnew_0 : decode cX0_startAnew 0 = .ok (.iconst 0, 1) := by decide +kernel
theorem dX0_startAnew_1 : decode cX0_startAnew 1 = .ok (.istore_n 1, 1) := by decide +kernel
theorem dX0_startAnew_2 : decode cX0_startAnew 2 = .ok (.iload_n 1, 1) := by decide +kernel
theorem dX0_startAnew_3 : decode cX0_startAnew 3 = .ok (.bipush 36, 2) := by decide +kernel
theorem dX0_startAnew_5 : decode cX0_startAnew 5 = .ok (.if_icmp .ge 18, 3) := by decide +kernel
theorem dX0_startAnew_8 : decode cX0_startAnew 8 = .ok (.aload_n 0, 1) := by decide +kernel
theorem dX0_startAnew_9 : decode cX0_startAnew 9 = .ok (.iload_n 1, 1) := by decide +kernel
theorem dX0_startAnew_10 : decode cX0_startAnew 10 = .ok (.iload_n 1, 1) := by decide +kernel
theorem dX0_startAnew_11 : decode cX0_startAnew 11 = .ok (.invokestatic 22, 3) := by decide +kernel
theorem dX0_startAnew_14 : decode cX0_startAnew 14 = .ok (.invokevirtual 26, 3) := by decide +kernel
theorem dX0_startAnew_17 : decode cX0_startAnew 17 = .ok (.iinc 1 1, 3) := by decide +kernel
theorem dX0_startAnew_20 : decode cX0_startAnew 20 = .ok (.goto (-18), 3) := by decide +kernel
theorem dX0_startAnew_23 : decode cX0_startAnew 23 = .ok (.aload_n 0, 1) := by decide +kernel
theorem dX0_startAnew_24 : decode cX0_startAnew 24 = .ok (.iconst 1, 1) := by decide +kernel
theorem dX0_startAnew_25 : decode cX0_startAnew 25 = .ok (.putfield 30, 3) := by decide +kernel
theorem dX0_startAnew_28 : decode cX0_startAnew 28 = .ok (.aload_n 0, 1) := by decide +kernel
theorem dX0_startAnew_29 : decode cX0_startAnew 29 = .ok (.iconst 0, 1) := by decide +kernel
theorem dX0_startAnew_30 : decode cX0_startAnew 30 = .ok (.putfield 33, 3) := by decide +kernel
theorem dX0_startAnew_33 : decode cX0_startAnew 33 = .ok (.return_, 1) := by decide +kernel
theorem dX0_firstSideAt_0 : decode cX0_firstSideAt 0 = .ok (.iload_n 0, 1) := by decide +kernel
theorem dX0_firstSideAt_1 : decode cX0_firstSideAt 1 = .ok (.bipush 12, 2) := by decide +kernel
theorem dX0_firstSideAt_3 : decode cX0_firstSideAt 3 = .ok (.if_icmp .ge 5, 3) := by decide +kernel
theorem dX0_firstSideAt_6 : decode cX0_firstSideAt 6 = .ok (.iconst 1, 1) := by decide +kernel
theorem dX0_firstSideAt_7 : decode cX0_firstSideAt 7 = .ok (.ireturn, 1) := by decide +kernel
theorem dX0_firstSideAt_8 : decode cX0_firstSideAt 8 = .ok (.iload_n 0, 1) := by decide +kernel
theorem dX0_firstSideAt_9 : decode cX0_firstSideAt 9 = .ok (.bipush 24, 2) := by decide +kernel
theorem dX0_firstSideAt_11 : decode cX0_firstSideAt 11 = .ok (.if_icmp .ge 7, 3) := by decide +kernel
theorem dX0_firstSideAt_14 : decode cX0_firstSideAt 14 = .ok (.iconst 0, 1) := by decide +kernel
theorem dX0_firstSideAt_15 : decode cX0_firstSideAt 15 = .ok (.goto 4, 3) := by decide +kernel
theorem dX0_firstSideAt_18 : decode cX0_firstSideAt 18 = .ok (.iconst 2, 1) := by decide +kernel
theorem dX0_firstSideAt_19 : decode cX0_firstSideAt 19 = .ok (.ireturn, 1) := by decide +kernel
theorem dX0_copyFrom_0 : decode cX0_copyFrom 0 = .ok (.iconst 0, 1) := by decide +kernel
theorem dX0_copyFrom_1 : decode cX0_copyFrom 1 = .ok (.istore_n 2, 1) := by decide +kernel
theorem dX0_copyFrom_2 : decode cX0_copyFrom 2 = .ok (.iload_n 2, 1) := by decide +kernel
theorem dX0_copyFrom_3 : decode cX0_copyFrom 3 = .ok (.bipush 36, 2) := by decide +kernel
theorem dX0_copyFrom_5 : decode cX0_copyFrom 5 = .ok (.if_icmp .ge 21, 3) := by decide +kernel
theorem dX0_copyFrom_8 : decode cX0_copyFrom 8 = .ok (.aload_n 0, 1) := by decide +kernel
theorem dX0_copyFrom_9 : decode cX0_copyFrom 9 = .ok (.getfield 9, 3) := by decide +kernel
theorem dX0_copyFrom_12 : decode cX0_copyFrom 12 = .ok (.iload_n 2, 1) := by decide +kernel
theorem dX0_copyFrom_13 : decode cX0_copyFrom 13 = .ok (.aload_n 1, 1) := by decide +kernel
theorem dX0_copyFrom_14 : decode cX0_copyFrom 14 = .ok (.getfield 9, 3) := by decide +kernel
theorem dX0_copyFrom_17 : decode cX0_copyFrom 17 = .ok (.iload_n 2, 1) := by decide +kernel
theorem dX0_copyFrom_18 : decode cX0_copyFrom 18 = .ok (.iaload, 1) := by decide +kernel
theorem dX0_copyFrom_19 : decode cX0_copyFrom 19 = .ok (.iastore, 1) := by decide +kernel
theorem dX0_copyFrom_20 : decode cX0_copyFrom 20 = .ok (.iinc 2 1, 3) := by decide +kernel
theorem dX0_copyFrom_23 : decode cX0_copyFrom 23 = .ok (.goto (-21), 3) := by decide +kernel
theorem dX0_copyFrom_26 : decode cX0_copyFrom 26 = .ok (.aload_n 0, 1) := by decide +kernel
theorem dX0_copyFrom_27 : decode cX0_copyFrom 27 = .ok (.aload_n 1, 1) := by decide +kernel
theorem dX0_copyFrom_28 : decode cX0_copyFrom 28 = .ok (.getfield 36, 3) := by decide +kernel
theorem dX0_copyFrom_31 : decode cX0_copyFrom 31 = .ok (.putfield 36, 3) := by decide +kernel
theorem dX0_copyFrom_34 : decode cX0_copyFrom 34 = .ok (.aload_n 0, 1) := by decide +kernel
theorem dX0_copyFrom_35 : decode cX0_copyFrom 35 = .ok (.aload_n 1, 1) := by decide +kernel
theorem dX0_copyFrom_36 : decode cX0_copyFrom 36 = .ok (.getfield 39, 3) := by decide +kernel
theorem dX0_copyFrom_39 : decode cX0_copyFrom 39 = .ok (.putfield 39, 3) := by decide +kernel
theorem dX0_copyFrom_42 : decode cX0_copyFrom 42 = .ok (.aload_n 0, 1) := by decide +kernel
theorem dX0_copyFrom_43 : decode cX0_copyFrom 43 = .ok (.aload_n 1, 1) := by decide +kernel
theorem dX0_copyFrom_44 : decode cX0_copyFrom 44 = .ok (.getfield 30, 3) := by decide +kernel
theorem dX0_copyFrom_47 : decode cX0_copyFrom 47 = .ok (.putfield 30, 3) := by decide +kernel
theorem dX0_copyFrom_50 : decode cX0_copyFrom 50 = .ok (.aload_n 0, 1) := by decide +kernel
theorem dX0_copyFrom_51 : decode cX0_copyFrom 51 = .ok (.aload_n 1, 1) := by decide +kernel
theorem dX0_copyFrom_52 : decode cX0_copyFrom 52 = .ok (.getfield 33, 3) := by decide +kernel
theorem dX0_copyFrom_55 : decode cX0_copyFrom 55 = .ok (.putfield 33, 3) := by decide +kernel
theorem dX0_copyFrom_58 : decode cX0_copyFrom 58 = .ok (.aload_n 0, 1) := by decide +kernel
theorem dX0_copyFrom_59 : decode cX0_copyFrom 59 = .ok (.aload_n 1, 1) := by decide +kernel
theorem dX0_copyFrom_60 : decode cX0_copyFrom 60 = .ok (.getfield 15, 3) := by decide +kernel
theorem dX0_copyFrom_63 : decode cX0_copyFrom 63 = .ok (.putfield 15, 3) := by decide +kernel
theorem dX0_copyFrom_66 : decode cX0_copyFrom 66 = .ok (.return_, 1) := by decide +kernel
theorem dX0_at_0 : decode cX0_at 0 = .ok (.iload_n 1, 1) := by decide +kernel
theorem dX0_at_1 : decode cX0_at 1 = .ok (.ifCond .lt 21, 3) := by decide +kernel
theorem dX0_at_4 : decode cX0_at 4 = .ok (.iload_n 1, 1) := by decide +kernel
theorem dX0_at_5 : decode cX0_at 5 = .ok (.aload_n 0, 1) := by decide +kernel
theorem dX0_at_6 : decode cX0_at 6 = .ok (.getfield 9, 3) := by decide +kernel
theorem dX0_at_9 : decode cX0_at 9 = .ok (.arraylength, 1) := by decide +kernel
theorem dX0_at_10 : decode cX0_at 10 = .ok (.if_icmp .ge 12, 3) := by decide +kernel
theorem dX0_at_13 : decode cX0_at 13 = .ok (.aload_n 0, 1) := by decide +kernel
theorem dX0_at_14 : decode cX0_at 14 = .ok (.getfield 9, 3) := by decide +kernel
theorem dX0_at_17 : decode cX0_at 17 = .ok (.iload_n 1, 1) := by decide +kernel
theorem dX0_at_18 : decode cX0_at 18 = .ok (.iaload, 1) := by decide +kernel
theorem dX0_at_19 : decode cX0_at 19 = .ok (.goto 4, 3) := by decide +kernel
theorem dX0_at_22 : decode cX0_at 22 = .ok (.iconst 0, 1) := by decide +kernel
theorem dX0_at_23 : decode cX0_at 23 = .ok (.ireturn, 1) := by decide +kernel
theorem dX0_put_0 : decode cX0_put 0 = .ok (.iload_n 1, 1) := by decide +kernel
theorem dX0_put_1 : decode cX0_put 1 = .ok (.ifCond .lt 12, 3) := by decide +kernel
theorem dX0_put_4 : decode cX0_put 4 = .ok (.iload_n 1, 1) := by decide +kernel
theorem dX0_put_5 : decode cX0_put 5 = .ok (.aload_n 0, 1) := by decide +kernel
theorem dX0_put_6 : decode cX0_put 6 = .ok (.getfield 9, 3) := by decide +kernel
theorem dX0_put_9 : decode cX0_put 9 = .ok (.arraylength, 1) := by decide +kernel
theorem dX0_put_10 : decode cX0_put 10 = .ok (.if_icmp .lt 4, 3) := by decide +kernel
theorem dX0_put_13 : decode cX0_put 13 = .ok (.return_, 1) := by decide +kernel
theorem dX0_put_14 : decode cX0_put 14 = .ok (.aload_n 0, 1) := by decide +kernel
theorem dX0_put_15 : decode cX0_put 15 = .ok (.aload_n 0, 1) := by decide +kernel
theorem dX0_put_16 : decode cX0_put 16 = .ok (.getfield 9, 3) := by decide +kernel
theorem dX0_put_19 : decode cX0_put 19 = .ok (.iload_n 1, 1) := by decide +kernel
theorem dX0_put_20 : decode cX0_put 20 = .ok (.iaload, 1) := by decide +kernel
theorem dX0_put_21 : decode cX0_put 21 = .ok (.iconst (-1), 1) := by decide +kernel
theorem dX0_put_22 : decode cX0_put 22 = .ok (.invokevirtual 42, 3) := by decide +kernel
theorem dX0_put_25 : decode cX0_put 25 = .ok (.aload_n 0, 1) := by decide +kernel
theorem dX0_put_26 : decode cX0_put 26 = .ok (.iload_n 2, 1) := by decide +kernel
theorem dX0_put_27 : decode cX0_put 27 = .ok (.iconst 1, 1) := by decide +kernel
theorem dX0_put_28 : decode cX0_put 28 = .ok (.invokevirtual 42, 3) := by decide +kernel
theorem dX0_put_31 : decode cX0_put 31 = .ok (.aload_n 0, 1) := by decide +kernel
theorem dX0_put_32 : decode cX0_put 32 = .ok (.getfield 9, 3) := by decide +kernel
theorem dX0_put_35 : decode cX0_put 35 = .ok (.iload_n 1, 1) := by decide +kernel
theorem dX0_put_36 : decode cX0_put 36 = .ok (.iload_n 2, 1) := by decide +kernel
theorem dX0_put_37 : decode cX0_put 37 = .ok (.iastore, 1) := by decide +kernel
theorem dX0_put_38 : decode cX0_put 38 = .ok (.return_, 1) := by decide +kernel
theorem dX0_tally_0 : decode cX0_tally 0 = .ok (.iload_n 1, 1) := by decide +kernel
theorem dX0_tally_1 : decode cX0_tally 1 = .ok (.iconst 1, 1) := by decide +kernel
theorem dX0_tally_2 : decode cX0_tally 2 = .ok (.if_icmp .ne 16, 3) := by decide +kernel
theorem dX0_tally_5 : decode cX0_tally 5 = .ok (.aload_n 0, 1) := by decide +kernel
theorem dX0_tally_6 : decode cX0_tally 6 = .ok (.dup, 1) := by decide +kernel
theorem dX0_tally_7 : decode cX0_tally 7 = .ok (.getfield 36, 3) := by decide +kernel
theorem dX0_tally_10 : decode cX0_tally 10 = .ok (.iload_n 2, 1) := by decide +kernel
theorem dX0_tally_11 : decode cX0_tally 11 = .ok (.iadd, 1) := by decide +kernel
theorem dX0_tally_12 : decode cX0_tally 12 = .ok (.putfield 36, 3) := by decide +kernel
theorem dX0_tally_15 : decode cX0_tally 15 = .ok (.goto 18, 3) := by decide +kernel
theorem dX0_tally_18 : decode cX0_tally 18 = .ok (.iload_n 1, 1) := by decide +kernel
theorem dX0_tally_19 : decode cX0_tally 19 = .ok (.iconst 2, 1) := by decide +kernel
theorem dX0_tally_20 : decode cX0_tally 20 = .ok (.if_icmp .ne 13, 3) := by decide +kernel
theorem dX0_tally_23 : decode cX0_tally 23 = .ok (.aload_n 0, 1) := by decide +kernel
theorem dX0_tally_24 : decode cX0_tally 24 = .ok (.dup, 1) := by decide +kernel
theorem dX0_tally_25 : decode cX0_tally 25 = .ok (.getfield 39, 3) := by decide +kernel
theorem dX0_tally_28 : decode cX0_tally 28 = .ok (.iload_n 2, 1) := by decide +kernel
theorem dX0_tally_29 : decode cX0_tally 29 = .ok (.iadd, 1) := by decide +kernel
theorem dX0_tally_30 : decode cX0_tally 30 = .ok (.putfield 39, 3) := by decide +kernel
theorem dX0_tally_33 : decode cX0_tally 33 = .ok (.return_, 1) := by decide +kernel
theorem dX0_piecesOf_0 : decode cX0_piecesOf 0 = .ok (.iload_n 1, 1) := by decide +kernel
theorem dX0_piecesOf_1 : decode cX0_piecesOf 1 = .ok (.iconst 1, 1) := by decide +kernel
theorem dX0_piecesOf_2 : decode cX0_piecesOf 2 = .ok (.if_icmp .ne 10, 3) := by decide +kernel
theorem dX0_piecesOf_5 : decode cX0_piecesOf 5 = .ok (.aload_n 0, 1) := by decide +kernel
theorem dX0_piecesOf_6 : decode cX0_piecesOf 6 = .ok (.getfield 36, 3) := by decide +kernel
theorem dX0_piecesOf_9 : decode cX0_piecesOf 9 = .ok (.goto 7, 3) := by decide +kernel
theorem dX0_piecesOf_12 : decode cX0_piecesOf 12 = .ok (.aload_n 0, 1) := by decide +kernel
theorem dX0_piecesOf_13 : decode cX0_piecesOf 13 = .ok (.getfield 39, 3) := by decide +kernel
theorem dX0_piecesOf_16 : decode cX0_piecesOf 16 = .ok (.ireturn, 1) := by decide +kernel
theorem dX0_allPieces_0 : decode cX0_allPieces 0 = .ok (.aload_n 0, 1) := by decide +kernel
theorem dX0_allPieces_1 : decode cX0_allPieces 1 = .ok (.getfield 36, 3) := by decide +kernel
theorem dX0_allPieces_4 : decode cX0_allPieces 4 = .ok (.aload_n 0, 1) := by decide +kernel
theorem dX0_allPieces_5 : decode cX0_allPieces 5 = .ok (.getfield 39, 3) := by decide +kernel
theorem dX0_allPieces_8 : decode cX0_allPieces 8 = .ok (.iadd, 1) := by decide +kernel
theorem dX0_allPieces_9 : decode cX0_allPieces 9 = .ok (.ireturn, 1) := by decide +kernel
theorem dX0_sideToMove_0 : decode cX0_sideToMove 0 = .ok (.aload_n 0, 1) := by decide +kernel
theorem dX0_sideToMove_1 : decode cX0_sideToMove 1 = .ok (.getfield 30, 3) := by decide +kernel
theorem dX0_sideToMove_4 : decode cX0_sideToMove 4 = .ok (.ireturn, 1) := by decide +kernel
theorem dX0_quietMoves_0 : decode cX0_quietMoves 0 = .ok (.aload_n 0, 1) := by decide +kernel
theorem dX0_quietMoves_1 : decode cX0_quietMoves 1 = .ok (.getfield 33, 3) := by decide +kernel
theorem dX0_quietMoves_4 : decode cX0_quietMoves 4 = .ok (.ireturn, 1) := by decide +kernel
theorem dX0_limit_0 : decode cX0_limit 0 = .ok (.aload_n 0, 1) := by decide +kernel
theorem dX0_limit_1 : decode cX0_limit 1 = .ok (.getfield 15, 3) := by decide +kernel
theorem dX0_limit_4 : decode cX0_limit 4 = .ok (.ireturn, 1) := by decide +kernel
theorem dX0_changeLimit_0 : decode cX0_changeLimit 0 = .ok (.aload_n 0, 1) := by decide +kernel
theorem dX0_changeLimit_1 : decode cX0_changeLimit 1 = .ok (.iload_n 1, 1) := by decide +kernel
theorem dX0_changeLimit_2 : decode cX0_changeLimit 2 = .ok (.putfield 15, 3) := by decide +kernel
theorem dX0_changeLimit_5 : decode cX0_changeLimit 5 = .ok (.return_, 1) := by decide +kernel
theorem dX0_forgetQuietMoves_0 : decode cX0_forgetQuietMoves 0 = .ok (.aload_n 0, 1) := by decide +kernel
theorem dX0_forgetQuietMoves_1 : decode cX0_forgetQuietMoves 1 = .ok (.iconst 0, 1) := by decide +kernel
theorem dX0_forgetQuietMoves_2 : decode cX0_forgetQuietMoves 2 = .ok (.putfield 33, 3) := by decide +kernel
theorem dX0_forgetQuietMoves_5 : decode cX0_forgetQuietMoves 5 = .ok (.return_, 1) := by decide +kernel
theorem dX0_changeSide_0 : decode cX0_changeSide 0 = .ok (.aload_n 0, 1) := by decide +kernel
theorem dX0_changeSide_1 : decode cX0_changeSide 1 = .ok (.iconst 3, 1) := by decide +kernel
theorem dX0_changeSide_2 : decode cX0_changeSide 2 = .ok (.aload_n 0, 1) := by decide +kernel
theorem dX0_changeSide_3 : decode cX0_changeSide 3 = .ok (.getfield 30, 3) := by decide +kernel
theorem dX0_changeSide_6 : decode cX0_changeSide 6 = .ok (.isub, 1) := by decide +kernel
theorem dX0_changeSide_7 : decode cX0_changeSide 7 = .ok (.putfield 30, 3) := by decide +kernel
theorem dX0_changeSide_10 : decode cX0_changeSide 10 = .ok (.return_, 1) := by decide +kernel
theorem dX0_result_0 : decode cX0_result 0 = .ok (.aload_n 0, 1) := by decide +kernel
theorem dX0_result_1 : decode cX0_result 1 = .ok (.getfield 36, 3) := by decide +kernel
theorem dX0_result_4 : decode cX0_result 4 = .ok (.ifCond .ne 12, 3) := by decide +kernel
theorem dX0_result_7 : decode cX0_result 7 = .ok (.aload_n 0, 1) := by decide +kernel
theorem dX0_result_8 : decode cX0_result 8 = .ok (.getfield 39, 3) := by decide +kernel
theorem dX0_result_11 : decode cX0_result 11 = .ok (.ifCond .ne 5, 3) := by decide +kernel
theorem dX0_result_14 : decode cX0_result 14 = .ok (.iconst 3, 1) := by decide +kernel
theorem dX0_result_15 : decode cX0_result 15 = .ok (.ireturn, 1) := by decide +kernel
theorem dX0_result_16 : decode cX0_result 16 = .ok (.aload_n 0, 1) := by decide +kernel
theorem dX0_result_17 : decode cX0_result 17 = .ok (.getfield 39, 3) := by decide +kernel
theorem dX0_result_20 : decode cX0_result 20 = .ok (.ifCond .ne 5, 3) := by decide +kernel
theorem dX0_result_23 : decode cX0_result 23 = .ok (.iconst 1, 1) := by decide +kernel
theorem dX0_result_24 : decode cX0_result 24 = .ok (.ireturn, 1) := by decide +kernel
theorem dX0_result_25 : decode cX0_result 25 = .ok (.aload_n 0, 1) := by decide +kernel
theorem dX0_result_26 : decode cX0_result 26 = .ok (.getfield 36, 3) := by decide +kernel
theorem dX0_result_29 : decode cX0_result 29 = .ok (.ifCond .ne 5, 3) := by decide +kernel
theorem dX0_result_32 : decode cX0_result 32 = .ok (.iconst 2, 1) := by decide +kernel
theorem dX0_result_33 : decode cX0_result 33 = .ok (.ireturn, 1) := by decide +kernel
theorem dX0_result_34 : decode cX0_result 34 = .ok (.aload_n 0, 1) := by decide +kernel
theorem dX0_result_35 : decode cX0_result 35 = .ok (.getfield 33, 3) := by decide +kernel
theorem dX0_result_38 : decode cX0_result 38 = .ok (.aload_n 0, 1) := by decide +kernel
theorem dX0_result_39 : decode cX0_result 39 = .ok (.getfield 15, 3) := by decide +kernel
theorem dX0_result_42 : decode cX0_result 42 = .ok (.if_icmp .lt 7, 3) := by decide +kernel
theorem dX0_result_45 : decode cX0_result 45 = .ok (.iconst 3, 1) := by decide +kernel
theorem dX0_result_46 : decode cX0_result 46 = .ok (.goto 4, 3) := by decide +kernel
theorem dX0_result_49 : decode cX0_result 49 = .ok (.iconst 0, 1) := by decide +kernel
theorem dX0_result_50 : decode cX0_result 50 = .ok (.ireturn, 1) := by decide +kernel
theorem dX0_worth_0 : decode cX0_worth 0 = .ok (.aload_n 0, 1) := by decide +kernel
theorem dX0_worth_1 : decode cX0_worth 1 = .ok (.getfield 30, 3) := by decide +kernel
theorem dX0_worth_4 : decode cX0_worth 4 = .ok (.iconst 1, 1) := by decide +kernel
theorem dX0_worth_5 : decode cX0_worth 5 = .ok (.if_icmp .ne 15, 3) := by decide +kernel
theorem dX0_worth_8 : decode cX0_worth 8 = .ok (.aload_n 0, 1) := by decide +kernel
theorem dX0_worth_9 : decode cX0_worth 9 = .ok (.getfield 36, 3) := by decide +kernel
theorem dX0_worth_12 : decode cX0_worth 12 = .ok (.aload_n 0, 1) := by decide +kernel
theorem dX0_worth_13 : decode cX0_worth 13 = .ok (.getfield 39, 3) := by decide +kernel
theorem dX0_worth_16 : decode cX0_worth 16 = .ok (.isub, 1) := by decide +kernel
theorem dX0_worth_17 : decode cX0_worth 17 = .ok (.goto 12, 3) := by decide +kernel
theorem dX0_worth_20 : decode cX0_worth 20 = .ok (.aload_n 0, 1) := by decide +kernel
theorem dX0_worth_21 : decode cX0_worth 21 = .ok (.getfield 39, 3) := by decide +kernel
theorem dX0_worth_24 : decode cX0_worth 24 = .ok (.aload_n 0, 1) := by decide +kernel
theorem dX0_worth_25 : decode cX0_worth 25 = .ok (.getfield 36, 3) := by decide +kernel
theorem dX0_worth_28 : decode cX0_worth 28 = .ok (.isub, 1) := by decide +kernel
theorem dX0_worth_29 : decode cX0_worth 29 = .ok (.ireturn, 1) := by decide +kernel
theorem dX0_make_0 : decode cX0_make 0 = .ok (.aload_n 0, 1) := by decide +kernel
theorem dX0_make_1 : decode cX0_make 1 = .ok (.iload_n 2, 1) := by decide +kernel
theorem dX0_make_2 : decode cX0_make 2 = .ok (.invokevirtual 45, 3) := by decide +kernel
theorem dX0_make_5 : decode cX0_make 5 = .ok (.istore_n 3, 1) := by decide +kernel
theorem dX0_make_6 : decode cX0_make 6 = .ok (.aload_n 0, 1) := by decide +kernel
theorem dX0_make_7 : decode cX0_make 7 = .ok (.iload_n 2, 1) := by decide +kernel
theorem dX0_make_8 : decode cX0_make 8 = .ok (.aload_n 0, 1) := by decide +kernel
theorem dX0_make_9 : decode cX0_make 9 = .ok (.getfield 30, 3) := by decide +kernel
theorem dX0_make_12 : decode cX0_make 12 = .ok (.invokevirtual 26, 3) := by decide +kernel
theorem dX0_make_15 : decode cX0_make 15 = .ok (.aload_n 0, 1) := by decide +kernel
theorem dX0_make_16 : decode cX0_make 16 = .ok (.iload_n 1, 1) := by decide +kernel
theorem dX0_make_17 : decode cX0_make 17 = .ok (.iconst 0, 1) := by decide +kernel
theorem dX0_make_18 : decode cX0_make 18 = .ok (.invokevirtual 26, 3) := by decide +kernel
theorem dX0_make_21 : decode cX0_make 21 = .ok (.aload_n 0, 1) := by decide +kernel
theorem dX0_make_22 : decode cX0_make 22 = .ok (.iload_n 3, 1) := by decide +kernel
theorem dX0_make_23 : decode cX0_make 23 = .ok (.ifCond .ne 12, 3) := by decide +kernel
theorem dX0_make_26 : decode cX0_make 26 = .ok (.aload_n 0, 1) := by decide +kernel
theorem dX0_make_27 : decode cX0_make 27 = .ok (.getfield 33, 3) := by decide +kernel
theorem dX0_make_30 : decode cX0_make 30 = .ok (.iconst 1, 1) := by decide +kernel
theorem dX0_make_31 : decode cX0_make 31 = .ok (.iadd, 1) := by decide +kernel
theorem dX0_make_32 : decode cX0_make 32 = .ok (.goto 4, 3) := by decide +kernel
theorem dX0_make_35 : decode cX0_make 35 = .ok (.iconst 0, 1) := by decide +kernel
theorem dX0_make_36 : decode cX0_make 36 = .ok (.putfield 33, 3) := by decide +kernel
theorem dX0_make_39 : decode cX0_make 39 = .ok (.aload_n 0, 1) := by decide +kernel
theorem dX0_make_40 : decode cX0_make 40 = .ok (.invokevirtual 48, 3) := by decide +kernel
theorem dX0_make_43 : decode cX0_make 43 = .ok (.iload_n 3, 1) := by decide +kernel
theorem dX0_make_44 : decode cX0_make 44 = .ok (.ireturn, 1) := by decide +kernel
theorem dX0_takeBack_0 : decode cX0_takeBack 0 = .ok (.aload_n 0, 1) := by decide +kernel
theorem dX0_takeBack_1 : decode cX0_takeBack 1 = .ok (.invokevirtual 48, 3) := by decide +kernel
theorem dX0_takeBack_4 : decode cX0_takeBack 4 = .ok (.aload_n 0, 1) := by decide +kernel
theorem dX0_takeBack_5 : decode cX0_takeBack 5 = .ok (.iload_n 1, 1) := by decide +kernel
theorem dX0_takeBack_6 : decode cX0_takeBack 6 = .ok (.aload_n 0, 1) := by decide +kernel
theorem dX0_takeBack_7 : decode cX0_takeBack 7 = .ok (.getfield 30, 3) := by decide +kernel
theorem dX0_takeBack_10 : decode cX0_takeBack 10 = .ok (.invokevirtual 26, 3) := by decide +kernel
theorem dX0_takeBack_13 : decode cX0_takeBack 13 = .ok (.aload_n 0, 1) := by decide +kernel
theorem dX0_takeBack_14 : decode cX0_takeBack 14 = .ok (.iload_n 2, 1) := by decide +kernel
theorem dX0_takeBack_15 : decode cX0_takeBack 15 = .ok (.iload_n 3, 1) := by decide +kernel
theorem dX0_takeBack_16 : decode cX0_takeBack 16 = .ok (.invokevirtual 26, 3) := by decide +kernel
theorem dX0_takeBack_19 : decode cX0_takeBack 19 = .ok (.aload_n 0, 1) := by decide +kernel
theorem dX0_takeBack_20 : decode cX0_takeBack 20 = .ok (.iload 4, 2) := by decide +kernel
theorem dX0_takeBack_22 : decode cX0_takeBack 22 = .ok (.putfield 33, 3) := by decide +kernel
theorem dX0_takeBack_25 : decode cX0_takeBack 25 = .ok (.return_, 1) := by decide +kernel
theorem dX0_key_0 : decode cX0_key 0 = .ok (.aload_n 0, 1) := by decide +kernel
theorem dX0_key_1 : decode cX0_key 1 = .ok (.getfield 30, 3) := by decide +kernel
theorem dX0_key_4 : decode cX0_key 4 = .ok (.i2l, 1) := by decide +kernel
theorem dX0_key_5 : decode cX0_key 5 = .ok (.lstore_n 1, 1) := by decide +kernel
theorem dX0_key_6 : decode cX0_key 6 = .ok (.iconst 0, 1) := by decide +kernel
theorem dX0_key_7 : decode cX0_key 7 = .ok (.istore_n 3, 1) := by decide +kernel
theorem dX0_key_8 : decode cX0_key 8 = .ok (.iload_n 3, 1) := by decide +kernel
theorem dX0_key_9 : decode cX0_key 9 = .ok (.bipush 36, 2) := by decide +kernel
theorem dX0_key_11 : decode cX0_key 11 = .ok (.if_icmp .ge 23, 3) := by decide +kernel
theorem dX0_key_14 : decode cX0_key 14 = .ok (.lload_n 1, 1) := by decide +kernel
theorem dX0_key_15 : decode cX0_key 15 = .ok (.ldc2_w 51, 3) := by decide +kernel
theorem dX0_key_18 : decode cX0_key 18 = .ok (.lmul, 1) := by decide +kernel
theorem dX0_key_19 : decode cX0_key 19 = .ok (.aload_n 0, 1) := by decide +kernel
theorem dX0_key_20 : decode cX0_key 20 = .ok (.getfield 9, 3) := by decide +kernel
theorem dX0_key_23 : decode cX0_key 23 = .ok (.iload_n 3, 1) := by decide +kernel
theorem dX0_key_24 : decode cX0_key 24 = .ok (.iaload, 1) := by decide +kernel
theorem dX0_key_25 : decode cX0_key 25 = .ok (.i2l, 1) := by decide +kernel
theorem dX0_key_26 : decode cX0_key 26 = .ok (.ladd, 1) := by decide +kernel
theorem dX0_key_27 : decode cX0_key 27 = .ok (.lstore_n 1, 1) := by decide +kernel
theorem dX0_key_28 : decode cX0_key 28 = .ok (.iinc 3 1, 3) := by decide +kernel
theorem dX0_key_31 : decode cX0_key 31 = .ok (.goto (-23), 3) := by decide +kernel
theorem dX0_key_34 : decode cX0_key 34 = .ok (.lload_n 1, 1) := by decide +kernel
theorem dX0_key_35 : decode cX0_key 35 = .ok (.lreturn, 1) := by decide +kernel
theorem dX1_init_0 : decode cX1_init 0 = .ok (.aload_n 0, 1) := by decide +kernel
theorem dX1_init_1 : decode cX1_init 1 = .ok (.invokespecial 3, 3) := by decide +kernel
theorem dX1_init_4 : decode cX1_init 4 = .ok (.aload_n 0, 1) := by decide +kernel
theorem dX1_init_5 : decode cX1_init 5 = .ok (.bipush 48, 2) := by decide +kernel
theorem dX1_init_7 : decode cX1_init 7 = .ok (.newarray .int, 2) := by decide +kernel
theorem dX1_init_9 : decode cX1_init 9 = .ok (.putfield 11, 3) := by decide +kernel
theorem dX1_init_12 : decode cX1_init 12 = .ok (.aload_n 0, 1) := by decide +kernel
theorem dX1_init_13 : decode cX1_init 13 = .ok (.bipush 72, 2) := by decide +kernel
theorem dX1_init_15 : decode cX1_init 15 = .ok (.newarray .int, 2) := by decide +kernel
theorem dX1_init_17 : decode cX1_init 17 = .ok (.putfield 15, 3) := by decide +kernel
theorem dX1_init_20 : decode cX1_init 20 = .ok (.iconst 0, 1) := by decide +kernel
theorem dX1_init_21 : decode cX1_init 21 = .ok (.istore_n 1, 1) := by decide +kernel
theorem dX1_init_22 : decode cX1_init 22 = .ok (.iload_n 1, 1) := by decide +kernel
theorem dX1_init_23 : decode cX1_init 23 = .ok (.iconst 2, 1) := by decide +kernel
theorem dX1_init_24 : decode cX1_init 24 = .ok (.if_icmp .ge 14, 3) := by decide +kernel
theorem dX1_init_27 : decode cX1_init 27 = .ok (.aload_n 0, 1) := by decide +kernel
theorem dX1_init_28 : decode cX1_init 28 = .ok (.iload_n 1, 1) := by decide +kernel
theorem dX1_init_29 : decode cX1_init 29 = .ok (.invokevirtual 18, 3) := by decide +kernel
theorem dX1_init_32 : decode cX1_init 32 = .ok (.iinc 1 1, 3) := by decide +kernel
theorem dX1_init_35 : decode cX1_init 35 = .ok (.goto (-13), 3) := by decide +kernel
theorem dX1_init_38 : decode cX1_init 38 = .ok (.iconst 0, 1) := by decide +kernel
theorem dX1_init_39 : decode cX1_init 39 = .ok (.istore_n 1, 1) := by decide +kernel
theorem dX1_init_40 : decode cX1_init 40 = .ok (.iload_n 1, 1) := by decide +kernel
theorem dX1_init_41 : decode cX1_init 41 = .ok (.aload_n 0, 1) := by decide +kernel
theorem dX1_init_42 : decode cX1_init 42 = .ok (.getfield 15, 3) := by decide +kernel
theorem dX1_init_45 : decode cX1_init 45 = .ok (.arraylength, 1) := by decide +kernel
theorem dX1_init_46 : decode cX1_init 46 = .ok (.if_icmp .ge 16, 3) := by decide +kernel
theorem dX1_init_49 : decode cX1_init 49 = .ok (.aload_n 0, 1) := by decide +kernel
theorem dX1_init_50 : decode cX1_init 50 = .ok (.getfield 15, 3) := by decide +kernel
theorem dX1_init_53 : decode cX1_init 53 = .ok (.iload_n 1, 1) := by decide +kernel
theorem dX1_init_54 : decode cX1_init 54 = .ok (.iconst (-1), 1) := by decide +kernel
theorem dX1_init_55 : decode cX1_init 55 = .ok (.iastore, 1) := by decide +kernel
theorem dX1_init_56 : decode cX1_init 56 = .ok (.iinc 1 1, 3) := by decide +kernel
theorem dX1_init_59 : decode cX1_init 59 = .ok (.goto (-19), 3) := by decide +kernel
theorem dX1_init_62 : decode cX1_init 62 = .ok (.iconst 0, 1) := by decide +kernel
theorem dX1_init_63 : decode cX1_init 63 = .ok (.istore_n 1, 1) := by decide +kernel
theorem dX1_init_64 : decode cX1_init 64 = .ok (.iload_n 1, 1) := by decide +kernel
theorem dX1_init_65 : decode cX1_init 65 = .ok (.aload_n 0, 1) := by decide +kernel
theorem dX1_init_66 : decode cX1_init 66 = .ok (.getfield 11, 3) := by decide +kernel
theorem dX1_init_69 : decode cX1_init 69 = .ok (.arraylength, 1) := by decide +kernel
theorem dX1_init_70 : decode cX1_init 70 = .ok (.if_icmp .ge 20, 3) := by decide +kernel
theorem dX1_init_73 : decode cX1_init 73 = .ok (.aload_n 0, 1) := by decide +kernel
theorem dX1_init_74 : decode cX1_init 74 = .ok (.aload_n 0, 1) := by decide +kernel
theorem dX1_init_75 : decode cX1_init 75 = .ok (.getfield 11, 3) := by decide +kernel
theorem dX1_init_78 : decode cX1_init 78 = .ok (.iload_n 1, 1) := by decide +kernel
theorem dX1_init_79 : decode cX1_init 79 = .ok (.iaload, 1) := by decide +kernel
theorem dX1_init_80 : decode cX1_init 80 = .ok (.iload_n 1, 1) := by decide +kernel
theorem dX1_init_81 : decode cX1_init 81 = .ok (.invokevirtual 22, 3) := by decide +kernel
theorem dX1_init_84 : decode cX1_init 84 = .ok (.iinc 1 1, 3) := by decide +kernel
theorem dX1_init_87 : decode cX1_init 87 = .ok (.goto (-23), 3) := by decide +kernel
theorem dX1_init_90 : decode cX1_init 90 = .ok (.return_, 1) := by decide +kernel
theorem dX1_layOut_0 : decode cX1_layOut 0 = .ok (.iconst 1, 1) := by decide +kernel
theorem dX1_layOut_1 : decode cX1_layOut 1 = .ok (.iload_n 1, 1) := by decide +kernel
theorem dX1_layOut_2 : decode cX1_layOut 2 = .ok (.iadd, 1) := by decide +kernel
theorem dX1_layOut_3 : decode cX1_layOut 3 = .ok (.istore_n 2, 1) := by decide +kernel
theorem dX1_layOut_4 : decode cX1_layOut 4 = .ok (.iconst 5, 1) := by decide +kernel
theorem dX1_layOut_5 : decode cX1_layOut 5 = .ok (.iload_n 2, 1) := by decide +kernel
theorem dX1_layOut_6 : decode cX1_layOut 6 = .ok (.isub, 1) := by decide +kernel
theorem dX1_layOut_7 : decode cX1_layOut 7 = .ok (.istore_n 3, 1) := by decide +kernel
theorem dX1_layOut_8 : decode cX1_layOut 8 = .ok (.iload_n 1, 1) := by decide +kernel
theorem dX1_layOut_9 : decode cX1_layOut 9 = .ok (.bipush 24, 2) := by decide +kernel
theorem dX1_layOut_11 : decode cX1_layOut 11 = .ok (.imul, 1) := by decide +kernel
theorem dX1_layOut_12 : decode cX1_layOut 12 = .ok (.istore 4, 2) := by decide +kernel
theorem dX1_layOut_14 : decode cX1_layOut 14 = .ok (.iconst 0, 1) := by decide +kernel
theorem dX1_layOut_15 : decode cX1_layOut 15 = .ok (.istore 5, 2) := by decide +kernel
theorem dX1_layOut_17 : decode cX1_layOut 17 = .ok (.iload 5, 2) := by decide +kernel
theorem dX1_layOut_19 : decode cX1_layOut 19 = .ok (.bipush 6, 2) := by decide +kernel
theorem dX1_layOut_21 : decode cX1_layOut 21 = .ok (.if_icmp .ge 72, 3) := by decide +kernel
theorem dX1_layOut_24 : decode cX1_layOut 24 = .ok (.iconst 5, 1) := by decide +kernel
theorem dX1_layOut_25 : decode cX1_layOut 25 = .ok (.iload 5, 2) := by decide +kernel
theorem dX1_layOut_27 : decode cX1_layOut 27 = .ok (.isub, 1) := by decide +kernel
theorem dX1_layOut_28 : decode cX1_layOut 28 = .ok (.istore 6, 2) := by decide +kernel
theorem dX1_layOut_30 : decode cX1_layOut 30 = .ok (.aload_n 0, 1) := by decide +kernel
theorem dX1_layOut_31 : decode cX1_layOut 31 = .ok (.iload 4, 2) := by decide +kernel
theorem dX1_layOut_33 : decode cX1_layOut 33 = .ok (.iload 5, 2) := by decide +kernel
theorem dX1_layOut_35 : decode cX1_layOut 35 = .ok (.iadd, 1) := by decide +kernel
theorem dX1_layOut_36 : decode cX1_layOut 36 = .ok (.iload_n 2, 1) := by decide +kernel
theorem dX1_layOut_37 : decode cX1_layOut 37 = .ok (.iload 5, 2) := by decide +kernel
theorem dX1_layOut_39 : decode cX1_layOut 39 = .ok (.invokevirtual 26, 3) := by decide +kernel
theorem dX1_layOut_42 : decode cX1_layOut 42 = .ok (.aload_n 0, 1) := by decide +kernel
theorem dX1_layOut_43 : decode cX1_layOut 43 = .ok (.iload 4, 2) := by decide +kernel
theorem dX1_layOut_45 : decode cX1_layOut 45 = .ok (.bipush 6, 2) := by decide +kernel
theorem dX1_layOut_47 : decode cX1_layOut 47 = .ok (.iadd, 1) := by decide +kernel
theorem dX1_layOut_48 : decode cX1_layOut 48 = .ok (.iload 5, 2) := by decide +kernel
theorem dX1_layOut_50 : decode cX1_layOut 50 = .ok (.iadd, 1) := by decide +kernel
theorem dX1_layOut_51 : decode cX1_layOut 51 = .ok (.iload 5, 2) := by decide +kernel
theorem dX1_layOut_53 : decode cX1_layOut 53 = .ok (.iload_n 3, 1) := by decide +kernel
theorem dX1_layOut_54 : decode cX1_layOut 54 = .ok (.invokevirtual 26, 3) := by decide +kernel
theorem dX1_layOut_57 : decode cX1_layOut 57 = .ok (.aload_n 0, 1) := by decide +kernel
theorem dX1_layOut_58 : decode cX1_layOut 58 = .ok (.iload 4, 2) := by decide +kernel
theorem dX1_layOut_60 : decode cX1_layOut 60 = .ok (.bipush 12, 2) := by decide +kernel
theorem dX1_layOut_62 : decode cX1_layOut 62 = .ok (.iadd, 1) := by decide +kernel
theorem dX1_layOut_63 : decode cX1_layOut 63 = .ok (.iload 5, 2) := by decide +kernel
theorem dX1_layOut_65 : decode cX1_layOut 65 = .ok (.iadd, 1) := by decide +kernel
theorem dX1_layOut_66 : decode cX1_layOut 66 = .ok (.iload_n 3, 1) := by decide +kernel
theorem dX1_layOut_67 : decode cX1_layOut 67 = .ok (.iload 6, 2) := by decide +kernel
theorem dX1_layOut_69 : decode cX1_layOut 69 = .ok (.invokevirtual 26, 3) := by decide +kernel
theorem dX1_layOut_72 : decode cX1_layOut 72 = .ok (.aload_n 0, 1) := by decide +kernel
theorem dX1_layOut_73 : decode cX1_layOut 73 = .ok (.iload 4, 2) := by decide +kernel
theorem dX1_layOut_75 : decode cX1_layOut 75 = .ok (.bipush 18, 2) := by decide +kernel
theorem dX1_layOut_77 : decode cX1_layOut 77 = .ok (.iadd, 1) := by decide +kernel
theorem dX1_layOut_78 : decode cX1_layOut 78 = .ok (.iload 5, 2) := by decide +kernel
theorem dX1_layOut_80 : decode cX1_layOut 80 = .ok (.iadd, 1) := by decide +kernel
theorem dX1_layOut_81 : decode cX1_layOut 81 = .ok (.iload 6, 2) := by decide +kernel
theorem dX1_layOut_83 : decode cX1_layOut 83 = .ok (.iload_n 2, 1) := by decide +kernel
theorem dX1_layOut_84 : decode cX1_layOut 84 = .ok (.invokevirtual 26, 3) := by decide +kernel
theorem dX1_layOut_87 : decode cX1_layOut 87 = .ok (.iinc 5 1, 3) := by decide +kernel
theorem dX1_layOut_90 : decode cX1_layOut 90 = .ok (.goto (-73), 3) := by decide +kernel
theorem dX1_layOut_93 : decode cX1_layOut 93 = .ok (.return_, 1) := by decide +kernel
theorem dX1_put_0 : decode cX1_put 0 = .ok (.iload_n 1, 1) := by decide +kernel
theorem dX1_put_1 : decode cX1_put 1 = .ok (.ifCond .lt 24, 3) := by decide +kernel
theorem dX1_put_4 : decode cX1_put 4 = .ok (.iload_n 1, 1) := by decide +kernel
theorem dX1_put_5 : decode cX1_put 5 = .ok (.aload_n 0, 1) := by decide +kernel
theorem dX1_put_6 : decode cX1_put 6 = .ok (.getfield 11, 3) := by decide +kernel
theorem dX1_put_9 : decode cX1_put 9 = .ok (.arraylength, 1) := by decide +kernel
theorem dX1_put_10 : decode cX1_put 10 = .ok (.if_icmp .ge 15, 3) := by decide +kernel
theorem dX1_put_13 : decode cX1_put 13 = .ok (.aload_n 0, 1) := by decide +kernel
theorem dX1_put_14 : decode cX1_put 14 = .ok (.getfield 11, 3) := by decide +kernel
theorem dX1_put_17 : decode cX1_put 17 = .ok (.iload_n 1, 1) := by decide +kernel
theorem dX1_put_18 : decode cX1_put 18 = .ok (.iload_n 2, 1) := by decide +kernel
theorem dX1_put_19 : decode cX1_put 19 = .ok (.bipush 6, 2) := by decide +kernel
theorem dX1_put_21 : decode cX1_put 21 = .ok (.imul, 1) := by decide +kernel
theorem dX1_put_22 : decode cX1_put 22 = .ok (.iload_n 3, 1) := by decide +kernel
theorem dX1_put_23 : decode cX1_put 23 = .ok (.iadd, 1) := by decide +kernel
theorem dX1_put_24 : decode cX1_put 24 = .ok (.iastore, 1) := by decide +kernel
theorem dX1_put_25 : decode cX1_put 25 = .ok (.return_, 1) := by decide +kernel
theorem dX1_addSpot_0 : decode cX1_addSpot 0 = .ok (.iconst 0, 1) := by decide +kernel
theorem dX1_addSpot_1 : decode cX1_addSpot 1 = .ok (.istore_n 3, 1) := by decide +kernel
theorem dX1_addSpot_2 : decode cX1_addSpot 2 = .ok (.iload_n 3, 1) := by decide +kernel
theorem dX1_addSpot_3 : decode cX1_addSpot 3 = .ok (.iconst 2, 1) := by decide +kernel
theorem dX1_addSpot_4 : decode cX1_addSpot 4 = .ok (.if_icmp .ge 51, 3) := by decide +kernel
theorem dX1_addSpot_7 : decode cX1_addSpot 7 = .ok (.iload_n 1, 1) := by decide +kernel
theorem dX1_addSpot_8 : decode cX1_addSpot 8 = .ok (.iconst 2, 1) := by decide +kernel
theorem dX1_addSpot_9 : decode cX1_addSpot 9 = .ok (.imul, 1) := by decide +kernel
theorem dX1_addSpot_10 : decode cX1_addSpot 10 = .ok (.iload_n 3, 1) := by decide +kernel
theorem dX1_addSpot_11 : decode cX1_addSpot 11 = .ok (.iadd, 1) := by decide +kernel
theorem dX1_addSpot_12 : decode cX1_addSpot 12 = .ok (.istore 4, 2) := by decide +kernel
theorem dX1_addSpot_14 : decode cX1_addSpot 14 = .ok (.iload 4, 2) := by decide +kernel
theorem dX1_addSpot_16 : decode cX1_addSpot 16 = .ok (.ifCond .lt 33, 3) := by decide +kernel
theorem dX1_addSpot_19 : decode cX1_addSpot 19 = .ok (.iload 4, 2) := by decide +kernel
theorem dX1_addSpot_21 : decode cX1_addSpot 21 = .ok (.aload_n 0, 1) := by decide +kernel
theorem dX1_addSpot_22 : decode cX1_addSpot 22 = .ok (.getfield 15, 3) := by decide +kernel
theorem dX1_addSpot_25 : decode cX1_addSpot 25 = .ok (.arraylength, 1) := by decide +kernel
theorem dX1_addSpot_26 : decode cX1_addSpot 26 = .ok (.if_icmp .ge 23, 3) := by decide +kernel
theorem dX1_addSpot_29 : decode cX1_addSpot 29 = .ok (.aload_n 0, 1) := by decide +kernel
theorem dX1_addSpot_30 : decode cX1_addSpot 30 = .ok (.getfield 15, 3) := by decide +kernel
theorem dX1_addSpot_33 : decode cX1_addSpot 33 = .ok (.iload 4, 2) := by decide +kernel
theorem dX1_addSpot_35 : decode cX1_addSpot 35 = .ok (.iaload, 1) := by decide +kernel
theorem dX1_addSpot_36 : decode cX1_addSpot 36 = .ok (.iconst (-1), 1) := by decide +kernel
theorem dX1_addSpot_37 : decode cX1_addSpot 37 = .ok (.if_icmp .ne 12, 3) := by decide +kernel
theorem dX1_addSpot_40 : decode cX1_addSpot 40 = .ok (.aload_n 0, 1) := by decide +kernel
theorem dX1_addSpot_41 : decode cX1_addSpot 41 = .ok (.getfield 15, 3) := by decide +kernel
theorem dX1_addSpot_44 : decode cX1_addSpot 44 = .ok (.iload 4, 2) := by decide +kernel
theorem dX1_addSpot_46 : decode cX1_addSpot 46 = .ok (.iload_n 2, 1) := by decide +kernel
theorem dX1_addSpot_47 : decode cX1_addSpot 47 = .ok (.iastore, 1) := by decide +kernel
theorem dX1_addSpot_48 : decode cX1_addSpot 48 = .ok (.return_, 1) := by decide +kernel
theorem dX1_addSpot_49 : decode cX1_addSpot 49 = .ok (.iinc 3 1, 3) := by decide +kernel
theorem dX1_addSpot_52 : decode cX1_addSpot 52 = .ok (.goto (-50), 3) := by decide +kernel
theorem dX1_addSpot_55 : decode cX1_addSpot 55 = .ok (.return_, 1) := by decide +kernel
theorem dX1_pointAt_0 : decode cX1_pointAt 0 = .ok (.iload_n 1, 1) := by decide +kernel
theorem dX1_pointAt_1 : decode cX1_pointAt 1 = .ok (.ifCond .lt 21, 3) := by decide +kernel
theorem dX1_pointAt_4 : decode cX1_pointAt 4 = .ok (.iload_n 1, 1) := by decide +kernel
theorem dX1_pointAt_5 : decode cX1_pointAt 5 = .ok (.aload_n 0, 1) := by decide +kernel
theorem dX1_pointAt_6 : decode cX1_pointAt 6 = .ok (.getfield 11, 3) := by decide +kernel
theorem dX1_pointAt_9 : decode cX1_pointAt 9 = .ok (.arraylength, 1) := by decide +kernel
theorem dX1_pointAt_10 : decode cX1_pointAt 10 = .ok (.if_icmp .ge 12, 3) := by decide +kernel
theorem dX1_pointAt_13 : decode cX1_pointAt 13 = .ok (.aload_n 0, 1) := by decide +kernel
theorem dX1_pointAt_14 : decode cX1_pointAt 14 = .ok (.getfield 11, 3) := by decide +kernel
theorem dX1_pointAt_17 : decode cX1_pointAt 17 = .ok (.iload_n 1, 1) := by decide +kernel
theorem dX1_pointAt_18 : decode cX1_pointAt 18 = .ok (.iaload, 1) := by decide +kernel
theorem dX1_pointAt_19 : decode cX1_pointAt 19 = .ok (.goto 4, 3) := by decide +kernel
theorem dX1_pointAt_22 : decode cX1_pointAt 22 = .ok (.iconst (-1), 1) := by decide +kernel
theorem dX1_pointAt_23 : decode cX1_pointAt 23 = .ok (.ireturn, 1) := by decide +kernel
theorem dX1_spotOf_0 : decode cX1_spotOf 0 = .ok (.iload_n 1, 1) := by decide +kernel
theorem dX1_spotOf_1 : decode cX1_spotOf 1 = .ok (.iconst 2, 1) := by decide +kernel
theorem dX1_spotOf_2 : decode cX1_spotOf 2 = .ok (.imul, 1) := by decide +kernel
theorem dX1_spotOf_3 : decode cX1_spotOf 3 = .ok (.iload_n 2, 1) := by decide +kernel
theorem dX1_spotOf_4 : decode cX1_spotOf 4 = .ok (.iadd, 1) := by decide +kernel
theorem dX1_spotOf_5 : decode cX1_spotOf 5 = .ok (.istore_n 3, 1) := by decide +kernel
theorem dX1_spotOf_6 : decode cX1_spotOf 6 = .ok (.iload_n 3, 1) := by decide +kernel
theorem dX1_spotOf_7 : decode cX1_spotOf 7 = .ok (.ifCond .lt 21, 3) := by decide +kernel
theorem dX1_spotOf_10 : decode cX1_spotOf 10 = .ok (.iload_n 3, 1) := by decide +kernel
theorem dX1_spotOf_11 : decode cX1_spotOf 11 = .ok (.aload_n 0, 1) := by decide +kernel
theorem dX1_spotOf_12 : decode cX1_spotOf 12 = .ok (.getfield 15, 3) := by decide +kernel
theorem dX1_spotOf_15 : decode cX1_spotOf 15 = .ok (.arraylength, 1) := by decide +kernel
theorem dX1_spotOf_16 : decode cX1_spotOf 16 = .ok (.if_icmp .ge 12, 3) := by decide +kernel
theorem dX1_spotOf_19 : decode cX1_spotOf 19 = .ok (.aload_n 0, 1) := by decide +kernel
theorem dX1_spotOf_20 : decode cX1_spotOf 20 = .ok (.getfield 15, 3) := by decide +kernel
theorem dX1_spotOf_23 : decode cX1_spotOf 23 = .ok (.iload_n 3, 1) := by decide +kernel
theorem dX1_spotOf_24 : decode cX1_spotOf 24 = .ok (.iaload, 1) := by decide +kernel
theorem dX1_spotOf_25 : decode cX1_spotOf 25 = .ok (.goto 4, 3) := by decide +kernel
theorem dX1_spotOf_28 : decode cX1_spotOf 28 = .ok (.iconst (-1), 1) := by decide +kernel
theorem dX1_spotOf_29 : decode cX1_spotOf 29 = .ok (.ireturn, 1) := by decide +kernel
theorem dX2_init_0 : decode cX2_init 0 = .ok (.aload_n 0, 1) := by decide +kernel
theorem dX2_init_1 : decode cX2_init 1 = .ok (.invokespecial 1, 3) := by decide +kernel
theorem dX2_init_4 : decode cX2_init 4 = .ok (.aload_n 0, 1) := by decide +kernel
theorem dX2_init_5 : decode cX2_init 5 = .ok (.iconst 4, 1) := by decide +kernel
theorem dX2_init_6 : decode cX2_init 6 = .ok (.anewarray 9, 3) := by decide +kernel
theorem dX2_init_9 : decode cX2_init 9 = .ok (.putfield 11, 3) := by decide +kernel
theorem dX2_init_12 : decode cX2_init 12 = .ok (.iconst 0, 1) := by decide +kernel
theorem dX2_init_13 : decode cX2_init 13 = .ok (.istore_n 1, 1) := by decide +kernel
theorem dX2_init_14 : decode cX2_init 14 = .ok (.iload_n 1, 1) := by decide +kernel
theorem dX2_init_15 : decode cX2_init 15 = .ok (.aload_n 0, 1) := by decide +kernel
theorem dX2_init_16 : decode cX2_init 16 = .ok (.getfield 11, 3) := by decide +kernel
theorem dX2_init_19 : decode cX2_init 19 = .ok (.arraylength, 1) := by decide +kernel
theorem dX2_init_20 : decode cX2_init 20 = .ok (.if_icmp .ge 22, 3) := by decide +kernel
theorem dX2_init_23 : decode cX2_init 23 = .ok (.aload_n 0, 1) := by decide +kernel
theorem dX2_init_24 : decode cX2_init 24 = .ok (.getfield 11, 3) := by decide +kernel
theorem dX2_init_27 : decode cX2_init 27 = .ok (.iload_n 1, 1) := by decide +kernel
theorem dX2_init_28 : decode cX2_init 28 = .ok (.new 9, 3) := by decide +kernel
theorem dX2_init_31 : decode cX2_init 31 = .ok (.dup, 1) := by decide +kernel
theorem dX2_init_32 : decode cX2_init 32 = .ok (.invokespecial 15, 3) := by decide +kernel
theorem dX2_init_35 : decode cX2_init 35 = .ok (.aastore, 1) := by decide +kernel
theorem dX2_init_36 : decode cX2_init 36 = .ok (.iinc 1 1, 3) := by decide +kernel
theorem dX2_init_39 : decode cX2_init 39 = .ok (.goto (-25), 3) := by decide +kernel
theorem dX2_init_42 : decode cX2_init 42 = .ok (.return_, 1) := by decide +kernel
theorem dX2_size_0 : decode cX2_size 0 = .ok (.aload_n 0, 1) := by decide +kernel
theorem dX2_size_1 : decode cX2_size 1 = .ok (.getfield 16, 3) := by decide +kernel
theorem dX2_size_4 : decode cX2_size 4 = .ok (.ireturn, 1) := by decide +kernel
theorem dX2_push_0 : decode cX2_push 0 = .ok (.aload_n 0, 1) := by decide +kernel
theorem dX2_push_1 : decode cX2_push 1 = .ok (.getfield 16, 3) := by decide +kernel
theorem dX2_push_4 : decode cX2_push 4 = .ok (.aload_n 0, 1) := by decide +kernel
theorem dX2_push_5 : decode cX2_push 5 = .ok (.getfield 11, 3) := by decide +kernel
theorem dX2_push_8 : decode cX2_push 8 = .ok (.arraylength, 1) := by decide +kernel
theorem dX2_push_9 : decode cX2_push 9 = .ok (.if_icmp .lt 7, 3) := by decide +kernel
theorem dX2_push_12 : decode cX2_push 12 = .ok (.aload_n 0, 1) := by decide +kernel
theorem dX2_push_13 : decode cX2_push 13 = .ok (.invokevirtual 20, 3) := by decide +kernel
theorem dX2_push_16 : decode cX2_push 16 = .ok (.aload_n 0, 1) := by decide +kernel
theorem dX2_push_17 : decode cX2_push 17 = .ok (.getfield 16, 3) := by decide +kernel
theorem dX2_push_20 : decode cX2_push 20 = .ok (.ifCond .lt 15, 3) := by decide +kernel
theorem dX2_push_23 : decode cX2_push 23 = .ok (.aload_n 0, 1) := by decide +kernel
theorem dX2_push_24 : decode cX2_push 24 = .ok (.getfield 16, 3) := by decide +kernel
theorem dX2_push_27 : decode cX2_push 27 = .ok (.aload_n 0, 1) := by decide +kernel
theorem dX2_push_28 : decode cX2_push 28 = .ok (.getfield 11, 3) := by decide +kernel
theorem dX2_push_31 : decode cX2_push 31 = .ok (.arraylength, 1) := by decide +kernel
theorem dX2_push_32 : decode cX2_push 32 = .ok (.if_icmp .lt 4, 3) := by decide +kernel
theorem dX2_push_35 : decode cX2_push 35 = .ok (.return_, 1) := by decide +kernel
theorem dX2_push_36 : decode cX2_push 36 = .ok (.aload_n 0, 1) := by decide +kernel
theorem dX2_push_37 : decode cX2_push 37 = .ok (.getfield 11, 3) := by decide +kernel
theorem dX2_push_40 : decode cX2_push 40 = .ok (.aload_n 0, 1) := by decide +kernel
theorem dX2_push_41 : decode cX2_push 41 = .ok (.getfield 16, 3) := by decide +kernel
theorem dX2_push_44 : decode cX2_push 44 = .ok (.aaload, 1) := by decide +kernel
theorem dX2_push_45 : decode cX2_push 45 = .ok (.astore_n 2, 1) := by decide +kernel
theorem dX2_push_46 : decode cX2_push 46 = .ok (.aload_n 2, 1) := by decide +kernel
theorem dX2_push_47 : decode cX2_push 47 = .ok (.ifnull 18, 3) := by decide +kernel
theorem dX2_push_50 : decode cX2_push 50 = .ok (.aload_n 2, 1) := by decide +kernel
theorem dX2_push_51 : decode cX2_push 51 = .ok (.aload_n 1, 1) := by decide +kernel
theorem dX2_push_52 : decode cX2_push 52 = .ok (.invokevirtual 23, 3) := by decide +kernel
theorem dX2_push_55 : decode cX2_push 55 = .ok (.aload_n 0, 1) := by decide +kernel
theorem dX2_push_56 : decode cX2_push 56 = .ok (.dup, 1) := by decide +kernel
theorem dX2_push_57 : decode cX2_push 57 = .ok (.getfield 16, 3) := by decide +kernel
theorem dX2_push_60 : decode cX2_push 60 = .ok (.iconst 1, 1) := by decide +kernel
theorem dX2_push_61 : decode cX2_push 61 = .ok (.iadd, 1) := by decide +kernel
theorem dX2_push_62 : decode cX2_push 62 = .ok (.putfield 16, 3) := by decide +kernel
theorem dX2_push_65 : decode cX2_push 65 = .ok (.return_, 1) := by decide +kernel
theorem dX2_dropOldest_0 : decode cX2_dropOldest 0 = .ok (.aload_n 0, 1) := by decide +kernel
theorem dX2_dropOldest_1 : decode cX2_dropOldest 1 = .ok (.getfield 11, 3) := by decide +kernel
theorem dX2_dropOldest_4 : decode cX2_dropOldest 4 = .ok (.iconst 0, 1) := by decide +kernel
theorem dX2_dropOldest_5 : decode cX2_dropOldest 5 = .ok (.aaload, 1) := by decide +kernel
theorem dX2_dropOldest_6 : decode cX2_dropOldest 6 = .ok (.astore_n 1, 1) := by decide +kernel
theorem dX2_dropOldest_7 : decode cX2_dropOldest 7 = .ok (.iconst 1, 1) := by decide +kernel
theorem dX2_dropOldest_8 : decode cX2_dropOldest 8 = .ok (.istore_n 2, 1) := by decide +kernel
theorem dX2_dropOldest_9 : decode cX2_dropOldest 9 = .ok (.iload_n 2, 1) := by decide +kernel
theorem dX2_dropOldest_10 : decode cX2_dropOldest 10 = .ok (.aload_n 0, 1) := by decide +kernel
theorem dX2_dropOldest_11 : decode cX2_dropOldest 11 = .ok (.getfield 11, 3) := by decide +kernel
theorem dX2_dropOldest_14 : decode cX2_dropOldest 14 = .ok (.arraylength, 1) := by decide +kernel
theorem dX2_dropOldest_15 : decode cX2_dropOldest 15 = .ok (.if_icmp .ge 23, 3) := by decide +kernel
theorem dX2_dropOldest_18 : decode cX2_dropOldest 18 = .ok (.aload_n 0, 1) := by decide +kernel
theorem dX2_dropOldest_19 : decode cX2_dropOldest 19 = .ok (.getfield 11, 3) := by decide +kernel
theorem dX2_dropOldest_22 : decode cX2_dropOldest 22 = .ok (.iload_n 2, 1) := by decide +kernel
theorem dX2_dropOldest_23 : decode cX2_dropOldest 23 = .ok (.iconst 1, 1) := by decide +kernel
theorem dX2_dropOldest_24 : decode cX2_dropOldest 24 = .ok (.isub, 1) := by decide +kernel
theorem dX2_dropOldest_25 : decode cX2_dropOldest 25 = .ok (.aload_n 0, 1) := by decide +kernel
theorem dX2_dropOldest_26 : decode cX2_dropOldest 26 = .ok (.getfield 11, 3) := by decide +kernel
theorem dX2_dropOldest_29 : decode cX2_dropOldest 29 = .ok (.iload_n 2, 1) := by decide +kernel
theorem dX2_dropOldest_30 : decode cX2_dropOldest 30 = .ok (.aaload, 1) := by decide +kernel
theorem dX2_dropOldest_31 : decode cX2_dropOldest 31 = .ok (.aastore, 1) := by decide +kernel
theorem dX2_dropOldest_32 : decode cX2_dropOldest 32 = .ok (.iinc 2 1, 3) := by decide +kernel
theorem dX2_dropOldest_35 : decode cX2_dropOldest 35 = .ok (.goto (-26), 3) := by decide +kernel
theorem dX2_dropOldest_38 : decode cX2_dropOldest 38 = .ok (.aload_n 0, 1) := by decide +kernel
theorem dX2_dropOldest_39 : decode cX2_dropOldest 39 = .ok (.getfield 11, 3) := by decide +kernel
theorem dX2_dropOldest_42 : decode cX2_dropOldest 42 = .ok (.aload_n 0, 1) := by decide +kernel
theorem dX2_dropOldest_43 : decode cX2_dropOldest 43 = .ok (.getfield 11, 3) := by decide +kernel
theorem dX2_dropOldest_46 : decode cX2_dropOldest 46 = .ok (.arraylength, 1) := by decide +kernel
theorem dX2_dropOldest_47 : decode cX2_dropOldest 47 = .ok (.iconst 1, 1) := by decide +kernel
theorem dX2_dropOldest_48 : decode cX2_dropOldest 48 = .ok (.isub, 1) := by decide +kernel
theorem dX2_dropOldest_49 : decode cX2_dropOldest 49 = .ok (.aload_n 1, 1) := by decide +kernel
theorem dX2_dropOldest_50 : decode cX2_dropOldest 50 = .ok (.aastore, 1) := by decide +kernel
theorem dX2_dropOldest_51 : decode cX2_dropOldest 51 = .ok (.aload_n 0, 1) := by decide +kernel
theorem dX2_dropOldest_52 : decode cX2_dropOldest 52 = .ok (.aload_n 0, 1) := by decide +kernel
theorem dX2_dropOldest_53 : decode cX2_dropOldest 53 = .ok (.getfield 11, 3) := by decide +kernel
theorem dX2_dropOldest_56 : decode cX2_dropOldest 56 = .ok (.arraylength, 1) := by decide +kernel
theorem dX2_dropOldest_57 : decode cX2_dropOldest 57 = .ok (.iconst 1, 1) := by decide +kernel
theorem dX2_dropOldest_58 : decode cX2_dropOldest 58 = .ok (.isub, 1) := by decide +kernel
theorem dX2_dropOldest_59 : decode cX2_dropOldest 59 = .ok (.putfield 16, 3) := by decide +kernel
theorem dX2_dropOldest_62 : decode cX2_dropOldest 62 = .ok (.return_, 1) := by decide +kernel
theorem dX2_takeLatest_0 : decode cX2_takeLatest 0 = .ok (.aload_n 0, 1) := by decide +kernel
theorem dX2_takeLatest_1 : decode cX2_takeLatest 1 = .ok (.getfield 16, 3) := by decide +kernel
theorem dX2_takeLatest_4 : decode cX2_takeLatest 4 = .ok (.iconst 1, 1) := by decide +kernel
theorem dX2_takeLatest_5 : decode cX2_takeLatest 5 = .ok (.if_icmp .lt 15, 3) := by decide +kernel
theorem dX2_takeLatest_8 : decode cX2_takeLatest 8 = .ok (.aload_n 0, 1) := by decide +kernel
theorem dX2_takeLatest_9 : decode cX2_takeLatest 9 = .ok (.getfield 16, 3) := by decide +kernel
theorem dX2_takeLatest_12 : decode cX2_takeLatest 12 = .ok (.aload_n 0, 1) := by decide +kernel
theorem dX2_takeLatest_13 : decode cX2_takeLatest 13 = .ok (.getfield 11, 3) := by decide +kernel
theorem dX2_takeLatest_16 : decode cX2_takeLatest 16 = .ok (.arraylength, 1) := by decide +kernel
theorem dX2_takeLatest_17 : decode cX2_takeLatest 17 = .ok (.if_icmp .le 4, 3) := by decide +kernel
theorem dX2_takeLatest_20 : decode cX2_takeLatest 20 = .ok (.return_, 1) := by decide +kernel
theorem dX2_takeLatest_21 : decode cX2_takeLatest 21 = .ok (.aload_n 0, 1) := by decide +kernel
theorem dX2_takeLatest_22 : decode cX2_takeLatest 22 = .ok (.getfield 11, 3) := by decide +kernel
theorem dX2_takeLatest_25 : decode cX2_takeLatest 25 = .ok (.aload_n 0, 1) := by decide +kernel
theorem dX2_takeLatest_26 : decode cX2_takeLatest 26 = .ok (.getfield 16, 3) := by decide +kernel
theorem dX2_takeLatest_29 : decode cX2_takeLatest 29 = .ok (.iconst 1, 1) := by decide +kernel
theorem dX2_takeLatest_30 : decode cX2_takeLatest 30 = .ok (.isub, 1) := by decide +kernel
theorem dX2_takeLatest_31 : decode cX2_takeLatest 31 = .ok (.aaload, 1) := by decide +kernel
theorem dX2_takeLatest_32 : decode cX2_takeLatest 32 = .ok (.astore_n 2, 1) := by decide +kernel
theorem dX2_takeLatest_33 : decode cX2_takeLatest 33 = .ok (.aload_n 2, 1) := by decide +kernel
theorem dX2_takeLatest_34 : decode cX2_takeLatest 34 = .ok (.ifnull 18, 3) := by decide +kernel
theorem dX2_takeLatest_37 : decode cX2_takeLatest 37 = .ok (.aload_n 1, 1) := by decide +kernel
theorem dX2_takeLatest_38 : decode cX2_takeLatest 38 = .ok (.aload_n 2, 1) := by decide +kernel
theorem dX2_takeLatest_39 : decode cX2_takeLatest 39 = .ok (.invokevirtual 23, 3) := by decide +kernel
theorem dX2_takeLatest_42 : decode cX2_takeLatest 42 = .ok (.aload_n 0, 1) := by decide +kernel
theorem dX2_takeLatest_43 : decode cX2_takeLatest 43 = .ok (.dup, 1) := by decide +kernel
theorem dX2_takeLatest_44 : decode cX2_takeLatest 44 = .ok (.getfield 16, 3) := by decide +kernel
theorem dX2_takeLatest_47 : decode cX2_takeLatest 47 = .ok (.iconst 1, 1) := by decide +kernel
theorem dX2_takeLatest_48 : decode cX2_takeLatest 48 = .ok (.isub, 1) := by decide +kernel
theorem dX2_takeLatest_49 : decode cX2_takeLatest 49 = .ok (.putfield 16, 3) := by decide +kernel
theorem dX2_takeLatest_52 : decode cX2_takeLatest 52 = .ok (.return_, 1) := by decide +kernel
theorem dX3_init_0 : decode cX3_init 0 = .ok (.aload_n 0, 1) := by decide +kernel
theorem dX3_init_1 : decode cX3_init 1 = .ok (.invokespecial 3, 3) := by decide +kernel
theorem dX3_init_4 : decode cX3_init 4 = .ok (.aload_n 0, 1) := by decide +kernel
theorem dX3_init_5 : decode cX3_init 5 = .ok (.new 9, 3) := by decide +kernel
theorem dX3_init_8 : decode cX3_init 8 = .ok (.dup, 1) := by decide +kernel
theorem dX3_init_9 : decode cX3_init 9 = .ok (.invokespecial 11, 3) := by decide +kernel
theorem dX3_init_12 : decode cX3_init 12 = .ok (.putfield 12, 3) := by decide +kernel
theorem dX3_init_15 : decode cX3_init 15 = .ok (.aload_n 0, 1) := by decide +kernel
theorem dX3_init_16 : decode cX3_init 16 = .ok (.new 18, 3) := by decide +kernel
theorem dX3_init_19 : decode cX3_init 19 = .ok (.dup, 1) := by decide +kernel
theorem dX3_init_20 : decode cX3_init 20 = .ok (.invokespecial 20, 3) := by decide +kernel
theorem dX3_init_23 : decode cX3_init 23 = .ok (.putfield 21, 3) := by decide +kernel
theorem dX3_init_26 : decode cX3_init 26 = .ok (.aload_n 0, 1) := by decide +kernel
theorem dX3_init_27 : decode cX3_init 27 = .ok (.new 18, 3) := by decide +kernel
theorem dX3_init_30 : decode cX3_init 30 = .ok (.dup, 1) := by decide +kernel
theorem dX3_init_31 : decode cX3_init 31 = .ok (.invokespecial 20, 3) := by decide +kernel
theorem dX3_init_34 : decode cX3_init 34 = .ok (.putfield 25, 3) := by decide +kernel
theorem dX3_init_37 : decode cX3_init 37 = .ok (.aload_n 0, 1) := by decide +kernel
theorem dX3_init_38 : decode cX3_init 38 = .ok (.aload_n 1, 1) := by decide +kernel
theorem dX3_init_39 : decode cX3_init 39 = .ok (.putfield 28, 3) := by decide +kernel
theorem dX3_init_42 : decode cX3_init 42 = .ok (.return_, 1) := by decide +kernel
theorem dX3_worthAhead_0 : decode cX3_worthAhead 0 = .ok (.aload_n 0, 1) := by decide +kernel
theorem dX3_worthAhead_1 : decode cX3_worthAhead 1 = .ok (.getfield 12, 3) := by decide +kernel
theorem dX3_worthAhead_4 : decode cX3_worthAhead 4 = .ok (.aload_n 1, 1) := by decide +kernel
theorem dX3_worthAhead_5 : decode cX3_worthAhead 5 = .ok (.invokevirtual 32, 3) := by decide +kernel
theorem dX3_worthAhead_8 : decode cX3_worthAhead 8 = .ok (.aload_n 0, 1) := by decide +kernel
theorem dX3_worthAhead_9 : decode cX3_worthAhead 9 = .ok (.iload_n 2, 1) := by decide +kernel
theorem dX3_worthAhead_10 : decode cX3_worthAhead 10 = .ok (.invokevirtual 36, 3) := by decide +kernel
theorem dX3_worthAhead_13 : decode cX3_worthAhead 13 = .ok (.ireturn, 1) := by decide +kernel
theorem dX3_bestMove_0 : decode cX3_bestMove 0 = .ok (.aload_n 0, 1) := by decide +kernel
theorem dX3_bestMove_1 : decode cX3_bestMove 1 = .ok (.getfield 12, 3) := by decide +kernel
theorem dX3_bestMove_4 : decode cX3_bestMove 4 = .ok (.aload_n 1, 1) := by decide +kernel
theorem dX3_bestMove_5 : decode cX3_bestMove 5 = .ok (.invokevirtual 32, 3) := by decide +kernel
theorem dX3_bestMove_8 : decode cX3_bestMove 8 = .ok (.aload_n 0, 1) := by decide +kernel
theorem dX3_bestMove_9 : decode cX3_bestMove 9 = .ok (.iload_n 2, 1) := by decide +kernel
theorem dX3_bestMove_10 : decode cX3_bestMove 10 = .ok (.invokevirtual 36, 3) := by decide +kernel
theorem dX3_bestMove_13 : decode cX3_bestMove 13 = .ok (.pop, 1) := by decide +kernel
theorem dX3_bestMove_14 : decode cX3_bestMove 14 = .ok (.aload_n 0, 1) := by decide +kernel
theorem dX3_bestMove_15 : decode cX3_bestMove 15 = .ok (.getfield 40, 3) := by decide +kernel
theorem dX3_bestMove_18 : decode cX3_bestMove 18 = .ok (.ireturn, 1) := by decide +kernel
theorem dX3_search_0 : decode cX3_search 0 = .ok (.iload_n 1, 1) := by decide +kernel
theorem dX3_search_1 : decode cX3_search 1 = .ok (.ifCond .le 8, 3) := by decide +kernel
theorem dX3_search_4 : decode cX3_search 4 = .ok (.iload_n 1, 1) := by decide +kernel
theorem dX3_search_5 : decode cX3_search 5 = .ok (.iconst 2, 1) := by decide +kernel
theorem dX3_search_6 : decode cX3_search 6 = .ok (.if_icmp .le 11, 3) := by decide +kernel
theorem dX3_search_9 : decode cX3_search 9 = .ok (.aload_n 0, 1) := by decide +kernel
theorem dX3_search_10 : decode cX3_search 10 = .ok (.getfield 12, 3) := by decide +kernel
theorem dX3_search_13 : decode cX3_search 13 = .ok (.invokevirtual 44, 3) := by decide +kernel
theorem dX3_search_16 : decode cX3_search 16 = .ok (.ireturn, 1) := by decide +kernel
theorem dX3_search_17 : decode cX3_search 17 = .ok (.iload_n 1, 1) := by decide +kernel
theorem dX3_search_18 : decode cX3_search 18 = .ok (.iconst 1, 1) := by decide +kernel
theorem dX3_search_19 : decode cX3_search 19 = .ok (.if_icmp .ne 10, 3) := by decide +kernel
theorem dX3_search_22 : decode cX3_search 22 = .ok (.aload_n 0, 1) := by decide +kernel
theorem dX3_search_23 : decode cX3_search 23 = .ok (.getfield 21, 3) := by decide +kernel
theorem dX3_search_26 : decode cX3_search 26 = .ok (.goto 7, 3) := by decide +kernel
theorem dX3_search_29 : decode cX3_search 29 = .ok (.aload_n 0, 1) := by decide +kernel
theorem dX3_search_30 : decode cX3_search 30 = .ok (.getfield 25, 3) := by decide +kernel
theorem dX3_search_33 : decode cX3_search 33 = .ok (.astore_n 2, 1) := by decide +kernel
theorem dX3_search_34 : decode cX3_search 34 = .ok (.aload_n 0, 1) := by decide +kernel
theorem dX3_search_35 : decode cX3_search 35 = .ok (.getfield 28, 3) := by decide +kernel
theorem dX3_search_38 : decode cX3_search 38 = .ok (.aload_n 0, 1) := by decide +kernel
theorem dX3_search_39 : decode cX3_search 39 = .ok (.getfield 12, 3) := by decide +kernel
theorem dX3_search_42 : decode cX3_search 42 = .ok (.aload_n 2, 1) := by decide +kernel
theorem dX3_search_43 : decode cX3_search 43 = .ok (.invokevirtual 48, 3) := by decide +kernel
theorem dX3_search_46 : decode cX3_search 46 = .ok (.aload_n 0, 1) := by decide +kernel
theorem dX3_search_47 : decode cX3_search 47 = .ok (.getfield 12, 3) := by decide +kernel
theorem dX3_search_50 : decode cX3_search 50 = .ok (.invokevirtual 54, 3) := by decide +kernel
theorem dX3_search_53 : decode cX3_search 53 = .ok (.istore_n 3, 1) := by decide +kernel
theorem dX3_search_54 : decode cX3_search 54 = .ok (.sipush (-1000), 3) := by decide +kernel
theorem dX3_search_57 : decode cX3_search 57 = .ok (.istore 4, 2) := by decide +kernel
theorem dX3_search_59 : decode cX3_search 59 = .ok (.iconst (-1), 1) := by decide +kernel
theorem dX3_search_60 : decode cX3_search 60 = .ok (.istore 5, 2) := by decide +kernel
theorem dX3_search_62 : decode cX3_search 62 = .ok (.iconst 0, 1) := by decide +kernel
theorem dX3_search_63 : decode cX3_search 63 = .ok (.istore 6, 2) := by decide +kernel
theorem dX3_search_65 : decode cX3_search 65 = .ok (.iload 6, 2) := by decide +kernel
theorem dX3_search_67 : decode cX3_search 67 = .ok (.aload_n 2, 1) := by decide +kernel
theorem dX3_search_68 : decode cX3_search 68 = .ok (.invokevirtual 57, 3) := by decide +kernel
theorem dX3_search_71 : decode cX3_search 71 = .ok (.if_icmp .ge 83, 3) := by decide +kernel
theorem dX3_search_74 : decode cX3_search 74 = .ok (.aload_n 2, 1) := by decide +kernel
theorem dX3_search_75 : decode cX3_search 75 = .ok (.iload 6, 2) := by decide +kernel
theorem dX3_search_77 : decode cX3_search 77 = .ok (.invokevirtual 60, 3) := by decide +kernel
theorem dX3_search_80 : decode cX3_search 80 = .ok (.istore 7, 2) := by decide +kernel
theorem dX3_search_82 : decode cX3_search 82 = .ok (.iload 7, 2) := by decide +kernel
theorem dX3_search_84 : decode cX3_search 84 = .ok (.bipush 100, 2) := by decide +kernel
theorem dX3_search_86 : decode cX3_search 86 = .ok (.idiv, 1) := by decide +kernel
theorem dX3_search_87 : decode cX3_search 87 = .ok (.istore 8, 2) := by decide +kernel
theorem dX3_search_89 : decode cX3_search 89 = .ok (.iload 7, 2) := by decide +kernel
theorem dX3_search_91 : decode cX3_search 91 = .ok (.bipush 100, 2) := by decide +kernel
theorem dX3_search_93 : decode cX3_search 93 = .ok (.irem, 1) := by decide +kernel
theorem dX3_search_94 : decode cX3_search 94 = .ok (.istore 9, 2) := by decide +kernel
theorem dX3_search_96 : decode cX3_search 96 = .ok (.aload_n 0, 1) := by decide +kernel
theorem dX3_search_97 : decode cX3_search 97 = .ok (.getfield 12, 3) := by decide +kernel
theorem dX3_search_100 : decode cX3_search 100 = .ok (.iload 8, 2) := by decide +kernel
theorem dX3_search_102 : decode cX3_search 102 = .ok (.iload 9, 2) := by decide +kernel
theorem dX3_search_104 : decode cX3_search 104 = .ok (.invokevirtual 63, 3) := by decide +kernel
theorem dX3_search_107 : decode cX3_search 107 = .ok (.istore 10, 2) := by decide +kernel
theorem dX3_search_109 : decode cX3_search 109 = .ok (.aload_n 0, 1) := by decide +kernel
theorem dX3_search_110 : decode cX3_search 110 = .ok (.iload_n 1, 1) := by decide +kernel
theorem dX3_search_111 : decode cX3_search 111 = .ok (.iconst 1, 1) := by decide +kernel
theorem dX3_search_112 : decode cX3_search 112 = .ok (.isub, 1) := by decide +kernel
theorem dX3_search_113 : decode cX3_search 113 = .ok (.invokevirtual 36, 3) := by decide +kernel
theorem dX3_search_116 : decode cX3_search 116 = .ok (.ineg, 1) := by decide +kernel
theorem dX3_search_117 : decode cX3_search 117 = .ok (.istore 11, 2) := by decide +kernel
theorem dX3_search_119 : decode cX3_search 119 = .ok (.aload_n 0, 1) := by decide +kernel
theorem dX3_search_120 : decode cX3_search 120 = .ok (.getfield 12, 3) := by decide +kernel
theorem dX3_search_123 : decode cX3_search 123 = .ok (.iload 8, 2) := by decide +kernel
theorem dX3_search_125 : decode cX3_search 125 = .ok (.iload 9, 2) := by decide +kernel
theorem dX3_search_127 : decode cX3_search 127 = .ok (.iload 10, 2) := by decide +kernel
theorem dX3_search_129 : decode cX3_search 129 = .ok (.iload_n 3, 1) := by decide +kernel
theorem dX3_search_130 : decode cX3_search 130 = .ok (.invokevirtual 67, 3) := by decide +kernel
theorem dX3_search_133 : decode cX3_search 133 = .ok (.iload 11, 2) := by decide +kernel
theorem dX3_search_135 : decode cX3_search 135 = .ok (.iload 4, 2) := by decide +kernel
theorem dX3_search_137 : decode cX3_search 137 = .ok (.if_icmp .le 11, 3) := by decide +kernel
theorem dX3_search_140 : decode cX3_search 140 = .ok (.iload 11, 2) := by decide +kernel
theorem dX3_search_142 : decode cX3_search 142 = .ok (.istore 4, 2) := by decide +kernel
theorem dX3_search_144 : decode cX3_search 144 = .ok (.iload 7, 2) := by decide +kernel
theorem dX3_search_146 : decode cX3_search 146 = .ok (.istore 5, 2) := by decide +kernel
theorem dX3_search_148 : decode cX3_search 148 = .ok (.iinc 6 1, 3) := by decide +kernel
theorem dX3_search_151 : decode cX3_search 151 = .ok (.goto (-86), 3) := by decide +kernel
theorem dX3_search_154 : decode cX3_search 154 = .ok (.aload_n 0, 1) := by decide +kernel
theorem dX3_search_155 : decode cX3_search 155 = .ok (.iload 5, 2) := by decide +kernel
theorem dX3_search_157 : decode cX3_search 157 = .ok (.putfield 40, 3) := by decide +kernel
theorem dX3_search_160 : decode cX3_search 160 = .ok (.iload 5, 2) := by decide +kernel
theorem dX3_search_162 : decode cX3_search 162 = .ok (.iconst (-1), 1) := by decide +kernel
theorem dX3_search_163 : decode cX3_search 163 = .ok (.if_icmp .ne 13, 3) := by decide +kernel
theorem dX3_search_166 : decode cX3_search 166 = .ok (.aload_n 0, 1) := by decide +kernel
theorem dX3_search_167 : decode cX3_search 167 = .ok (.getfield 12, 3) := by decide +kernel
theorem dX3_search_170 : decode cX3_search 170 = .ok (.invokevirtual 44, 3) := by decide +kernel
theorem dX3_search_173 : decode cX3_search 173 = .ok (.goto 5, 3) := by decide +kernel
theorem dX3_search_176 : decode cX3_search 176 = .ok (.iload 4, 2) := by decide +kernel
theorem dX3_search_178 : decode cX3_search 178 = .ok (.ireturn, 1) := by decide +kernel
theorem dX4_init_0 : decode cX4_init 0 = .ok (.aload_n 0, 1) := by decide +kernel
theorem dX4_init_1 : decode cX4_init 1 = .ok (.invokespecial 3, 3) := by decide +kernel
theorem dX4_init_4 : decode cX4_init 4 = .ok (.aload_n 0, 1) := by decide +kernel
theorem dX4_init_5 : decode cX4_init 5 = .ok (.sipush 364, 3) := by decide +kernel
theorem dX4_init_8 : decode cX4_init 8 = .ok (.newarray .int, 2) := by decide +kernel
theorem dX4_init_10 : decode cX4_init 10 = .ok (.putfield 11, 3) := by decide +kernel
theorem dX4_init_13 : decode cX4_init 13 = .ok (.return_, 1) := by decide +kernel
theorem dX4_clear_0 : decode cX4_clear 0 = .ok (.aload_n 0, 1) := by decide +kernel
theorem dX4_clear_1 : decode cX4_clear 1 = .ok (.iconst 0, 1) := by decide +kernel
theorem dX4_clear_2 : decode cX4_clear 2 = .ok (.putfield 15, 3) := by decide +kernel
theorem dX4_clear_5 : decode cX4_clear 5 = .ok (.aload_n 0, 1) := by decide +kernel
theorem dX4_clear_6 : decode cX4_clear 6 = .ok (.iconst 0, 1) := by decide +kernel
theorem dX4_clear_7 : decode cX4_clear 7 = .ok (.putfield 19, 3) := by decide +kernel
theorem dX4_clear_10 : decode cX4_clear 10 = .ok (.return_, 1) := by decide +kernel
theorem dX4_size_0 : decode cX4_size 0 = .ok (.aload_n 0, 1) := by decide +kernel
theorem dX4_size_1 : decode cX4_size 1 = .ok (.getfield 15, 3) := by decide +kernel
theorem dX4_size_4 : decode cX4_size 4 = .ok (.ireturn, 1) := by decide +kernel
theorem dX4_captures_0 : decode cX4_captures 0 = .ok (.aload_n 0, 1) := by decide +kernel
theorem dX4_captures_1 : decode cX4_captures 1 = .ok (.getfield 19, 3) := by decide +kernel
theorem dX4_captures_4 : decode cX4_captures 4 = .ok (.ireturn, 1) := by decide +kernel
theorem dX4_get_0 : decode cX4_get 0 = .ok (.iload_n 1, 1) := by decide +kernel
theorem dX4_get_1 : decode cX4_get 1 = .ok (.ifCond .lt 29, 3) := by decide +kernel
theorem dX4_get_4 : decode cX4_get 4 = .ok (.iload_n 1, 1) := by decide +kernel
theorem dX4_get_5 : decode cX4_get 5 = .ok (.aload_n 0, 1) := by decide +kernel
theorem dX4_get_6 : decode cX4_get 6 = .ok (.getfield 15, 3) := by decide +kernel
theorem dX4_get_9 : decode cX4_get 9 = .ok (.if_icmp .ge 21, 3) := by decide +kernel
theorem dX4_get_12 : decode cX4_get 12 = .ok (.iload_n 1, 1) := by decide +kernel
theorem dX4_get_13 : decode cX4_get 13 = .ok (.aload_n 0, 1) := by decide +kernel
theorem dX4_get_14 : decode cX4_get 14 = .ok (.getfield 11, 3) := by decide +kernel
theorem dX4_get_17 : decode cX4_get 17 = .ok (.arraylength, 1) := by decide +kernel
theorem dX4_get_18 : decode cX4_get 18 = .ok (.if_icmp .ge 12, 3) := by decide +kernel
theorem dX4_get_21 : decode cX4_get 21 = .ok (.aload_n 0, 1) := by decide +kernel
theorem dX4_get_22 : decode cX4_get 22 = .ok (.getfield 11, 3) := by decide +kernel
theorem dX4_get_25 : decode cX4_get 25 = .ok (.iload_n 1, 1) := by decide +kernel
theorem dX4_get_26 : decode cX4_get 26 = .ok (.iaload, 1) := by decide +kernel
theorem dX4_get_27 : decode cX4_get 27 = .ok (.goto 4, 3) := by decide +kernel
theorem dX4_get_30 : decode cX4_get 30 = .ok (.iconst (-1), 1) := by decide +kernel
theorem dX4_get_31 : decode cX4_get 31 = .ok (.ireturn, 1) := by decide +kernel
theorem dX4_addQuiet_0 : decode cX4_addQuiet 0 = .ok (.aload_n 0, 1) := by decide +kernel
theorem dX4_addQuiet_1 : decode cX4_addQuiet 1 = .ok (.getfield 15, 3) := by decide +kernel
theorem dX4_addQuiet_4 : decode cX4_addQuiet 4 = .ok (.ifCond .lt 35, 3) := by decide +kernel
theorem dX4_addQuiet_7 : decode cX4_addQuiet 7 = .ok (.aload_n 0, 1) := by decide +kernel
theorem dX4_addQuiet_8 : decode cX4_addQuiet 8 = .ok (.getfield 15, 3) := by decide +kernel
theorem dX4_addQuiet_11 : decode cX4_addQuiet 11 = .ok (.aload_n 0, 1) := by decide +kernel
theorem dX4_addQuiet_12 : decode cX4_addQuiet 12 = .ok (.getfield 11, 3) := by decide +kernel
theorem dX4_addQuiet_15 : decode cX4_addQuiet 15 = .ok (.arraylength, 1) := by decide +kernel
theorem dX4_addQuiet_16 : decode cX4_addQuiet 16 = .ok (.if_icmp .ge 23, 3) := by decide +kernel
theorem dX4_addQuiet_19 : decode cX4_addQuiet 19 = .ok (.aload_n 0, 1) := by decide +kernel
theorem dX4_addQuiet_20 : decode cX4_addQuiet 20 = .ok (.getfield 11, 3) := by decide +kernel
theorem dX4_addQuiet_23 : decode cX4_addQuiet 23 = .ok (.aload_n 0, 1) := by decide +kernel
theorem dX4_addQuiet_24 : decode cX4_addQuiet 24 = .ok (.getfield 15, 3) := by decide +kernel
theorem dX4_addQuiet_27 : decode cX4_addQuiet 27 = .ok (.iload_n 1, 1) := by decide +kernel
theorem dX4_addQuiet_28 : decode cX4_addQuiet 28 = .ok (.iastore, 1) := by decide +kernel
theorem dX4_addQuiet_29 : decode cX4_addQuiet 29 = .ok (.aload_n 0, 1) := by decide +kernel
theorem dX4_addQuiet_30 : decode cX4_addQuiet 30 = .ok (.dup, 1) := by decide +kernel
theorem dX4_addQuiet_31 : decode cX4_addQuiet 31 = .ok (.getfield 15, 3) := by decide +kernel
theorem dX4_addQuiet_34 : decode cX4_addQuiet 34 = .ok (.iconst 1, 1) := by decide +kernel
theorem dX4_addQuiet_35 : decode cX4_addQuiet 35 = .ok (.iadd, 1) := by decide +kernel
theorem dX4_addQuiet_36 : decode cX4_addQuiet 36 = .ok (.putfield 15, 3) := by decide +kernel
theorem dX4_addQuiet_39 : decode cX4_addQuiet 39 = .ok (.return_, 1) := by decide +kernel
theorem dX4_addCapture_0 : decode cX4_addCapture 0 = .ok (.aload_n 0, 1) := by decide +kernel
theorem dX4_addCapture_1 : decode cX4_addCapture 1 = .ok (.getfield 15, 3) := by decide +kernel
theorem dX4_addCapture_4 : decode cX4_addCapture 4 = .ok (.ifCond .lt 15, 3) := by decide +kernel
theorem dX4_addCapture_7 : decode cX4_addCapture 7 = .ok (.aload_n 0, 1) := by decide +kernel
theorem dX4_addCapture_8 : decode cX4_addCapture 8 = .ok (.getfield 15, 3) := by decide +kernel
theorem dX4_addCapture_11 : decode cX4_addCapture 11 = .ok (.aload_n 0, 1) := by decide +kernel
theorem dX4_addCapture_12 : decode cX4_addCapture 12 = .ok (.getfield 11, 3) := by decide +kernel
theorem dX4_addCapture_15 : decode cX4_addCapture 15 = .ok (.arraylength, 1) := by decide +kernel
theorem dX4_addCapture_16 : decode cX4_addCapture 16 = .ok (.if_icmp .lt 4, 3) := by decide +kernel
theorem dX4_addCapture_19 : decode cX4_addCapture 19 = .ok (.return_, 1) := by decide +kernel
theorem dX4_addCapture_20 : decode cX4_addCapture 20 = .ok (.aload_n 0, 1) := by decide +kernel
theorem dX4_addCapture_21 : decode cX4_addCapture 21 = .ok (.getfield 15, 3) := by decide +kernel
theorem dX4_addCapture_24 : decode cX4_addCapture 24 = .ok (.istore_n 2, 1) := by decide +kernel
theorem dX4_addCapture_25 : decode cX4_addCapture 25 = .ok (.iload_n 2, 1) := by decide +kernel
theorem dX4_addCapture_26 : decode cX4_addCapture 26 = .ok (.ifCond .le 21, 3) := by decide +kernel
theorem dX4_addCapture_29 : decode cX4_addCapture 29 = .ok (.aload_n 0, 1) := by decide +kernel
theorem dX4_addCapture_30 : decode cX4_addCapture 30 = .ok (.getfield 11, 3) := by decide +kernel
theorem dX4_addCapture_33 : decode cX4_addCapture 33 = .ok (.iload_n 2, 1) := by decide +kernel
theorem dX4_addCapture_34 : decode cX4_addCapture 34 = .ok (.iconst 1, 1) := by decide +kernel
theorem dX4_addCapture_35 : decode cX4_addCapture 35 = .ok (.isub, 1) := by decide +kernel
theorem dX4_addCapture_36 : decode cX4_addCapture 36 = .ok (.iaload, 1) := by decide +kernel
theorem dX4_addCapture_37 : decode cX4_addCapture 37 = .ok (.iload_n 1, 1) := by decide +kernel
theorem dX4_addCapture_38 : decode cX4_addCapture 38 = .ok (.if_icmp .le 9, 3) := by decide +kernel
theorem dX4_addCapture_41 : decode cX4_addCapture 41 = .ok (.iinc 2 (-1), 3) := by decide +kernel
theorem dX4_addCapture_44 : decode cX4_addCapture 44 = .ok (.goto (-19), 3) := by decide +kernel
theorem dX4_addCapture_47 : decode cX4_addCapture 47 = .ok (.iload_n 2, 1) := by decide +kernel
theorem dX4_addCapture_48 : decode cX4_addCapture 48 = .ok (.ifCond .le 16, 3) := by decide +kernel
theorem dX4_addCapture_51 : decode cX4_addCapture 51 = .ok (.aload_n 0, 1) := by decide +kernel
theorem dX4_addCapture_52 : decode cX4_addCapture 52 = .ok (.getfield 11, 3) := by decide +kernel
theorem dX4_addCapture_55 : decode cX4_addCapture 55 = .ok (.iload_n 2, 1) := by decide +kernel
theorem dX4_addCapture_56 : decode cX4_addCapture 56 = .ok (.iconst 1, 1) := by decide +kernel
theorem dX4_addCapture_57 : decode cX4_addCapture 57 = .ok (.isub, 1) := by decide +kernel
theorem dX4_addCapture_58 : decode cX4_addCapture 58 = .ok (.iaload, 1) := by decide +kernel
theorem dX4_addCapture_59 : decode cX4_addCapture 59 = .ok (.iload_n 1, 1) := by decide +kernel
theorem dX4_addCapture_60 : decode cX4_addCapture 60 = .ok (.if_icmp .ne 4, 3) := by decide +kernel
theorem dX4_addCapture_63 : decode cX4_addCapture 63 = .ok (.return_, 1) := by decide +kernel
theorem dX4_addCapture_64 : decode cX4_addCapture 64 = .ok (.aload_n 0, 1) := by decide +kernel
theorem dX4_addCapture_65 : decode cX4_addCapture 65 = .ok (.getfield 15, 3) := by decide +kernel
theorem dX4_addCapture_68 : decode cX4_addCapture 68 = .ok (.istore_n 3, 1) := by decide +kernel
theorem dX4_addCapture_69 : decode cX4_addCapture 69 = .ok (.iload_n 3, 1) := by decide +kernel
theorem dX4_addCapture_70 : decode cX4_addCapture 70 = .ok (.iload_n 2, 1) := by decide +kernel
theorem dX4_addCapture_71 : decode cX4_addCapture 71 = .ok (.if_icmp .le 23, 3) := by decide +kernel
theorem dX4_addCapture_74 : decode cX4_addCapture 74 = .ok (.aload_n 0, 1) := by decide +kernel
theorem dX4_addCapture_75 : decode cX4_addCapture 75 = .ok (.getfield 11, 3) := by decide +kernel
theorem dX4_addCapture_78 : decode cX4_addCapture 78 = .ok (.iload_n 3, 1) := by decide +kernel
theorem dX4_addCapture_79 : decode cX4_addCapture 79 = .ok (.aload_n 0, 1) := by decide +kernel
theorem dX4_addCapture_80 : decode cX4_addCapture 80 = .ok (.getfield 11, 3) := by decide +kernel
theorem dX4_addCapture_83 : decode cX4_addCapture 83 = .ok (.iload_n 3, 1) := by decide +kernel
theorem dX4_addCapture_84 : decode cX4_addCapture 84 = .ok (.iconst 1, 1) := by decide +kernel
theorem dX4_addCapture_85 : decode cX4_addCapture 85 = .ok (.isub, 1) := by decide +kernel
theorem dX4_addCapture_86 : decode cX4_addCapture 86 = .ok (.iaload, 1) := by decide +kernel
theorem dX4_addCapture_87 : decode cX4_addCapture 87 = .ok (.iastore, 1) := by decide +kernel
theorem dX4_addCapture_88 : decode cX4_addCapture 88 = .ok (.iinc 3 (-1), 3) := by decide +kernel
theorem dX4_addCapture_91 : decode cX4_addCapture 91 = .ok (.goto (-22), 3) := by decide +kernel
theorem dX4_addCapture_94 : decode cX4_addCapture 94 = .ok (.aload_n 0, 1) := by decide +kernel
theorem dX4_addCapture_95 : decode cX4_addCapture 95 = .ok (.getfield 11, 3) := by decide +kernel
theorem dX4_addCapture_98 : decode cX4_addCapture 98 = .ok (.iload_n 2, 1) := by decide +kernel
theorem dX4_addCapture_99 : decode cX4_addCapture 99 = .ok (.iload_n 1, 1) := by decide +kernel
theorem dX4_addCapture_100 : decode cX4_addCapture 100 = .ok (.iastore, 1) := by decide +kernel
theorem dX4_addCapture_101 : decode cX4_addCapture 101 = .ok (.aload_n 0, 1) := by decide +kernel
theorem dX4_addCapture_102 : decode cX4_addCapture 102 = .ok (.dup, 1) := by decide +kernel
theorem dX4_addCapture_103 : decode cX4_addCapture 103 = .ok (.getfield 15, 3) := by decide +kernel
theorem dX4_addCapture_106 : decode cX4_addCapture 106 = .ok (.iconst 1, 1) := by decide +kernel
theorem dX4_addCapture_107 : decode cX4_addCapture 107 = .ok (.iadd, 1) := by decide +kernel
theorem dX4_addCapture_108 : decode cX4_addCapture 108 = .ok (.putfield 15, 3) := by decide +kernel
theorem dX4_addCapture_111 : decode cX4_addCapture 111 = .ok (.aload_n 0, 1) := by decide +kernel
theorem dX4_addCapture_112 : decode cX4_addCapture 112 = .ok (.aload_n 0, 1) := by decide +kernel
theorem dX4_addCapture_113 : decode cX4_addCapture 113 = .ok (.getfield 15, 3) := by decide +kernel
theorem dX4_addCapture_116 : decode cX4_addCapture 116 = .ok (.putfield 19, 3) := by decide +kernel
theorem dX4_addCapture_119 : decode cX4_addCapture 119 = .ok (.return_, 1) := by decide +kernel
theorem dX5_init_0 : decode cX5_init 0 = .ok (.aload_n 0, 1) := by decide +kernel
theorem dX5_init_1 : decode cX5_init 1 = .ok (.invokespecial 3, 3) := by decide +kernel
theorem dX5_init_4 : decode cX5_init 4 = .ok (.aload_n 0, 1) := by decide +kernel
theorem dX5_init_5 : decode cX5_init 5 = .ok (.bipush 80, 2) := by decide +kernel
theorem dX5_init_7 : decode cX5_init 7 = .ok (.newarray .char, 2) := by decide +kernel
theorem dX5_init_9 : decode cX5_init 9 = .ok (.putfield 11, 3) := by decide +kernel
theorem dX5_init_12 : decode cX5_init 12 = .ok (.return_, 1) := by decide +kernel
theorem dX5_length_0 : decode cX5_length 0 = .ok (.aload_n 0, 1) := by decide +kernel
theorem dX5_length_1 : decode cX5_length 1 = .ok (.getfield 15, 3) := by decide +kernel
theorem dX5_length_4 : decode cX5_length 4 = .ok (.ireturn, 1) := by decide +kernel
theorem dX5_empty_0 : decode cX5_empty 0 = .ok (.aload_n 0, 1) := by decide +kernel
theorem dX5_empty_1 : decode cX5_empty 1 = .ok (.iconst 0, 1) := by decide +kernel
theorem dX5_empty_2 : decode cX5_empty 2 = .ok (.putfield 15, 3) := by decide +kernel
theorem dX5_empty_5 : decode cX5_empty 5 = .ok (.return_, 1) := by decide +kernel
theorem dX5_append_0 : decode cX5_append 0 = .ok (.aload_n 0, 1) := by decide +kernel
theorem dX5_append_1 : decode cX5_append 1 = .ok (.getfield 15, 3) := by decide +kernel
theorem dX5_append_4 : decode cX5_append 4 = .ok (.ifCond .lt 15, 3) := by decide +kernel
theorem dX5_append_7 : decode cX5_append 7 = .ok (.aload_n 0, 1) := by decide +kernel
theorem dX5_append_8 : decode cX5_append 8 = .ok (.getfield 15, 3) := by decide +kernel
theorem dX5_append_11 : decode cX5_append 11 = .ok (.aload_n 0, 1) := by decide +kernel
theorem dX5_append_12 : decode cX5_append 12 = .ok (.getfield 11, 3) := by decide +kernel
theorem dX5_append_15 : decode cX5_append 15 = .ok (.arraylength, 1) := by decide +kernel
theorem dX5_append_16 : decode cX5_append 16 = .ok (.if_icmp .lt 5, 3) := by decide +kernel
theorem dX5_append_19 : decode cX5_append 19 = .ok (.iconst 0, 1) := by decide +kernel
theorem dX5_append_20 : decode cX5_append 20 = .ok (.ireturn, 1) := by decide +kernel
theorem dX5_append_21 : decode cX5_append 21 = .ok (.aload_n 0, 1) := by decide +kernel
theorem dX5_append_22 : decode cX5_append 22 = .ok (.getfield 11, 3) := by decide +kernel
theorem dX5_append_25 : decode cX5_append 25 = .ok (.aload_n 0, 1) := by decide +kernel
theorem dX5_append_26 : decode cX5_append 26 = .ok (.getfield 15, 3) := by decide +kernel
theorem dX5_append_29 : decode cX5_append 29 = .ok (.iload_n 1, 1) := by decide +kernel
theorem dX5_append_30 : decode cX5_append 30 = .ok (.castore, 1) := by decide +kernel
theorem dX5_append_31 : decode cX5_append 31 = .ok (.aload_n 0, 1) := by decide +kernel
theorem dX5_append_32 : decode cX5_append 32 = .ok (.dup, 1) := by decide +kernel
theorem dX5_append_33 : decode cX5_append 33 = .ok (.getfield 15, 3) := by decide +kernel
theorem dX5_append_36 : decode cX5_append 36 = .ok (.iconst 1, 1) := by decide +kernel
theorem dX5_append_37 : decode cX5_append 37 = .ok (.iadd, 1) := by decide +kernel
theorem dX5_append_38 : decode cX5_append 38 = .ok (.putfield 15, 3) := by decide +kernel
theorem dX5_append_41 : decode cX5_append 41 = .ok (.iconst 1, 1) := by decide +kernel
theorem dX5_append_42 : decode cX5_append 42 = .ok (.ireturn, 1) := by decide +kernel
theorem dX5_fault_0 : decode cX5_fault 0 = .ok (.iconst 0, 1) := by decide +kernel
theorem dX5_fault_1 : decode cX5_fault 1 = .ok (.istore_n 1, 1) := by decide +kernel
theorem dX5_fault_2 : decode cX5_fault 2 = .ok (.iload_n 1, 1) := by decide +kernel
theorem dX5_fault_3 : decode cX5_fault 3 = .ok (.aload_n 0, 1) := by decide +kernel
theorem dX5_fault_4 : decode cX5_fault 4 = .ok (.getfield 15, 3) := by decide +kernel
theorem dX5_fault_7 : decode cX5_fault 7 = .ok (.if_icmp .ge 26, 3) := by decide +kernel
theorem dX5_fault_10 : decode cX5_fault 10 = .ok (.aload_n 0, 1) := by decide +kernel
theorem dX5_fault_11 : decode cX5_fault 11 = .ok (.iload_n 1, 1) := by decide +kernel
theorem dX5_fault_12 : decode cX5_fault 12 = .ok (.invokevirtual 19, 3) := by decide +kernel
theorem dX5_fault_15 : decode cX5_fault 15 = .ok (.iload_n 1, 1) := by decide +kernel
theorem dX5_fault_16 : decode cX5_fault 16 = .ok (.bipush 6, 2) := by decide +kernel
theorem dX5_fault_18 : decode cX5_fault 18 = .ok (.irem, 1) := by decide +kernel
theorem dX5_fault_19 : decode cX5_fault 19 = .ok (.invokestatic 23, 3) := by decide +kernel
theorem dX5_fault_22 : decode cX5_fault 22 = .ok (.ifCond .ne 5, 3) := by decide +kernel
theorem dX5_fault_25 : decode cX5_fault 25 = .ok (.iload_n 1, 1) := by decide +kernel
theorem dX5_fault_26 : decode cX5_fault 26 = .ok (.ireturn, 1) := by decide +kernel
theorem dX5_fault_27 : decode cX5_fault 27 = .ok (.iinc 1 1, 3) := by decide +kernel
theorem dX5_fault_30 : decode cX5_fault 30 = .ok (.goto (-28), 3) := by decide +kernel
theorem dX5_fault_33 : decode cX5_fault 33 = .ok (.aload_n 0, 1) := by decide +kernel
theorem dX5_fault_34 : decode cX5_fault 34 = .ok (.getfield 15, 3) := by decide +kernel
theorem dX5_fault_37 : decode cX5_fault 37 = .ok (.bipush 6, 2) := by decide +kernel
theorem dX5_fault_39 : decode cX5_fault 39 = .ok (.irem, 1) := by decide +kernel
theorem dX5_fault_40 : decode cX5_fault 40 = .ok (.iconst 5, 1) := by decide +kernel
theorem dX5_fault_41 : decode cX5_fault 41 = .ok (.if_icmp .ne 7, 3) := by decide +kernel
theorem dX5_fault_44 : decode cX5_fault 44 = .ok (.iconst (-1), 1) := by decide +kernel
theorem dX5_fault_45 : decode cX5_fault 45 = .ok (.goto 7, 3) := by decide +kernel
theorem dX5_fault_48 : decode cX5_fault 48 = .ok (.aload_n 0, 1) := by decide +kernel
theorem dX5_fault_49 : decode cX5_fault 49 = .ok (.getfield 15, 3) := by decide +kernel
theorem dX5_fault_52 : decode cX5_fault 52 = .ok (.ireturn, 1) := by decide +kernel
theorem dX5_isAllowed_0 : decode cX5_isAllowed 0 = .ok (.iload_n 1, 1) := by decide +kernel
theorem dX5_isAllowed_1 : decode cX5_isAllowed 1 = .ok (.tableswitch 89 0 4 #[35, 53, 71, 35, 53], 35) := by decide +kernel
theorem dX5_isAllowed_36 : decode cX5_isAllowed 36 = .ok (.iload_n 0, 1) := by decide +kernel
theorem dX5_isAllowed_37 : decode cX5_isAllowed 37 = .ok (.bipush 97, 2) := by decide +kernel
theorem dX5_isAllowed_39 : decode cX5_isAllowed 39 = .ok (.if_icmp .lt 13, 3) := by decide +kernel
theorem dX5_isAllowed_42 : decode cX5_isAllowed 42 = .ok (.iload_n 0, 1) := by decide +kernel
theorem dX5_isAllowed_43 : decode cX5_isAllowed 43 = .ok (.bipush 102, 2) := by decide +kernel
theorem dX5_isAllowed_45 : decode cX5_isAllowed 45 = .ok (.if_icmp .gt 7, 3) := by decide +kernel
theorem dX5_isAllowed_48 : decode cX5_isAllowed 48 = .ok (.iconst 1, 1) := by decide +kernel
theorem dX5_isAllowed_49 : decode cX5_isAllowed 49 = .ok (.goto 4, 3) := by decide +kernel
theorem dX5_isAllowed_52 : decode cX5_isAllowed 52 = .ok (.iconst 0, 1) := by decide +kernel
theorem dX5_isAllowed_53 : decode cX5_isAllowed 53 = .ok (.ireturn, 1) := by decide +kernel
theorem dX5_isAllowed_54 : decode cX5_isAllowed 54 = .ok (.iload_n 0, 1) := by decide +kernel
theorem dX5_isAllowed_55 : decode cX5_isAllowed 55 = .ok (.bipush 49, 2) := by decide +kernel
theorem dX5_isAllowed_57 : decode cX5_isAllowed 57 = .ok (.if_icmp .lt 13, 3) := by decide +kernel
theorem dX5_isAllowed_60 : decode cX5_isAllowed 60 = .ok (.iload_n 0, 1) := by decide +kernel
theorem dX5_isAllowed_61 : decode cX5_isAllowed 61 = .ok (.bipush 54, 2) := by decide +kernel
theorem dX5_isAllowed_63 : decode cX5_isAllowed 63 = .ok (.if_icmp .gt 7, 3) := by decide +kernel
theorem dX5_isAllowed_66 : decode cX5_isAllowed 66 = .ok (.iconst 1, 1) := by decide +kernel
theorem dX5_isAllowed_67 : decode cX5_isAllowed 67 = .ok (.goto 4, 3) := by decide +kernel
theorem dX5_isAllowed_70 : decode cX5_isAllowed 70 = .ok (.iconst 0, 1) := by decide +kernel
theorem dX5_isAllowed_71 : decode cX5_isAllowed 71 = .ok (.ireturn, 1) := by decide +kernel
theorem dX5_isAllowed_72 : decode cX5_isAllowed 72 = .ok (.iload_n 0, 1) := by decide +kernel
theorem dX5_isAllowed_73 : decode cX5_isAllowed 73 = .ok (.bipush 45, 2) := by decide +kernel
theorem dX5_isAllowed_75 : decode cX5_isAllowed 75 = .ok (.if_icmp .eq 9, 3) := by decide +kernel
theorem dX5_isAllowed_78 : decode cX5_isAllowed 78 = .ok (.iload_n 0, 1) := by decide +kernel
theorem dX5_isAllowed_79 : decode cX5_isAllowed 79 = .ok (.bipush 120, 2) := by decide +kernel
theorem dX5_isAllowed_81 : decode cX5_isAllowed 81 = .ok (.if_icmp .ne 7, 3) := by decide +kernel
theorem dX5_isAllowed_84 : decode cX5_isAllowed 84 = .ok (.iconst 1, 1) := by decide +kernel
theorem dX5_isAllowed_85 : decode cX5_isAllowed 85 = .ok (.goto 4, 3) := by decide +kernel
theorem dX5_isAllowed_88 : decode cX5_isAllowed 88 = .ok (.iconst 0, 1) := by decide +kernel
theorem dX5_isAllowed_89 : decode cX5_isAllowed 89 = .ok (.ireturn, 1) := by decide +kernel
theorem dX5_isAllowed_90 : decode cX5_isAllowed 90 = .ok (.iload_n 0, 1) := by decide +kernel
theorem dX5_isAllowed_91 : decode cX5_isAllowed 91 = .ok (.bipush 59, 2) := by decide +kernel
theorem dX5_isAllowed_93 : decode cX5_isAllowed 93 = .ok (.if_icmp .ne 7, 3) := by decide +kernel
theorem dX5_isAllowed_96 : decode cX5_isAllowed 96 = .ok (.iconst 1, 1) := by decide +kernel
theorem dX5_isAllowed_97 : decode cX5_isAllowed 97 = .ok (.goto 4, 3) := by decide +kernel
theorem dX5_isAllowed_100 : decode cX5_isAllowed 100 = .ok (.iconst 0, 1) := by decide +kernel
theorem dX5_isAllowed_101 : decode cX5_isAllowed 101 = .ok (.ireturn, 1) := by decide +kernel
theorem dX5_moves_0 : decode cX5_moves 0 = .ok (.aload_n 0, 1) := by decide +kernel
theorem dX5_moves_1 : decode cX5_moves 1 = .ok (.getfield 15, 3) := by decide +kernel
theorem dX5_moves_4 : decode cX5_moves 4 = .ok (.iconst 1, 1) := by decide +kernel
theorem dX5_moves_5 : decode cX5_moves 5 = .ok (.iadd, 1) := by decide +kernel
theorem dX5_moves_6 : decode cX5_moves 6 = .ok (.bipush 6, 2) := by decide +kernel
theorem dX5_moves_8 : decode cX5_moves 8 = .ok (.idiv, 1) := by decide +kernel
theorem dX5_moves_9 : decode cX5_moves 9 = .ok (.ireturn, 1) := by decide +kernel
theorem dX5_fromOf_0 : decode cX5_fromOf 0 = .ok (.aload_n 0, 1) := by decide +kernel
theorem dX5_fromOf_1 : decode cX5_fromOf 1 = .ok (.iload_n 1, 1) := by decide +kernel
theorem dX5_fromOf_2 : decode cX5_fromOf 2 = .ok (.bipush 6, 2) := by decide +kernel
theorem dX5_fromOf_4 : decode cX5_fromOf 4 = .ok (.imul, 1) := by decide +kernel
theorem dX5_fromOf_5 : decode cX5_fromOf 5 = .ok (.invokevirtual 27, 3) := by decide +kernel
theorem dX5_fromOf_8 : decode cX5_fromOf 8 = .ok (.ireturn, 1) := by decide +kernel
theorem dX5_toOf_0 : decode cX5_toOf 0 = .ok (.aload_n 0, 1) := by decide +kernel
theorem dX5_toOf_1 : decode cX5_toOf 1 = .ok (.iload_n 1, 1) := by decide +kernel
theorem dX5_toOf_2 : decode cX5_toOf 2 = .ok (.bipush 6, 2) := by decide +kernel
theorem dX5_toOf_4 : decode cX5_toOf 4 = .ok (.imul, 1) := by decide +kernel
theorem dX5_toOf_5 : decode cX5_toOf 5 = .ok (.iconst 3, 1) := by decide +kernel
theorem dX5_toOf_6 : decode cX5_toOf 6 = .ok (.iadd, 1) := by decide +kernel
theorem dX5_toOf_7 : decode cX5_toOf 7 = .ok (.invokevirtual 27, 3) := by decide +kernel
theorem dX5_toOf_10 : decode cX5_toOf 10 = .ok (.ireturn, 1) := by decide +kernel
theorem dX5_isCapture_0 : decode cX5_isCapture 0 = .ok (.aload_n 0, 1) := by decide +kernel
theorem dX5_isCapture_1 : decode cX5_isCapture 1 = .ok (.iload_n 1, 1) := by decide +kernel
theorem dX5_isCapture_2 : decode cX5_isCapture 2 = .ok (.bipush 6, 2) := by decide +kernel
theorem dX5_isCapture_4 : decode cX5_isCapture 4 = .ok (.imul, 1) := by decide +kernel
theorem dX5_isCapture_5 : decode cX5_isCapture 5 = .ok (.iconst 2, 1) := by decide +kernel
theorem dX5_isCapture_6 : decode cX5_isCapture 6 = .ok (.iadd, 1) := by decide +kernel
theorem dX5_isCapture_7 : decode cX5_isCapture 7 = .ok (.invokevirtual 19, 3) := by decide +kernel
theorem dX5_isCapture_10 : decode cX5_isCapture 10 = .ok (.bipush 120, 2) := by decide +kernel
theorem dX5_isCapture_12 : decode cX5_isCapture 12 = .ok (.if_icmp .ne 7, 3) := by decide +kernel
theorem dX5_isCapture_15 : decode cX5_isCapture 15 = .ok (.iconst 1, 1) := by decide +kernel
theorem dX5_isCapture_16 : decode cX5_isCapture 16 = .ok (.goto 4, 3) := by decide +kernel
theorem dX5_isCapture_19 : decode cX5_isCapture 19 = .ok (.iconst 0, 1) := by decide +kernel
theorem dX5_isCapture_20 : decode cX5_isCapture 20 = .ok (.ireturn, 1) := by decide +kernel
theorem dX5_pointAt_0 : decode cX5_pointAt 0 = .ok (.aload_n 0, 1) := by decide +kernel
theorem dX5_pointAt_1 : decode cX5_pointAt 1 = .ok (.iload_n 1, 1) := by decide +kernel
theorem dX5_pointAt_2 : decode cX5_pointAt 2 = .ok (.iconst 1, 1) := by decide +kernel
theorem dX5_pointAt_3 : decode cX5_pointAt 3 = .ok (.iadd, 1) := by decide +kernel
theorem dX5_pointAt_4 : decode cX5_pointAt 4 = .ok (.invokevirtual 19, 3) := by decide +kernel
theorem dX5_pointAt_7 : decode cX5_pointAt 7 = .ok (.bipush 49, 2) := by decide +kernel
theorem dX5_pointAt_9 : decode cX5_pointAt 9 = .ok (.isub, 1) := by decide +kernel
theorem dX5_pointAt_10 : decode cX5_pointAt 10 = .ok (.bipush 6, 2) := by decide +kernel
theorem dX5_pointAt_12 : decode cX5_pointAt 12 = .ok (.imul, 1) := by decide +kernel
theorem dX5_pointAt_13 : decode cX5_pointAt 13 = .ok (.aload_n 0, 1) := by decide +kernel
theorem dX5_pointAt_14 : decode cX5_pointAt 14 = .ok (.iload_n 1, 1) := by decide +kernel
theorem dX5_pointAt_15 : decode cX5_pointAt 15 = .ok (.invokevirtual 19, 3) := by decide +kernel
theorem dX5_pointAt_18 : decode cX5_pointAt 18 = .ok (.iadd, 1) := by decide +kernel
theorem dX5_pointAt_19 : decode cX5_pointAt 19 = .ok (.bipush 97, 2) := by decide +kernel
theorem dX5_pointAt_21 : decode cX5_pointAt 21 = .ok (.isub, 1) := by decide +kernel
theorem dX5_pointAt_22 : decode cX5_pointAt 22 = .ok (.ireturn, 1) := by decide +kernel
theorem dX5_at_0 : decode cX5_at 0 = .ok (.iload_n 1, 1) := by decide +kernel
theorem dX5_at_1 : decode cX5_at 1 = .ok (.ifCond .lt 29, 3) := by decide +kernel
theorem dX5_at_4 : decode cX5_at 4 = .ok (.iload_n 1, 1) := by decide +kernel
theorem dX5_at_5 : decode cX5_at 5 = .ok (.aload_n 0, 1) := by decide +kernel
theorem dX5_at_6 : decode cX5_at 6 = .ok (.getfield 15, 3) := by decide +kernel
theorem dX5_at_9 : decode cX5_at 9 = .ok (.if_icmp .ge 21, 3) := by decide +kernel
theorem dX5_at_12 : decode cX5_at 12 = .ok (.iload_n 1, 1) := by decide +kernel
theorem dX5_at_13 : decode cX5_at 13 = .ok (.aload_n 0, 1) := by decide +kernel
theorem dX5_at_14 : decode cX5_at 14 = .ok (.getfield 11, 3) := by decide +kernel
theorem dX5_at_17 : decode cX5_at 17 = .ok (.arraylength, 1) := by decide +kernel
theorem dX5_at_18 : decode cX5_at 18 = .ok (.if_icmp .ge 12, 3) := by decide +kernel
theorem dX5_at_21 : decode cX5_at 21 = .ok (.aload_n 0, 1) := by decide +kernel
theorem dX5_at_22 : decode cX5_at 22 = .ok (.getfield 11, 3) := by decide +kernel
theorem dX5_at_25 : decode cX5_at 25 = .ok (.iload_n 1, 1) := by decide +kernel
theorem dX5_at_26 : decode cX5_at 26 = .ok (.caload, 1) := by decide +kernel
theorem dX5_at_27 : decode cX5_at 27 = .ok (.goto 5, 3) := by decide +kernel
theorem dX5_at_30 : decode cX5_at 30 = .ok (.bipush 32, 2) := by decide +kernel
theorem dX5_at_32 : decode cX5_at 32 = .ok (.ireturn, 1) := by decide +kernel
theorem dX6_init_0 : decode cX6_init 0 = .ok (.aload_n 0, 1) := by decide +kernel
theorem dX6_init_1 : decode cX6_init 1 = .ok (.invokespecial 3, 3) := by decide +kernel
theorem dX6_init_4 : decode cX6_init 4 = .ok (.aload_n 0, 1) := by decide +kernel
theorem dX6_init_5 : decode cX6_init 5 = .ok (.aload_n 1, 1) := by decide +kernel
theorem dX6_init_6 : decode cX6_init 6 = .ok (.putfield 9, 3) := by decide +kernel
theorem dX6_init_9 : decode cX6_init 9 = .ok (.aload_n 0, 1) := by decide +kernel
theorem dX6_init_10 : decode cX6_init 10 = .ok (.new 15, 3) := by decide +kernel
theorem dX6_init_13 : decode cX6_init 13 = .ok (.dup, 1) := by decide +kernel
theorem dX6_init_14 : decode cX6_init 14 = .ok (.aload_n 1, 1) := by decide +kernel
theorem dX6_init_15 : decode cX6_init 15 = .ok (.invokespecial 17, 3) := by decide +kernel
theorem dX6_init_18 : decode cX6_init 18 = .ok (.putfield 20, 3) := by decide +kernel
theorem dX6_init_21 : decode cX6_init 21 = .ok (.aload_n 0, 1) := by decide +kernel
theorem dX6_init_22 : decode cX6_init 22 = .ok (.aload_n 2, 1) := by decide +kernel
theorem dX6_init_23 : decode cX6_init 23 = .ok (.putfield 24, 3) := by decide +kernel
theorem dX6_init_26 : decode cX6_init 26 = .ok (.return_, 1) := by decide +kernel
theorem dX6_whyNot_0 : decode cX6_whyNot 0 = .ok (.aload_n 1, 1) := by decide +kernel
theorem dX6_whyNot_1 : decode cX6_whyNot 1 = .ok (.invokevirtual 28, 3) := by decide +kernel
theorem dX6_whyNot_4 : decode cX6_whyNot 4 = .ok (.ifCond .eq 5, 3) := by decide +kernel
theorem dX6_whyNot_7 : decode cX6_whyNot 7 = .ok (.iconst 1, 1) := by decide +kernel
theorem dX6_whyNot_8 : decode cX6_whyNot 8 = .ok (.ireturn, 1) := by decide +kernel
theorem dX6_whyNot_9 : decode cX6_whyNot 9 = .ok (.aload_n 1, 1) := by decide +kernel
theorem dX6_whyNot_10 : decode cX6_whyNot 10 = .ok (.invokevirtual 34, 3) := by decide +kernel
theorem dX6_whyNot_13 : decode cX6_whyNot 13 = .ok (.istore 5, 2) := by decide +kernel
theorem dX6_whyNot_15 : decode cX6_whyNot 15 = .ok (.aload_n 1, 1) := by decide +kernel
theorem dX6_whyNot_16 : decode cX6_whyNot 16 = .ok (.iload_n 2, 1) := by decide +kernel
theorem dX6_whyNot_17 : decode cX6_whyNot 17 = .ok (.invokevirtual 37, 3) := by decide +kernel
theorem dX6_whyNot_20 : decode cX6_whyNot 20 = .ok (.iload 5, 2) := by decide +kernel
theorem dX6_whyNot_22 : decode cX6_whyNot 22 = .ok (.if_icmp .eq 5, 3) := by decide +kernel
theorem dX6_whyNot_25 : decode cX6_whyNot 25 = .ok (.iconst 2, 1) := by decide +kernel
theorem dX6_whyNot_26 : decode cX6_whyNot 26 = .ok (.ireturn, 1) := by decide +kernel
theorem dX6_whyNot_27 : decode cX6_whyNot 27 = .ok (.aload_n 1, 1) := by decide +kernel
theorem dX6_whyNot_28 : decode cX6_whyNot 28 = .ok (.iload_n 3, 1) := by decide +kernel
theorem dX6_whyNot_29 : decode cX6_whyNot 29 = .ok (.invokevirtual 37, 3) := by decide +kernel
theorem dX6_whyNot_32 : decode cX6_whyNot 32 = .ok (.iload 5, 2) := by decide +kernel
theorem dX6_whyNot_34 : decode cX6_whyNot 34 = .ok (.if_icmp .ne 5, 3) := by decide +kernel
theorem dX6_whyNot_37 : decode cX6_whyNot 37 = .ok (.iconst 3, 1) := by decide +kernel
theorem dX6_whyNot_38 : decode cX6_whyNot 38 = .ok (.ireturn, 1) := by decide +kernel
theorem dX6_whyNot_39 : decode cX6_whyNot 39 = .ok (.iload 4, 2) := by decide +kernel
theorem dX6_whyNot_41 : decode cX6_whyNot 41 = .ok (.ifCond .eq 13, 3) := by decide +kernel
theorem dX6_whyNot_44 : decode cX6_whyNot 44 = .ok (.aload_n 0, 1) := by decide +kernel
theorem dX6_whyNot_45 : decode cX6_whyNot 45 = .ok (.aload_n 1, 1) := by decide +kernel
theorem dX6_whyNot_46 : decode cX6_whyNot 46 = .ok (.iload_n 2, 1) := by decide +kernel
theorem dX6_whyNot_47 : decode cX6_whyNot 47 = .ok (.iload_n 3, 1) := by decide +kernel
theorem dX6_whyNot_48 : decode cX6_whyNot 48 = .ok (.invokevirtual 41, 3) := by decide +kernel
theorem dX6_whyNot_51 : decode cX6_whyNot 51 = .ok (.goto 9, 3) := by decide +kernel
theorem dX6_whyNot_54 : decode cX6_whyNot 54 = .ok (.aload_n 1, 1) := by decide +kernel
theorem dX6_whyNot_55 : decode cX6_whyNot 55 = .ok (.iload_n 2, 1) := by decide +kernel
theorem dX6_whyNot_56 : decode cX6_whyNot 56 = .ok (.iload_n 3, 1) := by decide +kernel
theorem dX6_whyNot_57 : decode cX6_whyNot 57 = .ok (.invokestatic 45, 3) := by decide +kernel
theorem dX6_whyNot_60 : decode cX6_whyNot 60 = .ok (.istore 6, 2) := by decide +kernel
theorem dX6_whyNot_62 : decode cX6_whyNot 62 = .ok (.iload 6, 2) := by decide +kernel
theorem dX6_whyNot_64 : decode cX6_whyNot 64 = .ok (.ifCond .eq 7, 3) := by decide +kernel
theorem dX6_whyNot_67 : decode cX6_whyNot 67 = .ok (.iconst 0, 1) := by decide +kernel
theorem dX6_whyNot_68 : decode cX6_whyNot 68 = .ok (.goto 4, 3) := by decide +kernel
theorem dX6_whyNot_71 : decode cX6_whyNot 71 = .ok (.iconst 4, 1) := by decide +kernel
theorem dX6_whyNot_72 : decode cX6_whyNot 72 = .ok (.ireturn, 1) := by decide +kernel
theorem dX6_couldCapture_0 : decode cX6_couldCapture 0 = .ok (.aload_n 1, 1) := by decide +kernel
theorem dX6_couldCapture_1 : decode cX6_couldCapture 1 = .ok (.iload_n 2, 1) := by decide +kernel
theorem dX6_couldCapture_2 : decode cX6_couldCapture 2 = .ok (.invokevirtual 37, 3) := by decide +kernel
theorem dX6_couldCapture_5 : decode cX6_couldCapture 5 = .ok (.aload_n 1, 1) := by decide +kernel
theorem dX6_couldCapture_6 : decode cX6_couldCapture 6 = .ok (.iload_n 3, 1) := by decide +kernel
theorem dX6_couldCapture_7 : decode cX6_couldCapture 7 = .ok (.invokevirtual 37, 3) := by decide +kernel
theorem dX6_couldCapture_10 : decode cX6_couldCapture 10 = .ok (.invokestatic 48, 3) := by decide +kernel
theorem dX6_couldCapture_13 : decode cX6_couldCapture 13 = .ok (.ifCond .eq 20, 3) := by decide +kernel
theorem dX6_couldCapture_16 : decode cX6_couldCapture 16 = .ok (.aload_n 0, 1) := by decide +kernel
theorem dX6_couldCapture_17 : decode cX6_couldCapture 17 = .ok (.getfield 24, 3) := by decide +kernel
theorem dX6_couldCapture_20 : decode cX6_couldCapture 20 = .ok (.aload_n 1, 1) := by decide +kernel
theorem dX6_couldCapture_21 : decode cX6_couldCapture 21 = .ok (.iload_n 2, 1) := by decide +kernel
theorem dX6_couldCapture_22 : decode cX6_couldCapture 22 = .ok (.iload_n 3, 1) := by decide +kernel
theorem dX6_couldCapture_23 : decode cX6_couldCapture 23 = .ok (.invokevirtual 52, 3) := by decide +kernel
theorem dX6_couldCapture_26 : decode cX6_couldCapture 26 = .ok (.ifCond .eq 7, 3) := by decide +kernel
theorem dX6_couldCapture_29 : decode cX6_couldCapture 29 = .ok (.iconst 1, 1) := by decide +kernel
theorem dX6_couldCapture_30 : decode cX6_couldCapture 30 = .ok (.goto 4, 3) := by decide +kernel
theorem dX6_couldCapture_33 : decode cX6_couldCapture 33 = .ok (.iconst 0, 1) := by decide +kernel
theorem dX6_couldCapture_34 : decode cX6_couldCapture 34 = .ok (.ireturn, 1) := by decide +kernel
theorem dX6_areOfTwoSides_0 : decode cX6_areOfTwoSides 0 = .ok (.iload_n 0, 1) := by decide +kernel
theorem dX6_areOfTwoSides_1 : decode cX6_areOfTwoSides 1 = .ok (.ifCond .eq 16, 3) := by decide +kernel
theorem dX6_areOfTwoSides_4 : decode cX6_areOfTwoSides 4 = .ok (.iload_n 1, 1) := by decide +kernel
theorem dX6_areOfTwoSides_5 : decode cX6_areOfTwoSides 5 = .ok (.ifCond .eq 12, 3) := by decide +kernel
theorem dX6_areOfTwoSides_8 : decode cX6_areOfTwoSides 8 = .ok (.iload_n 0, 1) := by decide +kernel
theorem dX6_areOfTwoSides_9 : decode cX6_areOfTwoSides 9 = .ok (.iload_n 1, 1) := by decide +kernel
theorem dX6_areOfTwoSides_10 : decode cX6_areOfTwoSides 10 = .ok (.if_icmp .eq 7, 3) := by decide +kernel
theorem dX6_areOfTwoSides_13 : decode cX6_areOfTwoSides 13 = .ok (.iconst 1, 1) := by decide +kernel
theorem dX6_areOfTwoSides_14 : decode cX6_areOfTwoSides 14 = .ok (.goto 4, 3) := by decide +kernel
theorem dX6_areOfTwoSides_17 : decode cX6_areOfTwoSides 17 = .ok (.iconst 0, 1) := by decide +kernel
theorem dX6_areOfTwoSides_18 : decode cX6_areOfTwoSides 18 = .ok (.ireturn, 1) := by decide +kernel
theorem dX6_couldStep_0 : decode cX6_couldStep 0 = .ok (.aload_n 0, 1) := by decide +kernel
theorem dX6_couldStep_1 : decode cX6_couldStep 1 = .ok (.iload_n 2, 1) := by decide +kernel
theorem dX6_couldStep_2 : decode cX6_couldStep 2 = .ok (.invokevirtual 37, 3) := by decide +kernel
theorem dX6_couldStep_5 : decode cX6_couldStep 5 = .ok (.ifCond .ne 39, 3) := by decide +kernel
theorem dX6_couldStep_8 : decode cX6_couldStep 8 = .ok (.iload_n 1, 1) := by decide +kernel
theorem dX6_couldStep_9 : decode cX6_couldStep 9 = .ok (.bipush 6, 2) := by decide +kernel
theorem dX6_couldStep_11 : decode cX6_couldStep 11 = .ok (.idiv, 1) := by decide +kernel
theorem dX6_couldStep_12 : decode cX6_couldStep 12 = .ok (.iload_n 2, 1) := by decide +kernel
theorem dX6_couldStep_13 : decode cX6_couldStep 13 = .ok (.bipush 6, 2) := by decide +kernel
theorem dX6_couldStep_15 : decode cX6_couldStep 15 = .ok (.idiv, 1) := by decide +kernel
theorem dX6_couldStep_16 : decode cX6_couldStep 16 = .ok (.isub, 1) := by decide +kernel
theorem dX6_couldStep_17 : decode cX6_couldStep 17 = .ok (.invokestatic 57, 3) := by decide +kernel
theorem dX6_couldStep_20 : decode cX6_couldStep 20 = .ok (.iconst 1, 1) := by decide +kernel
theorem dX6_couldStep_21 : decode cX6_couldStep 21 = .ok (.if_icmp .gt 23, 3) := by decide +kernel
theorem dX6_couldStep_24 : decode cX6_couldStep 24 = .ok (.iload_n 1, 1) := by decide +kernel
theorem dX6_couldStep_25 : decode cX6_couldStep 25 = .ok (.bipush 6, 2) := by decide +kernel
theorem dX6_couldStep_27 : decode cX6_couldStep 27 = .ok (.irem, 1) := by decide +kernel
theorem dX6_couldStep_28 : decode cX6_couldStep 28 = .ok (.iload_n 2, 1) := by decide +kernel
theorem dX6_couldStep_29 : decode cX6_couldStep 29 = .ok (.bipush 6, 2) := by decide +kernel
theorem dX6_couldStep_31 : decode cX6_couldStep 31 = .ok (.irem, 1) := by decide +kernel
theorem dX6_couldStep_32 : decode cX6_couldStep 32 = .ok (.isub, 1) := by decide +kernel
theorem dX6_couldStep_33 : decode cX6_couldStep 33 = .ok (.invokestatic 57, 3) := by decide +kernel
theorem dX6_couldStep_36 : decode cX6_couldStep 36 = .ok (.iconst 1, 1) := by decide +kernel
theorem dX6_couldStep_37 : decode cX6_couldStep 37 = .ok (.if_icmp .gt 7, 3) := by decide +kernel
theorem dX6_couldStep_40 : decode cX6_couldStep 40 = .ok (.iconst 1, 1) := by decide +kernel
theorem dX6_couldStep_41 : decode cX6_couldStep 41 = .ok (.goto 4, 3) := by decide +kernel
theorem dX6_couldStep_44 : decode cX6_couldStep 44 = .ok (.iconst 0, 1) := by decide +kernel
theorem dX6_couldStep_45 : decode cX6_couldStep 45 = .ok (.ireturn, 1) := by decide +kernel
theorem dX6_threatsTo_0 : decode cX6_threatsTo 0 = .ok (.iconst 0, 1) := by decide +kernel
theorem dX6_threatsTo_1 : decode cX6_threatsTo 1 = .ok (.istore_n 3, 1) := by decide +kernel
theorem dX6_threatsTo_2 : decode cX6_threatsTo 2 = .ok (.iconst 0, 1) := by decide +kernel
theorem dX6_threatsTo_3 : decode cX6_threatsTo 3 = .ok (.istore 4, 2) := by decide +kernel
theorem dX6_threatsTo_5 : decode cX6_threatsTo 5 = .ok (.iload 4, 2) := by decide +kernel
theorem dX6_threatsTo_7 : decode cX6_threatsTo 7 = .ok (.bipush 36, 2) := by decide +kernel
theorem dX6_threatsTo_9 : decode cX6_threatsTo 9 = .ok (.if_icmp .ge 23, 3) := by decide +kernel
theorem dX6_threatsTo_12 : decode cX6_threatsTo 12 = .ok (.aload_n 0, 1) := by decide +kernel
theorem dX6_threatsTo_13 : decode cX6_threatsTo 13 = .ok (.aload_n 1, 1) := by decide +kernel
theorem dX6_threatsTo_14 : decode cX6_threatsTo 14 = .ok (.iload 4, 2) := by decide +kernel
theorem dX6_threatsTo_16 : decode cX6_threatsTo 16 = .ok (.iload_n 2, 1) := by decide +kernel
theorem dX6_threatsTo_17 : decode cX6_threatsTo 17 = .ok (.invokevirtual 41, 3) := by decide +kernel
theorem dX6_threatsTo_20 : decode cX6_threatsTo 20 = .ok (.ifCond .eq 6, 3) := by decide +kernel
theorem dX6_threatsTo_23 : decode cX6_threatsTo 23 = .ok (.iinc 3 1, 3) := by decide +kernel
theorem dX6_threatsTo_26 : decode cX6_threatsTo 26 = .ok (.iinc 4 1, 3) := by decide +kernel
theorem dX6_threatsTo_29 : decode cX6_threatsTo 29 = .ok (.goto (-24), 3) := by decide +kernel
theorem dX6_threatsTo_32 : decode cX6_threatsTo 32 = .ok (.iload_n 3, 1) := by decide +kernel
theorem dX6_threatsTo_33 : decode cX6_threatsTo 33 = .ok (.ireturn, 1) := by decide +kernel
theorem dX6_coversOf_0 : decode cX6_coversOf 0 = .ok (.aload_n 1, 1) := by decide +kernel
theorem dX6_coversOf_1 : decode cX6_coversOf 1 = .ok (.iload_n 2, 1) := by decide +kernel
theorem dX6_coversOf_2 : decode cX6_coversOf 2 = .ok (.invokevirtual 37, 3) := by decide +kernel
theorem dX6_coversOf_5 : decode cX6_coversOf 5 = .ok (.istore_n 3, 1) := by decide +kernel
theorem dX6_coversOf_6 : decode cX6_coversOf 6 = .ok (.iconst 0, 1) := by decide +kernel
theorem dX6_coversOf_7 : decode cX6_coversOf 7 = .ok (.istore 4, 2) := by decide +kernel
theorem dX6_coversOf_9 : decode cX6_coversOf 9 = .ok (.iconst 0, 1) := by decide +kernel
theorem dX6_coversOf_10 : decode cX6_coversOf 10 = .ok (.istore 5, 2) := by decide +kernel
theorem dX6_coversOf_12 : decode cX6_coversOf 12 = .ok (.iload 5, 2) := by decide +kernel
theorem dX6_coversOf_14 : decode cX6_coversOf 14 = .ok (.bipush 36, 2) := by decide +kernel
theorem dX6_coversOf_16 : decode cX6_coversOf 16 = .ok (.if_icmp .ge 46, 3) := by decide +kernel
theorem dX6_coversOf_19 : decode cX6_coversOf 19 = .ok (.iload_n 3, 1) := by decide +kernel
theorem dX6_coversOf_20 : decode cX6_coversOf 20 = .ok (.ifCond .eq 42, 3) := by decide +kernel
theorem dX6_coversOf_23 : decode cX6_coversOf 23 = .ok (.iload 5, 2) := by decide +kernel
theorem dX6_coversOf_25 : decode cX6_coversOf 25 = .ok (.iload_n 2, 1) := by decide +kernel
theorem dX6_coversOf_26 : decode cX6_coversOf 26 = .ok (.if_icmp .eq 30, 3) := by decide +kernel
theorem dX6_coversOf_29 : decode cX6_coversOf 29 = .ok (.aload_n 1, 1) := by decide +kernel
theorem dX6_coversOf_30 : decode cX6_coversOf 30 = .ok (.iload 5, 2) := by decide +kernel
theorem dX6_coversOf_32 : decode cX6_coversOf 32 = .ok (.invokevirtual 37, 3) := by decide +kernel
theorem dX6_coversOf_35 : decode cX6_coversOf 35 = .ok (.iload_n 3, 1) := by decide +kernel
theorem dX6_coversOf_36 : decode cX6_coversOf 36 = .ok (.if_icmp .ne 20, 3) := by decide +kernel
theorem dX6_coversOf_39 : decode cX6_coversOf 39 = .ok (.aload_n 0, 1) := by decide +kernel
theorem dX6_coversOf_40 : decode cX6_coversOf 40 = .ok (.getfield 24, 3) := by decide +kernel
theorem dX6_coversOf_43 : decode cX6_coversOf 43 = .ok (.aload_n 1, 1) := by decide +kernel
theorem dX6_coversOf_44 : decode cX6_coversOf 44 = .ok (.iload 5, 2) := by decide +kernel
theorem dX6_coversOf_46 : decode cX6_coversOf 46 = .ok (.iload_n 2, 1) := by decide +kernel
theorem dX6_coversOf_47 : decode cX6_coversOf 47 = .ok (.invokevirtual 52, 3) := by decide +kernel
theorem dX6_coversOf_50 : decode cX6_coversOf 50 = .ok (.ifCond .eq 6, 3) := by decide +kernel
theorem dX6_coversOf_53 : decode cX6_coversOf 53 = .ok (.iinc 4 1, 3) := by decide +kernel
theorem dX6_coversOf_56 : decode cX6_coversOf 56 = .ok (.iinc 5 1, 3) := by decide +kernel
theorem dX6_coversOf_59 : decode cX6_coversOf 59 = .ok (.goto (-47), 3) := by decide +kernel
theorem dX6_coversOf_62 : decode cX6_coversOf 62 = .ok (.iload 4, 2) := by decide +kernel
theorem dX6_coversOf_64 : decode cX6_coversOf 64 = .ok (.ireturn, 1) := by decide +kernel
theorem dX6_capturesFrom_0 : decode cX6_capturesFrom 0 = .ok (.iconst 0, 1) := by decide +kernel
theorem dX6_capturesFrom_1 : decode cX6_capturesFrom 1 = .ok (.istore_n 3, 1) := by decide +kernel
theorem dX6_capturesFrom_2 : decode cX6_capturesFrom 2 = .ok (.iconst 0, 1) := by decide +kernel
theorem dX6_capturesFrom_3 : decode cX6_capturesFrom 3 = .ok (.istore 4, 2) := by decide +kernel
theorem dX6_capturesFrom_5 : decode cX6_capturesFrom 5 = .ok (.iload 4, 2) := by decide +kernel
theorem dX6_capturesFrom_7 : decode cX6_capturesFrom 7 = .ok (.bipush 36, 2) := by decide +kernel
theorem dX6_capturesFrom_9 : decode cX6_capturesFrom 9 = .ok (.if_icmp .ge 23, 3) := by decide +kernel
theorem dX6_capturesFrom_12 : decode cX6_capturesFrom 12 = .ok (.aload_n 0, 1) := by decide +kernel
theorem dX6_capturesFrom_13 : decode cX6_capturesFrom 13 = .ok (.aload_n 1, 1) := by decide +kernel
theorem dX6_capturesFrom_14 : decode cX6_capturesFrom 14 = .ok (.iload_n 2, 1) := by decide +kernel
theorem dX6_capturesFrom_15 : decode cX6_capturesFrom 15 = .ok (.iload 4, 2) := by decide +kernel
theorem dX6_capturesFrom_17 : decode cX6_capturesFrom 17 = .ok (.invokevirtual 41, 3) := by decide +kernel
theorem dX6_capturesFrom_20 : decode cX6_capturesFrom 20 = .ok (.ifCond .eq 6, 3) := by decide +kernel
theorem dX6_capturesFrom_23 : decode cX6_capturesFrom 23 = .ok (.iinc 3 1, 3) := by decide +kernel
theorem dX6_capturesFrom_26 : decode cX6_capturesFrom 26 = .ok (.iinc 4 1, 3) := by decide +kernel
theorem dX6_capturesFrom_29 : decode cX6_capturesFrom 29 = .ok (.goto (-24), 3) := by decide +kernel
theorem dX6_capturesFrom_32 : decode cX6_capturesFrom 32 = .ok (.iload_n 3, 1) := by decide +kernel
theorem dX6_capturesFrom_33 : decode cX6_capturesFrom 33 = .ok (.ireturn, 1) := by decide +kernel
theorem dX6_quietMovesFrom_0 : decode cX6_quietMovesFrom 0 = .ok (.iconst 0, 1) := by decide +kernel
theorem dX6_quietMovesFrom_1 : decode cX6_quietMovesFrom 1 = .ok (.istore_n 3, 1) := by decide +kernel
theorem dX6_quietMovesFrom_2 : decode cX6_quietMovesFrom 2 = .ok (.iconst 0, 1) := by decide +kernel
theorem dX6_quietMovesFrom_3 : decode cX6_quietMovesFrom 3 = .ok (.istore 4, 2) := by decide +kernel
theorem dX6_quietMovesFrom_5 : decode cX6_quietMovesFrom 5 = .ok (.iload 4, 2) := by decide +kernel
theorem dX6_quietMovesFrom_7 : decode cX6_quietMovesFrom 7 = .ok (.bipush 36, 2) := by decide +kernel
theorem dX6_quietMovesFrom_9 : decode cX6_quietMovesFrom 9 = .ok (.if_icmp .ge 30, 3) := by decide +kernel
theorem dX6_quietMovesFrom_12 : decode cX6_quietMovesFrom 12 = .ok (.aload_n 1, 1) := by decide +kernel
theorem dX6_quietMovesFrom_13 : decode cX6_quietMovesFrom 13 = .ok (.iload_n 2, 1) := by decide +kernel
theorem dX6_quietMovesFrom_14 : decode cX6_quietMovesFrom 14 = .ok (.invokevirtual 37, 3) := by decide +kernel
theorem dX6_quietMovesFrom_17 : decode cX6_quietMovesFrom 17 = .ok (.ifCond .eq 22, 3) := by decide +kernel
theorem dX6_quietMovesFrom_20 : decode cX6_quietMovesFrom 20 = .ok (.aload_n 1, 1) := by decide +kernel
theorem dX6_quietMovesFrom_21 : decode cX6_quietMovesFrom 21 = .ok (.iload_n 2, 1) := by decide +kernel
theorem dX6_quietMovesFrom_22 : decode cX6_quietMovesFrom 22 = .ok (.iload 4, 2) := by decide +kernel
theorem dX6_quietMovesFrom_24 : decode cX6_quietMovesFrom 24 = .ok (.invokestatic 45, 3) := by decide +kernel
theorem dX6_quietMovesFrom_27 : decode cX6_quietMovesFrom 27 = .ok (.ifCond .eq 6, 3) := by decide +kernel
theorem dX6_quietMovesFrom_30 : decode cX6_quietMovesFrom 30 = .ok (.iinc 3 1, 3) := by decide +kernel
theorem dX6_quietMovesFrom_33 : decode cX6_quietMovesFrom 33 = .ok (.iinc 4 1, 3) := by decide +kernel
theorem dX6_quietMovesFrom_36 : decode cX6_quietMovesFrom 36 = .ok (.goto (-31), 3) := by decide +kernel
theorem dX6_quietMovesFrom_39 : decode cX6_quietMovesFrom 39 = .ok (.iload_n 3, 1) := by decide +kernel
theorem dX6_quietMovesFrom_40 : decode cX6_quietMovesFrom 40 = .ok (.ireturn, 1) := by decide +kernel
theorem dX6_threatened_0 : decode cX6_threatened 0 = .ok (.iconst 0, 1) := by decide +kernel
theorem dX6_threatened_1 : decode cX6_threatened 1 = .ok (.istore_n 2, 1) := by decide +kernel
theorem dX6_threatened_2 : decode cX6_threatened 2 = .ok (.iconst 0, 1) := by decide +kernel
theorem dX6_threatened_3 : decode cX6_threatened 3 = .ok (.istore_n 3, 1) := by decide +kernel
theorem dX6_threatened_4 : decode cX6_threatened 4 = .ok (.iload_n 3, 1) := by decide +kernel
theorem dX6_threatened_5 : decode cX6_threatened 5 = .ok (.bipush 36, 2) := by decide +kernel
theorem dX6_threatened_7 : decode cX6_threatened 7 = .ok (.if_icmp .ge 33, 3) := by decide +kernel
theorem dX6_threatened_10 : decode cX6_threatened 10 = .ok (.aload_n 1, 1) := by decide +kernel
theorem dX6_threatened_11 : decode cX6_threatened 11 = .ok (.iload_n 3, 1) := by decide +kernel
theorem dX6_threatened_12 : decode cX6_threatened 12 = .ok (.invokevirtual 37, 3) := by decide +kernel
theorem dX6_threatened_15 : decode cX6_threatened 15 = .ok (.aload_n 1, 1) := by decide +kernel
theorem dX6_threatened_16 : decode cX6_threatened 16 = .ok (.invokevirtual 34, 3) := by decide +kernel
theorem dX6_threatened_19 : decode cX6_threatened 19 = .ok (.if_icmp .ne 15, 3) := by decide +kernel
theorem dX6_threatened_22 : decode cX6_threatened 22 = .ok (.aload_n 0, 1) := by decide +kernel
theorem dX6_threatened_23 : decode cX6_threatened 23 = .ok (.aload_n 1, 1) := by decide +kernel
theorem dX6_threatened_24 : decode cX6_threatened 24 = .ok (.iload_n 3, 1) := by decide +kernel
theorem dX6_threatened_25 : decode cX6_threatened 25 = .ok (.invokevirtual 62, 3) := by decide +kernel
theorem dX6_threatened_28 : decode cX6_threatened 28 = .ok (.ifCond .le 6, 3) := by decide +kernel
theorem dX6_threatened_31 : decode cX6_threatened 31 = .ok (.iinc 2 1, 3) := by decide +kernel
theorem dX6_threatened_34 : decode cX6_threatened 34 = .ok (.iinc 3 1, 3) := by decide +kernel
theorem dX6_threatened_37 : decode cX6_threatened 37 = .ok (.goto (-33), 3) := by decide +kernel
theorem dX6_threatened_40 : decode cX6_threatened 40 = .ok (.iload_n 2, 1) := by decide +kernel
theorem dX6_threatened_41 : decode cX6_threatened 41 = .ok (.ireturn, 1) := by decide +kernel
theorem dX6_listMoves_0 : decode cX6_listMoves 0 = .ok (.aload_n 2, 1) := by decide +kernel
theorem dX6_listMoves_1 : decode cX6_listMoves 1 = .ok (.invokevirtual 66, 3) := by decide +kernel
theorem dX6_listMoves_4 : decode cX6_listMoves 4 = .ok (.aload_n 1, 1) := by decide +kernel
theorem dX6_listMoves_5 : decode cX6_listMoves 5 = .ok (.invokevirtual 28, 3) := by decide +kernel
theorem dX6_listMoves_8 : decode cX6_listMoves 8 = .ok (.ifCond .eq 4, 3) := by decide +kernel
theorem dX6_listMoves_11 : decode cX6_listMoves 11 = .ok (.return_, 1) := by decide +kernel
theorem dX6_listMoves_12 : decode cX6_listMoves 12 = .ok (.aload_n 1, 1) := by decide +kernel
theorem dX6_listMoves_13 : decode cX6_listMoves 13 = .ok (.invokevirtual 34, 3) := by decide +kernel
theorem dX6_listMoves_16 : decode cX6_listMoves 16 = .ok (.istore_n 3, 1) := by decide +kernel
theorem dX6_listMoves_17 : decode cX6_listMoves 17 = .ok (.iconst 0, 1) := by decide +kernel
theorem dX6_listMoves_18 : decode cX6_listMoves 18 = .ok (.istore 4, 2) := by decide +kernel
theorem dX6_listMoves_20 : decode cX6_listMoves 20 = .ok (.iload 4, 2) := by decide +kernel
theorem dX6_listMoves_22 : decode cX6_listMoves 22 = .ok (.bipush 36, 2) := by decide +kernel
theorem dX6_listMoves_24 : decode cX6_listMoves 24 = .ok (.if_icmp .ge 27, 3) := by decide +kernel
theorem dX6_listMoves_27 : decode cX6_listMoves 27 = .ok (.aload_n 1, 1) := by decide +kernel
theorem dX6_listMoves_28 : decode cX6_listMoves 28 = .ok (.iload 4, 2) := by decide +kernel
theorem dX6_listMoves_30 : decode cX6_listMoves 30 = .ok (.invokevirtual 37, 3) := by decide +kernel
theorem dX6_listMoves_33 : decode cX6_listMoves 33 = .ok (.iload_n 3, 1) := by decide +kernel
theorem dX6_listMoves_34 : decode cX6_listMoves 34 = .ok (.if_icmp .ne 11, 3) := by decide +kernel
theorem dX6_listMoves_37 : decode cX6_listMoves 37 = .ok (.aload_n 0, 1) := by decide +kernel
theorem dX6_listMoves_38 : decode cX6_listMoves 38 = .ok (.aload_n 1, 1) := by decide +kernel
theorem dX6_listMoves_39 : decode cX6_listMoves 39 = .ok (.iload 4, 2) := by decide +kernel
theorem dX6_listMoves_41 : decode cX6_listMoves 41 = .ok (.aload_n 2, 1) := by decide +kernel
theorem dX6_listMoves_42 : decode cX6_listMoves 42 = .ok (.invokevirtual 71, 3) := by decide +kernel
theorem dX6_listMoves_45 : decode cX6_listMoves 45 = .ok (.iinc 4 1, 3) := by decide +kernel
theorem dX6_listMoves_48 : decode cX6_listMoves 48 = .ok (.goto (-28), 3) := by decide +kernel
theorem dX6_listMoves_51 : decode cX6_listMoves 51 = .ok (.iconst 0, 1) := by decide +kernel
theorem dX6_listMoves_52 : decode cX6_listMoves 52 = .ok (.istore 4, 2) := by decide +kernel
theorem dX6_listMoves_54 : decode cX6_listMoves 54 = .ok (.iload 4, 2) := by decide +kernel
theorem dX6_listMoves_56 : decode cX6_listMoves 56 = .ok (.bipush 36, 2) := by decide +kernel
theorem dX6_listMoves_58 : decode cX6_listMoves 58 = .ok (.if_icmp .ge 26, 3) := by decide +kernel
theorem dX6_listMoves_61 : decode cX6_listMoves 61 = .ok (.aload_n 1, 1) := by decide +kernel
theorem dX6_listMoves_62 : decode cX6_listMoves 62 = .ok (.iload 4, 2) := by decide +kernel
theorem dX6_listMoves_64 : decode cX6_listMoves 64 = .ok (.invokevirtual 37, 3) := by decide +kernel
theorem dX6_listMoves_67 : decode cX6_listMoves 67 = .ok (.iload_n 3, 1) := by decide +kernel
theorem dX6_listMoves_68 : decode cX6_listMoves 68 = .ok (.if_icmp .ne 10, 3) := by decide +kernel
theorem dX6_listMoves_71 : decode cX6_listMoves 71 = .ok (.aload_n 1, 1) := by decide +kernel
theorem dX6_listMoves_72 : decode cX6_listMoves 72 = .ok (.iload 4, 2) := by decide +kernel
theorem dX6_listMoves_74 : decode cX6_listMoves 74 = .ok (.aload_n 2, 1) := by decide +kernel
theorem dX6_listMoves_75 : decode cX6_listMoves 75 = .ok (.invokestatic 75, 3) := by decide +kernel
theorem dX6_listMoves_78 : decode cX6_listMoves 78 = .ok (.iinc 4 1, 3) := by decide +kernel
theorem dX6_listMoves_81 : decode cX6_listMoves 81 = .ok (.goto (-27), 3) := by decide +kernel
theorem dX6_listMoves_84 : decode cX6_listMoves 84 = .ok (.return_, 1) := by decide +kernel
theorem dX6_listCaptures_0 : decode cX6_listCaptures 0 = .ok (.iconst 3, 1) := by decide +kernel
theorem dX6_listCaptures_1 : decode cX6_listCaptures 1 = .ok (.aload_n 1, 1) := by decide +kernel
theorem dX6_listCaptures_2 : decode cX6_listCaptures 2 = .ok (.iload_n 2, 1) := by decide +kernel
theorem dX6_listCaptures_3 : decode cX6_listCaptures 3 = .ok (.invokevirtual 37, 3) := by decide +kernel
theorem dX6_listCaptures_6 : decode cX6_listCaptures 6 = .ok (.isub, 1) := by decide +kernel
theorem dX6_listCaptures_7 : decode cX6_listCaptures 7 = .ok (.istore 4, 2) := by decide +kernel
theorem dX6_listCaptures_9 : decode cX6_listCaptures 9 = .ok (.iconst 0, 1) := by decide +kernel
theorem dX6_listCaptures_10 : decode cX6_listCaptures 10 = .ok (.istore 5, 2) := by decide +kernel
theorem dX6_listCaptures_12 : decode cX6_listCaptures 12 = .ok (.iload 5, 2) := by decide +kernel
theorem dX6_listCaptures_14 : decode cX6_listCaptures 14 = .ok (.iconst 2, 1) := by decide +kernel
theorem dX6_listCaptures_15 : decode cX6_listCaptures 15 = .ok (.if_icmp .ge 107, 3) := by decide +kernel
theorem dX6_listCaptures_18 : decode cX6_listCaptures 18 = .ok (.aload_n 0, 1) := by decide +kernel
theorem dX6_listCaptures_19 : decode cX6_listCaptures 19 = .ok (.getfield 9, 3) := by decide +kernel
theorem dX6_listCaptures_22 : decode cX6_listCaptures 22 = .ok (.iload_n 2, 1) := by decide +kernel
theorem dX6_listCaptures_23 : decode cX6_listCaptures 23 = .ok (.iload 5, 2) := by decide +kernel
theorem dX6_listCaptures_25 : decode cX6_listCaptures 25 = .ok (.invokevirtual 80, 3) := by decide +kernel
theorem dX6_listCaptures_28 : decode cX6_listCaptures 28 = .ok (.istore 6, 2) := by decide +kernel
theorem dX6_listCaptures_30 : decode cX6_listCaptures 30 = .ok (.iconst 1, 1) := by decide +kernel
theorem dX6_listCaptures_31 : decode cX6_listCaptures 31 = .ok (.istore 7, 2) := by decide +kernel
theorem dX6_listCaptures_33 : decode cX6_listCaptures 33 = .ok (.iload 7, 2) := by decide +kernel
theorem dX6_listCaptures_35 : decode cX6_listCaptures 35 = .ok (.iconst (-1), 1) := by decide +kernel
theorem dX6_listCaptures_36 : decode cX6_listCaptures 36 = .ok (.if_icmp .lt 80, 3) := by decide +kernel
theorem dX6_listCaptures_39 : decode cX6_listCaptures 39 = .ok (.iload 6, 2) := by decide +kernel
theorem dX6_listCaptures_41 : decode cX6_listCaptures 41 = .ok (.iconst (-1), 1) := by decide +kernel
theorem dX6_listCaptures_42 : decode cX6_listCaptures 42 = .ok (.if_icmp .eq 74, 3) := by decide +kernel
theorem dX6_listCaptures_45 : decode cX6_listCaptures 45 = .ok (.aload_n 0, 1) := by decide +kernel
theorem dX6_listCaptures_46 : decode cX6_listCaptures 46 = .ok (.getfield 20, 3) := by decide +kernel
theorem dX6_listCaptures_49 : decode cX6_listCaptures 49 = .ok (.aload_n 1, 1) := by decide +kernel
theorem dX6_listCaptures_50 : decode cX6_listCaptures 50 = .ok (.iload 6, 2) := by decide +kernel
theorem dX6_listCaptures_52 : decode cX6_listCaptures 52 = .ok (.iload 7, 2) := by decide +kernel
theorem dX6_listCaptures_54 : decode cX6_listCaptures 54 = .ok (.invokevirtual 84, 3) := by decide +kernel
theorem dX6_listCaptures_57 : decode cX6_listCaptures 57 = .ok (.aload_n 0, 1) := by decide +kernel
theorem dX6_listCaptures_58 : decode cX6_listCaptures 58 = .ok (.getfield 20, 3) := by decide +kernel
theorem dX6_listCaptures_61 : decode cX6_listCaptures 61 = .ok (.getfield 88, 3) := by decide +kernel
theorem dX6_listCaptures_64 : decode cX6_listCaptures 64 = .ok (.ifCond .le 46, 3) := by decide +kernel
theorem dX6_listCaptures_67 : decode cX6_listCaptures 67 = .ok (.aload_n 0, 1) := by decide +kernel
theorem dX6_listCaptures_68 : decode cX6_listCaptures 68 = .ok (.getfield 20, 3) := by decide +kernel
theorem dX6_listCaptures_71 : decode cX6_listCaptures 71 = .ok (.getfield 92, 3) := by decide +kernel
theorem dX6_listCaptures_74 : decode cX6_listCaptures 74 = .ok (.iconst (-1), 1) := by decide +kernel
theorem dX6_listCaptures_75 : decode cX6_listCaptures 75 = .ok (.if_icmp .eq 35, 3) := by decide +kernel
theorem dX6_listCaptures_78 : decode cX6_listCaptures 78 = .ok (.aload_n 1, 1) := by decide +kernel
theorem dX6_listCaptures_79 : decode cX6_listCaptures 79 = .ok (.aload_n 0, 1) := by decide +kernel
theorem dX6_listCaptures_80 : decode cX6_listCaptures 80 = .ok (.getfield 20, 3) := by decide +kernel
theorem dX6_listCaptures_83 : decode cX6_listCaptures 83 = .ok (.getfield 92, 3) := by decide +kernel
theorem dX6_listCaptures_86 : decode cX6_listCaptures 86 = .ok (.invokevirtual 37, 3) := by decide +kernel
theorem dX6_listCaptures_89 : decode cX6_listCaptures 89 = .ok (.iload 4, 2) := by decide +kernel
theorem dX6_listCaptures_91 : decode cX6_listCaptures 91 = .ok (.if_icmp .ne 19, 3) := by decide +kernel
theorem dX6_listCaptures_94 : decode cX6_listCaptures 94 = .ok (.aload_n 3, 1) := by decide +kernel
theorem dX6_listCaptures_95 : decode cX6_listCaptures 95 = .ok (.iload_n 2, 1) := by decide +kernel
theorem dX6_listCaptures_96 : decode cX6_listCaptures 96 = .ok (.bipush 100, 2) := by decide +kernel
theorem dX6_listCaptures_98 : decode cX6_listCaptures 98 = .ok (.imul, 1) := by decide +kernel
theorem dX6_listCaptures_99 : decode cX6_listCaptures 99 = .ok (.aload_n 0, 1) := by decide +kernel
theorem dX6_listCaptures_100 : decode cX6_listCaptures 100 = .ok (.getfield 20, 3) := by decide +kernel
theorem dX6_listCaptures_103 : decode cX6_listCaptures 103 = .ok (.getfield 92, 3) := by decide +kernel
theorem dX6_listCaptures_106 : decode cX6_listCaptures 106 = .ok (.iadd, 1) := by decide +kernel
theorem dX6_listCaptures_107 : decode cX6_listCaptures 107 = .ok (.invokevirtual 95, 3) := by decide +kernel
theorem dX6_listCaptures_110 : decode cX6_listCaptures 110 = .ok (.iinc 7 (-2), 3) := by decide +kernel
theorem dX6_listCaptures_113 : decode cX6_listCaptures 113 = .ok (.goto (-80), 3) := by decide +kernel
theorem dX6_listCaptures_116 : decode cX6_listCaptures 116 = .ok (.iinc 5 1, 3) := by decide +kernel
theorem dX6_listCaptures_119 : decode cX6_listCaptures 119 = .ok (.goto (-107), 3) := by decide +kernel
theorem dX6_listCaptures_122 : decode cX6_listCaptures 122 = .ok (.return_, 1) := by decide +kernel
theorem dX6_listQuietMoves_0 : decode cX6_listQuietMoves 0 = .ok (.iload_n 1, 1) := by decide +kernel
theorem dX6_listQuietMoves_1 : decode cX6_listQuietMoves 1 = .ok (.bipush 6, 2) := by decide +kernel
theorem dX6_listQuietMoves_3 : decode cX6_listQuietMoves 3 = .ok (.idiv, 1) := by decide +kernel
theorem dX6_listQuietMoves_4 : decode cX6_listQuietMoves 4 = .ok (.istore_n 3, 1) := by decide +kernel
theorem dX6_listQuietMoves_5 : decode cX6_listQuietMoves 5 = .ok (.iload_n 1, 1) := by decide +kernel
theorem dX6_listQuietMoves_6 : decode cX6_listQuietMoves 6 = .ok (.bipush 6, 2) := by decide +kernel
theorem dX6_listQuietMoves_8 : decode cX6_listQuietMoves 8 = .ok (.irem, 1) := by decide +kernel
theorem dX6_listQuietMoves_9 : decode cX6_listQuietMoves 9 = .ok (.istore 4, 2) := by decide +kernel
theorem dX6_listQuietMoves_11 : decode cX6_listQuietMoves 11 = .ok (.iconst 0, 1) := by decide +kernel
theorem dX6_listQuietMoves_12 : decode cX6_listQuietMoves 12 = .ok (.iload_n 3, 1) := by decide +kernel
theorem dX6_listQuietMoves_13 : decode cX6_listQuietMoves 13 = .ok (.iconst 1, 1) := by decide +kernel
theorem dX6_listQuietMoves_14 : decode cX6_listQuietMoves 14 = .ok (.isub, 1) := by decide +kernel
theorem dX6_listQuietMoves_15 : decode cX6_listQuietMoves 15 = .ok (.invokestatic 99, 3) := by decide +kernel
theorem dX6_listQuietMoves_18 : decode cX6_listQuietMoves 18 = .ok (.istore 5, 2) := by decide +kernel
theorem dX6_listQuietMoves_20 : decode cX6_listQuietMoves 20 = .ok (.iload 5, 2) := by decide +kernel
theorem dX6_listQuietMoves_22 : decode cX6_listQuietMoves 22 = .ok (.iconst 5, 1) := by decide +kernel
theorem dX6_listQuietMoves_23 : decode cX6_listQuietMoves 23 = .ok (.iload_n 3, 1) := by decide +kernel
theorem dX6_listQuietMoves_24 : decode cX6_listQuietMoves 24 = .ok (.iconst 1, 1) := by decide +kernel
theorem dX6_listQuietMoves_25 : decode cX6_listQuietMoves 25 = .ok (.iadd, 1) := by decide +kernel
theorem dX6_listQuietMoves_26 : decode cX6_listQuietMoves 26 = .ok (.invokestatic 102, 3) := by decide +kernel
theorem dX6_listQuietMoves_29 : decode cX6_listQuietMoves 29 = .ok (.if_icmp .gt 68, 3) := by decide +kernel
theorem dX6_listQuietMoves_32 : decode cX6_listQuietMoves 32 = .ok (.iconst 0, 1) := by decide +kernel
theorem dX6_listQuietMoves_33 : decode cX6_listQuietMoves 33 = .ok (.iload 4, 2) := by decide +kernel
theorem dX6_listQuietMoves_35 : decode cX6_listQuietMoves 35 = .ok (.iconst 1, 1) := by decide +kernel
theorem dX6_listQuietMoves_36 : decode cX6_listQuietMoves 36 = .ok (.isub, 1) := by decide +kernel
theorem dX6_listQuietMoves_37 : decode cX6_listQuietMoves 37 = .ok (.invokestatic 99, 3) := by decide +kernel
theorem dX6_listQuietMoves_40 : decode cX6_listQuietMoves 40 = .ok (.istore 6, 2) := by decide +kernel
theorem dX6_listQuietMoves_42 : decode cX6_listQuietMoves 42 = .ok (.iload 6, 2) := by decide +kernel
theorem dX6_listQuietMoves_44 : decode cX6_listQuietMoves 44 = .ok (.iconst 5, 1) := by decide +kernel
theorem dX6_listQuietMoves_45 : decode cX6_listQuietMoves 45 = .ok (.iload 4, 2) := by decide +kernel
theorem dX6_listQuietMoves_47 : decode cX6_listQuietMoves 47 = .ok (.iconst 1, 1) := by decide +kernel
theorem dX6_listQuietMoves_48 : decode cX6_listQuietMoves 48 = .ok (.iadd, 1) := by decide +kernel
theorem dX6_listQuietMoves_49 : decode cX6_listQuietMoves 49 = .ok (.invokestatic 102, 3) := by decide +kernel
theorem dX6_listQuietMoves_52 : decode cX6_listQuietMoves 52 = .ok (.if_icmp .gt 39, 3) := by decide +kernel
theorem dX6_listQuietMoves_55 : decode cX6_listQuietMoves 55 = .ok (.iload 5, 2) := by decide +kernel
theorem dX6_listQuietMoves_57 : decode cX6_listQuietMoves 57 = .ok (.bipush 6, 2) := by decide +kernel
theorem dX6_listQuietMoves_59 : decode cX6_listQuietMoves 59 = .ok (.imul, 1) := by decide +kernel
theorem dX6_listQuietMoves_60 : decode cX6_listQuietMoves 60 = .ok (.iload 6, 2) := by decide +kernel
theorem dX6_listQuietMoves_62 : decode cX6_listQuietMoves 62 = .ok (.iadd, 1) := by decide +kernel
theorem dX6_listQuietMoves_63 : decode cX6_listQuietMoves 63 = .ok (.istore 7, 2) := by decide +kernel
theorem dX6_listQuietMoves_65 : decode cX6_listQuietMoves 65 = .ok (.aload_n 0, 1) := by decide +kernel
theorem dX6_listQuietMoves_66 : decode cX6_listQuietMoves 66 = .ok (.iload 7, 2) := by decide +kernel
theorem dX6_listQuietMoves_68 : decode cX6_listQuietMoves 68 = .ok (.invokevirtual 37, 3) := by decide +kernel
theorem dX6_listQuietMoves_71 : decode cX6_listQuietMoves 71 = .ok (.ifCond .ne 14, 3) := by decide +kernel
theorem dX6_listQuietMoves_74 : decode cX6_listQuietMoves 74 = .ok (.aload_n 2, 1) := by decide +kernel
theorem dX6_listQuietMoves_75 : decode cX6_listQuietMoves 75 = .ok (.iload_n 1, 1) := by decide +kernel
theorem dX6_listQuietMoves_76 : decode cX6_listQuietMoves 76 = .ok (.bipush 100, 2) := by decide +kernel
theorem dX6_listQuietMoves_78 : decode cX6_listQuietMoves 78 = .ok (.imul, 1) := by decide +kernel
theorem dX6_listQuietMoves_79 : decode cX6_listQuietMoves 79 = .ok (.iload 7, 2) := by decide +kernel
theorem dX6_listQuietMoves_81 : decode cX6_listQuietMoves 81 = .ok (.iadd, 1) := by decide +kernel
theorem dX6_listQuietMoves_82 : decode cX6_listQuietMoves 82 = .ok (.invokevirtual 105, 3) := by decide +kernel
theorem dX6_listQuietMoves_85 : decode cX6_listQuietMoves 85 = .ok (.iinc 6 1, 3) := by decide +kernel
theorem dX6_listQuietMoves_88 : decode cX6_listQuietMoves 88 = .ok (.goto (-46), 3) := by decide +kernel
theorem dX6_listQuietMoves_91 : decode cX6_listQuietMoves 91 = .ok (.iinc 5 1, 3) := by decide +kernel
theorem dX6_listQuietMoves_94 : decode cX6_listQuietMoves 94 = .ok (.goto (-74), 3) := by decide +kernel
theorem dX6_listQuietMoves_97 : decode cX6_listQuietMoves 97 = .ok (.return_, 1) := by decide +kernel
theorem dX7_init_0 : decode cX7_init 0 = .ok (.aload_n 0, 1) := by decide +kernel
theorem dX7_init_1 : decode cX7_init 1 = .ok (.invokespecial 3, 3) := by decide +kernel
theorem dX7_init_4 : decode cX7_init 4 = .ok (.aload_n 0, 1) := by decide +kernel
theorem dX7_init_5 : decode cX7_init 5 = .ok (.new 9, 3) := by decide +kernel
theorem dX7_init_8 : decode cX7_init 8 = .ok (.dup, 1) := by decide +kernel
theorem dX7_init_9 : decode cX7_init 9 = .ok (.invokespecial 11, 3) := by decide +kernel
theorem dX7_init_12 : decode cX7_init 12 = .ok (.putfield 12, 3) := by decide +kernel
theorem dX7_init_15 : decode cX7_init 15 = .ok (.aload_n 0, 1) := by decide +kernel
theorem dX7_init_16 : decode cX7_init 16 = .ok (.bipush 60, 2) := by decide +kernel
theorem dX7_init_18 : decode cX7_init 18 = .ok (.newarray .long, 2) := by decide +kernel
theorem dX7_init_20 : decode cX7_init 20 = .ok (.putfield 18, 3) := by decide +kernel
theorem dX7_init_23 : decode cX7_init 23 = .ok (.aload_n 0, 1) := by decide +kernel
theorem dX7_init_24 : decode cX7_init 24 = .ok (.invokevirtual 22, 3) := by decide +kernel
theorem dX7_init_27 : decode cX7_init 27 = .ok (.return_, 1) := by decide +kernel
theorem dX7_startAnew_0 : decode cX7_startAnew 0 = .ok (.aload_n 0, 1) := by decide +kernel
theorem dX7_startAnew_1 : decode cX7_startAnew 1 = .ok (.getfield 12, 3) := by decide +kernel
theorem dX7_startAnew_4 : decode cX7_startAnew 4 = .ok (.invokevirtual 25, 3) := by decide +kernel
theorem dX7_startAnew_7 : decode cX7_startAnew 7 = .ok (.aload_n 0, 1) := by decide +kernel
theorem dX7_startAnew_8 : decode cX7_startAnew 8 = .ok (.iconst 0, 1) := by decide +kernel
theorem dX7_startAnew_9 : decode cX7_startAnew 9 = .ok (.putfield 28, 3) := by decide +kernel
theorem dX7_startAnew_12 : decode cX7_startAnew 12 = .ok (.aload_n 0, 1) := by decide +kernel
theorem dX7_startAnew_13 : decode cX7_startAnew 13 = .ok (.iconst 0, 1) := by decide +kernel
theorem dX7_startAnew_14 : decode cX7_startAnew 14 = .ok (.putfield 32, 3) := by decide +kernel
theorem dX7_startAnew_17 : decode cX7_startAnew 17 = .ok (.aload_n 0, 1) := by decide +kernel
theorem dX7_startAnew_18 : decode cX7_startAnew 18 = .ok (.invokevirtual 35, 3) := by decide +kernel
theorem dX7_startAnew_21 : decode cX7_startAnew 21 = .ok (.return_, 1) := by decide +kernel
theorem dX7_makeMove_0 : decode cX7_makeMove 0 = .ok (.aload_n 0, 1) := by decide +kernel
theorem dX7_makeMove_1 : decode cX7_makeMove 1 = .ok (.dup, 1) := by decide +kernel
theorem dX7_makeMove_2 : decode cX7_makeMove 2 = .ok (.getfield 28, 3) := by decide +kernel
theorem dX7_makeMove_5 : decode cX7_makeMove 5 = .ok (.iconst 1, 1) := by decide +kernel
theorem dX7_makeMove_6 : decode cX7_makeMove 6 = .ok (.iadd, 1) := by decide +kernel
theorem dX7_makeMove_7 : decode cX7_makeMove 7 = .ok (.putfield 28, 3) := by decide +kernel
theorem dX7_makeMove_10 : decode cX7_makeMove 10 = .ok (.aload_n 0, 1) := by decide +kernel
theorem dX7_makeMove_11 : decode cX7_makeMove 11 = .ok (.getfield 12, 3) := by decide +kernel
theorem dX7_makeMove_14 : decode cX7_makeMove 14 = .ok (.iload_n 1, 1) := by decide +kernel
theorem dX7_makeMove_15 : decode cX7_makeMove 15 = .ok (.iload_n 2, 1) := by decide +kernel
theorem dX7_makeMove_16 : decode cX7_makeMove 16 = .ok (.invokevirtual 38, 3) := by decide +kernel
theorem dX7_makeMove_19 : decode cX7_makeMove 19 = .ok (.ifCond .ne 10, 3) := by decide +kernel
theorem dX7_makeMove_22 : decode cX7_makeMove 22 = .ok (.aload_n 0, 1) := by decide +kernel
theorem dX7_makeMove_23 : decode cX7_makeMove 23 = .ok (.invokevirtual 22, 3) := by decide +kernel
theorem dX7_makeMove_26 : decode cX7_makeMove 26 = .ok (.goto 17, 3) := by decide +kernel
theorem dX7_makeMove_29 : decode cX7_makeMove 29 = .ok (.aload_n 0, 1) := by decide +kernel
theorem dX7_makeMove_30 : decode cX7_makeMove 30 = .ok (.dup, 1) := by decide +kernel
theorem dX7_makeMove_31 : decode cX7_makeMove 31 = .ok (.getfield 32, 3) := by decide +kernel
theorem dX7_makeMove_34 : decode cX7_makeMove 34 = .ok (.iconst 1, 1) := by decide +kernel
theorem dX7_makeMove_35 : decode cX7_makeMove 35 = .ok (.iadd, 1) := by decide +kernel
theorem dX7_makeMove_36 : decode cX7_makeMove 36 = .ok (.putfield 32, 3) := by decide +kernel
theorem dX7_makeMove_39 : decode cX7_makeMove 39 = .ok (.aload_n 0, 1) := by decide +kernel
theorem dX7_makeMove_40 : decode cX7_makeMove 40 = .ok (.invokevirtual 35, 3) := by decide +kernel
theorem dX7_makeMove_43 : decode cX7_makeMove 43 = .ok (.return_, 1) := by decide +kernel
theorem dX7_place_0 : decode cX7_place 0 = .ok (.aload_n 0, 1) := by decide +kernel
theorem dX7_place_1 : decode cX7_place 1 = .ok (.getfield 12, 3) := by decide +kernel
theorem dX7_place_4 : decode cX7_place 4 = .ok (.iload_n 1, 1) := by decide +kernel
theorem dX7_place_5 : decode cX7_place 5 = .ok (.iload_n 2, 1) := by decide +kernel
theorem dX7_place_6 : decode cX7_place 6 = .ok (.invokevirtual 42, 3) := by decide +kernel
theorem dX7_place_9 : decode cX7_place 9 = .ok (.aload_n 0, 1) := by decide +kernel
theorem dX7_place_10 : decode cX7_place 10 = .ok (.getfield 12, 3) := by decide +kernel
theorem dX7_place_13 : decode cX7_place 13 = .ok (.invokevirtual 46, 3) := by decide +kernel
theorem dX7_place_16 : decode cX7_place 16 = .ok (.aload_n 0, 1) := by decide +kernel
theorem dX7_place_17 : decode cX7_place 17 = .ok (.invokevirtual 35, 3) := by decide +kernel
theorem dX7_place_20 : decode cX7_place 20 = .ok (.return_, 1) := by decide +kernel
theorem dX7_changeSide_0 : decode cX7_changeSide 0 = .ok (.aload_n 0, 1) := by decide +kernel
theorem dX7_changeSide_1 : decode cX7_changeSide 1 = .ok (.getfield 12, 3) := by decide +kernel
theorem dX7_changeSide_4 : decode cX7_changeSide 4 = .ok (.invokevirtual 49, 3) := by decide +kernel
theorem dX7_changeSide_7 : decode cX7_changeSide 7 = .ok (.aload_n 0, 1) := by decide +kernel
theorem dX7_changeSide_8 : decode cX7_changeSide 8 = .ok (.getfield 12, 3) := by decide +kernel
theorem dX7_changeSide_11 : decode cX7_changeSide 11 = .ok (.invokevirtual 46, 3) := by decide +kernel
theorem dX7_changeSide_14 : decode cX7_changeSide 14 = .ok (.aload_n 0, 1) := by decide +kernel
theorem dX7_changeSide_15 : decode cX7_changeSide 15 = .ok (.invokevirtual 35, 3) := by decide +kernel
theorem dX7_changeSide_18 : decode cX7_changeSide 18 = .ok (.return_, 1) := by decide +kernel
theorem dX7_forgetPositions_0 : decode cX7_forgetPositions 0 = .ok (.aload_n 0, 1) := by decide +kernel
theorem dX7_forgetPositions_1 : decode cX7_forgetPositions 1 = .ok (.iconst 0, 1) := by decide +kernel
theorem dX7_forgetPositions_2 : decode cX7_forgetPositions 2 = .ok (.putfield 52, 3) := by decide +kernel
theorem dX7_forgetPositions_5 : decode cX7_forgetPositions 5 = .ok (.aload_n 0, 1) := by decide +kernel
theorem dX7_forgetPositions_6 : decode cX7_forgetPositions 6 = .ok (.invokevirtual 22, 3) := by decide +kernel
theorem dX7_forgetPositions_9 : decode cX7_forgetPositions 9 = .ok (.return_, 1) := by decide +kernel
theorem dX7_remember_0 : decode cX7_remember 0 = .ok (.aload_n 0, 1) := by decide +kernel
theorem dX7_remember_1 : decode cX7_remember 1 = .ok (.getfield 52, 3) := by decide +kernel
theorem dX7_remember_4 : decode cX7_remember 4 = .ok (.aload_n 0, 1) := by decide +kernel
theorem dX7_remember_5 : decode cX7_remember 5 = .ok (.getfield 18, 3) := by decide +kernel
theorem dX7_remember_8 : decode cX7_remember 8 = .ok (.arraylength, 1) := by decide +kernel
theorem dX7_remember_9 : decode cX7_remember 9 = .ok (.if_icmp .lt 45, 3) := by decide +kernel
theorem dX7_remember_12 : decode cX7_remember 12 = .ok (.iconst 1, 1) := by decide +kernel
theorem dX7_remember_13 : decode cX7_remember 13 = .ok (.istore_n 1, 1) := by decide +kernel
theorem dX7_remember_14 : decode cX7_remember 14 = .ok (.iload_n 1, 1) := by decide +kernel
theorem dX7_remember_15 : decode cX7_remember 15 = .ok (.aload_n 0, 1) := by decide +kernel
theorem dX7_remember_16 : decode cX7_remember 16 = .ok (.getfield 18, 3) := by decide +kernel
theorem dX7_remember_19 : decode cX7_remember 19 = .ok (.arraylength, 1) := by decide +kernel
theorem dX7_remember_20 : decode cX7_remember 20 = .ok (.if_icmp .ge 23, 3) := by decide +kernel
theorem dX7_remember_23 : decode cX7_remember 23 = .ok (.aload_n 0, 1) := by decide +kernel
theorem dX7_remember_24 : decode cX7_remember 24 = .ok (.getfield 18, 3) := by decide +kernel
theorem dX7_remember_27 : decode cX7_remember 27 = .ok (.iload_n 1, 1) := by decide +kernel
theorem dX7_remember_28 : decode cX7_remember 28 = .ok (.iconst 1, 1) := by decide +kernel
theorem dX7_remember_29 : decode cX7_remember 29 = .ok (.isub, 1) := by decide +kernel
theorem dX7_remember_30 : decode cX7_remember 30 = .ok (.aload_n 0, 1) := by decide +kernel
theorem dX7_remember_31 : decode cX7_remember 31 = .ok (.getfield 18, 3) := by decide +kernel
theorem dX7_remember_34 : decode cX7_remember 34 = .ok (.iload_n 1, 1) := by decide +kernel
theorem dX7_remember_35 : decode cX7_remember 35 = .ok (.laload, 1) := by decide +kernel
theorem dX7_remember_36 : decode cX7_remember 36 = .ok (.lastore, 1) := by decide +kernel
theorem dX7_remember_37 : decode cX7_remember 37 = .ok (.iinc 1 1, 3) := by decide +kernel
theorem dX7_remember_40 : decode cX7_remember 40 = .ok (.goto (-26), 3) := by decide +kernel
theorem dX7_remember_43 : decode cX7_remember 43 = .ok (.aload_n 0, 1) := by decide +kernel
theorem dX7_remember_44 : decode cX7_remember 44 = .ok (.aload_n 0, 1) := by decide +kernel
theorem dX7_remember_45 : decode cX7_remember 45 = .ok (.getfield 18, 3) := by decide +kernel
theorem dX7_remember_48 : decode cX7_remember 48 = .ok (.arraylength, 1) := by decide +kernel
theorem dX7_remember_49 : decode cX7_remember 49 = .ok (.iconst 1, 1) := by decide +kernel
theorem dX7_remember_50 : decode cX7_remember 50 = .ok (.isub, 1) := by decide +kernel
theorem dX7_remember_51 : decode cX7_remember 51 = .ok (.putfield 52, 3) := by decide +kernel
theorem dX7_remember_54 : decode cX7_remember 54 = .ok (.aload_n 0, 1) := by decide +kernel
theorem dX7_remember_55 : decode cX7_remember 55 = .ok (.getfield 52, 3) := by decide +kernel
theorem dX7_remember_58 : decode cX7_remember 58 = .ok (.ifCond .lt 41, 3) := by decide +kernel
theorem dX7_remember_61 : decode cX7_remember 61 = .ok (.aload_n 0, 1) := by decide +kernel
theorem dX7_remember_62 : decode cX7_remember 62 = .ok (.getfield 52, 3) := by decide +kernel
theorem dX7_remember_65 : decode cX7_remember 65 = .ok (.aload_n 0, 1) := by decide +kernel
theorem dX7_remember_66 : decode cX7_remember 66 = .ok (.getfield 18, 3) := by decide +kernel
theorem dX7_remember_69 : decode cX7_remember 69 = .ok (.arraylength, 1) := by decide +kernel
theorem dX7_remember_70 : decode cX7_remember 70 = .ok (.if_icmp .ge 29, 3) := by decide +kernel
theorem dX7_remember_73 : decode cX7_remember 73 = .ok (.aload_n 0, 1) := by decide +kernel
theorem dX7_remember_74 : decode cX7_remember 74 = .ok (.getfield 18, 3) := by decide +kernel
theorem dX7_remember_77 : decode cX7_remember 77 = .ok (.aload_n 0, 1) := by decide +kernel
theorem dX7_remember_78 : decode cX7_remember 78 = .ok (.getfield 52, 3) := by decide +kernel
theorem dX7_remember_81 : decode cX7_remember 81 = .ok (.aload_n 0, 1) := by decide +kernel
theorem dX7_remember_82 : decode cX7_remember 82 = .ok (.getfield 12, 3) := by decide +kernel
theorem dX7_remember_85 : decode cX7_remember 85 = .ok (.invokevirtual 55, 3) := by decide +kernel
theorem dX7_remember_88 : decode cX7_remember 88 = .ok (.lastore, 1) := by decide +kernel
theorem dX7_remember_89 : decode cX7_remember 89 = .ok (.aload_n 0, 1) := by decide +kernel
theorem dX7_remember_90 : decode cX7_remember 90 = .ok (.dup, 1) := by decide +kernel
theorem dX7_remember_91 : decode cX7_remember 91 = .ok (.getfield 52, 3) := by decide +kernel
theorem dX7_remember_94 : decode cX7_remember 94 = .ok (.iconst 1, 1) := by decide +kernel
theorem dX7_remember_95 : decode cX7_remember 95 = .ok (.iadd, 1) := by decide +kernel
theorem dX7_remember_96 : decode cX7_remember 96 = .ok (.putfield 52, 3) := by decide +kernel
theorem dX7_remember_99 : decode cX7_remember 99 = .ok (.return_, 1) := by decide +kernel
theorem dX7_timesSeen_0 : decode cX7_timesSeen 0 = .ok (.aload_n 0, 1) := by decide +kernel
theorem dX7_timesSeen_1 : decode cX7_timesSeen 1 = .ok (.getfield 12, 3) := by decide +kernel
theorem dX7_timesSeen_4 : decode cX7_timesSeen 4 = .ok (.invokevirtual 55, 3) := by decide +kernel
theorem dX7_timesSeen_7 : decode cX7_timesSeen 7 = .ok (.lstore_n 1, 1) := by decide +kernel
theorem dX7_timesSeen_8 : decode cX7_timesSeen 8 = .ok (.iconst 0, 1) := by decide +kernel
theorem dX7_timesSeen_9 : decode cX7_timesSeen 9 = .ok (.istore_n 3, 1) := by decide +kernel
theorem dX7_timesSeen_10 : decode cX7_timesSeen 10 = .ok (.iconst 0, 1) := by decide +kernel
theorem dX7_timesSeen_11 : decode cX7_timesSeen 11 = .ok (.istore 4, 2) := by decide +kernel
theorem dX7_timesSeen_13 : decode cX7_timesSeen 13 = .ok (.iload 4, 2) := by decide +kernel
theorem dX7_timesSeen_15 : decode cX7_timesSeen 15 = .ok (.aload_n 0, 1) := by decide +kernel
theorem dX7_timesSeen_16 : decode cX7_timesSeen 16 = .ok (.getfield 52, 3) := by decide +kernel
theorem dX7_timesSeen_19 : decode cX7_timesSeen 19 = .ok (.if_icmp .ge 34, 3) := by decide +kernel
theorem dX7_timesSeen_22 : decode cX7_timesSeen 22 = .ok (.iload 4, 2) := by decide +kernel
theorem dX7_timesSeen_24 : decode cX7_timesSeen 24 = .ok (.aload_n 0, 1) := by decide +kernel
theorem dX7_timesSeen_25 : decode cX7_timesSeen 25 = .ok (.getfield 18, 3) := by decide +kernel
theorem dX7_timesSeen_28 : decode cX7_timesSeen 28 = .ok (.arraylength, 1) := by decide +kernel
theorem dX7_timesSeen_29 : decode cX7_timesSeen 29 = .ok (.if_icmp .ge 24, 3) := by decide +kernel
theorem dX7_timesSeen_32 : decode cX7_timesSeen 32 = .ok (.aload_n 0, 1) := by decide +kernel
theorem dX7_timesSeen_33 : decode cX7_timesSeen 33 = .ok (.getfield 18, 3) := by decide +kernel
theorem dX7_timesSeen_36 : decode cX7_timesSeen 36 = .ok (.iload 4, 2) := by decide +kernel
theorem dX7_timesSeen_38 : decode cX7_timesSeen 38 = .ok (.laload, 1) := by decide +kernel
theorem dX7_timesSeen_39 : decode cX7_timesSeen 39 = .ok (.lload_n 1, 1) := by decide +kernel
theorem dX7_timesSeen_40 : decode cX7_timesSeen 40 = .ok (.lcmp, 1) := by decide +kernel
theorem dX7_timesSeen_41 : decode cX7_timesSeen 41 = .ok (.ifCond .ne 6, 3) := by decide +kernel
theorem dX7_timesSeen_44 : decode cX7_timesSeen 44 = .ok (.iinc 3 1, 3) := by decide +kernel
theorem dX7_timesSeen_47 : decode cX7_timesSeen 47 = .ok (.iinc 4 1, 3) := by decide +kernel
theorem dX7_timesSeen_50 : decode cX7_timesSeen 50 = .ok (.goto (-37), 3) := by decide +kernel
theorem dX7_timesSeen_53 : decode cX7_timesSeen 53 = .ok (.iload_n 3, 1) := by decide +kernel
theorem dX7_timesSeen_54 : decode cX7_timesSeen 54 = .ok (.ireturn, 1) := by decide +kernel
theorem dX7_copyFrom_0 : decode cX7_copyFrom 0 = .ok (.aload_n 0, 1) := by decide +kernel
theorem dX7_copyFrom_1 : decode cX7_copyFrom 1 = .ok (.getfield 12, 3) := by decide +kernel
theorem dX7_copyFrom_4 : decode cX7_copyFrom 4 = .ok (.aload_n 1, 1) := by decide +kernel
theorem dX7_copyFrom_5 : decode cX7_copyFrom 5 = .ok (.getfield 12, 3) := by decide +kernel
theorem dX7_copyFrom_8 : decode cX7_copyFrom 8 = .ok (.invokevirtual 59, 3) := by decide +kernel
theorem dX7_copyFrom_11 : decode cX7_copyFrom 11 = .ok (.aload_n 0, 1) := by decide +kernel
theorem dX7_copyFrom_12 : decode cX7_copyFrom 12 = .ok (.aload_n 1, 1) := by decide +kernel
theorem dX7_copyFrom_13 : decode cX7_copyFrom 13 = .ok (.getfield 28, 3) := by decide +kernel
theorem dX7_copyFrom_16 : decode cX7_copyFrom 16 = .ok (.putfield 28, 3) := by decide +kernel
theorem dX7_copyFrom_19 : decode cX7_copyFrom 19 = .ok (.aload_n 0, 1) := by decide +kernel
theorem dX7_copyFrom_20 : decode cX7_copyFrom 20 = .ok (.aload_n 1, 1) := by decide +kernel
theorem dX7_copyFrom_21 : decode cX7_copyFrom 21 = .ok (.getfield 32, 3) := by decide +kernel
theorem dX7_copyFrom_24 : decode cX7_copyFrom 24 = .ok (.putfield 32, 3) := by decide +kernel
theorem dX7_copyFrom_27 : decode cX7_copyFrom 27 = .ok (.aload_n 0, 1) := by decide +kernel
theorem dX7_copyFrom_28 : decode cX7_copyFrom 28 = .ok (.aload_n 1, 1) := by decide +kernel
theorem dX7_copyFrom_29 : decode cX7_copyFrom 29 = .ok (.getfield 52, 3) := by decide +kernel
theorem dX7_copyFrom_32 : decode cX7_copyFrom 32 = .ok (.putfield 52, 3) := by decide +kernel
theorem dX7_copyFrom_35 : decode cX7_copyFrom 35 = .ok (.iconst 0, 1) := by decide +kernel
theorem dX7_copyFrom_36 : decode cX7_copyFrom 36 = .ok (.istore_n 2, 1) := by decide +kernel
theorem dX7_copyFrom_37 : decode cX7_copyFrom 37 = .ok (.iload_n 2, 1) := by decide +kernel
theorem dX7_copyFrom_38 : decode cX7_copyFrom 38 = .ok (.bipush 60, 2) := by decide +kernel
theorem dX7_copyFrom_40 : decode cX7_copyFrom 40 = .ok (.if_icmp .ge 21, 3) := by decide +kernel
theorem dX7_copyFrom_43 : decode cX7_copyFrom 43 = .ok (.aload_n 0, 1) := by decide +kernel
theorem dX7_copyFrom_44 : decode cX7_copyFrom 44 = .ok (.getfield 18, 3) := by decide +kernel
theorem dX7_copyFrom_47 : decode cX7_copyFrom 47 = .ok (.iload_n 2, 1) := by decide +kernel
theorem dX7_copyFrom_48 : decode cX7_copyFrom 48 = .ok (.aload_n 1, 1) := by decide +kernel
theorem dX7_copyFrom_49 : decode cX7_copyFrom 49 = .ok (.getfield 18, 3) := by decide +kernel
theorem dX7_copyFrom_52 : decode cX7_copyFrom 52 = .ok (.iload_n 2, 1) := by decide +kernel
theorem dX7_copyFrom_53 : decode cX7_copyFrom 53 = .ok (.laload, 1) := by decide +kernel
theorem dX7_copyFrom_54 : decode cX7_copyFrom 54 = .ok (.lastore, 1) := by decide +kernel
theorem dX7_copyFrom_55 : decode cX7_copyFrom 55 = .ok (.iinc 2 1, 3) := by decide +kernel
theorem dX7_copyFrom_58 : decode cX7_copyFrom 58 = .ok (.goto (-21), 3) := by decide +kernel
theorem dX7_copyFrom_61 : decode cX7_copyFrom 61 = .ok (.return_, 1) := by decide +kernel
theorem dX8_init_0 : decode cX8_init 0 = .ok (.aload_n 0, 1) := by decide +kernel
theorem dX8_init_1 : decode cX8_init 1 = .ok (.invokespecial 3, 3) := by decide +kernel
theorem dX8_init_4 : decode cX8_init 4 = .ok (.aload_n 0, 1) := by decide +kernel
theorem dX8_init_5 : decode cX8_init 5 = .ok (.aload_n 1, 1) := by decide +kernel
theorem dX8_init_6 : decode cX8_init 6 = .ok (.putfield 9, 3) := by decide +kernel
theorem dX8_init_9 : decode cX8_init 9 = .ok (.return_, 1) := by decide +kernel
theorem dX8_go_0 : decode cX8_go 0 = .ok (.aload_n 0, 1) := by decide +kernel
theorem dX8_go_1 : decode cX8_go 1 = .ok (.iconst (-1), 1) := by decide +kernel
theorem dX8_go_2 : decode cX8_go 2 = .ok (.putfield 15, 3) := by decide +kernel
theorem dX8_go_5 : decode cX8_go 5 = .ok (.aload_n 0, 1) := by decide +kernel
theorem dX8_go_6 : decode cX8_go 6 = .ok (.iconst 0, 1) := by decide +kernel
theorem dX8_go_7 : decode cX8_go 7 = .ok (.putfield 19, 3) := by decide +kernel
theorem dX8_go_10 : decode cX8_go 10 = .ok (.aload_n 0, 1) := by decide +kernel
theorem dX8_go_11 : decode cX8_go 11 = .ok (.getfield 9, 3) := by decide +kernel
theorem dX8_go_14 : decode cX8_go 14 = .ok (.iload_n 2, 1) := by decide +kernel
theorem dX8_go_15 : decode cX8_go 15 = .ok (.invokevirtual 22, 3) := by decide +kernel
theorem dX8_go_18 : decode cX8_go 18 = .ok (.istore 4, 2) := by decide +kernel
theorem dX8_go_20 : decode cX8_go 20 = .ok (.iload_n 2, 1) := by decide +kernel
theorem dX8_go_21 : decode cX8_go 21 = .ok (.bipush 24, 2) := by decide +kernel
theorem dX8_go_23 : decode cX8_go 23 = .ok (.irem, 1) := by decide +kernel
theorem dX8_go_24 : decode cX8_go 24 = .ok (.istore 5, 2) := by decide +kernel
theorem dX8_go_26 : decode cX8_go 26 = .ok (.iload_n 2, 1) := by decide +kernel
theorem dX8_go_27 : decode cX8_go 27 = .ok (.iload 5, 2) := by decide +kernel
theorem dX8_go_29 : decode cX8_go 29 = .ok (.isub, 1) := by decide +kernel
theorem dX8_go_30 : decode cX8_go 30 = .ok (.istore 6, 2) := by decide +kernel
theorem dX8_go_32 : decode cX8_go 32 = .ok (.iload_n 3, 1) := by decide +kernel
theorem dX8_go_33 : decode cX8_go 33 = .ok (.ifCond .le 7, 3) := by decide +kernel
theorem dX8_go_36 : decode cX8_go 36 = .ok (.iconst 5, 1) := by decide +kernel
theorem dX8_go_37 : decode cX8_go 37 = .ok (.goto 4, 3) := by decide +kernel
theorem dX8_go_40 : decode cX8_go 40 = .ok (.iconst 0, 1) := by decide +kernel
theorem dX8_go_41 : decode cX8_go 41 = .ok (.istore 7, 2) := by decide +kernel
theorem dX8_go_43 : decode cX8_go 43 = .ok (.aload_n 0, 1) := by decide +kernel
theorem dX8_go_44 : decode cX8_go 44 = .ok (.iconst 1, 1) := by decide +kernel
theorem dX8_go_45 : decode cX8_go 45 = .ok (.putfield 28, 3) := by decide +kernel
theorem dX8_go_48 : decode cX8_go 48 = .ok (.aload_n 0, 1) := by decide +kernel
theorem dX8_go_49 : decode cX8_go 49 = .ok (.getfield 28, 3) := by decide +kernel
theorem dX8_go_52 : decode cX8_go 52 = .ok (.bipush 24, 2) := by decide +kernel
theorem dX8_go_54 : decode cX8_go 54 = .ok (.if_icmp .ge 85, 3) := by decide +kernel
theorem dX8_go_57 : decode cX8_go 57 = .ok (.iload 5, 2) := by decide +kernel
theorem dX8_go_59 : decode cX8_go 59 = .ok (.bipush 6, 2) := by decide +kernel
theorem dX8_go_61 : decode cX8_go 61 = .ok (.irem, 1) := by decide +kernel
theorem dX8_go_62 : decode cX8_go 62 = .ok (.iload 7, 2) := by decide +kernel
theorem dX8_go_64 : decode cX8_go 64 = .ok (.if_icmp .ne 13, 3) := by decide +kernel
theorem dX8_go_67 : decode cX8_go 67 = .ok (.aload_n 0, 1) := by decide +kernel
theorem dX8_go_68 : decode cX8_go 68 = .ok (.dup, 1) := by decide +kernel
theorem dX8_go_69 : decode cX8_go 69 = .ok (.getfield 19, 3) := by decide +kernel
theorem dX8_go_72 : decode cX8_go 72 = .ok (.iconst 1, 1) := by decide +kernel
theorem dX8_go_73 : decode cX8_go 73 = .ok (.iadd, 1) := by decide +kernel
theorem dX8_go_74 : decode cX8_go 74 = .ok (.putfield 19, 3) := by decide +kernel
theorem dX8_go_77 : decode cX8_go 77 = .ok (.iload 5, 2) := by decide +kernel
theorem dX8_go_79 : decode cX8_go 79 = .ok (.iload_n 3, 1) := by decide +kernel
theorem dX8_go_80 : decode cX8_go 80 = .ok (.iadd, 1) := by decide +kernel
theorem dX8_go_81 : decode cX8_go 81 = .ok (.bipush 24, 2) := by decide +kernel
theorem dX8_go_83 : decode cX8_go 83 = .ok (.iadd, 1) := by decide +kernel
theorem dX8_go_84 : decode cX8_go 84 = .ok (.bipush 24, 2) := by decide +kernel
theorem dX8_go_86 : decode cX8_go 86 = .ok (.irem, 1) := by decide +kernel
theorem dX8_go_87 : decode cX8_go 87 = .ok (.istore 5, 2) := by decide +kernel
theorem dX8_go_89 : decode cX8_go 89 = .ok (.aload_n 0, 1) := by decide +kernel
theorem dX8_go_90 : decode cX8_go 90 = .ok (.getfield 9, 3) := by decide +kernel
theorem dX8_go_93 : decode cX8_go 93 = .ok (.iload 6, 2) := by decide +kernel
theorem dX8_go_95 : decode cX8_go 95 = .ok (.iload 5, 2) := by decide +kernel
theorem dX8_go_97 : decode cX8_go 97 = .ok (.iadd, 1) := by decide +kernel
theorem dX8_go_98 : decode cX8_go 98 = .ok (.invokevirtual 22, 3) := by decide +kernel
theorem dX8_go_101 : decode cX8_go 101 = .ok (.istore 8, 2) := by decide +kernel
theorem dX8_go_103 : decode cX8_go 103 = .ok (.iload 8, 2) := by decide +kernel
theorem dX8_go_105 : decode cX8_go 105 = .ok (.iload 4, 2) := by decide +kernel
theorem dX8_go_107 : decode cX8_go 107 = .ok (.if_icmp .eq 19, 3) := by decide +kernel
theorem dX8_go_110 : decode cX8_go 110 = .ok (.aload_n 1, 1) := by decide +kernel
theorem dX8_go_111 : decode cX8_go 111 = .ok (.iload 8, 2) := by decide +kernel
theorem dX8_go_113 : decode cX8_go 113 = .ok (.invokevirtual 31, 3) := by decide +kernel
theorem dX8_go_116 : decode cX8_go 116 = .ok (.ifCond .eq 10, 3) := by decide +kernel
theorem dX8_go_119 : decode cX8_go 119 = .ok (.aload_n 0, 1) := by decide +kernel
theorem dX8_go_120 : decode cX8_go 120 = .ok (.iload 8, 2) := by decide +kernel
theorem dX8_go_122 : decode cX8_go 122 = .ok (.putfield 15, 3) := by decide +kernel
theorem dX8_go_125 : decode cX8_go 125 = .ok (.return_, 1) := by decide +kernel
theorem dX8_go_126 : decode cX8_go 126 = .ok (.aload_n 0, 1) := by decide +kernel
theorem dX8_go_127 : decode cX8_go 127 = .ok (.dup, 1) := by decide +kernel
theorem dX8_go_128 : decode cX8_go 128 = .ok (.getfield 28, 3) := by decide +kernel
theorem dX8_go_131 : decode cX8_go 131 = .ok (.iconst 1, 1) := by decide +kernel
theorem dX8_go_132 : decode cX8_go 132 = .ok (.iadd, 1) := by decide +kernel
theorem dX8_go_133 : decode cX8_go 133 = .ok (.putfield 28, 3) := by decide +kernel
theorem dX8_go_136 : decode cX8_go 136 = .ok (.goto (-88), 3) := by decide +kernel
theorem dX8_go_139 : decode cX8_go 139 = .ok (.return_, 1) := by decide +kernel
theorem dX8_wentOverLoopTo_0 : decode cX8_wentOverLoopTo 0 = .ok (.aload_n 0, 1) := by decide +kernel
theorem dX8_wentOverLoopTo_1 : decode cX8_wentOverLoopTo 1 = .ok (.getfield 19, 3) := by decide +kernel
theorem dX8_wentOverLoopTo_4 : decode cX8_wentOverLoopTo 4 = .ok (.ifCond .le 15, 3) := by decide +kernel
theorem dX8_wentOverLoopTo_7 : decode cX8_wentOverLoopTo 7 = .ok (.aload_n 0, 1) := by decide +kernel
theorem dX8_wentOverLoopTo_8 : decode cX8_wentOverLoopTo 8 = .ok (.getfield 15, 3) := by decide +kernel
theorem dX8_wentOverLoopTo_11 : decode cX8_wentOverLoopTo 11 = .ok (.iload_n 1, 1) := by decide +kernel
theorem dX8_wentOverLoopTo_12 : decode cX8_wentOverLoopTo 12 = .ok (.if_icmp .ne 7, 3) := by decide +kernel
theorem dX8_wentOverLoopTo_15 : decode cX8_wentOverLoopTo 15 = .ok (.iconst 1, 1) := by decide +kernel
theorem dX8_wentOverLoopTo_16 : decode cX8_wentOverLoopTo 16 = .ok (.goto 4, 3) := by decide +kernel
theorem dX8_wentOverLoopTo_19 : decode cX8_wentOverLoopTo 19 = .ok (.iconst 0, 1) := by decide +kernel
theorem dX8_wentOverLoopTo_20 : decode cX8_wentOverLoopTo 20 = .ok (.ireturn, 1) := by decide +kernel
theorem dX9_init_0 : decode cX9_init 0 = .ok (.aload_n 0, 1) := by decide +kernel
theorem dX9_init_1 : decode cX9_init 1 = .ok (.invokespecial 3, 3) := by decide +kernel
theorem dX9_init_4 : decode cX9_init 4 = .ok (.aload_n 0, 1) := by decide +kernel
theorem dX9_init_5 : decode cX9_init 5 = .ok (.aload_n 1, 1) := by decide +kernel
theorem dX9_init_6 : decode cX9_init 6 = .ok (.putfield 9, 3) := by decide +kernel
theorem dX9_init_9 : decode cX9_init 9 = .ok (.aload_n 0, 1) := by decide +kernel
theorem dX9_init_10 : decode cX9_init 10 = .ok (.new 15, 3) := by decide +kernel
theorem dX9_init_13 : decode cX9_init 13 = .ok (.dup, 1) := by decide +kernel
theorem dX9_init_14 : decode cX9_init 14 = .ok (.aload_n 1, 1) := by decide +kernel
theorem dX9_init_15 : decode cX9_init 15 = .ok (.invokespecial 17, 3) := by decide +kernel
theorem dX9_init_18 : decode cX9_init 18 = .ok (.putfield 20, 3) := by decide +kernel
theorem dX9_init_21 : decode cX9_init 21 = .ok (.return_, 1) := by decide +kernel
theorem dX9_find_0 : decode cX9_find 0 = .ok (.aload_n 0, 1) := by decide +kernel
theorem dX9_find_1 : decode cX9_find 1 = .ok (.iconst 0, 1) := by decide +kernel
theorem dX9_find_2 : decode cX9_find 2 = .ok (.putfield 24, 3) := by decide +kernel
theorem dX9_find_5 : decode cX9_find 5 = .ok (.iconst 0, 1) := by decide +kernel
theorem dX9_find_6 : decode cX9_find 6 = .ok (.istore 4, 2) := by decide +kernel
theorem dX9_find_8 : decode cX9_find 8 = .ok (.iload 4, 2) := by decide +kernel
theorem dX9_find_10 : decode cX9_find 10 = .ok (.iconst 2, 1) := by decide +kernel
theorem dX9_find_11 : decode cX9_find 11 = .ok (.if_icmp .ge 45, 3) := by decide +kernel
theorem dX9_find_14 : decode cX9_find 14 = .ok (.aload_n 0, 1) := by decide +kernel
theorem dX9_find_15 : decode cX9_find 15 = .ok (.getfield 9, 3) := by decide +kernel
theorem dX9_find_18 : decode cX9_find 18 = .ok (.iload_n 2, 1) := by decide +kernel
theorem dX9_find_19 : decode cX9_find 19 = .ok (.iload 4, 2) := by decide +kernel
theorem dX9_find_21 : decode cX9_find 21 = .ok (.invokevirtual 30, 3) := by decide +kernel
theorem dX9_find_24 : decode cX9_find 24 = .ok (.istore 5, 2) := by decide +kernel
theorem dX9_find_26 : decode cX9_find 26 = .ok (.iload 5, 2) := by decide +kernel
theorem dX9_find_28 : decode cX9_find 28 = .ok (.iconst (-1), 1) := by decide +kernel
theorem dX9_find_29 : decode cX9_find 29 = .ok (.if_icmp .eq 21, 3) := by decide +kernel
theorem dX9_find_32 : decode cX9_find 32 = .ok (.aload_n 0, 1) := by decide +kernel
theorem dX9_find_33 : decode cX9_find 33 = .ok (.aload_n 1, 1) := by decide +kernel
theorem dX9_find_34 : decode cX9_find 34 = .ok (.iload 5, 2) := by decide +kernel
theorem dX9_find_36 : decode cX9_find 36 = .ok (.iconst 1, 1) := by decide +kernel
theorem dX9_find_37 : decode cX9_find 37 = .ok (.iload_n 3, 1) := by decide +kernel
theorem dX9_find_38 : decode cX9_find 38 = .ok (.invokevirtual 34, 3) := by decide +kernel
theorem dX9_find_41 : decode cX9_find 41 = .ok (.aload_n 0, 1) := by decide +kernel
theorem dX9_find_42 : decode cX9_find 42 = .ok (.aload_n 1, 1) := by decide +kernel
theorem dX9_find_43 : decode cX9_find 43 = .ok (.iload 5, 2) := by decide +kernel
theorem dX9_find_45 : decode cX9_find 45 = .ok (.iconst (-1), 1) := by decide +kernel
theorem dX9_find_46 : decode cX9_find 46 = .ok (.iload_n 3, 1) := by decide +kernel
theorem dX9_find_47 : decode cX9_find 47 = .ok (.invokevirtual 34, 3) := by decide +kernel
theorem dX9_find_50 : decode cX9_find 50 = .ok (.iinc 4 1, 3) := by decide +kernel
theorem dX9_find_53 : decode cX9_find 53 = .ok (.goto (-45), 3) := by decide +kernel
theorem dX9_find_56 : decode cX9_find 56 = .ok (.aload_n 0, 1) := by decide +kernel
theorem dX9_find_57 : decode cX9_find 57 = .ok (.getfield 24, 3) := by decide +kernel
theorem dX9_find_60 : decode cX9_find 60 = .ok (.ifCond .le 7, 3) := by decide +kernel
theorem dX9_find_63 : decode cX9_find 63 = .ok (.iconst 1, 1) := by decide +kernel
theorem dX9_find_64 : decode cX9_find 64 = .ok (.goto 4, 3) := by decide +kernel
theorem dX9_find_67 : decode cX9_find 67 = .ok (.iconst 0, 1) := by decide +kernel
theorem dX9_find_68 : decode cX9_find 68 = .ok (.ireturn, 1) := by decide +kernel
theorem dX9_tryFrom_0 : decode cX9_tryFrom 0 = .ok (.aload_n 0, 1) := by decide +kernel
theorem dX9_tryFrom_1 : decode cX9_tryFrom 1 = .ok (.getfield 20, 3) := by decide +kernel
theorem dX9_tryFrom_4 : decode cX9_tryFrom 4 = .ok (.aload_n 1, 1) := by decide +kernel
theorem dX9_tryFrom_5 : decode cX9_tryFrom 5 = .ok (.iload_n 2, 1) := by decide +kernel
theorem dX9_tryFrom_6 : decode cX9_tryFrom 6 = .ok (.iload_n 3, 1) := by decide +kernel
theorem dX9_tryFrom_7 : decode cX9_tryFrom 7 = .ok (.invokevirtual 38, 3) := by decide +kernel
theorem dX9_tryFrom_10 : decode cX9_tryFrom 10 = .ok (.aload_n 0, 1) := by decide +kernel
theorem dX9_tryFrom_11 : decode cX9_tryFrom 11 = .ok (.getfield 20, 3) := by decide +kernel
theorem dX9_tryFrom_14 : decode cX9_tryFrom 14 = .ok (.iload 4, 2) := by decide +kernel
theorem dX9_tryFrom_16 : decode cX9_tryFrom 16 = .ok (.invokevirtual 42, 3) := by decide +kernel
theorem dX9_tryFrom_19 : decode cX9_tryFrom 19 = .ok (.ifCond .eq 49, 3) := by decide +kernel
theorem dX9_tryFrom_22 : decode cX9_tryFrom 22 = .ok (.aload_n 0, 1) := by decide +kernel
theorem dX9_tryFrom_23 : decode cX9_tryFrom 23 = .ok (.getfield 24, 3) := by decide +kernel
theorem dX9_tryFrom_26 : decode cX9_tryFrom 26 = .ok (.ifCond .eq 10, 3) := by decide +kernel
theorem dX9_tryFrom_29 : decode cX9_tryFrom 29 = .ok (.aload_n 0, 1) := by decide +kernel
theorem dX9_tryFrom_30 : decode cX9_tryFrom 30 = .ok (.invokevirtual 46, 3) := by decide +kernel
theorem dX9_tryFrom_33 : decode cX9_tryFrom 33 = .ok (.ifCond .eq 35, 3) := by decide +kernel
theorem dX9_tryFrom_36 : decode cX9_tryFrom 36 = .ok (.aload_n 0, 1) := by decide +kernel
theorem dX9_tryFrom_37 : decode cX9_tryFrom 37 = .ok (.aload_n 0, 1) := by decide +kernel
theorem dX9_tryFrom_38 : decode cX9_tryFrom 38 = .ok (.getfield 20, 3) := by decide +kernel
theorem dX9_tryFrom_41 : decode cX9_tryFrom 41 = .ok (.getfield 50, 3) := by decide +kernel
theorem dX9_tryFrom_44 : decode cX9_tryFrom 44 = .ok (.putfield 24, 3) := by decide +kernel
theorem dX9_tryFrom_47 : decode cX9_tryFrom 47 = .ok (.aload_n 0, 1) := by decide +kernel
theorem dX9_tryFrom_48 : decode cX9_tryFrom 48 = .ok (.aload_n 0, 1) := by decide +kernel
theorem dX9_tryFrom_49 : decode cX9_tryFrom 49 = .ok (.getfield 20, 3) := by decide +kernel
theorem dX9_tryFrom_52 : decode cX9_tryFrom 52 = .ok (.getfield 51, 3) := by decide +kernel
theorem dX9_tryFrom_55 : decode cX9_tryFrom 55 = .ok (.putfield 54, 3) := by decide +kernel
theorem dX9_tryFrom_58 : decode cX9_tryFrom 58 = .ok (.aload_n 0, 1) := by decide +kernel
theorem dX9_tryFrom_59 : decode cX9_tryFrom 59 = .ok (.iload_n 2, 1) := by decide +kernel
theorem dX9_tryFrom_60 : decode cX9_tryFrom 60 = .ok (.putfield 55, 3) := by decide +kernel
theorem dX9_tryFrom_63 : decode cX9_tryFrom 63 = .ok (.aload_n 0, 1) := by decide +kernel
theorem dX9_tryFrom_64 : decode cX9_tryFrom 64 = .ok (.iload_n 3, 1) := by decide +kernel
theorem dX9_tryFrom_65 : decode cX9_tryFrom 65 = .ok (.putfield 58, 3) := by decide +kernel
theorem dX9_tryFrom_68 : decode cX9_tryFrom 68 = .ok (.return_, 1) := by decide +kernel
theorem dX9_walkIsShorter_0 : decode cX9_walkIsShorter 0 = .ok (.aload_n 0, 1) := by decide +kernel
theorem dX9_walkIsShorter_1 : decode cX9_walkIsShorter 1 = .ok (.getfield 20, 3) := by decide +kernel
theorem dX9_walkIsShorter_4 : decode cX9_walkIsShorter 4 = .ok (.getfield 50, 3) := by decide +kernel
theorem dX9_walkIsShorter_7 : decode cX9_walkIsShorter 7 = .ok (.aload_n 0, 1) := by decide +kernel
theorem dX9_walkIsShorter_8 : decode cX9_walkIsShorter 8 = .ok (.getfield 24, 3) := by decide +kernel
theorem dX9_walkIsShorter_11 : decode cX9_walkIsShorter 11 = .ok (.if_icmp .lt 31, 3) := by decide +kernel
theorem dX9_walkIsShorter_14 : decode cX9_walkIsShorter 14 = .ok (.aload_n 0, 1) := by decide +kernel
theorem dX9_walkIsShorter_15 : decode cX9_walkIsShorter 15 = .ok (.getfield 20, 3) := by decide +kernel
theorem dX9_walkIsShorter_18 : decode cX9_walkIsShorter 18 = .ok (.getfield 50, 3) := by decide +kernel
theorem dX9_walkIsShorter_21 : decode cX9_walkIsShorter 21 = .ok (.aload_n 0, 1) := by decide +kernel
theorem dX9_walkIsShorter_22 : decode cX9_walkIsShorter 22 = .ok (.getfield 24, 3) := by decide +kernel
theorem dX9_walkIsShorter_25 : decode cX9_walkIsShorter 25 = .ok (.if_icmp .ne 21, 3) := by decide +kernel
theorem dX9_walkIsShorter_28 : decode cX9_walkIsShorter 28 = .ok (.aload_n 0, 1) := by decide +kernel
theorem dX9_walkIsShorter_29 : decode cX9_walkIsShorter 29 = .ok (.getfield 20, 3) := by decide +kernel
theorem dX9_walkIsShorter_32 : decode cX9_walkIsShorter 32 = .ok (.getfield 51, 3) := by decide +kernel
theorem dX9_walkIsShorter_35 : decode cX9_walkIsShorter 35 = .ok (.aload_n 0, 1) := by decide +kernel
theorem dX9_walkIsShorter_36 : decode cX9_walkIsShorter 36 = .ok (.getfield 54, 3) := by decide +kernel
theorem dX9_walkIsShorter_39 : decode cX9_walkIsShorter 39 = .ok (.if_icmp .ge 7, 3) := by decide +kernel
theorem dX9_walkIsShorter_42 : decode cX9_walkIsShorter 42 = .ok (.iconst 1, 1) := by decide +kernel
theorem dX9_walkIsShorter_43 : decode cX9_walkIsShorter 43 = .ok (.goto 4, 3) := by decide +kernel
theorem dX9_walkIsShorter_46 : decode cX9_walkIsShorter 46 = .ok (.iconst 0, 1) := by decide +kernel
theorem dX9_walkIsShorter_47 : decode cX9_walkIsShorter 47 = .ok (.ireturn, 1) := by decide +kernel
theorem dX10_init_0 : decode cX10_init 0 = .ok (.aload_n 0, 1) := by decide +kernel
theorem dX10_init_1 : decode cX10_init 1 = .ok (.invokespecial 1, 3) := by decide +kernel
theorem dX10_init_4 : decode cX10_init 4 = .ok (.aload_n 0, 1) := by decide +kernel
theorem dX10_init_5 : decode cX10_init 5 = .ok (.new 7, 3) := by decide +kernel
theorem dX10_init_8 : decode cX10_init 8 = .ok (.dup, 1) := by decide +kernel
theorem dX10_init_9 : decode cX10_init 9 = .ok (.invokespecial 9, 3) := by decide +kernel
theorem dX10_init_12 : decode cX10_init 12 = .ok (.putfield 10, 3) := by decide +kernel
theorem dX10_init_15 : decode cX10_init 15 = .ok (.aload_n 0, 1) := by decide +kernel
theorem dX10_init_16 : decode cX10_init 16 = .ok (.new 16, 3) := by decide +kernel
theorem dX10_init_19 : decode cX10_init 19 = .ok (.dup, 1) := by decide +kernel
theorem dX10_init_20 : decode cX10_init 20 = .ok (.aload_n 0, 1) := by decide +kernel
theorem dX10_init_21 : decode cX10_init 21 = .ok (.getfield 10, 3) := by decide +kernel
theorem dX10_init_24 : decode cX10_init 24 = .ok (.invokespecial 18, 3) := by decide +kernel
theorem dX10_init_27 : decode cX10_init 27 = .ok (.putfield 21, 3) := by decide +kernel
theorem dX10_init_30 : decode cX10_init 30 = .ok (.aload_n 0, 1) := by decide +kernel
theorem dX10_init_31 : decode cX10_init 31 = .ok (.new 25, 3) := by decide +kernel
theorem dX10_init_34 : decode cX10_init 34 = .ok (.dup, 1) := by decide +kernel
theorem dX10_init_35 : decode cX10_init 35 = .ok (.aload_n 0, 1) := by decide +kernel
theorem dX10_init_36 : decode cX10_init 36 = .ok (.getfield 10, 3) := by decide +kernel
theorem dX10_init_39 : decode cX10_init 39 = .ok (.aload_n 0, 1) := by decide +kernel
theorem dX10_init_40 : decode cX10_init 40 = .ok (.getfield 21, 3) := by decide +kernel
theorem dX10_init_43 : decode cX10_init 43 = .ok (.invokespecial 27, 3) := by decide +kernel
theorem dX10_init_46 : decode cX10_init 46 = .ok (.putfield 30, 3) := by decide +kernel
theorem dX10_init_49 : decode cX10_init 49 = .ok (.aload_n 0, 1) := by decide +kernel
theorem dX10_init_50 : decode cX10_init 50 = .ok (.new 34, 3) := by decide +kernel
theorem dX10_init_53 : decode cX10_init 53 = .ok (.dup, 1) := by decide +kernel
theorem dX10_init_54 : decode cX10_init 54 = .ok (.invokespecial 36, 3) := by decide +kernel
theorem dX10_init_57 : decode cX10_init 57 = .ok (.putfield 37, 3) := by decide +kernel
theorem dX10_init_60 : decode cX10_init 60 = .ok (.aload_n 0, 1) := by decide +kernel
theorem dX10_init_61 : decode cX10_init 61 = .ok (.new 41, 3) := by decide +kernel
theorem dX10_init_64 : decode cX10_init 64 = .ok (.dup, 1) := by decide +kernel
theorem dX10_init_65 : decode cX10_init 65 = .ok (.aload_n 0, 1) := by decide +kernel
theorem dX10_init_66 : decode cX10_init 66 = .ok (.getfield 30, 3) := by decide +kernel
theorem dX10_init_69 : decode cX10_init 69 = .ok (.invokespecial 43, 3) := by decide +kernel
theorem dX10_init_72 : decode cX10_init 72 = .ok (.putfield 46, 3) := by decide +kernel
theorem dX10_init_75 : decode cX10_init 75 = .ok (.aload_n 0, 1) := by decide +kernel
theorem dX10_init_76 : decode cX10_init 76 = .ok (.new 50, 3) := by decide +kernel
theorem dX10_init_79 : decode cX10_init 79 = .ok (.dup, 1) := by decide +kernel
theorem dX10_init_80 : decode cX10_init 80 = .ok (.invokespecial 52, 3) := by decide +kernel
theorem dX10_init_83 : decode cX10_init 83 = .ok (.putfield 53, 3) := by decide +kernel
theorem dX10_init_86 : decode cX10_init 86 = .ok (.aload_n 0, 1) := by decide +kernel
theorem dX10_init_87 : decode cX10_init 87 = .ok (.new 50, 3) := by decide +kernel
theorem dX10_init_90 : decode cX10_init 90 = .ok (.dup, 1) := by decide +kernel
theorem dX10_init_91 : decode cX10_init 91 = .ok (.invokespecial 52, 3) := by decide +kernel
theorem dX10_init_94 : decode cX10_init 94 = .ok (.putfield 57, 3) := by decide +kernel
theorem dX10_init_97 : decode cX10_init 97 = .ok (.aload_n 0, 1) := by decide +kernel
theorem dX10_init_98 : decode cX10_init 98 = .ok (.new 50, 3) := by decide +kernel
theorem dX10_init_101 : decode cX10_init 101 = .ok (.dup, 1) := by decide +kernel
theorem dX10_init_102 : decode cX10_init 102 = .ok (.invokespecial 52, 3) := by decide +kernel
theorem dX10_init_105 : decode cX10_init 105 = .ok (.putfield 60, 3) := by decide +kernel
theorem dX10_init_108 : decode cX10_init 108 = .ok (.aload_n 0, 1) := by decide +kernel
theorem dX10_init_109 : decode cX10_init 109 = .ok (.new 63, 3) := by decide +kernel
theorem dX10_init_112 : decode cX10_init 112 = .ok (.dup, 1) := by decide +kernel
theorem dX10_init_113 : decode cX10_init 113 = .ok (.invokespecial 65, 3) := by decide +kernel
theorem dX10_init_116 : decode cX10_init 116 = .ok (.putfield 66, 3) := by decide +kernel
theorem dX10_init_119 : decode cX10_init 119 = .ok (.aload_n 0, 1) := by decide +kernel
theorem dX10_init_120 : decode cX10_init 120 = .ok (.new 70, 3) := by decide +kernel
theorem dX10_init_123 : decode cX10_init 123 = .ok (.dup, 1) := by decide +kernel
theorem dX10_init_124 : decode cX10_init 124 = .ok (.invokespecial 72, 3) := by decide +kernel
theorem dX10_init_127 : decode cX10_init 127 = .ok (.putfield 73, 3) := by decide +kernel
theorem dX10_init_130 : decode cX10_init 130 = .ok (.return_, 1) := by decide +kernel
theorem dX10_move_0 : decode cX10_move 0 = .ok (.iload_n 1, 1) := by decide +kernel
theorem dX10_move_1 : decode cX10_move 1 = .ok (.invokestatic 77, 3) := by decide +kernel
theorem dX10_move_4 : decode cX10_move 4 = .ok (.ifCond .eq 10, 3) := by decide +kernel
theorem dX10_move_7 : decode cX10_move 7 = .ok (.iload_n 2, 1) := by decide +kernel
theorem dX10_move_8 : decode cX10_move 8 = .ok (.invokestatic 77, 3) := by decide +kernel
theorem dX10_move_11 : decode cX10_move 11 = .ok (.ifCond .ne 6, 3) := by decide +kernel
theorem dX10_move_14 : decode cX10_move 14 = .ok (.bipush (-101), 2) := by decide +kernel
theorem dX10_move_16 : decode cX10_move 16 = .ok (.ireturn, 1) := by decide +kernel
theorem dX10_move_17 : decode cX10_move 17 = .ok (.aload_n 0, 1) := by decide +kernel
theorem dX10_move_18 : decode cX10_move 18 = .ok (.getfield 30, 3) := by decide +kernel
theorem dX10_move_21 : decode cX10_move 21 = .ok (.aload_n 0, 1) := by decide +kernel
theorem dX10_move_22 : decode cX10_move 22 = .ok (.getfield 53, 3) := by decide +kernel
theorem dX10_move_25 : decode cX10_move 25 = .ok (.getfield 81, 3) := by decide +kernel
theorem dX10_move_28 : decode cX10_move 28 = .ok (.iload_n 1, 1) := by decide +kernel
theorem dX10_move_29 : decode cX10_move 29 = .ok (.iload_n 2, 1) := by decide +kernel
theorem dX10_move_30 : decode cX10_move 30 = .ok (.iconst 0, 1) := by decide +kernel
theorem dX10_move_31 : decode cX10_move 31 = .ok (.invokevirtual 85, 3) := by decide +kernel
theorem dX10_move_34 : decode cX10_move 34 = .ok (.istore_n 3, 1) := by decide +kernel
theorem dX10_move_35 : decode cX10_move 35 = .ok (.iload_n 3, 1) := by decide +kernel
theorem dX10_move_36 : decode cX10_move 36 = .ok (.ifCond .eq 8, 3) := by decide +kernel
theorem dX10_move_39 : decode cX10_move 39 = .ok (.bipush (-110), 2) := by decide +kernel
theorem dX10_move_41 : decode cX10_move 41 = .ok (.iload_n 3, 1) := by decide +kernel
theorem dX10_move_42 : decode cX10_move 42 = .ok (.isub, 1) := by decide +kernel
theorem dX10_move_43 : decode cX10_move 43 = .ok (.ireturn, 1) := by decide +kernel
theorem dX10_move_44 : decode cX10_move 44 = .ok (.aload_n 0, 1) := by decide +kernel
theorem dX10_move_45 : decode cX10_move 45 = .ok (.getfield 66, 3) := by decide +kernel
theorem dX10_move_48 : decode cX10_move 48 = .ok (.aload_n 0, 1) := by decide +kernel
theorem dX10_move_49 : decode cX10_move 49 = .ok (.getfield 53, 3) := by decide +kernel
theorem dX10_move_52 : decode cX10_move 52 = .ok (.invokevirtual 89, 3) := by decide +kernel
theorem dX10_move_55 : decode cX10_move 55 = .ok (.aload_n 0, 1) := by decide +kernel
theorem dX10_move_56 : decode cX10_move 56 = .ok (.getfield 53, 3) := by decide +kernel
theorem dX10_move_59 : decode cX10_move 59 = .ok (.iload_n 1, 1) := by decide +kernel
theorem dX10_move_60 : decode cX10_move 60 = .ok (.iload_n 2, 1) := by decide +kernel
theorem dX10_move_61 : decode cX10_move 61 = .ok (.invokevirtual 93, 3) := by decide +kernel
theorem dX10_move_64 : decode cX10_move 64 = .ok (.aload_n 0, 1) := by decide +kernel
theorem dX10_move_65 : decode cX10_move 65 = .ok (.getfield 53, 3) := by decide +kernel
theorem dX10_move_68 : decode cX10_move 68 = .ok (.getfield 81, 3) := by decide +kernel
theorem dX10_move_71 : decode cX10_move 71 = .ok (.invokevirtual 97, 3) := by decide +kernel
theorem dX10_move_74 : decode cX10_move 74 = .ok (.ireturn, 1) := by decide +kernel
theorem dX10_capture_0 : decode cX10_capture 0 = .ok (.iload_n 1, 1) := by decide +kernel
theorem dX10_capture_1 : decode cX10_capture 1 = .ok (.invokestatic 77, 3) := by decide +kernel
theorem dX10_capture_4 : decode cX10_capture 4 = .ok (.ifCond .eq 10, 3) := by decide +kernel
theorem dX10_capture_7 : decode cX10_capture 7 = .ok (.iload_n 2, 1) := by decide +kernel
theorem dX10_capture_8 : decode cX10_capture 8 = .ok (.invokestatic 77, 3) := by decide +kernel
theorem dX10_capture_11 : decode cX10_capture 11 = .ok (.ifCond .ne 6, 3) := by decide +kernel
theorem dX10_capture_14 : decode cX10_capture 14 = .ok (.bipush (-101), 2) := by decide +kernel
theorem dX10_capture_16 : decode cX10_capture 16 = .ok (.ireturn, 1) := by decide +kernel
theorem dX10_capture_17 : decode cX10_capture 17 = .ok (.aload_n 0, 1) := by decide +kernel
theorem dX10_capture_18 : decode cX10_capture 18 = .ok (.getfield 30, 3) := by decide +kernel
theorem dX10_capture_21 : decode cX10_capture 21 = .ok (.aload_n 0, 1) := by decide +kernel
theorem dX10_capture_22 : decode cX10_capture 22 = .ok (.getfield 53, 3) := by decide +kernel
theorem dX10_capture_25 : decode cX10_capture 25 = .ok (.getfield 81, 3) := by decide +kernel
theorem dX10_capture_28 : decode cX10_capture 28 = .ok (.iload_n 1, 1) := by decide +kernel
theorem dX10_capture_29 : decode cX10_capture 29 = .ok (.iload_n 2, 1) := by decide +kernel
theorem dX10_capture_30 : decode cX10_capture 30 = .ok (.iconst 1, 1) := by decide +kernel
theorem dX10_capture_31 : decode cX10_capture 31 = .ok (.invokevirtual 85, 3) := by decide +kernel
theorem dX10_capture_34 : decode cX10_capture 34 = .ok (.istore_n 3, 1) := by decide +kernel
theorem dX10_capture_35 : decode cX10_capture 35 = .ok (.iload_n 3, 1) := by decide +kernel
theorem dX10_capture_36 : decode cX10_capture 36 = .ok (.ifCond .eq 8, 3) := by decide +kernel
theorem dX10_capture_39 : decode cX10_capture 39 = .ok (.bipush (-110), 2) := by decide +kernel
theorem dX10_capture_41 : decode cX10_capture 41 = .ok (.iload_n 3, 1) := by decide +kernel
theorem dX10_capture_42 : decode cX10_capture 42 = .ok (.isub, 1) := by decide +kernel
theorem dX10_capture_43 : decode cX10_capture 43 = .ok (.ireturn, 1) := by decide +kernel
theorem dX10_capture_44 : decode cX10_capture 44 = .ok (.aload_n 0, 1) := by decide +kernel
theorem dX10_capture_45 : decode cX10_capture 45 = .ok (.getfield 66, 3) := by decide +kernel
theorem dX10_capture_48 : decode cX10_capture 48 = .ok (.aload_n 0, 1) := by decide +kernel
theorem dX10_capture_49 : decode cX10_capture 49 = .ok (.getfield 53, 3) := by decide +kernel
theorem dX10_capture_52 : decode cX10_capture 52 = .ok (.invokevirtual 89, 3) := by decide +kernel
theorem dX10_capture_55 : decode cX10_capture 55 = .ok (.aload_n 0, 1) := by decide +kernel
theorem dX10_capture_56 : decode cX10_capture 56 = .ok (.getfield 53, 3) := by decide +kernel
theorem dX10_capture_59 : decode cX10_capture 59 = .ok (.iload_n 1, 1) := by decide +kernel
theorem dX10_capture_60 : decode cX10_capture 60 = .ok (.iload_n 2, 1) := by decide +kernel
theorem dX10_capture_61 : decode cX10_capture 61 = .ok (.invokevirtual 93, 3) := by decide +kernel
theorem dX10_capture_64 : decode cX10_capture 64 = .ok (.aload_n 0, 1) := by decide +kernel
theorem dX10_capture_65 : decode cX10_capture 65 = .ok (.getfield 53, 3) := by decide +kernel
theorem dX10_capture_68 : decode cX10_capture 68 = .ok (.getfield 81, 3) := by decide +kernel
theorem dX10_capture_71 : decode cX10_capture 71 = .ok (.aload_n 0, 1) := by decide +kernel
theorem dX10_capture_72 : decode cX10_capture 72 = .ok (.getfield 53, 3) := by decide +kernel
theorem dX10_capture_75 : decode cX10_capture 75 = .ok (.getfield 81, 3) := by decide +kernel
theorem dX10_capture_78 : decode cX10_capture 78 = .ok (.invokevirtual 103, 3) := by decide +kernel
theorem dX10_capture_81 : decode cX10_capture 81 = .ok (.invokevirtual 106, 3) := by decide +kernel
theorem dX10_capture_84 : decode cX10_capture 84 = .ok (.ireturn, 1) := by decide +kernel
theorem dX10_play_0 : decode cX10_play 0 = .ok (.iload_n 1, 1) := by decide +kernel
theorem dX10_play_1 : decode cX10_play 1 = .ok (.iconst 1, 1) := by decide +kernel
theorem dX10_play_2 : decode cX10_play 2 = .ok (.if_icmp .lt 8, 3) := by decide +kernel
theorem dX10_play_5 : decode cX10_play 5 = .ok (.iload_n 1, 1) := by decide +kernel
theorem dX10_play_6 : decode cX10_play 6 = .ok (.iconst 2, 1) := by decide +kernel
theorem dX10_play_7 : decode cX10_play 7 = .ok (.if_icmp .le 6, 3) := by decide +kernel
theorem dX10_play_10 : decode cX10_play 10 = .ok (.bipush (-102), 2) := by decide +kernel
theorem dX10_play_12 : decode cX10_play 12 = .ok (.ireturn, 1) := by decide +kernel
theorem dX10_play_13 : decode cX10_play 13 = .ok (.aload_n 0, 1) := by decide +kernel
theorem dX10_play_14 : decode cX10_play 14 = .ok (.getfield 46, 3) := by decide +kernel
theorem dX10_play_17 : decode cX10_play 17 = .ok (.aload_n 0, 1) := by decide +kernel
theorem dX10_play_18 : decode cX10_play 18 = .ok (.getfield 53, 3) := by decide +kernel
theorem dX10_play_21 : decode cX10_play 21 = .ok (.getfield 81, 3) := by decide +kernel
theorem dX10_play_24 : decode cX10_play 24 = .ok (.iload_n 1, 1) := by decide +kernel
theorem dX10_play_25 : decode cX10_play 25 = .ok (.invokevirtual 110, 3) := by decide +kernel
theorem dX10_play_28 : decode cX10_play 28 = .ok (.istore_n 2, 1) := by decide +kernel
theorem dX10_play_29 : decode cX10_play 29 = .ok (.iload_n 2, 1) := by decide +kernel
theorem dX10_play_30 : decode cX10_play 30 = .ok (.ifCond .ge 6, 3) := by decide +kernel
theorem dX10_play_33 : decode cX10_play 33 = .ok (.bipush (-104), 2) := by decide +kernel
theorem dX10_play_35 : decode cX10_play 35 = .ok (.ireturn, 1) := by decide +kernel
theorem dX10_play_36 : decode cX10_play 36 = .ok (.aload_n 0, 1) := by decide +kernel
theorem dX10_play_37 : decode cX10_play 37 = .ok (.getfield 66, 3) := by decide +kernel
theorem dX10_play_40 : decode cX10_play 40 = .ok (.aload_n 0, 1) := by decide +kernel
theorem dX10_play_41 : decode cX10_play 41 = .ok (.getfield 53, 3) := by decide +kernel
theorem dX10_play_44 : decode cX10_play 44 = .ok (.invokevirtual 89, 3) := by decide +kernel
theorem dX10_play_47 : decode cX10_play 47 = .ok (.aload_n 0, 1) := by decide +kernel
theorem dX10_play_48 : decode cX10_play 48 = .ok (.getfield 53, 3) := by decide +kernel
theorem dX10_play_51 : decode cX10_play 51 = .ok (.iload_n 2, 1) := by decide +kernel
theorem dX10_play_52 : decode cX10_play 52 = .ok (.bipush 100, 2) := by decide +kernel
theorem dX10_play_54 : decode cX10_play 54 = .ok (.idiv, 1) := by decide +kernel
theorem dX10_play_55 : decode cX10_play 55 = .ok (.iload_n 2, 1) := by decide +kernel
theorem dX10_play_56 : decode cX10_play 56 = .ok (.bipush 100, 2) := by decide +kernel
theorem dX10_play_58 : decode cX10_play 58 = .ok (.irem, 1) := by decide +kernel
theorem dX10_play_59 : decode cX10_play 59 = .ok (.invokevirtual 93, 3) := by decide +kernel
theorem dX10_play_62 : decode cX10_play 62 = .ok (.iload_n 2, 1) := by decide +kernel
theorem dX10_play_63 : decode cX10_play 63 = .ok (.ireturn, 1) := by decide +kernel
theorem dX10_setUp_0 : decode cX10_setUp 0 = .ok (.iload_n 1, 1) := by decide +kernel
theorem dX10_setUp_1 : decode cX10_setUp 1 = .ok (.invokestatic 77, 3) := by decide +kernel
theorem dX10_setUp_4 : decode cX10_setUp 4 = .ok (.ifCond .ne 6, 3) := by decide +kernel
theorem dX10_setUp_7 : decode cX10_setUp 7 = .ok (.bipush (-101), 2) := by decide +kernel
theorem dX10_setUp_9 : decode cX10_setUp 9 = .ok (.ireturn, 1) := by decide +kernel
theorem dX10_setUp_10 : decode cX10_setUp 10 = .ok (.iload_n 2, 1) := by decide +kernel
theorem dX10_setUp_11 : decode cX10_setUp 11 = .ok (.ifCond .lt 8, 3) := by decide +kernel
theorem dX10_setUp_14 : decode cX10_setUp 14 = .ok (.iload_n 2, 1) := by decide +kernel
theorem dX10_setUp_15 : decode cX10_setUp 15 = .ok (.iconst 2, 1) := by decide +kernel
theorem dX10_setUp_16 : decode cX10_setUp 16 = .ok (.if_icmp .le 6, 3) := by decide +kernel
theorem dX10_setUp_19 : decode cX10_setUp 19 = .ok (.bipush (-102), 2) := by decide +kernel
theorem dX10_setUp_21 : decode cX10_setUp 21 = .ok (.ireturn, 1) := by decide +kernel
theorem dX10_setUp_22 : decode cX10_setUp 22 = .ok (.aload_n 0, 1) := by decide +kernel
theorem dX10_setUp_23 : decode cX10_setUp 23 = .ok (.getfield 53, 3) := by decide +kernel
theorem dX10_setUp_26 : decode cX10_setUp 26 = .ok (.getfield 81, 3) := by decide +kernel
theorem dX10_setUp_29 : decode cX10_setUp 29 = .ok (.iload_n 1, 1) := by decide +kernel
theorem dX10_setUp_30 : decode cX10_setUp 30 = .ok (.invokevirtual 114, 3) := by decide +kernel
theorem dX10_setUp_33 : decode cX10_setUp 33 = .ok (.istore_n 3, 1) := by decide +kernel
theorem dX10_setUp_34 : decode cX10_setUp 34 = .ok (.iload_n 3, 1) := by decide +kernel
theorem dX10_setUp_35 : decode cX10_setUp 35 = .ok (.iload_n 2, 1) := by decide +kernel
theorem dX10_setUp_36 : decode cX10_setUp 36 = .ok (.if_icmp .ne 6, 3) := by decide +kernel
theorem dX10_setUp_39 : decode cX10_setUp 39 = .ok (.bipush (-105), 2) := by decide +kernel
theorem dX10_setUp_41 : decode cX10_setUp 41 = .ok (.ireturn, 1) := by decide +kernel
theorem dX10_setUp_42 : decode cX10_setUp 42 = .ok (.aload_n 0, 1) := by decide +kernel
theorem dX10_setUp_43 : decode cX10_setUp 43 = .ok (.getfield 66, 3) := by decide +kernel
theorem dX10_setUp_46 : decode cX10_setUp 46 = .ok (.aload_n 0, 1) := by decide +kernel
theorem dX10_setUp_47 : decode cX10_setUp 47 = .ok (.getfield 53, 3) := by decide +kernel
theorem dX10_setUp_50 : decode cX10_setUp 50 = .ok (.invokevirtual 89, 3) := by decide +kernel
theorem dX10_setUp_53 : decode cX10_setUp 53 = .ok (.aload_n 0, 1) := by decide +kernel
theorem dX10_setUp_54 : decode cX10_setUp 54 = .ok (.getfield 53, 3) := by decide +kernel
theorem dX10_setUp_57 : decode cX10_setUp 57 = .ok (.iload_n 1, 1) := by decide +kernel
theorem dX10_setUp_58 : decode cX10_setUp 58 = .ok (.iload_n 2, 1) := by decide +kernel
theorem dX10_setUp_59 : decode cX10_setUp 59 = .ok (.invokevirtual 117, 3) := by decide +kernel
theorem dX10_setUp_62 : decode cX10_setUp 62 = .ok (.iload_n 3, 1) := by decide +kernel
theorem dX10_setUp_63 : decode cX10_setUp 63 = .ok (.ireturn, 1) := by decide +kernel
theorem dX10_turn_0 : decode cX10_turn 0 = .ok (.aload_n 0, 1) := by decide +kernel
theorem dX10_turn_1 : decode cX10_turn 1 = .ok (.getfield 66, 3) := by decide +kernel
theorem dX10_turn_4 : decode cX10_turn 4 = .ok (.aload_n 0, 1) := by decide +kernel
theorem dX10_turn_5 : decode cX10_turn 5 = .ok (.getfield 53, 3) := by decide +kernel
theorem dX10_turn_8 : decode cX10_turn 8 = .ok (.invokevirtual 89, 3) := by decide +kernel
theorem dX10_turn_11 : decode cX10_turn 11 = .ok (.aload_n 0, 1) := by decide +kernel
theorem dX10_turn_12 : decode cX10_turn 12 = .ok (.getfield 53, 3) := by decide +kernel
theorem dX10_turn_15 : decode cX10_turn 15 = .ok (.invokevirtual 120, 3) := by decide +kernel
theorem dX10_turn_18 : decode cX10_turn 18 = .ok (.aload_n 0, 1) := by decide +kernel
theorem dX10_turn_19 : decode cX10_turn 19 = .ok (.getfield 53, 3) := by decide +kernel
theorem dX10_turn_22 : decode cX10_turn 22 = .ok (.getfield 81, 3) := by decide +kernel
theorem dX10_turn_25 : decode cX10_turn 25 = .ok (.invokevirtual 103, 3) := by decide +kernel
theorem dX10_turn_28 : decode cX10_turn 28 = .ok (.ireturn, 1) := by decide +kernel
theorem dX10_begin_0 : decode cX10_begin 0 = .ok (.aload_n 0, 1) := by decide +kernel
theorem dX10_begin_1 : decode cX10_begin 1 = .ok (.getfield 53, 3) := by decide +kernel
theorem dX10_begin_4 : decode cX10_begin 4 = .ok (.getfield 81, 3) := by decide +kernel
theorem dX10_begin_7 : decode cX10_begin 7 = .ok (.invokevirtual 123, 3) := by decide +kernel
theorem dX10_begin_10 : decode cX10_begin 10 = .ok (.istore_n 1, 1) := by decide +kernel
theorem dX10_begin_11 : decode cX10_begin 11 = .ok (.aload_n 0, 1) := by decide +kernel
theorem dX10_begin_12 : decode cX10_begin 12 = .ok (.getfield 66, 3) := by decide +kernel
theorem dX10_begin_15 : decode cX10_begin 15 = .ok (.aload_n 0, 1) := by decide +kernel
theorem dX10_begin_16 : decode cX10_begin 16 = .ok (.getfield 53, 3) := by decide +kernel
theorem dX10_begin_19 : decode cX10_begin 19 = .ok (.invokevirtual 89, 3) := by decide +kernel
theorem dX10_begin_22 : decode cX10_begin 22 = .ok (.aload_n 0, 1) := by decide +kernel
theorem dX10_begin_23 : decode cX10_begin 23 = .ok (.getfield 53, 3) := by decide +kernel
theorem dX10_begin_26 : decode cX10_begin 26 = .ok (.invokevirtual 126, 3) := by decide +kernel
theorem dX10_begin_29 : decode cX10_begin 29 = .ok (.iload_n 1, 1) := by decide +kernel
theorem dX10_begin_30 : decode cX10_begin 30 = .ok (.ireturn, 1) := by decide +kernel
theorem dX10_setLimit_0 : decode cX10_setLimit 0 = .ok (.iload_n 1, 1) := by decide +kernel
theorem dX10_setLimit_1 : decode cX10_setLimit 1 = .ok (.iconst 4, 1) := by decide +kernel
theorem dX10_setLimit_2 : decode cX10_setLimit 2 = .ok (.if_icmp .lt 9, 3) := by decide +kernel
theorem dX10_setLimit_5 : decode cX10_setLimit 5 = .ok (.iload_n 1, 1) := by decide +kernel
theorem dX10_setLimit_6 : decode cX10_setLimit 6 = .ok (.bipush 60, 2) := by decide +kernel
theorem dX10_setLimit_8 : decode cX10_setLimit 8 = .ok (.if_icmp .le 6, 3) := by decide +kernel
theorem dX10_setLimit_11 : decode cX10_setLimit 11 = .ok (.bipush (-102), 2) := by decide +kernel
theorem dX10_setLimit_13 : decode cX10_setLimit 13 = .ok (.ireturn, 1) := by decide +kernel
theorem dX10_setLimit_14 : decode cX10_setLimit 14 = .ok (.aload_n 0, 1) := by decide +kernel
theorem dX10_setLimit_15 : decode cX10_setLimit 15 = .ok (.getfield 53, 3) := by decide +kernel
theorem dX10_setLimit_18 : decode cX10_setLimit 18 = .ok (.getfield 81, 3) := by decide +kernel
theorem dX10_setLimit_21 : decode cX10_setLimit 21 = .ok (.invokevirtual 129, 3) := by decide +kernel
theorem dX10_setLimit_24 : decode cX10_setLimit 24 = .ok (.istore_n 2, 1) := by decide +kernel
theorem dX10_setLimit_25 : decode cX10_setLimit 25 = .ok (.iload_n 2, 1) := by decide +kernel
theorem dX10_setLimit_26 : decode cX10_setLimit 26 = .ok (.iload_n 1, 1) := by decide +kernel
theorem dX10_setLimit_27 : decode cX10_setLimit 27 = .ok (.if_icmp .ne 6, 3) := by decide +kernel
theorem dX10_setLimit_30 : decode cX10_setLimit 30 = .ok (.bipush (-105), 2) := by decide +kernel
theorem dX10_setLimit_32 : decode cX10_setLimit 32 = .ok (.ireturn, 1) := by decide +kernel
theorem dX10_setLimit_33 : decode cX10_setLimit 33 = .ok (.aload_n 0, 1) := by decide +kernel
theorem dX10_setLimit_34 : decode cX10_setLimit 34 = .ok (.getfield 66, 3) := by decide +kernel
theorem dX10_setLimit_37 : decode cX10_setLimit 37 = .ok (.aload_n 0, 1) := by decide +kernel
theorem dX10_setLimit_38 : decode cX10_setLimit 38 = .ok (.getfield 53, 3) := by decide +kernel
theorem dX10_setLimit_41 : decode cX10_setLimit 41 = .ok (.invokevirtual 89, 3) := by decide +kernel
theorem dX10_setLimit_44 : decode cX10_setLimit 44 = .ok (.aload_n 0, 1) := by decide +kernel
theorem dX10_setLimit_45 : decode cX10_setLimit 45 = .ok (.getfield 53, 3) := by decide +kernel
theorem dX10_setLimit_48 : decode cX10_setLimit 48 = .ok (.getfield 81, 3) := by decide +kernel
theorem dX10_setLimit_51 : decode cX10_setLimit 51 = .ok (.iload_n 1, 1) := by decide +kernel
theorem dX10_setLimit_52 : decode cX10_setLimit 52 = .ok (.invokevirtual 132, 3) := by decide +kernel
theorem dX10_setLimit_55 : decode cX10_setLimit 55 = .ok (.iload_n 2, 1) := by decide +kernel
theorem dX10_setLimit_56 : decode cX10_setLimit 56 = .ok (.ireturn, 1) := by decide +kernel
theorem dX10_type_0 : decode cX10_type 0 = .ok (.aload_n 0, 1) := by decide +kernel
theorem dX10_type_1 : decode cX10_type 1 = .ok (.getfield 73, 3) := by decide +kernel
theorem dX10_type_4 : decode cX10_type 4 = .ok (.iload_n 1, 1) := by decide +kernel
theorem dX10_type_5 : decode cX10_type 5 = .ok (.invokevirtual 136, 3) := by decide +kernel
theorem dX10_type_8 : decode cX10_type 8 = .ok (.ifCond .eq 13, 3) := by decide +kernel
theorem dX10_type_11 : decode cX10_type 11 = .ok (.aload_n 0, 1) := by decide +kernel
theorem dX10_type_12 : decode cX10_type 12 = .ok (.getfield 73, 3) := by decide +kernel
theorem dX10_type_15 : decode cX10_type 15 = .ok (.invokevirtual 140, 3) := by decide +kernel
theorem dX10_type_18 : decode cX10_type 18 = .ok (.goto 5, 3) := by decide +kernel
theorem dX10_type_21 : decode cX10_type 21 = .ok (.bipush (-103), 2) := by decide +kernel
theorem dX10_type_23 : decode cX10_type 23 = .ok (.ireturn, 1) := by decide +kernel
theorem dX10_clearText_0 : decode cX10_clearText 0 = .ok (.aload_n 0, 1) := by decide +kernel
theorem dX10_clearText_1 : decode cX10_clearText 1 = .ok (.getfield 73, 3) := by decide +kernel
theorem dX10_clearText_4 : decode cX10_clearText 4 = .ok (.invokevirtual 140, 3) := by decide +kernel
theorem dX10_clearText_7 : decode cX10_clearText 7 = .ok (.istore_n 1, 1) := by decide +kernel
theorem dX10_clearText_8 : decode cX10_clearText 8 = .ok (.aload_n 0, 1) := by decide +kernel
theorem dX10_clearText_9 : decode cX10_clearText 9 = .ok (.getfield 73, 3) := by decide +kernel
theorem dX10_clearText_12 : decode cX10_clearText 12 = .ok (.invokevirtual 143, 3) := by decide +kernel
theorem dX10_clearText_15 : decode cX10_clearText 15 = .ok (.iload_n 1, 1) := by decide +kernel
theorem dX10_clearText_16 : decode cX10_clearText 16 = .ok (.ireturn, 1) := by decide +kernel
theorem dX10_perform_0 : decode cX10_perform 0 = .ok (.aload_n 0, 1) := by decide +kernel
theorem dX10_perform_1 : decode cX10_perform 1 = .ok (.getfield 73, 3) := by decide +kernel
theorem dX10_perform_4 : decode cX10_perform 4 = .ok (.invokevirtual 146, 3) := by decide +kernel
theorem dX10_perform_7 : decode cX10_perform 7 = .ok (.istore_n 1, 1) := by decide +kernel
theorem dX10_perform_8 : decode cX10_perform 8 = .ok (.iload_n 1, 1) := by decide +kernel
theorem dX10_perform_9 : decode cX10_perform 9 = .ok (.ifCond .lt 9, 3) := by decide +kernel
theorem dX10_perform_12 : decode cX10_perform 12 = .ok (.sipush (-200), 3) := by decide +kernel
theorem dX10_perform_15 : decode cX10_perform 15 = .ok (.iload_n 1, 1) := by decide +kernel
theorem dX10_perform_16 : decode cX10_perform 16 = .ok (.isub, 1) := by decide +kernel
theorem dX10_perform_17 : decode cX10_perform 17 = .ok (.ireturn, 1) := by decide +kernel
theorem dX10_perform_18 : decode cX10_perform 18 = .ok (.aload_n 0, 1) := by decide +kernel
theorem dX10_perform_19 : decode cX10_perform 19 = .ok (.getfield 57, 3) := by decide +kernel
theorem dX10_perform_22 : decode cX10_perform 22 = .ok (.aload_n 0, 1) := by decide +kernel
theorem dX10_perform_23 : decode cX10_perform 23 = .ok (.getfield 53, 3) := by decide +kernel
theorem dX10_perform_26 : decode cX10_perform 26 = .ok (.invokevirtual 149, 3) := by decide +kernel
theorem dX10_perform_29 : decode cX10_perform 29 = .ok (.aload_n 0, 1) := by decide +kernel
theorem dX10_perform_30 : decode cX10_perform 30 = .ok (.getfield 73, 3) := by decide +kernel
theorem dX10_perform_33 : decode cX10_perform 33 = .ok (.invokevirtual 152, 3) := by decide +kernel
theorem dX10_perform_36 : decode cX10_perform 36 = .ok (.istore_n 2, 1) := by decide +kernel
theorem dX10_perform_37 : decode cX10_perform 37 = .ok (.iconst 0, 1) := by decide +kernel
theorem dX10_perform_38 : decode cX10_perform 38 = .ok (.istore_n 3, 1) := by decide +kernel
theorem dX10_perform_39 : decode cX10_perform 39 = .ok (.iload_n 3, 1) := by decide +kernel
theorem dX10_perform_40 : decode cX10_perform 40 = .ok (.iload_n 2, 1) := by decide +kernel
theorem dX10_perform_41 : decode cX10_perform 41 = .ok (.if_icmp .ge 94, 3) := by decide +kernel
theorem dX10_perform_44 : decode cX10_perform 44 = .ok (.aload_n 0, 1) := by decide +kernel
theorem dX10_perform_45 : decode cX10_perform 45 = .ok (.getfield 73, 3) := by decide +kernel
theorem dX10_perform_48 : decode cX10_perform 48 = .ok (.iload_n 3, 1) := by decide +kernel
theorem dX10_perform_49 : decode cX10_perform 49 = .ok (.invokevirtual 155, 3) := by decide +kernel
theorem dX10_perform_52 : decode cX10_perform 52 = .ok (.istore 4, 2) := by decide +kernel
theorem dX10_perform_54 : decode cX10_perform 54 = .ok (.aload_n 0, 1) := by decide +kernel
theorem dX10_perform_55 : decode cX10_perform 55 = .ok (.getfield 73, 3) := by decide +kernel
theorem dX10_perform_58 : decode cX10_perform 58 = .ok (.iload_n 3, 1) := by decide +kernel
theorem dX10_perform_59 : decode cX10_perform 59 = .ok (.invokevirtual 158, 3) := by decide +kernel
theorem dX10_perform_62 : decode cX10_perform 62 = .ok (.istore 5, 2) := by decide +kernel
theorem dX10_perform_64 : decode cX10_perform 64 = .ok (.aload_n 0, 1) := by decide +kernel
theorem dX10_perform_65 : decode cX10_perform 65 = .ok (.getfield 30, 3) := by decide +kernel
theorem dX10_perform_68 : decode cX10_perform 68 = .ok (.aload_n 0, 1) := by decide +kernel
theorem dX10_perform_69 : decode cX10_perform 69 = .ok (.getfield 53, 3) := by decide +kernel
theorem dX10_perform_72 : decode cX10_perform 72 = .ok (.getfield 81, 3) := by decide +kernel
theorem dX10_perform_75 : decode cX10_perform 75 = .ok (.iload 4, 2) := by decide +kernel
theorem dX10_perform_77 : decode cX10_perform 77 = .ok (.iload 5, 2) := by decide +kernel
theorem dX10_perform_79 : decode cX10_perform 79 = .ok (.aload_n 0, 1) := by decide +kernel
theorem dX10_perform_80 : decode cX10_perform 80 = .ok (.getfield 73, 3) := by decide +kernel
theorem dX10_perform_83 : decode cX10_perform 83 = .ok (.iload_n 3, 1) := by decide +kernel
theorem dX10_perform_84 : decode cX10_perform 84 = .ok (.invokevirtual 161, 3) := by decide +kernel
theorem dX10_perform_87 : decode cX10_perform 87 = .ok (.invokevirtual 85, 3) := by decide +kernel
theorem dX10_perform_90 : decode cX10_perform 90 = .ok (.istore 6, 2) := by decide +kernel
theorem dX10_perform_92 : decode cX10_perform 92 = .ok (.iload 6, 2) := by decide +kernel
theorem dX10_perform_94 : decode cX10_perform 94 = .ok (.ifCond .eq 24, 3) := by decide +kernel
theorem dX10_perform_97 : decode cX10_perform 97 = .ok (.aload_n 0, 1) := by decide +kernel
theorem dX10_perform_98 : decode cX10_perform 98 = .ok (.iload_n 3, 1) := by decide +kernel
theorem dX10_perform_99 : decode cX10_perform 99 = .ok (.iload 6, 2) := by decide +kernel
theorem dX10_perform_101 : decode cX10_perform 101 = .ok (.invokevirtual 164, 3) := by decide +kernel
theorem dX10_perform_104 : decode cX10_perform 104 = .ok (.aload_n 0, 1) := by decide +kernel
theorem dX10_perform_105 : decode cX10_perform 105 = .ok (.getfield 53, 3) := by decide +kernel
theorem dX10_perform_108 : decode cX10_perform 108 = .ok (.aload_n 0, 1) := by decide +kernel
theorem dX10_perform_109 : decode cX10_perform 109 = .ok (.getfield 57, 3) := by decide +kernel
theorem dX10_perform_112 : decode cX10_perform 112 = .ok (.invokevirtual 149, 3) := by decide +kernel
theorem dX10_perform_115 : decode cX10_perform 115 = .ok (.bipush (-104), 2) := by decide +kernel
theorem dX10_perform_117 : decode cX10_perform 117 = .ok (.ireturn, 1) := by decide +kernel
theorem dX10_perform_118 : decode cX10_perform 118 = .ok (.aload_n 0, 1) := by decide +kernel
theorem dX10_perform_119 : decode cX10_perform 119 = .ok (.getfield 53, 3) := by decide +kernel
theorem dX10_perform_122 : decode cX10_perform 122 = .ok (.iload 4, 2) := by decide +kernel
theorem dX10_perform_124 : decode cX10_perform 124 = .ok (.iload 5, 2) := by decide +kernel
theorem dX10_perform_126 : decode cX10_perform 126 = .ok (.invokevirtual 93, 3) := by decide +kernel
theorem dX10_perform_129 : decode cX10_perform 129 = .ok (.iinc 3 1, 3) := by decide +kernel
theorem dX10_perform_132 : decode cX10_perform 132 = .ok (.goto (-93), 3) := by decide +kernel
theorem dX10_perform_135 : decode cX10_perform 135 = .ok (.aload_n 0, 1) := by decide +kernel
theorem dX10_perform_136 : decode cX10_perform 136 = .ok (.getfield 66, 3) := by decide +kernel
theorem dX10_perform_139 : decode cX10_perform 139 = .ok (.aload_n 0, 1) := by decide +kernel
theorem dX10_perform_140 : decode cX10_perform 140 = .ok (.getfield 57, 3) := by decide +kernel
theorem dX10_perform_143 : decode cX10_perform 143 = .ok (.invokevirtual 89, 3) := by decide +kernel
theorem dX10_perform_146 : decode cX10_perform 146 = .ok (.iload_n 2, 1) := by decide +kernel
theorem dX10_perform_147 : decode cX10_perform 147 = .ok (.ireturn, 1) := by decide +kernel
theorem dX10_stopped_0 : decode cX10_stopped 0 = .ok (.iload_n 1, 1) := by decide +kernel
theorem dX10_stopped_1 : decode cX10_stopped 1 = .ok (.ifCond .lt 8, 3) := by decide +kernel
theorem dX10_stopped_4 : decode cX10_stopped 4 = .ok (.iload_n 1, 1) := by decide +kernel
theorem dX10_stopped_5 : decode cX10_stopped 5 = .ok (.iconst 1, 1) := by decide +kernel
theorem dX10_stopped_6 : decode cX10_stopped 6 = .ok (.if_icmp .le 6, 3) := by decide +kernel
theorem dX10_stopped_9 : decode cX10_stopped 9 = .ok (.bipush (-102), 2) := by decide +kernel
theorem dX10_stopped_11 : decode cX10_stopped 11 = .ok (.ireturn, 1) := by decide +kernel
theorem dX10_stopped_12 : decode cX10_stopped 12 = .ok (.aload_n 0, 1) := by decide +kernel
theorem dX10_stopped_13 : decode cX10_stopped 13 = .ok (.getfield 167, 3) := by decide +kernel
theorem dX10_stopped_16 : decode cX10_stopped 16 = .ok (.ifCond .ne 6, 3) := by decide +kernel
theorem dX10_stopped_19 : decode cX10_stopped 19 = .ok (.bipush (-105), 2) := by decide +kernel
theorem dX10_stopped_21 : decode cX10_stopped 21 = .ok (.ireturn, 1) := by decide +kernel
theorem dX10_stopped_22 : decode cX10_stopped 22 = .ok (.iload_n 1, 1) := by decide +kernel
theorem dX10_stopped_23 : decode cX10_stopped 23 = .ok (.ifCond .ne 10, 3) := by decide +kernel
theorem dX10_stopped_26 : decode cX10_stopped 26 = .ok (.aload_n 0, 1) := by decide +kernel
theorem dX10_stopped_27 : decode cX10_stopped 27 = .ok (.getfield 171, 3) := by decide +kernel
theorem dX10_stopped_30 : decode cX10_stopped 30 = .ok (.goto 7, 3) := by decide +kernel
theorem dX10_stopped_33 : decode cX10_stopped 33 = .ok (.aload_n 0, 1) := by decide +kernel
theorem dX10_stopped_34 : decode cX10_stopped 34 = .ok (.getfield 175, 3) := by decide +kernel
theorem dX10_stopped_37 : decode cX10_stopped 37 = .ok (.ireturn, 1) := by decide +kernel
theorem dX10_undo_0 : decode cX10_undo 0 = .ok (.aload_n 0, 1) := by decide +kernel
theorem dX10_undo_1 : decode cX10_undo 1 = .ok (.getfield 66, 3) := by decide +kernel
theorem dX10_undo_4 : decode cX10_undo 4 = .ok (.invokevirtual 178, 3) := by decide +kernel
theorem dX10_undo_7 : decode cX10_undo 7 = .ok (.ifCond .ne 6, 3) := by decide +kernel
theorem dX10_undo_10 : decode cX10_undo 10 = .ok (.bipush (-105), 2) := by decide +kernel
theorem dX10_undo_12 : decode cX10_undo 12 = .ok (.ireturn, 1) := by decide +kernel
theorem dX10_undo_13 : decode cX10_undo 13 = .ok (.aload_n 0, 1) := by decide +kernel
theorem dX10_undo_14 : decode cX10_undo 14 = .ok (.getfield 66, 3) := by decide +kernel
theorem dX10_undo_17 : decode cX10_undo 17 = .ok (.aload_n 0, 1) := by decide +kernel
theorem dX10_undo_18 : decode cX10_undo 18 = .ok (.getfield 53, 3) := by decide +kernel
theorem dX10_undo_21 : decode cX10_undo 21 = .ok (.invokevirtual 181, 3) := by decide +kernel
theorem dX10_undo_24 : decode cX10_undo 24 = .ok (.aload_n 0, 1) := by decide +kernel
theorem dX10_undo_25 : decode cX10_undo 25 = .ok (.getfield 66, 3) := by decide +kernel
theorem dX10_undo_28 : decode cX10_undo 28 = .ok (.invokevirtual 178, 3) := by decide +kernel
theorem dX10_undo_31 : decode cX10_undo 31 = .ok (.ireturn, 1) := by decide +kernel
theorem dX10_keep_0 : decode cX10_keep 0 = .ok (.aload_n 0, 1) := by decide +kernel
theorem dX10_keep_1 : decode cX10_keep 1 = .ok (.getfield 60, 3) := by decide +kernel
theorem dX10_keep_4 : decode cX10_keep 4 = .ok (.aload_n 0, 1) := by decide +kernel
theorem dX10_keep_5 : decode cX10_keep 5 = .ok (.getfield 53, 3) := by decide +kernel
theorem dX10_keep_8 : decode cX10_keep 8 = .ok (.invokevirtual 149, 3) := by decide +kernel
theorem dX10_keep_11 : decode cX10_keep 11 = .ok (.aload_n 0, 1) := by decide +kernel
theorem dX10_keep_12 : decode cX10_keep 12 = .ok (.iconst 1, 1) := by decide +kernel
theorem dX10_keep_13 : decode cX10_keep 13 = .ok (.putfield 184, 3) := by decide +kernel
theorem dX10_keep_16 : decode cX10_keep 16 = .ok (.aload_n 0, 1) := by decide +kernel
theorem dX10_keep_17 : decode cX10_keep 17 = .ok (.getfield 53, 3) := by decide +kernel
theorem dX10_keep_20 : decode cX10_keep 20 = .ok (.getfield 81, 3) := by decide +kernel
theorem dX10_keep_23 : decode cX10_keep 23 = .ok (.invokevirtual 123, 3) := by decide +kernel
theorem dX10_keep_26 : decode cX10_keep 26 = .ok (.ireturn, 1) := by decide +kernel
theorem dX10_restore_0 : decode cX10_restore 0 = .ok (.aload_n 0, 1) := by decide +kernel
theorem dX10_restore_1 : decode cX10_restore 1 = .ok (.getfield 184, 3) := by decide +kernel
theorem dX10_restore_4 : decode cX10_restore 4 = .ok (.ifCond .ne 6, 3) := by decide +kernel
theorem dX10_restore_7 : decode cX10_restore 7 = .ok (.bipush (-105), 2) := by decide +kernel
theorem dX10_restore_9 : decode cX10_restore 9 = .ok (.ireturn, 1) := by decide +kernel
theorem dX10_restore_10 : decode cX10_restore 10 = .ok (.aload_n 0, 1) := by decide +kernel
theorem dX10_restore_11 : decode cX10_restore 11 = .ok (.getfield 66, 3) := by decide +kernel
theorem dX10_restore_14 : decode cX10_restore 14 = .ok (.aload_n 0, 1) := by decide +kernel
theorem dX10_restore_15 : decode cX10_restore 15 = .ok (.getfield 53, 3) := by decide +kernel
theorem dX10_restore_18 : decode cX10_restore 18 = .ok (.invokevirtual 89, 3) := by decide +kernel
theorem dX10_restore_21 : decode cX10_restore 21 = .ok (.aload_n 0, 1) := by decide +kernel
theorem dX10_restore_22 : decode cX10_restore 22 = .ok (.getfield 53, 3) := by decide +kernel
theorem dX10_restore_25 : decode cX10_restore 25 = .ok (.aload_n 0, 1) := by decide +kernel
theorem dX10_restore_26 : decode cX10_restore 26 = .ok (.getfield 60, 3) := by decide +kernel
theorem dX10_restore_29 : decode cX10_restore 29 = .ok (.invokevirtual 149, 3) := by decide +kernel
theorem dX10_restore_32 : decode cX10_restore 32 = .ok (.aload_n 0, 1) := by decide +kernel
theorem dX10_restore_33 : decode cX10_restore 33 = .ok (.getfield 53, 3) := by decide +kernel
theorem dX10_restore_36 : decode cX10_restore 36 = .ok (.getfield 81, 3) := by decide +kernel
theorem dX10_restore_39 : decode cX10_restore 39 = .ok (.invokevirtual 123, 3) := by decide +kernel
theorem dX10_restore_42 : decode cX10_restore 42 = .ok (.ireturn, 1) := by decide +kernel
theorem dX10_point_0 : decode cX10_point 0 = .ok (.iload_n 1, 1) := by decide +kernel
theorem dX10_point_1 : decode cX10_point 1 = .ok (.invokestatic 77, 3) := by decide +kernel
theorem dX10_point_4 : decode cX10_point 4 = .ok (.ifCond .ne 6, 3) := by decide +kernel
theorem dX10_point_7 : decode cX10_point 7 = .ok (.bipush (-101), 2) := by decide +kernel
theorem dX10_point_9 : decode cX10_point 9 = .ok (.ireturn, 1) := by decide +kernel
theorem dX10_point_10 : decode cX10_point 10 = .ok (.iload_n 2, 1) := by decide +kernel
theorem dX10_point_11 : decode cX10_point 11 = .ok (.tableswitch 109 0 4 #[33, 45, 61, 77, 93], 33) := by decide +kernel
theorem dX10_point_44 : decode cX10_point 44 = .ok (.aload_n 0, 1) := by decide +kernel
theorem dX10_point_45 : decode cX10_point 45 = .ok (.getfield 53, 3) := by decide +kernel
theorem dX10_point_48 : decode cX10_point 48 = .ok (.getfield 81, 3) := by decide +kernel
theorem dX10_point_51 : decode cX10_point 51 = .ok (.iload_n 1, 1) := by decide +kernel
theorem dX10_point_52 : decode cX10_point 52 = .ok (.invokevirtual 114, 3) := by decide +kernel
theorem dX10_point_55 : decode cX10_point 55 = .ok (.ireturn, 1) := by decide +kernel
theorem dX10_point_56 : decode cX10_point 56 = .ok (.aload_n 0, 1) := by decide +kernel
theorem dX10_point_57 : decode cX10_point 57 = .ok (.getfield 30, 3) := by decide +kernel
theorem dX10_point_60 : decode cX10_point 60 = .ok (.aload_n 0, 1) := by decide +kernel
theorem dX10_point_61 : decode cX10_point 61 = .ok (.getfield 53, 3) := by decide +kernel
theorem dX10_point_64 : decode cX10_point 64 = .ok (.getfield 81, 3) := by decide +kernel
theorem dX10_point_67 : decode cX10_point 67 = .ok (.iload_n 1, 1) := by decide +kernel
theorem dX10_point_68 : decode cX10_point 68 = .ok (.invokevirtual 187, 3) := by decide +kernel
theorem dX10_point_71 : decode cX10_point 71 = .ok (.ireturn, 1) := by decide +kernel
theorem dX10_point_72 : decode cX10_point 72 = .ok (.aload_n 0, 1) := by decide +kernel
theorem dX10_point_73 : decode cX10_point 73 = .ok (.getfield 30, 3) := by decide +kernel
theorem dX10_point_76 : decode cX10_point 76 = .ok (.aload_n 0, 1) := by decide +kernel
theorem dX10_point_77 : decode cX10_point 77 = .ok (.getfield 53, 3) := by decide +kernel
theorem dX10_point_80 : decode cX10_point 80 = .ok (.getfield 81, 3) := by decide +kernel
theorem dX10_point_83 : decode cX10_point 83 = .ok (.iload_n 1, 1) := by decide +kernel
theorem dX10_point_84 : decode cX10_point 84 = .ok (.invokevirtual 190, 3) := by decide +kernel
theorem dX10_point_87 : decode cX10_point 87 = .ok (.ireturn, 1) := by decide +kernel
theorem dX10_point_88 : decode cX10_point 88 = .ok (.aload_n 0, 1) := by decide +kernel
theorem dX10_point_89 : decode cX10_point 89 = .ok (.getfield 30, 3) := by decide +kernel
theorem dX10_point_92 : decode cX10_point 92 = .ok (.aload_n 0, 1) := by decide +kernel
theorem dX10_point_93 : decode cX10_point 93 = .ok (.getfield 53, 3) := by decide +kernel
theorem dX10_point_96 : decode cX10_point 96 = .ok (.getfield 81, 3) := by decide +kernel
theorem dX10_point_99 : decode cX10_point 99 = .ok (.iload_n 1, 1) := by decide +kernel
theorem dX10_point_100 : decode cX10_point 100 = .ok (.invokevirtual 193, 3) := by decide +kernel
theorem dX10_point_103 : decode cX10_point 103 = .ok (.ireturn, 1) := by decide +kernel
theorem dX10_point_104 : decode cX10_point 104 = .ok (.aload_n 0, 1) := by decide +kernel
theorem dX10_point_105 : decode cX10_point 105 = .ok (.getfield 30, 3) := by decide +kernel
theorem dX10_point_108 : decode cX10_point 108 = .ok (.aload_n 0, 1) := by decide +kernel
theorem dX10_point_109 : decode cX10_point 109 = .ok (.getfield 53, 3) := by decide +kernel
theorem dX10_point_112 : decode cX10_point 112 = .ok (.getfield 81, 3) := by decide +kernel
theorem dX10_point_115 : decode cX10_point 115 = .ok (.iload_n 1, 1) := by decide +kernel
theorem dX10_point_116 : decode cX10_point 116 = .ok (.invokevirtual 196, 3) := by decide +kernel
theorem dX10_point_119 : decode cX10_point 119 = .ok (.ireturn, 1) := by decide +kernel
theorem dX10_point_120 : decode cX10_point 120 = .ok (.bipush (-102), 2) := by decide +kernel
theorem dX10_point_122 : decode cX10_point 122 = .ok (.ireturn, 1) := by decide +kernel
theorem dX10_way_0 : decode cX10_way 0 = .ok (.iload_n 1, 1) := by decide +kernel
theorem dX10_way_1 : decode cX10_way 1 = .ok (.invokestatic 77, 3) := by decide +kernel
theorem dX10_way_4 : decode cX10_way 4 = .ok (.ifCond .eq 10, 3) := by decide +kernel
theorem dX10_way_7 : decode cX10_way 7 = .ok (.iload_n 2, 1) := by decide +kernel
theorem dX10_way_8 : decode cX10_way 8 = .ok (.invokestatic 77, 3) := by decide +kernel
theorem dX10_way_11 : decode cX10_way 11 = .ok (.ifCond .ne 6, 3) := by decide +kernel
theorem dX10_way_14 : decode cX10_way 14 = .ok (.bipush (-101), 2) := by decide +kernel
theorem dX10_way_16 : decode cX10_way 16 = .ok (.ireturn, 1) := by decide +kernel
theorem dX10_way_17 : decode cX10_way 17 = .ok (.iload_n 3, 1) := by decide +kernel
theorem dX10_way_18 : decode cX10_way 18 = .ok (.ifCond .lt 8, 3) := by decide +kernel
theorem dX10_way_21 : decode cX10_way 21 = .ok (.iload_n 3, 1) := by decide +kernel
theorem dX10_way_22 : decode cX10_way 22 = .ok (.iconst 4, 1) := by decide +kernel
theorem dX10_way_23 : decode cX10_way 23 = .ok (.if_icmp .le 6, 3) := by decide +kernel
theorem dX10_way_26 : decode cX10_way 26 = .ok (.bipush (-102), 2) := by decide +kernel
theorem dX10_way_28 : decode cX10_way 28 = .ok (.ireturn, 1) := by decide +kernel
theorem dX10_way_29 : decode cX10_way 29 = .ok (.aload_n 0, 1) := by decide +kernel
theorem dX10_way_30 : decode cX10_way 30 = .ok (.getfield 30, 3) := by decide +kernel
theorem dX10_way_33 : decode cX10_way 33 = .ok (.aload_n 0, 1) := by decide +kernel
theorem dX10_way_34 : decode cX10_way 34 = .ok (.getfield 53, 3) := by decide +kernel
theorem dX10_way_37 : decode cX10_way 37 = .ok (.getfield 81, 3) := by decide +kernel
theorem dX10_way_40 : decode cX10_way 40 = .ok (.iload_n 1, 1) := by decide +kernel
theorem dX10_way_41 : decode cX10_way 41 = .ok (.iload_n 2, 1) := by decide +kernel
theorem dX10_way_42 : decode cX10_way 42 = .ok (.invokevirtual 199, 3) := by decide +kernel
theorem dX10_way_45 : decode cX10_way 45 = .ok (.ifCond .ne 6, 3) := by decide +kernel
theorem dX10_way_48 : decode cX10_way 48 = .ok (.bipush (-105), 2) := by decide +kernel
theorem dX10_way_50 : decode cX10_way 50 = .ok (.ireturn, 1) := by decide +kernel
theorem dX10_way_51 : decode cX10_way 51 = .ok (.iload_n 3, 1) := by decide +kernel
theorem dX10_way_52 : decode cX10_way 52 = .ok (.tableswitch 70 0 3 #[32, 40, 48, 59], 32) := by decide +kernel
theorem dX10_way_84 : decode cX10_way 84 = .ok (.aload_n 0, 1) := by decide +kernel
theorem dX10_way_85 : decode cX10_way 85 = .ok (.getfield 21, 3) := by decide +kernel
theorem dX10_way_88 : decode cX10_way 88 = .ok (.getfield 203, 3) := by decide +kernel
theorem dX10_way_91 : decode cX10_way 91 = .ok (.ireturn, 1) := by decide +kernel
theorem dX10_way_92 : decode cX10_way 92 = .ok (.aload_n 0, 1) := by decide +kernel
theorem dX10_way_93 : decode cX10_way 93 = .ok (.getfield 21, 3) := by decide +kernel
theorem dX10_way_96 : decode cX10_way 96 = .ok (.getfield 206, 3) := by decide +kernel
theorem dX10_way_99 : decode cX10_way 99 = .ok (.ireturn, 1) := by decide +kernel
theorem dX10_way_100 : decode cX10_way 100 = .ok (.aload_n 0, 1) := by decide +kernel
theorem dX10_way_101 : decode cX10_way 101 = .ok (.getfield 21, 3) := by decide +kernel
theorem dX10_way_104 : decode cX10_way 104 = .ok (.getfield 209, 3) := by decide +kernel
theorem dX10_way_107 : decode cX10_way 107 = .ok (.bipush 24, 2) := by decide +kernel
theorem dX10_way_109 : decode cX10_way 109 = .ok (.idiv, 1) := by decide +kernel
theorem dX10_way_110 : decode cX10_way 110 = .ok (.ireturn, 1) := by decide +kernel
theorem dX10_way_111 : decode cX10_way 111 = .ok (.aload_n 0, 1) := by decide +kernel
theorem dX10_way_112 : decode cX10_way 112 = .ok (.getfield 21, 3) := by decide +kernel
theorem dX10_way_115 : decode cX10_way 115 = .ok (.getfield 209, 3) := by decide +kernel
theorem dX10_way_118 : decode cX10_way 118 = .ok (.bipush 24, 2) := by decide +kernel
theorem dX10_way_120 : decode cX10_way 120 = .ok (.irem, 1) := by decide +kernel
theorem dX10_way_121 : decode cX10_way 121 = .ok (.ireturn, 1) := by decide +kernel
theorem dX10_way_122 : decode cX10_way 122 = .ok (.aload_n 0, 1) := by decide +kernel
theorem dX10_way_123 : decode cX10_way 123 = .ok (.getfield 21, 3) := by decide +kernel
theorem dX10_way_126 : decode cX10_way 126 = .ok (.getfield 212, 3) := by decide +kernel
theorem dX10_way_129 : decode cX10_way 129 = .ok (.ifCond .le 7, 3) := by decide +kernel
theorem dX10_way_132 : decode cX10_way 132 = .ok (.iconst 1, 1) := by decide +kernel
theorem dX10_way_133 : decode cX10_way 133 = .ok (.goto 4, 3) := by decide +kernel
theorem dX10_way_136 : decode cX10_way 136 = .ok (.iconst 0, 1) := by decide +kernel
theorem dX10_way_137 : decode cX10_way 137 = .ok (.ireturn, 1) := by decide +kernel
theorem dX10_circuit_0 : decode cX10_circuit 0 = .ok (.iload_n 1, 1) := by decide +kernel
theorem dX10_circuit_1 : decode cX10_circuit 1 = .ok (.ifCond .lt 18, 3) := by decide +kernel
theorem dX10_circuit_4 : decode cX10_circuit 4 = .ok (.iload_n 1, 1) := by decide +kernel
theorem dX10_circuit_5 : decode cX10_circuit 5 = .ok (.iconst 2, 1) := by decide +kernel
theorem dX10_circuit_6 : decode cX10_circuit 6 = .ok (.if_icmp .ge 13, 3) := by decide +kernel
theorem dX10_circuit_9 : decode cX10_circuit 9 = .ok (.iload_n 2, 1) := by decide +kernel
theorem dX10_circuit_10 : decode cX10_circuit 10 = .ok (.ifCond .lt 9, 3) := by decide +kernel
theorem dX10_circuit_13 : decode cX10_circuit 13 = .ok (.iload_n 2, 1) := by decide +kernel
theorem dX10_circuit_14 : decode cX10_circuit 14 = .ok (.bipush 24, 2) := by decide +kernel
theorem dX10_circuit_16 : decode cX10_circuit 16 = .ok (.if_icmp .lt 6, 3) := by decide +kernel
theorem dX10_circuit_19 : decode cX10_circuit 19 = .ok (.bipush (-101), 2) := by decide +kernel
theorem dX10_circuit_21 : decode cX10_circuit 21 = .ok (.ireturn, 1) := by decide +kernel
theorem dX10_circuit_22 : decode cX10_circuit 22 = .ok (.aload_n 0, 1) := by decide +kernel
theorem dX10_circuit_23 : decode cX10_circuit 23 = .ok (.getfield 10, 3) := by decide +kernel
theorem dX10_circuit_26 : decode cX10_circuit 26 = .ok (.iload_n 1, 1) := by decide +kernel
theorem dX10_circuit_27 : decode cX10_circuit 27 = .ok (.bipush 24, 2) := by decide +kernel
theorem dX10_circuit_29 : decode cX10_circuit 29 = .ok (.imul, 1) := by decide +kernel
theorem dX10_circuit_30 : decode cX10_circuit 30 = .ok (.iload_n 2, 1) := by decide +kernel
theorem dX10_circuit_31 : decode cX10_circuit 31 = .ok (.iadd, 1) := by decide +kernel
theorem dX10_circuit_32 : decode cX10_circuit 32 = .ok (.invokevirtual 215, 3) := by decide +kernel
theorem dX10_circuit_35 : decode cX10_circuit 35 = .ok (.ireturn, 1) := by decide +kernel
theorem dX10_reason_0 : decode cX10_reason 0 = .ok (.iload_n 1, 1) := by decide +kernel
theorem dX10_reason_1 : decode cX10_reason 1 = .ok (.invokestatic 77, 3) := by decide +kernel
theorem dX10_reason_4 : decode cX10_reason 4 = .ok (.ifCond .eq 10, 3) := by decide +kernel
theorem dX10_reason_7 : decode cX10_reason 7 = .ok (.iload_n 2, 1) := by decide +kernel
theorem dX10_reason_8 : decode cX10_reason 8 = .ok (.invokestatic 77, 3) := by decide +kernel
theorem dX10_reason_11 : decode cX10_reason 11 = .ok (.ifCond .ne 6, 3) := by decide +kernel
theorem dX10_reason_14 : decode cX10_reason 14 = .ok (.bipush (-101), 2) := by decide +kernel
theorem dX10_reason_16 : decode cX10_reason 16 = .ok (.ireturn, 1) := by decide +kernel
theorem dX10_reason_17 : decode cX10_reason 17 = .ok (.aload_n 0, 1) := by decide +kernel
theorem dX10_reason_18 : decode cX10_reason 18 = .ok (.getfield 30, 3) := by decide +kernel
theorem dX10_reason_21 : decode cX10_reason 21 = .ok (.aload_n 0, 1) := by decide +kernel
theorem dX10_reason_22 : decode cX10_reason 22 = .ok (.getfield 53, 3) := by decide +kernel
theorem dX10_reason_25 : decode cX10_reason 25 = .ok (.getfield 81, 3) := by decide +kernel
theorem dX10_reason_28 : decode cX10_reason 28 = .ok (.iload_n 1, 1) := by decide +kernel
theorem dX10_reason_29 : decode cX10_reason 29 = .ok (.iload_n 2, 1) := by decide +kernel
theorem dX10_reason_30 : decode cX10_reason 30 = .ok (.iload_n 3, 1) := by decide +kernel
theorem dX10_reason_31 : decode cX10_reason 31 = .ok (.invokevirtual 85, 3) := by decide +kernel
theorem dX10_reason_34 : decode cX10_reason 34 = .ok (.ireturn, 1) := by decide +kernel
theorem dX10_possible_0 : decode cX10_possible 0 = .ok (.iload_n 1, 1) := by decide +kernel
theorem dX10_possible_1 : decode cX10_possible 1 = .ok (.ifCond .ge 6, 3) := by decide +kernel
theorem dX10_possible_4 : decode cX10_possible 4 = .ok (.bipush (-102), 2) := by decide +kernel
theorem dX10_possible_6 : decode cX10_possible 6 = .ok (.ireturn, 1) := by decide +kernel
theorem dX10_possible_7 : decode cX10_possible 7 = .ok (.aload_n 0, 1) := by decide +kernel
theorem dX10_possible_8 : decode cX10_possible 8 = .ok (.getfield 30, 3) := by decide +kernel
theorem dX10_possible_11 : decode cX10_possible 11 = .ok (.aload_n 0, 1) := by decide +kernel
theorem dX10_possible_12 : decode cX10_possible 12 = .ok (.getfield 53, 3) := by decide +kernel
theorem dX10_possible_15 : decode cX10_possible 15 = .ok (.getfield 81, 3) := by decide +kernel
theorem dX10_possible_18 : decode cX10_possible 18 = .ok (.aload_n 0, 1) := by decide +kernel
theorem dX10_possible_19 : decode cX10_possible 19 = .ok (.getfield 37, 3) := by decide +kernel
theorem dX10_possible_22 : decode cX10_possible 22 = .ok (.invokevirtual 218, 3) := by decide +kernel
theorem dX10_possible_25 : decode cX10_possible 25 = .ok (.iload_n 1, 1) := by decide +kernel
theorem dX10_possible_26 : decode cX10_possible 26 = .ok (.aload_n 0, 1) := by decide +kernel
theorem dX10_possible_27 : decode cX10_possible 27 = .ok (.getfield 37, 3) := by decide +kernel
theorem dX10_possible_30 : decode cX10_possible 30 = .ok (.invokevirtual 222, 3) := by decide +kernel
theorem dX10_possible_33 : decode cX10_possible 33 = .ok (.if_icmp .ge 14, 3) := by decide +kernel
theorem dX10_possible_36 : decode cX10_possible 36 = .ok (.aload_n 0, 1) := by decide +kernel
theorem dX10_possible_37 : decode cX10_possible 37 = .ok (.getfield 37, 3) := by decide +kernel
theorem dX10_possible_40 : decode cX10_possible 40 = .ok (.iload_n 1, 1) := by decide +kernel
theorem dX10_possible_41 : decode cX10_possible 41 = .ok (.invokevirtual 223, 3) := by decide +kernel
theorem dX10_possible_44 : decode cX10_possible 44 = .ok (.goto 5, 3) := by decide +kernel
theorem dX10_possible_47 : decode cX10_possible 47 = .ok (.bipush (-105), 2) := by decide +kernel
theorem dX10_possible_49 : decode cX10_possible 49 = .ok (.ireturn, 1) := by decide +kernel
theorem dX10_look_0 : decode cX10_look 0 = .ok (.iload_n 1, 1) := by decide +kernel
theorem dX10_look_1 : decode cX10_look 1 = .ok (.ifCond .lt 8, 3) := by decide +kernel
theorem dX10_look_4 : decode cX10_look 4 = .ok (.iload_n 1, 1) := by decide +kernel
theorem dX10_look_5 : decode cX10_look 5 = .ok (.iconst 2, 1) := by decide +kernel
theorem dX10_look_6 : decode cX10_look 6 = .ok (.if_icmp .le 6, 3) := by decide +kernel
theorem dX10_look_9 : decode cX10_look 9 = .ok (.bipush (-102), 2) := by decide +kernel
theorem dX10_look_11 : decode cX10_look 11 = .ok (.ireturn, 1) := by decide +kernel
theorem dX10_look_12 : decode cX10_look 12 = .ok (.aload_n 0, 1) := by decide +kernel
theorem dX10_look_13 : decode cX10_look 13 = .ok (.getfield 46, 3) := by decide +kernel
theorem dX10_look_16 : decode cX10_look 16 = .ok (.aload_n 0, 1) := by decide +kernel
theorem dX10_look_17 : decode cX10_look 17 = .ok (.getfield 53, 3) := by decide +kernel
theorem dX10_look_20 : decode cX10_look 20 = .ok (.getfield 81, 3) := by decide +kernel
theorem dX10_look_23 : decode cX10_look 23 = .ok (.iload_n 1, 1) := by decide +kernel
theorem dX10_look_24 : decode cX10_look 24 = .ok (.invokevirtual 226, 3) := by decide +kernel
theorem dX10_look_27 : decode cX10_look 27 = .ok (.ireturn, 1) := by decide +kernel
theorem dX10_best_0 : decode cX10_best 0 = .ok (.iload_n 1, 1) := by decide +kernel
theorem dX10_best_1 : decode cX10_best 1 = .ok (.iconst 1, 1) := by decide +kernel
theorem dX10_best_2 : decode cX10_best 2 = .ok (.if_icmp .lt 8, 3) := by decide +kernel
theorem dX10_best_5 : decode cX10_best 5 = .ok (.iload_n 1, 1) := by decide +kernel
theorem dX10_best_6 : decode cX10_best 6 = .ok (.iconst 2, 1) := by decide +kernel
theorem dX10_best_7 : decode cX10_best 7 = .ok (.if_icmp .le 6, 3) := by decide +kernel
theorem dX10_best_10 : decode cX10_best 10 = .ok (.bipush (-102), 2) := by decide +kernel
theorem dX10_best_12 : decode cX10_best 12 = .ok (.ireturn, 1) := by decide +kernel
theorem dX10_best_13 : decode cX10_best 13 = .ok (.aload_n 0, 1) := by decide +kernel
theorem dX10_best_14 : decode cX10_best 14 = .ok (.getfield 46, 3) := by decide +kernel
theorem dX10_best_17 : decode cX10_best 17 = .ok (.aload_n 0, 1) := by decide +kernel
theorem dX10_best_18 : decode cX10_best 18 = .ok (.getfield 53, 3) := by decide +kernel
theorem dX10_best_21 : decode cX10_best 21 = .ok (.getfield 81, 3) := by decide +kernel
theorem dX10_best_24 : decode cX10_best 24 = .ok (.iload_n 1, 1) := by decide +kernel
theorem dX10_best_25 : decode cX10_best 25 = .ok (.invokevirtual 110, 3) := by decide +kernel
theorem dX10_best_28 : decode cX10_best 28 = .ok (.istore_n 2, 1) := by decide +kernel
theorem dX10_best_29 : decode cX10_best 29 = .ok (.iload_n 2, 1) := by decide +kernel
theorem dX10_best_30 : decode cX10_best 30 = .ok (.ifCond .ge 8, 3) := by decide +kernel
theorem dX10_best_33 : decode cX10_best 33 = .ok (.bipush (-105), 2) := by decide +kernel
theorem dX10_best_35 : decode cX10_best 35 = .ok (.goto 4, 3) := by decide +kernel
theorem dX10_best_38 : decode cX10_best 38 = .ok (.iload_n 2, 1) := by decide +kernel
theorem dX10_best_39 : decode cX10_best 39 = .ok (.ireturn, 1) := by decide +kernel
theorem dX10_count_0 : decode cX10_count 0 = .ok (.iload_n 1, 1) := by decide +kernel
theorem dX10_count_1 : decode cX10_count 1 = .ok (.tableswitch 194 0 13 #[71, 82, 82, 94, 105, 116, 122, 128, 136, 144, 152, 163, 178, 186], 71) := by decide +kernel
theorem dX10_count_72 : decode cX10_count 72 = .ok (.aload_n 0, 1) := by decide +kernel
theorem dX10_count_73 : decode cX10_count 73 = .ok (.getfield 53, 3) := by decide +kernel
theorem dX10_count_76 : decode cX10_count 76 = .ok (.getfield 81, 3) := by decide +kernel
theorem dX10_count_79 : decode cX10_count 79 = .ok (.invokevirtual 103, 3) := by decide +kernel
theorem dX10_count_82 : decode cX10_count 82 = .ok (.ireturn, 1) := by decide +kernel
theorem dX10_count_83 : decode cX10_count 83 = .ok (.aload_n 0, 1) := by decide +kernel
theorem dX10_count_84 : decode cX10_count 84 = .ok (.getfield 53, 3) := by decide +kernel
theorem dX10_count_87 : decode cX10_count 87 = .ok (.getfield 81, 3) := by decide +kernel
theorem dX10_count_90 : decode cX10_count 90 = .ok (.iload_n 1, 1) := by decide +kernel
theorem dX10_count_91 : decode cX10_count 91 = .ok (.invokevirtual 106, 3) := by decide +kernel
theorem dX10_count_94 : decode cX10_count 94 = .ok (.ireturn, 1) := by decide +kernel
theorem dX10_count_95 : decode cX10_count 95 = .ok (.aload_n 0, 1) := by decide +kernel
theorem dX10_count_96 : decode cX10_count 96 = .ok (.getfield 53, 3) := by decide +kernel
theorem dX10_count_99 : decode cX10_count 99 = .ok (.getfield 81, 3) := by decide +kernel
theorem dX10_count_102 : decode cX10_count 102 = .ok (.invokevirtual 97, 3) := by decide +kernel
theorem dX10_count_105 : decode cX10_count 105 = .ok (.ireturn, 1) := by decide +kernel
theorem dX10_count_106 : decode cX10_count 106 = .ok (.aload_n 0, 1) := by decide +kernel
theorem dX10_count_107 : decode cX10_count 107 = .ok (.getfield 53, 3) := by decide +kernel
theorem dX10_count_110 : decode cX10_count 110 = .ok (.getfield 81, 3) := by decide +kernel
theorem dX10_count_113 : decode cX10_count 113 = .ok (.invokevirtual 229, 3) := by decide +kernel
theorem dX10_count_116 : decode cX10_count 116 = .ok (.ireturn, 1) := by decide +kernel
theorem dX10_count_117 : decode cX10_count 117 = .ok (.aload_n 0, 1) := by decide +kernel
theorem dX10_count_118 : decode cX10_count 118 = .ok (.iconst 1, 1) := by decide +kernel
theorem dX10_count_119 : decode cX10_count 119 = .ok (.invokevirtual 232, 3) := by decide +kernel
theorem dX10_count_122 : decode cX10_count 122 = .ok (.ireturn, 1) := by decide +kernel
theorem dX10_count_123 : decode cX10_count 123 = .ok (.aload_n 0, 1) := by decide +kernel
theorem dX10_count_124 : decode cX10_count 124 = .ok (.iconst 0, 1) := by decide +kernel
theorem dX10_count_125 : decode cX10_count 125 = .ok (.invokevirtual 232, 3) := by decide +kernel
theorem dX10_count_128 : decode cX10_count 128 = .ok (.ireturn, 1) := by decide +kernel
theorem dX10_count_129 : decode cX10_count 129 = .ok (.aload_n 0, 1) := by decide +kernel
theorem dX10_count_130 : decode cX10_count 130 = .ok (.getfield 53, 3) := by decide +kernel
theorem dX10_count_133 : decode cX10_count 133 = .ok (.getfield 236, 3) := by decide +kernel
theorem dX10_count_136 : decode cX10_count 136 = .ok (.ireturn, 1) := by decide +kernel
theorem dX10_count_137 : decode cX10_count 137 = .ok (.aload_n 0, 1) := by decide +kernel
theorem dX10_count_138 : decode cX10_count 138 = .ok (.getfield 53, 3) := by decide +kernel
theorem dX10_count_141 : decode cX10_count 141 = .ok (.getfield 238, 3) := by decide +kernel
theorem dX10_count_144 : decode cX10_count 144 = .ok (.ireturn, 1) := by decide +kernel
theorem dX10_count_145 : decode cX10_count 145 = .ok (.aload_n 0, 1) := by decide +kernel
theorem dX10_count_146 : decode cX10_count 146 = .ok (.getfield 53, 3) := by decide +kernel
theorem dX10_count_149 : decode cX10_count 149 = .ok (.invokevirtual 241, 3) := by decide +kernel
theorem dX10_count_152 : decode cX10_count 152 = .ok (.ireturn, 1) := by decide +kernel
theorem dX10_count_153 : decode cX10_count 153 = .ok (.aload_n 0, 1) := by decide +kernel
theorem dX10_count_154 : decode cX10_count 154 = .ok (.getfield 53, 3) := by decide +kernel
theorem dX10_count_157 : decode cX10_count 157 = .ok (.getfield 81, 3) := by decide +kernel
theorem dX10_count_160 : decode cX10_count 160 = .ok (.invokevirtual 129, 3) := by decide +kernel
theorem dX10_count_163 : decode cX10_count 163 = .ok (.ireturn, 1) := by decide +kernel
theorem dX10_count_164 : decode cX10_count 164 = .ok (.aload_n 0, 1) := by decide +kernel
theorem dX10_count_165 : decode cX10_count 165 = .ok (.getfield 30, 3) := by decide +kernel
theorem dX10_count_168 : decode cX10_count 168 = .ok (.aload_n 0, 1) := by decide +kernel
theorem dX10_count_169 : decode cX10_count 169 = .ok (.getfield 53, 3) := by decide +kernel
theorem dX10_count_172 : decode cX10_count 172 = .ok (.getfield 81, 3) := by decide +kernel
theorem dX10_count_175 : decode cX10_count 175 = .ok (.invokevirtual 244, 3) := by decide +kernel
theorem dX10_count_178 : decode cX10_count 178 = .ok (.ireturn, 1) := by decide +kernel
theorem dX10_count_179 : decode cX10_count 179 = .ok (.aload_n 0, 1) := by decide +kernel
theorem dX10_count_180 : decode cX10_count 180 = .ok (.getfield 66, 3) := by decide +kernel
theorem dX10_count_183 : decode cX10_count 183 = .ok (.invokevirtual 178, 3) := by decide +kernel
theorem dX10_count_186 : decode cX10_count 186 = .ok (.ireturn, 1) := by decide +kernel
theorem dX10_count_187 : decode cX10_count 187 = .ok (.aload_n 0, 1) := by decide +kernel
theorem dX10_count_188 : decode cX10_count 188 = .ok (.getfield 73, 3) := by decide +kernel
theorem dX10_count_191 : decode cX10_count 191 = .ok (.invokevirtual 140, 3) := by decide +kernel
theorem dX10_count_194 : decode cX10_count 194 = .ok (.ireturn, 1) := by decide +kernel
theorem dX10_count_195 : decode cX10_count 195 = .ok (.bipush (-102), 2) := by decide +kernel
theorem dX10_count_197 : decode cX10_count 197 = .ok (.ireturn, 1) := by decide +kernel
theorem dX10_isPoint_0 : decode cX10_isPoint 0 = .ok (.iload_n 0, 1) := by decide +kernel
theorem dX10_isPoint_1 : decode cX10_isPoint 1 = .ok (.ifCond .lt 13, 3) := by decide +kernel
theorem dX10_isPoint_4 : decode cX10_isPoint 4 = .ok (.iload_n 0, 1) := by decide +kernel
theorem dX10_isPoint_5 : decode cX10_isPoint 5 = .ok (.bipush 36, 2) := by decide +kernel
theorem dX10_isPoint_7 : decode cX10_isPoint 7 = .ok (.if_icmp .ge 7, 3) := by decide +kernel
theorem dX10_isPoint_10 : decode cX10_isPoint 10 = .ok (.iconst 1, 1) := by decide +kernel
theorem dX10_isPoint_11 : decode cX10_isPoint 11 = .ok (.goto 4, 3) := by decide +kernel
theorem dX10_isPoint_14 : decode cX10_isPoint 14 = .ok (.iconst 0, 1) := by decide +kernel
theorem dX10_isPoint_15 : decode cX10_isPoint 15 = .ok (.ireturn, 1) := by decide +kernel
theorem dX10_possibleMoves_0 : decode cX10_possibleMoves 0 = .ok (.aload_n 0, 1) := by decide +kernel
theorem dX10_possibleMoves_1 : decode cX10_possibleMoves 1 = .ok (.getfield 30, 3) := by decide +kernel
theorem dX10_possibleMoves_4 : decode cX10_possibleMoves 4 = .ok (.aload_n 0, 1) := by decide +kernel
theorem dX10_possibleMoves_5 : decode cX10_possibleMoves 5 = .ok (.getfield 53, 3) := by decide +kernel
theorem dX10_possibleMoves_8 : decode cX10_possibleMoves 8 = .ok (.getfield 81, 3) := by decide +kernel
theorem dX10_possibleMoves_11 : decode cX10_possibleMoves 11 = .ok (.aload_n 0, 1) := by decide +kernel
theorem dX10_possibleMoves_12 : decode cX10_possibleMoves 12 = .ok (.getfield 37, 3) := by decide +kernel
theorem dX10_possibleMoves_15 : decode cX10_possibleMoves 15 = .ok (.invokevirtual 218, 3) := by decide +kernel
theorem dX10_possibleMoves_18 : decode cX10_possibleMoves 18 = .ok (.iload_n 1, 1) := by decide +kernel
theorem dX10_possibleMoves_19 : decode cX10_possibleMoves 19 = .ok (.ifCond .eq 13, 3) := by decide +kernel
theorem dX10_possibleMoves_22 : decode cX10_possibleMoves 22 = .ok (.aload_n 0, 1) := by decide +kernel
theorem dX10_possibleMoves_23 : decode cX10_possibleMoves 23 = .ok (.getfield 37, 3) := by decide +kernel
theorem dX10_possibleMoves_26 : decode cX10_possibleMoves 26 = .ok (.invokevirtual 248, 3) := by decide +kernel
theorem dX10_possibleMoves_29 : decode cX10_possibleMoves 29 = .ok (.goto 18, 3) := by decide +kernel
theorem dX10_possibleMoves_32 : decode cX10_possibleMoves 32 = .ok (.aload_n 0, 1) := by decide +kernel
theorem dX10_possibleMoves_33 : decode cX10_possibleMoves 33 = .ok (.getfield 37, 3) := by decide +kernel
theorem dX10_possibleMoves_36 : decode cX10_possibleMoves 36 = .ok (.invokevirtual 222, 3) := by decide +kernel
theorem dX10_possibleMoves_39 : decode cX10_possibleMoves 39 = .ok (.aload_n 0, 1) := by decide +kernel
theorem dX10_possibleMoves_40 : decode cX10_possibleMoves 40 = .ok (.getfield 37, 3) := by decide +kernel
theorem dX10_possibleMoves_43 : decode cX10_possibleMoves 43 = .ok (.invokevirtual 248, 3) := by decide +kernel
theorem dX10_possibleMoves_46 : decode cX10_possibleMoves 46 = .ok (.isub, 1) := by decide +kernel
theorem dX10_possibleMoves_47 : decode cX10_possibleMoves 47 = .ok (.ireturn, 1) := by decide +kernel
theorem dX10_noteStop_0 : decode cX10_noteStop 0 = .ok (.aload_n 0, 1) := by decide +kernel
theorem dX10_noteStop_1 : decode cX10_noteStop 1 = .ok (.iconst 1, 1) := by decide +kernel
theorem dX10_noteStop_2 : decode cX10_noteStop 2 = .ok (.putfield 167, 3) := by decide +kernel
theorem dX10_noteStop_5 : decode cX10_noteStop 5 = .ok (.aload_n 0, 1) := by decide +kernel
theorem dX10_noteStop_6 : decode cX10_noteStop 6 = .ok (.iload_n 1, 1) := by decide +kernel
theorem dX10_noteStop_7 : decode cX10_noteStop 7 = .ok (.putfield 171, 3) := by decide +kernel
theorem dX10_noteStop_10 : decode cX10_noteStop 10 = .ok (.aload_n 0, 1) := by decide +kernel
theorem dX10_noteStop_11 : decode cX10_noteStop 11 = .ok (.iload_n 2, 1) := by decide +kernel
theorem dX10_noteStop_12 : decode cX10_noteStop 12 = .ok (.putfield 175, 3) := by decide +kernel
theorem dX10_noteStop_15 : decode cX10_noteStop 15 = .ok (.return_, 1) := by decide +kernel
theorem dX11_init_0 : decode cX11_init 0 = .ok (.aload_n 0, 1) := by decide +kernel
theorem dX11_init_1 : decode cX11_init 1 = .ok (.invokespecial 1, 3) := by decide +kernel
theorem dX11_init_4 : decode cX11_init 4 = .ok (.aload_n 0, 1) := by decide +kernel
theorem dX11_init_5 : decode cX11_init 5 = .ok (.sipush 222, 3) := by decide +kernel
theorem dX11_init_8 : decode cX11_init 8 = .ok (.newarray .int, 2) := by decide +kernel
theorem dX11_init_10 : decode cX11_init 10 = .ok (.putfield 7, 3) := by decide +kernel
theorem dX11_init_13 : decode cX11_init 13 = .ok (.aload_n 0, 1) := by decide +kernel
theorem dX11_init_14 : decode cX11_init 14 = .ok (.sipush 222, 3) := by decide +kernel
theorem dX11_init_17 : decode cX11_init 17 = .ok (.newarray .int, 2) := by decide +kernel
theorem dX11_init_19 : decode cX11_init 19 = .ok (.putfield 13, 3) := by decide +kernel
theorem dX11_init_22 : decode cX11_init 22 = .ok (.aload_n 0, 1) := by decide +kernel
theorem dX11_init_23 : decode cX11_init 23 = .ok (.sipush 222, 3) := by decide +kernel
theorem dX11_init_26 : decode cX11_init 26 = .ok (.newarray .int, 2) := by decide +kernel
theorem dX11_init_28 : decode cX11_init 28 = .ok (.putfield 16, 3) := by decide +kernel
theorem dX11_init_31 : decode cX11_init 31 = .ok (.aload_n 0, 1) := by decide +kernel
theorem dX11_init_32 : decode cX11_init 32 = .ok (.sipush 222, 3) := by decide +kernel
theorem dX11_init_35 : decode cX11_init 35 = .ok (.newarray .int, 2) := by decide +kernel
theorem dX11_init_37 : decode cX11_init 37 = .ok (.putfield 19, 3) := by decide +kernel
theorem dX11_init_40 : decode cX11_init 40 = .ok (.aload_n 0, 1) := by decide +kernel
theorem dX11_init_41 : decode cX11_init 41 = .ok (.sipush 888, 3) := by decide +kernel
theorem dX11_init_44 : decode cX11_init 44 = .ok (.newarray .int, 2) := by decide +kernel
theorem dX11_init_46 : decode cX11_init 46 = .ok (.putfield 22, 3) := by decide +kernel
theorem dX11_init_49 : decode cX11_init 49 = .ok (.aload_n 0, 1) := by decide +kernel
theorem dX11_init_50 : decode cX11_init 50 = .ok (.sipush 222, 3) := by decide +kernel
theorem dX11_init_53 : decode cX11_init 53 = .ok (.newarray .int, 2) := by decide +kernel
theorem dX11_init_55 : decode cX11_init 55 = .ok (.putfield 25, 3) := by decide +kernel
theorem dX11_init_58 : decode cX11_init 58 = .ok (.aload_n 0, 1) := by decide +kernel
theorem dX11_init_59 : decode cX11_init 59 = .ok (.bipush 80, 2) := by decide +kernel
theorem dX11_init_61 : decode cX11_init 61 = .ok (.newarray .int, 2) := by decide +kernel
theorem dX11_init_63 : decode cX11_init 63 = .ok (.putfield 28, 3) := by decide +kernel
theorem dX11_init_66 : decode cX11_init 66 = .ok (.aload_n 0, 1) := by decide +kernel
theorem dX11_init_67 : decode cX11_init 67 = .ok (.bipush (-105), 2) := by decide +kernel
theorem dX11_init_69 : decode cX11_init 69 = .ok (.putfield 31, 3) := by decide +kernel
theorem dX11_init_72 : decode cX11_init 72 = .ok (.aload_n 0, 1) := by decide +kernel
theorem dX11_init_73 : decode cX11_init 73 = .ok (.bipush (-105), 2) := by decide +kernel
theorem dX11_init_75 : decode cX11_init 75 = .ok (.putfield 35, 3) := by decide +kernel
theorem dX11_init_78 : decode cX11_init 78 = .ok (.aload_n 0, 1) := by decide +kernel
theorem dX11_init_79 : decode cX11_init 79 = .ok (.getfield 7, 3) := by decide +kernel
theorem dX11_init_82 : decode cX11_init 82 = .ok (.iconst 4, 1) := by decide +kernel
theorem dX11_init_83 : decode cX11_init 83 = .ok (.bipush 20, 2) := by decide +kernel
theorem dX11_init_85 : decode cX11_init 85 = .ok (.iastore, 1) := by decide +kernel
theorem dX11_init_86 : decode cX11_init 86 = .ok (.aload_n 0, 1) := by decide +kernel
theorem dX11_init_87 : decode cX11_init 87 = .ok (.invokevirtual 38, 3) := by decide +kernel
theorem dX11_init_90 : decode cX11_init 90 = .ok (.return_, 1) := by decide +kernel
theorem dX11_in_0 : decode cX11_in 0 = .ok (.iload_n 0, 1) := by decide +kernel
theorem dX11_in_1 : decode cX11_in 1 = .ok (.iload_n 1, 1) := by decide +kernel
theorem dX11_in_2 : decode cX11_in 2 = .ok (.if_icmp .lt 12, 3) := by decide +kernel
theorem dX11_in_5 : decode cX11_in 5 = .ok (.iload_n 0, 1) := by decide +kernel
theorem dX11_in_6 : decode cX11_in 6 = .ok (.iload_n 2, 1) := by decide +kernel
theorem dX11_in_7 : decode cX11_in 7 = .ok (.if_icmp .gt 7, 3) := by decide +kernel
theorem dX11_in_10 : decode cX11_in 10 = .ok (.iconst 1, 1) := by decide +kernel
theorem dX11_in_11 : decode cX11_in 11 = .ok (.goto 4, 3) := by decide +kernel
theorem dX11_in_14 : decode cX11_in 14 = .ok (.iconst 0, 1) := by decide +kernel
theorem dX11_in_15 : decode cX11_in 15 = .ok (.ireturn, 1) := by decide +kernel
theorem dX11_isPoint_0 : decode cX11_isPoint 0 = .ok (.iload_n 0, 1) := by decide +kernel
theorem dX11_isPoint_1 : decode cX11_isPoint 1 = .ok (.iconst 0, 1) := by decide +kernel
theorem dX11_isPoint_2 : decode cX11_isPoint 2 = .ok (.bipush 35, 2) := by decide +kernel
theorem dX11_isPoint_4 : decode cX11_isPoint 4 = .ok (.invokestatic 41, 3) := by decide +kernel
theorem dX11_isPoint_7 : decode cX11_isPoint 7 = .ok (.ireturn, 1) := by decide +kernel
theorem dX11_copies_0 : decode cX11_copies 0 = .ok (.iconst 0, 1) := by decide +kernel
theorem dX11_copies_1 : decode cX11_copies 1 = .ok (.istore 4, 2) := by decide +kernel
theorem dX11_copies_3 : decode cX11_copies 3 = .ok (.iload 4, 2) := by decide +kernel
theorem dX11_copies_5 : decode cX11_copies 5 = .ok (.sipush 222, 3) := by decide +kernel
theorem dX11_copies_8 : decode cX11_copies 8 = .ok (.if_icmp .ge 21, 3) := by decide +kernel
theorem dX11_copies_11 : decode cX11_copies 11 = .ok (.aload_n 2, 1) := by decide +kernel
theorem dX11_copies_12 : decode cX11_copies 12 = .ok (.iload_n 3, 1) := by decide +kernel
theorem dX11_copies_13 : decode cX11_copies 13 = .ok (.iload 4, 2) := by decide +kernel
theorem dX11_copies_15 : decode cX11_copies 15 = .ok (.iadd, 1) := by decide +kernel
theorem dX11_copies_16 : decode cX11_copies 16 = .ok (.aload_n 0, 1) := by decide +kernel
theorem dX11_copies_17 : decode cX11_copies 17 = .ok (.iload_n 1, 1) := by decide +kernel
theorem dX11_copies_18 : decode cX11_copies 18 = .ok (.iload 4, 2) := by decide +kernel
theorem dX11_copies_20 : decode cX11_copies 20 = .ok (.iadd, 1) := by decide +kernel
theorem dX11_copies_21 : decode cX11_copies 21 = .ok (.iaload, 1) := by decide +kernel
theorem dX11_copies_22 : decode cX11_copies 22 = .ok (.iastore, 1) := by decide +kernel
theorem dX11_copies_23 : decode cX11_copies 23 = .ok (.iinc 4 1, 3) := by decide +kernel
theorem dX11_copies_26 : decode cX11_copies 26 = .ok (.goto (-23), 3) := by decide +kernel
theorem dX11_copies_29 : decode cX11_copies 29 = .ok (.return_, 1) := by decide +kernel
theorem dX11_records_0 : decode cX11_records 0 = .ok (.aload_n 0, 1) := by decide +kernel
theorem dX11_records_1 : decode cX11_records 1 = .ok (.getfield 45, 3) := by decide +kernel
theorem dX11_records_4 : decode cX11_records 4 = .ok (.iconst 4, 1) := by decide +kernel
theorem dX11_records_5 : decode cX11_records 5 = .ok (.if_icmp .ne 44, 3) := by decide +kernel
theorem dX11_records_8 : decode cX11_records 8 = .ok (.iconst 0, 1) := by decide +kernel
theorem dX11_records_9 : decode cX11_records 9 = .ok (.istore_n 1, 1) := by decide +kernel
theorem dX11_records_10 : decode cX11_records 10 = .ok (.iload_n 1, 1) := by decide +kernel
theorem dX11_records_11 : decode cX11_records 11 = .ok (.sipush 666, 3) := by decide +kernel
theorem dX11_records_14 : decode cX11_records 14 = .ok (.if_icmp .ge 25, 3) := by decide +kernel
theorem dX11_records_17 : decode cX11_records 17 = .ok (.aload_n 0, 1) := by decide +kernel
theorem dX11_records_18 : decode cX11_records 18 = .ok (.getfield 22, 3) := by decide +kernel
theorem dX11_records_21 : decode cX11_records 21 = .ok (.iload_n 1, 1) := by decide +kernel
theorem dX11_records_22 : decode cX11_records 22 = .ok (.aload_n 0, 1) := by decide +kernel
theorem dX11_records_23 : decode cX11_records 23 = .ok (.getfield 22, 3) := by decide +kernel
theorem dX11_records_26 : decode cX11_records 26 = .ok (.iload_n 1, 1) := by decide +kernel
theorem dX11_records_27 : decode cX11_records 27 = .ok (.sipush 222, 3) := by decide +kernel
theorem dX11_records_30 : decode cX11_records 30 = .ok (.iadd, 1) := by decide +kernel
theorem dX11_records_31 : decode cX11_records 31 = .ok (.iaload, 1) := by decide +kernel
theorem dX11_records_32 : decode cX11_records 32 = .ok (.iastore, 1) := by decide +kernel
theorem dX11_records_33 : decode cX11_records 33 = .ok (.iinc 1 1, 3) := by decide +kernel
theorem dX11_records_36 : decode cX11_records 36 = .ok (.goto (-26), 3) := by decide +kernel
theorem dX11_records_39 : decode cX11_records 39 = .ok (.aload_n 0, 1) := by decide +kernel
theorem dX11_records_40 : decode cX11_records 40 = .ok (.dup, 1) := by decide +kernel
theorem dX11_records_41 : decode cX11_records 41 = .ok (.getfield 45, 3) := by decide +kernel
theorem dX11_records_44 : decode cX11_records 44 = .ok (.iconst 1, 1) := by decide +kernel
theorem dX11_records_45 : decode cX11_records 45 = .ok (.isub, 1) := by decide +kernel
theorem dX11_records_46 : decode cX11_records 46 = .ok (.putfield 45, 3) := by decide +kernel
theorem dX11_records_49 : decode cX11_records 49 = .ok (.aload_n 0, 1) := by decide +kernel
theorem dX11_records_50 : decode cX11_records 50 = .ok (.getfield 7, 3) := by decide +kernel
theorem dX11_records_53 : decode cX11_records 53 = .ok (.iconst 0, 1) := by decide +kernel
theorem dX11_records_54 : decode cX11_records 54 = .ok (.aload_n 0, 1) := by decide +kernel
theorem dX11_records_55 : decode cX11_records 55 = .ok (.getfield 22, 3) := by decide +kernel
theorem dX11_records_58 : decode cX11_records 58 = .ok (.sipush 222, 3) := by decide +kernel
theorem dX11_records_61 : decode cX11_records 61 = .ok (.aload_n 0, 1) := by decide +kernel
theorem dX11_records_62 : decode cX11_records 62 = .ok (.getfield 45, 3) := by decide +kernel
theorem dX11_records_65 : decode cX11_records 65 = .ok (.imul, 1) := by decide +kernel
theorem dX11_records_66 : decode cX11_records 66 = .ok (.invokestatic 48, 3) := by decide +kernel
theorem dX11_records_69 : decode cX11_records 69 = .ok (.aload_n 0, 1) := by decide +kernel
theorem dX11_records_70 : decode cX11_records 70 = .ok (.dup, 1) := by decide +kernel
theorem dX11_records_71 : decode cX11_records 71 = .ok (.getfield 45, 3) := by decide +kernel
theorem dX11_records_74 : decode cX11_records 74 = .ok (.iconst 1, 1) := by decide +kernel
theorem dX11_records_75 : decode cX11_records 75 = .ok (.iadd, 1) := by decide +kernel
theorem dX11_records_76 : decode cX11_records 76 = .ok (.putfield 45, 3) := by decide +kernel
theorem dX11_records_79 : decode cX11_records 79 = .ok (.return_, 1) := by decide +kernel
theorem dX11_undo_0 : decode cX11_undo 0 = .ok (.aload_n 0, 1) := by decide +kernel
theorem dX11_undo_1 : decode cX11_undo 1 = .ok (.getfield 45, 3) := by decide +kernel
theorem dX11_undo_4 : decode cX11_undo 4 = .ok (.ifCond .ne 6, 3) := by decide +kernel
theorem dX11_undo_7 : decode cX11_undo 7 = .ok (.bipush (-105), 2) := by decide +kernel
theorem dX11_undo_9 : decode cX11_undo 9 = .ok (.ireturn, 1) := by decide +kernel
theorem dX11_undo_10 : decode cX11_undo 10 = .ok (.aload_n 0, 1) := by decide +kernel
theorem dX11_undo_11 : decode cX11_undo 11 = .ok (.dup, 1) := by decide +kernel
theorem dX11_undo_12 : decode cX11_undo 12 = .ok (.getfield 45, 3) := by decide +kernel
theorem dX11_undo_15 : decode cX11_undo 15 = .ok (.iconst 1, 1) := by decide +kernel
theorem dX11_undo_16 : decode cX11_undo 16 = .ok (.isub, 1) := by decide +kernel
theorem dX11_undo_17 : decode cX11_undo 17 = .ok (.putfield 45, 3) := by decide +kernel
theorem dX11_undo_20 : decode cX11_undo 20 = .ok (.aload_n 0, 1) := by decide +kernel
theorem dX11_undo_21 : decode cX11_undo 21 = .ok (.getfield 22, 3) := by decide +kernel
theorem dX11_undo_24 : decode cX11_undo 24 = .ok (.sipush 222, 3) := by decide +kernel
theorem dX11_undo_27 : decode cX11_undo 27 = .ok (.aload_n 0, 1) := by decide +kernel
theorem dX11_undo_28 : decode cX11_undo 28 = .ok (.getfield 45, 3) := by decide +kernel
theorem dX11_undo_31 : decode cX11_undo 31 = .ok (.imul, 1) := by decide +kernel
theorem dX11_undo_32 : decode cX11_undo 32 = .ok (.aload_n 0, 1) := by decide +kernel
theorem dX11_undo_33 : decode cX11_undo 33 = .ok (.getfield 7, 3) := by decide +kernel
theorem dX11_undo_36 : decode cX11_undo 36 = .ok (.iconst 0, 1) := by decide +kernel
theorem dX11_undo_37 : decode cX11_undo 37 = .ok (.invokestatic 48, 3) := by decide +kernel
theorem dX11_undo_40 : decode cX11_undo 40 = .ok (.aload_n 0, 1) := by decide +kernel
theorem dX11_undo_41 : decode cX11_undo 41 = .ok (.getfield 45, 3) := by decide +kernel
theorem dX11_undo_44 : decode cX11_undo 44 = .ok (.ireturn, 1) := by decide +kernel
theorem dX11_pieces_0 : decode cX11_pieces 0 = .ok (.iconst 0, 1) := by decide +kernel
theorem dX11_pieces_1 : decode cX11_pieces 1 = .ok (.istore_n 2, 1) := by decide +kernel
theorem dX11_pieces_2 : decode cX11_pieces 2 = .ok (.iconst 0, 1) := by decide +kernel
theorem dX11_pieces_3 : decode cX11_pieces 3 = .ok (.istore_n 3, 1) := by decide +kernel
theorem dX11_pieces_4 : decode cX11_pieces 4 = .ok (.iload_n 3, 1) := by decide +kernel
theorem dX11_pieces_5 : decode cX11_pieces 5 = .ok (.bipush 36, 2) := by decide +kernel
theorem dX11_pieces_7 : decode cX11_pieces 7 = .ok (.if_icmp .ge 27, 3) := by decide +kernel
theorem dX11_pieces_10 : decode cX11_pieces 10 = .ok (.iload_n 2, 1) := by decide +kernel
theorem dX11_pieces_11 : decode cX11_pieces 11 = .ok (.aload_n 0, 1) := by decide +kernel
theorem dX11_pieces_12 : decode cX11_pieces 12 = .ok (.bipush 6, 2) := by decide +kernel
theorem dX11_pieces_14 : decode cX11_pieces 14 = .ok (.iload_n 3, 1) := by decide +kernel
theorem dX11_pieces_15 : decode cX11_pieces 15 = .ok (.iadd, 1) := by decide +kernel
theorem dX11_pieces_16 : decode cX11_pieces 16 = .ok (.iaload, 1) := by decide +kernel
theorem dX11_pieces_17 : decode cX11_pieces 17 = .ok (.iload_n 1, 1) := by decide +kernel
theorem dX11_pieces_18 : decode cX11_pieces 18 = .ok (.if_icmp .ne 7, 3) := by decide +kernel
theorem dX11_pieces_21 : decode cX11_pieces 21 = .ok (.iconst 1, 1) := by decide +kernel
theorem dX11_pieces_22 : decode cX11_pieces 22 = .ok (.goto 4, 3) := by decide +kernel
theorem dX11_pieces_25 : decode cX11_pieces 25 = .ok (.iconst 0, 1) := by decide +kernel
theorem dX11_pieces_26 : decode cX11_pieces 26 = .ok (.iadd, 1) := by decide +kernel
theorem dX11_pieces_27 : decode cX11_pieces 27 = .ok (.istore_n 2, 1) := by decide +kernel
theorem dX11_pieces_28 : decode cX11_pieces 28 = .ok (.iinc 3 1, 3) := by decide +kernel
theorem dX11_pieces_31 : decode cX11_pieces 31 = .ok (.goto (-27), 3) := by decide +kernel
theorem dX11_pieces_34 : decode cX11_pieces 34 = .ok (.iload_n 2, 1) := by decide +kernel
theorem dX11_pieces_35 : decode cX11_pieces 35 = .ok (.ireturn, 1) := by decide +kernel
theorem dX11_allPieces_0 : decode cX11_allPieces 0 = .ok (.bipush 36, 2) := by decide +kernel
theorem dX11_allPieces_2 : decode cX11_allPieces 2 = .ok (.aload_n 0, 1) := by decide +kernel
theorem dX11_allPieces_3 : decode cX11_allPieces 3 = .ok (.getfield 7, 3) := by decide +kernel
theorem dX11_allPieces_6 : decode cX11_allPieces 6 = .ok (.iconst 0, 1) := by decide +kernel
theorem dX11_allPieces_7 : decode cX11_allPieces 7 = .ok (.invokestatic 52, 3) := by decide +kernel
theorem dX11_allPieces_10 : decode cX11_allPieces 10 = .ok (.isub, 1) := by decide +kernel
theorem dX11_allPieces_11 : decode cX11_allPieces 11 = .ok (.ireturn, 1) := by decide +kernel
theorem dX11_keep_0 : decode cX11_keep 0 = .ok (.aload_n 0, 1) := by decide +kernel
theorem dX11_keep_1 : decode cX11_keep 1 = .ok (.getfield 7, 3) := by decide +kernel
theorem dX11_keep_4 : decode cX11_keep 4 = .ok (.iconst 0, 1) := by decide +kernel
theorem dX11_keep_5 : decode cX11_keep 5 = .ok (.aload_n 0, 1) := by decide +kernel
theorem dX11_keep_6 : decode cX11_keep 6 = .ok (.getfield 25, 3) := by decide +kernel
theorem dX11_keep_9 : decode cX11_keep 9 = .ok (.iconst 0, 1) := by decide +kernel
theorem dX11_keep_10 : decode cX11_keep 10 = .ok (.invokestatic 48, 3) := by decide +kernel
theorem dX11_keep_13 : decode cX11_keep 13 = .ok (.aload_n 0, 1) := by decide +kernel
theorem dX11_keep_14 : decode cX11_keep 14 = .ok (.iconst 1, 1) := by decide +kernel
theorem dX11_keep_15 : decode cX11_keep 15 = .ok (.putfield 56, 3) := by decide +kernel
theorem dX11_keep_18 : decode cX11_keep 18 = .ok (.aload_n 0, 1) := by decide +kernel
theorem dX11_keep_19 : decode cX11_keep 19 = .ok (.invokevirtual 60, 3) := by decide +kernel
theorem dX11_keep_22 : decode cX11_keep 22 = .ok (.ireturn, 1) := by decide +kernel
theorem dX11_restore_0 : decode cX11_restore 0 = .ok (.aload_n 0, 1) := by decide +kernel
theorem dX11_restore_1 : decode cX11_restore 1 = .ok (.getfield 56, 3) := by decide +kernel
theorem dX11_restore_4 : decode cX11_restore 4 = .ok (.ifCond .ne 6, 3) := by decide +kernel
theorem dX11_restore_7 : decode cX11_restore 7 = .ok (.bipush (-105), 2) := by decide +kernel
theorem dX11_restore_9 : decode cX11_restore 9 = .ok (.ireturn, 1) := by decide +kernel
theorem dX11_restore_10 : decode cX11_restore 10 = .ok (.aload_n 0, 1) := by decide +kernel
theorem dX11_restore_11 : decode cX11_restore 11 = .ok (.invokevirtual 64, 3) := by decide +kernel
theorem dX11_restore_14 : decode cX11_restore 14 = .ok (.aload_n 0, 1) := by decide +kernel
theorem dX11_restore_15 : decode cX11_restore 15 = .ok (.getfield 25, 3) := by decide +kernel
theorem dX11_restore_18 : decode cX11_restore 18 = .ok (.iconst 0, 1) := by decide +kernel
theorem dX11_restore_19 : decode cX11_restore 19 = .ok (.aload_n 0, 1) := by decide +kernel
theorem dX11_restore_20 : decode cX11_restore 20 = .ok (.getfield 7, 3) := by decide +kernel
theorem dX11_restore_23 : decode cX11_restore 23 = .ok (.iconst 0, 1) := by decide +kernel
theorem dX11_restore_24 : decode cX11_restore 24 = .ok (.invokestatic 48, 3) := by decide +kernel
theorem dX11_restore_27 : decode cX11_restore 27 = .ok (.aload_n 0, 1) := by decide +kernel
theorem dX11_restore_28 : decode cX11_restore 28 = .ok (.invokevirtual 60, 3) := by decide +kernel
theorem dX11_restore_31 : decode cX11_restore 31 = .ok (.ireturn, 1) := by decide +kernel
theorem dX11_packed_0 : decode cX11_packed 0 = .ok (.iload_n 1, 1) := by decide +kernel
theorem dX11_packed_1 : decode cX11_packed 1 = .ok (.iconst 2, 1) := by decide +kernel
theorem dX11_packed_2 : decode cX11_packed 2 = .ok (.if_icmp .ne 9, 3) := by decide +kernel
theorem dX11_packed_5 : decode cX11_packed 5 = .ok (.aload_n 0, 1) := by decide +kernel
theorem dX11_packed_6 : decode cX11_packed 6 = .ok (.iconst 0, 1) := by decide +kernel
theorem dX11_packed_7 : decode cX11_packed 7 = .ok (.iaload, 1) := by decide +kernel
theorem dX11_packed_8 : decode cX11_packed 8 = .ok (.goto 4, 3) := by decide +kernel
theorem dX11_packed_11 : decode cX11_packed 11 = .ok (.iconst 0, 1) := by decide +kernel
theorem dX11_packed_12 : decode cX11_packed 12 = .ok (.istore_n 2, 1) := by decide +kernel
theorem dX11_packed_13 : decode cX11_packed 13 = .ok (.iconst 0, 1) := by decide +kernel
theorem dX11_packed_14 : decode cX11_packed 14 = .ok (.istore_n 3, 1) := by decide +kernel
theorem dX11_packed_15 : decode cX11_packed 15 = .ok (.iload_n 3, 1) := by decide +kernel
theorem dX11_packed_16 : decode cX11_packed 16 = .ok (.bipush 12, 2) := by decide +kernel
theorem dX11_packed_18 : decode cX11_packed 18 = .ok (.if_icmp .ge 25, 3) := by decide +kernel
theorem dX11_packed_21 : decode cX11_packed 21 = .ok (.iconst 3, 1) := by decide +kernel
theorem dX11_packed_22 : decode cX11_packed 22 = .ok (.iload_n 2, 1) := by decide +kernel
theorem dX11_packed_23 : decode cX11_packed 23 = .ok (.imul, 1) := by decide +kernel
theorem dX11_packed_24 : decode cX11_packed 24 = .ok (.aload_n 0, 1) := by decide +kernel
theorem dX11_packed_25 : decode cX11_packed 25 = .ok (.bipush 6, 2) := by decide +kernel
theorem dX11_packed_27 : decode cX11_packed 27 = .ok (.bipush 12, 2) := by decide +kernel
theorem dX11_packed_29 : decode cX11_packed 29 = .ok (.iload_n 1, 1) := by decide +kernel
theorem dX11_packed_30 : decode cX11_packed 30 = .ok (.imul, 1) := by decide +kernel
theorem dX11_packed_31 : decode cX11_packed 31 = .ok (.iadd, 1) := by decide +kernel
theorem dX11_packed_32 : decode cX11_packed 32 = .ok (.iload_n 3, 1) := by decide +kernel
theorem dX11_packed_33 : decode cX11_packed 33 = .ok (.iadd, 1) := by decide +kernel
theorem dX11_packed_34 : decode cX11_packed 34 = .ok (.iaload, 1) := by decide +kernel
theorem dX11_packed_35 : decode cX11_packed 35 = .ok (.iadd, 1) := by decide +kernel
theorem dX11_packed_36 : decode cX11_packed 36 = .ok (.istore_n 2, 1) := by decide +kernel
theorem dX11_packed_37 : decode cX11_packed 37 = .ok (.iinc 3 1, 3) := by decide +kernel
theorem dX11_packed_40 : decode cX11_packed 40 = .ok (.goto (-25), 3) := by decide +kernel
theorem dX11_packed_43 : decode cX11_packed 43 = .ok (.iload_n 2, 1) := by decide +kernel
theorem dX11_packed_44 : decode cX11_packed 44 = .ok (.ireturn, 1) := by decide +kernel
theorem dX11_notes_0 : decode cX11_notes 0 = .ok (.aload_n 0, 1) := by decide +kernel
theorem dX11_notes_1 : decode cX11_notes 1 = .ok (.iconst 5, 1) := by decide +kernel
theorem dX11_notes_2 : decode cX11_notes 2 = .ok (.iaload, 1) := by decide +kernel
theorem dX11_notes_3 : decode cX11_notes 3 = .ok (.bipush 60, 2) := by decide +kernel
theorem dX11_notes_5 : decode cX11_notes 5 = .ok (.if_icmp .ne 34, 3) := by decide +kernel
theorem dX11_notes_8 : decode cX11_notes 8 = .ok (.bipush 42, 2) := by decide +kernel
theorem dX11_notes_10 : decode cX11_notes 10 = .ok (.istore_n 1, 1) := by decide +kernel
theorem dX11_notes_11 : decode cX11_notes 11 = .ok (.iload_n 1, 1) := by decide +kernel
theorem dX11_notes_12 : decode cX11_notes 12 = .ok (.sipush 219, 3) := by decide +kernel
theorem dX11_notes_15 : decode cX11_notes 15 = .ok (.if_icmp .ge 17, 3) := by decide +kernel
theorem dX11_notes_18 : decode cX11_notes 18 = .ok (.aload_n 0, 1) := by decide +kernel
theorem dX11_notes_19 : decode cX11_notes 19 = .ok (.iload_n 1, 1) := by decide +kernel
theorem dX11_notes_20 : decode cX11_notes 20 = .ok (.aload_n 0, 1) := by decide +kernel
theorem dX11_notes_21 : decode cX11_notes 21 = .ok (.iload_n 1, 1) := by decide +kernel
theorem dX11_notes_22 : decode cX11_notes 22 = .ok (.iconst 3, 1) := by decide +kernel
theorem dX11_notes_23 : decode cX11_notes 23 = .ok (.iadd, 1) := by decide +kernel
theorem dX11_notes_24 : decode cX11_notes 24 = .ok (.iaload, 1) := by decide +kernel
theorem dX11_notes_25 : decode cX11_notes 25 = .ok (.iastore, 1) := by decide +kernel
theorem dX11_notes_26 : decode cX11_notes 26 = .ok (.iinc 1 1, 3) := by decide +kernel
theorem dX11_notes_29 : decode cX11_notes 29 = .ok (.goto (-18), 3) := by decide +kernel
theorem dX11_notes_32 : decode cX11_notes 32 = .ok (.aload_n 0, 1) := by decide +kernel
theorem dX11_notes_33 : decode cX11_notes 33 = .ok (.iconst 5, 1) := by decide +kernel
theorem dX11_notes_34 : decode cX11_notes 34 = .ok (.dup2, 1) := by decide +kernel
theorem dX11_notes_35 : decode cX11_notes 35 = .ok (.iaload, 1) := by decide +kernel
theorem dX11_notes_36 : decode cX11_notes 36 = .ok (.iconst 1, 1) := by decide +kernel
theorem dX11_notes_37 : decode cX11_notes 37 = .ok (.isub, 1) := by decide +kernel
theorem dX11_notes_38 : decode cX11_notes 38 = .ok (.iastore, 1) := by decide +kernel
theorem dX11_notes_39 : decode cX11_notes 39 = .ok (.iconst 0, 1) := by decide +kernel
theorem dX11_notes_40 : decode cX11_notes 40 = .ok (.istore_n 1, 1) := by decide +kernel
theorem dX11_notes_41 : decode cX11_notes 41 = .ok (.iload_n 1, 1) := by decide +kernel
theorem dX11_notes_42 : decode cX11_notes 42 = .ok (.iconst 3, 1) := by decide +kernel
theorem dX11_notes_43 : decode cX11_notes 43 = .ok (.if_icmp .ge 26, 3) := by decide +kernel
theorem dX11_notes_46 : decode cX11_notes 46 = .ok (.aload_n 0, 1) := by decide +kernel
theorem dX11_notes_47 : decode cX11_notes 47 = .ok (.bipush 42, 2) := by decide +kernel
theorem dX11_notes_49 : decode cX11_notes 49 = .ok (.iconst 3, 1) := by decide +kernel
theorem dX11_notes_50 : decode cX11_notes 50 = .ok (.aload_n 0, 1) := by decide +kernel
theorem dX11_notes_51 : decode cX11_notes 51 = .ok (.iconst 5, 1) := by decide +kernel
theorem dX11_notes_52 : decode cX11_notes 52 = .ok (.iaload, 1) := by decide +kernel
theorem dX11_notes_53 : decode cX11_notes 53 = .ok (.imul, 1) := by decide +kernel
theorem dX11_notes_54 : decode cX11_notes 54 = .ok (.iadd, 1) := by decide +kernel
theorem dX11_notes_55 : decode cX11_notes 55 = .ok (.iload_n 1, 1) := by decide +kernel
theorem dX11_notes_56 : decode cX11_notes 56 = .ok (.iadd, 1) := by decide +kernel
theorem dX11_notes_57 : decode cX11_notes 57 = .ok (.aload_n 0, 1) := by decide +kernel
theorem dX11_notes_58 : decode cX11_notes 58 = .ok (.iload_n 1, 1) := by decide +kernel
theorem dX11_notes_59 : decode cX11_notes 59 = .ok (.invokestatic 67, 3) := by decide +kernel
theorem dX11_notes_62 : decode cX11_notes 62 = .ok (.iastore, 1) := by decide +kernel
theorem dX11_notes_63 : decode cX11_notes 63 = .ok (.iinc 1 1, 3) := by decide +kernel
theorem dX11_notes_66 : decode cX11_notes 66 = .ok (.goto (-25), 3) := by decide +kernel
theorem dX11_notes_69 : decode cX11_notes 69 = .ok (.aload_n 0, 1) := by decide +kernel
theorem dX11_notes_70 : decode cX11_notes 70 = .ok (.iconst 5, 1) := by decide +kernel
theorem dX11_notes_71 : decode cX11_notes 71 = .ok (.dup2, 1) := by decide +kernel
theorem dX11_notes_72 : decode cX11_notes 72 = .ok (.iaload, 1) := by decide +kernel
theorem dX11_notes_73 : decode cX11_notes 73 = .ok (.iconst 1, 1) := by decide +kernel
theorem dX11_notes_74 : decode cX11_notes 74 = .ok (.iadd, 1) := by decide +kernel
theorem dX11_notes_75 : decode cX11_notes 75 = .ok (.iastore, 1) := by decide +kernel
theorem dX11_notes_76 : decode cX11_notes 76 = .ok (.return_, 1) := by decide +kernel
theorem dX11_forgets_0 : decode cX11_forgets 0 = .ok (.aload_n 0, 1) := by decide +kernel
theorem dX11_forgets_1 : decode cX11_forgets 1 = .ok (.iconst 1, 1) := by decide +kernel
theorem dX11_forgets_2 : decode cX11_forgets 2 = .ok (.iconst 0, 1) := by decide +kernel
theorem dX11_forgets_3 : decode cX11_forgets 3 = .ok (.iastore, 1) := by decide +kernel
theorem dX11_forgets_4 : decode cX11_forgets 4 = .ok (.aload_n 0, 1) := by decide +kernel
theorem dX11_forgets_5 : decode cX11_forgets 5 = .ok (.iconst 5, 1) := by decide +kernel
theorem dX11_forgets_6 : decode cX11_forgets 6 = .ok (.iconst 0, 1) := by decide +kernel
theorem dX11_forgets_7 : decode cX11_forgets 7 = .ok (.iastore, 1) := by decide +kernel
theorem dX11_forgets_8 : decode cX11_forgets 8 = .ok (.aload_n 0, 1) := by decide +kernel
theorem dX11_forgets_9 : decode cX11_forgets 9 = .ok (.invokestatic 70, 3) := by decide +kernel
theorem dX11_forgets_12 : decode cX11_forgets 12 = .ok (.return_, 1) := by decide +kernel
theorem dX11_were_0 : decode cX11_were 0 = .ok (.iconst 0, 1) := by decide +kernel
theorem dX11_were_1 : decode cX11_were 1 = .ok (.istore_n 1, 1) := by decide +kernel
theorem dX11_were_2 : decode cX11_were 2 = .ok (.bipush 42, 2) := by decide +kernel
theorem dX11_were_4 : decode cX11_were 4 = .ok (.iconst 3, 1) := by decide +kernel
theorem dX11_were_5 : decode cX11_were 5 = .ok (.aload_n 0, 1) := by decide +kernel
theorem dX11_were_6 : decode cX11_were 6 = .ok (.getfield 7, 3) := by decide +kernel
theorem dX11_were_9 : decode cX11_were 9 = .ok (.iconst 5, 1) := by decide +kernel
theorem dX11_were_10 : decode cX11_were 10 = .ok (.iaload, 1) := by decide +kernel
theorem dX11_were_11 : decode cX11_were 11 = .ok (.iconst 1, 1) := by decide +kernel
theorem dX11_were_12 : decode cX11_were 12 = .ok (.isub, 1) := by decide +kernel
theorem dX11_were_13 : decode cX11_were 13 = .ok (.imul, 1) := by decide +kernel
theorem dX11_were_14 : decode cX11_were 14 = .ok (.iadd, 1) := by decide +kernel
theorem dX11_were_15 : decode cX11_were 15 = .ok (.istore_n 2, 1) := by decide +kernel
theorem dX11_were_16 : decode cX11_were 16 = .ok (.iconst 0, 1) := by decide +kernel
theorem dX11_were_17 : decode cX11_were 17 = .ok (.istore_n 3, 1) := by decide +kernel
theorem dX11_were_18 : decode cX11_were 18 = .ok (.iload_n 3, 1) := by decide +kernel
theorem dX11_were_19 : decode cX11_were 19 = .ok (.aload_n 0, 1) := by decide +kernel
theorem dX11_were_20 : decode cX11_were 20 = .ok (.getfield 7, 3) := by decide +kernel
theorem dX11_were_23 : decode cX11_were 23 = .ok (.iconst 5, 1) := by decide +kernel
theorem dX11_were_24 : decode cX11_were 24 = .ok (.iaload, 1) := by decide +kernel
theorem dX11_were_25 : decode cX11_were 25 = .ok (.if_icmp .ge 81, 3) := by decide +kernel
theorem dX11_were_28 : decode cX11_were 28 = .ok (.bipush 42, 2) := by decide +kernel
theorem dX11_were_30 : decode cX11_were 30 = .ok (.iconst 3, 1) := by decide +kernel
theorem dX11_were_31 : decode cX11_were 31 = .ok (.iload_n 3, 1) := by decide +kernel
theorem dX11_were_32 : decode cX11_were 32 = .ok (.imul, 1) := by decide +kernel
theorem dX11_were_33 : decode cX11_were 33 = .ok (.iadd, 1) := by decide +kernel
theorem dX11_were_34 : decode cX11_were 34 = .ok (.istore 4, 2) := by decide +kernel
theorem dX11_were_36 : decode cX11_were 36 = .ok (.iload_n 1, 1) := by decide +kernel
theorem dX11_were_37 : decode cX11_were 37 = .ok (.aload_n 0, 1) := by decide +kernel
theorem dX11_were_38 : decode cX11_were 38 = .ok (.getfield 7, 3) := by decide +kernel
theorem dX11_were_41 : decode cX11_were 41 = .ok (.iload 4, 2) := by decide +kernel
theorem dX11_were_43 : decode cX11_were 43 = .ok (.iaload, 1) := by decide +kernel
theorem dX11_were_44 : decode cX11_were 44 = .ok (.aload_n 0, 1) := by decide +kernel
theorem dX11_were_45 : decode cX11_were 45 = .ok (.getfield 7, 3) := by decide +kernel
theorem dX11_were_48 : decode cX11_were 48 = .ok (.iload_n 2, 1) := by decide +kernel
theorem dX11_were_49 : decode cX11_were 49 = .ok (.iaload, 1) := by decide +kernel
theorem dX11_were_50 : decode cX11_were 50 = .ok (.if_icmp .ne 47, 3) := by decide +kernel
theorem dX11_were_53 : decode cX11_were 53 = .ok (.aload_n 0, 1) := by decide +kernel
theorem dX11_were_54 : decode cX11_were 54 = .ok (.getfield 7, 3) := by decide +kernel
theorem dX11_were_57 : decode cX11_were 57 = .ok (.iload 4, 2) := by decide +kernel
theorem dX11_were_59 : decode cX11_were 59 = .ok (.iconst 1, 1) := by decide +kernel
theorem dX11_were_60 : decode cX11_were 60 = .ok (.iadd, 1) := by decide +kernel
theorem dX11_were_61 : decode cX11_were 61 = .ok (.iaload, 1) := by decide +kernel
theorem dX11_were_62 : decode cX11_were 62 = .ok (.aload_n 0, 1) := by decide +kernel
theorem dX11_were_63 : decode cX11_were 63 = .ok (.getfield 7, 3) := by decide +kernel
theorem dX11_were_66 : decode cX11_were 66 = .ok (.iload_n 2, 1) := by decide +kernel
theorem dX11_were_67 : decode cX11_were 67 = .ok (.iconst 1, 1) := by decide +kernel
theorem dX11_were_68 : decode cX11_were 68 = .ok (.iadd, 1) := by decide +kernel
theorem dX11_were_69 : decode cX11_were 69 = .ok (.iaload, 1) := by decide +kernel
theorem dX11_were_70 : decode cX11_were 70 = .ok (.if_icmp .ne 27, 3) := by decide +kernel
theorem dX11_were_73 : decode cX11_were 73 = .ok (.aload_n 0, 1) := by decide +kernel
theorem dX11_were_74 : decode cX11_were 74 = .ok (.getfield 7, 3) := by decide +kernel
theorem dX11_were_77 : decode cX11_were 77 = .ok (.iload 4, 2) := by decide +kernel
theorem dX11_were_79 : decode cX11_were 79 = .ok (.iconst 2, 1) := by decide +kernel
theorem dX11_were_80 : decode cX11_were 80 = .ok (.iadd, 1) := by decide +kernel
theorem dX11_were_81 : decode cX11_were 81 = .ok (.iaload, 1) := by decide +kernel
theorem dX11_were_82 : decode cX11_were 82 = .ok (.aload_n 0, 1) := by decide +kernel
theorem dX11_were_83 : decode cX11_were 83 = .ok (.getfield 7, 3) := by decide +kernel
theorem dX11_were_86 : decode cX11_were 86 = .ok (.iload_n 2, 1) := by decide +kernel
theorem dX11_were_87 : decode cX11_were 87 = .ok (.iconst 2, 1) := by decide +kernel
theorem dX11_were_88 : decode cX11_were 88 = .ok (.iadd, 1) := by decide +kernel
theorem dX11_were_89 : decode cX11_were 89 = .ok (.iaload, 1) := by decide +kernel
theorem dX11_were_90 : decode cX11_were 90 = .ok (.if_icmp .ne 7, 3) := by decide +kernel
theorem dX11_were_93 : decode cX11_were 93 = .ok (.iconst 1, 1) := by decide +kernel
theorem dX11_were_94 : decode cX11_were 94 = .ok (.goto 4, 3) := by decide +kernel
theorem dX11_were_97 : decode cX11_were 97 = .ok (.iconst 0, 1) := by decide +kernel
theorem dX11_were_98 : decode cX11_were 98 = .ok (.iadd, 1) := by decide +kernel
theorem dX11_were_99 : decode cX11_were 99 = .ok (.istore_n 1, 1) := by decide +kernel
theorem dX11_were_100 : decode cX11_were 100 = .ok (.iinc 3 1, 3) := by decide +kernel
theorem dX11_were_103 : decode cX11_were 103 = .ok (.goto (-85), 3) := by decide +kernel
theorem dX11_were_106 : decode cX11_were 106 = .ok (.iload_n 1, 1) := by decide +kernel
theorem dX11_were_107 : decode cX11_were 107 = .ok (.ireturn, 1) := by decide +kernel
theorem dX11_begins_0 : decode cX11_begins 0 = .ok (.iconst 0, 1) := by decide +kernel
theorem dX11_begins_1 : decode cX11_begins 1 = .ok (.istore_n 1, 1) := by decide +kernel
theorem dX11_begins_2 : decode cX11_begins 2 = .ok (.iload_n 1, 1) := by decide +kernel
theorem dX11_begins_3 : decode cX11_begins 3 = .ok (.bipush 36, 2) := by decide +kernel
theorem dX11_begins_5 : decode cX11_begins 5 = .ok (.if_icmp .ge 39, 3) := by decide +kernel
theorem dX11_begins_8 : decode cX11_begins 8 = .ok (.aload_n 0, 1) := by decide +kernel
theorem dX11_begins_9 : decode cX11_begins 9 = .ok (.getfield 7, 3) := by decide +kernel
theorem dX11_begins_12 : decode cX11_begins 12 = .ok (.bipush 6, 2) := by decide +kernel
theorem dX11_begins_14 : decode cX11_begins 14 = .ok (.iload_n 1, 1) := by decide +kernel
theorem dX11_begins_15 : decode cX11_begins 15 = .ok (.iadd, 1) := by decide +kernel
theorem dX11_begins_16 : decode cX11_begins 16 = .ok (.iload_n 1, 1) := by decide +kernel
theorem dX11_begins_17 : decode cX11_begins 17 = .ok (.bipush 12, 2) := by decide +kernel
theorem dX11_begins_19 : decode cX11_begins 19 = .ok (.if_icmp .ge 7, 3) := by decide +kernel
theorem dX11_begins_22 : decode cX11_begins 22 = .ok (.iconst 1, 1) := by decide +kernel
theorem dX11_begins_23 : decode cX11_begins 23 = .ok (.goto 14, 3) := by decide +kernel
theorem dX11_begins_26 : decode cX11_begins 26 = .ok (.iload_n 1, 1) := by decide +kernel
theorem dX11_begins_27 : decode cX11_begins 27 = .ok (.bipush 24, 2) := by decide +kernel
theorem dX11_begins_29 : decode cX11_begins 29 = .ok (.if_icmp .ge 7, 3) := by decide +kernel
theorem dX11_begins_32 : decode cX11_begins 32 = .ok (.iconst 0, 1) := by decide +kernel
theorem dX11_begins_33 : decode cX11_begins 33 = .ok (.goto 4, 3) := by decide +kernel
theorem dX11_begins_36 : decode cX11_begins 36 = .ok (.iconst 2, 1) := by decide +kernel
theorem dX11_begins_37 : decode cX11_begins 37 = .ok (.iastore, 1) := by decide +kernel
theorem dX11_begins_38 : decode cX11_begins 38 = .ok (.iinc 1 1, 3) := by decide +kernel
theorem dX11_begins_41 : decode cX11_begins 41 = .ok (.goto (-39), 3) := by decide +kernel
theorem dX11_begins_44 : decode cX11_begins 44 = .ok (.aload_n 0, 1) := by decide +kernel
theorem dX11_begins_45 : decode cX11_begins 45 = .ok (.getfield 7, 3) := by decide +kernel
theorem dX11_begins_48 : decode cX11_begins 48 = .ok (.iconst 0, 1) := by decide +kernel
theorem dX11_begins_49 : decode cX11_begins 49 = .ok (.iconst 1, 1) := by decide +kernel
theorem dX11_begins_50 : decode cX11_begins 50 = .ok (.iastore, 1) := by decide +kernel
theorem dX11_begins_51 : decode cX11_begins 51 = .ok (.aload_n 0, 1) := by decide +kernel
theorem dX11_begins_52 : decode cX11_begins 52 = .ok (.getfield 7, 3) := by decide +kernel
theorem dX11_begins_55 : decode cX11_begins 55 = .ok (.iconst 2, 1) := by decide +kernel
theorem dX11_begins_56 : decode cX11_begins 56 = .ok (.iconst 0, 1) := by decide +kernel
theorem dX11_begins_57 : decode cX11_begins 57 = .ok (.iastore, 1) := by decide +kernel
theorem dX11_begins_58 : decode cX11_begins 58 = .ok (.aload_n 0, 1) := by decide +kernel
theorem dX11_begins_59 : decode cX11_begins 59 = .ok (.getfield 7, 3) := by decide +kernel
theorem dX11_begins_62 : decode cX11_begins 62 = .ok (.iconst 3, 1) := by decide +kernel
theorem dX11_begins_63 : decode cX11_begins 63 = .ok (.iconst 0, 1) := by decide +kernel
theorem dX11_begins_64 : decode cX11_begins 64 = .ok (.iastore, 1) := by decide +kernel
theorem dX11_begins_65 : decode cX11_begins 65 = .ok (.aload_n 0, 1) := by decide +kernel
theorem dX11_begins_66 : decode cX11_begins 66 = .ok (.getfield 7, 3) := by decide +kernel
theorem dX11_begins_69 : decode cX11_begins 69 = .ok (.invokestatic 74, 3) := by decide +kernel
theorem dX11_begins_72 : decode cX11_begins 72 = .ok (.return_, 1) := by decide +kernel
theorem dX11_pointAt_0 : decode cX11_pointAt 0 = .ok (.iconst 1, 1) := by decide +kernel
theorem dX11_pointAt_1 : decode cX11_pointAt 1 = .ok (.iload_n 0, 1) := by decide +kernel
theorem dX11_pointAt_2 : decode cX11_pointAt 2 = .ok (.iadd, 1) := by decide +kernel
theorem dX11_pointAt_3 : decode cX11_pointAt 3 = .ok (.istore_n 2, 1) := by decide +kernel
theorem dX11_pointAt_4 : decode cX11_pointAt 4 = .ok (.iconst 5, 1) := by decide +kernel
theorem dX11_pointAt_5 : decode cX11_pointAt 5 = .ok (.iload_n 2, 1) := by decide +kernel
theorem dX11_pointAt_6 : decode cX11_pointAt 6 = .ok (.isub, 1) := by decide +kernel
theorem dX11_pointAt_7 : decode cX11_pointAt 7 = .ok (.istore_n 3, 1) := by decide +kernel
theorem dX11_pointAt_8 : decode cX11_pointAt 8 = .ok (.iload_n 1, 1) := by decide +kernel
theorem dX11_pointAt_9 : decode cX11_pointAt 9 = .ok (.bipush 6, 2) := by decide +kernel
theorem dX11_pointAt_11 : decode cX11_pointAt 11 = .ok (.irem, 1) := by decide +kernel
theorem dX11_pointAt_12 : decode cX11_pointAt 12 = .ok (.istore 4, 2) := by decide +kernel
theorem dX11_pointAt_14 : decode cX11_pointAt 14 = .ok (.iload_n 1, 1) := by decide +kernel
theorem dX11_pointAt_15 : decode cX11_pointAt 15 = .ok (.bipush 6, 2) := by decide +kernel
theorem dX11_pointAt_17 : decode cX11_pointAt 17 = .ok (.idiv, 1) := by decide +kernel
theorem dX11_pointAt_18 : decode cX11_pointAt 18 = .ok (.tableswitch 52 0 2 #[26, 34, 42], 26) := by decide +kernel
theorem dX11_pointAt_44 : decode cX11_pointAt 44 = .ok (.bipush 6, 2) := by decide +kernel
theorem dX11_pointAt_46 : decode cX11_pointAt 46 = .ok (.iload_n 2, 1) := by decide +kernel
theorem dX11_pointAt_47 : decode cX11_pointAt 47 = .ok (.imul, 1) := by decide +kernel
theorem dX11_pointAt_48 : decode cX11_pointAt 48 = .ok (.iload 4, 2) := by decide +kernel
theorem dX11_pointAt_50 : decode cX11_pointAt 50 = .ok (.iadd, 1) := by decide +kernel
theorem dX11_pointAt_51 : decode cX11_pointAt 51 = .ok (.ireturn, 1) := by decide +kernel
theorem dX11_pointAt_52 : decode cX11_pointAt 52 = .ok (.bipush 6, 2) := by decide +kernel
theorem dX11_pointAt_54 : decode cX11_pointAt 54 = .ok (.iload 4, 2) := by decide +kernel
theorem dX11_pointAt_56 : decode cX11_pointAt 56 = .ok (.imul, 1) := by decide +kernel
theorem dX11_pointAt_57 : decode cX11_pointAt 57 = .ok (.iload_n 3, 1) := by decide +kernel
theorem dX11_pointAt_58 : decode cX11_pointAt 58 = .ok (.iadd, 1) := by decide +kernel
theorem dX11_pointAt_59 : decode cX11_pointAt 59 = .ok (.ireturn, 1) := by decide +kernel
theorem dX11_pointAt_60 : decode cX11_pointAt 60 = .ok (.bipush 6, 2) := by decide +kernel
theorem dX11_pointAt_62 : decode cX11_pointAt 62 = .ok (.iload_n 3, 1) := by decide +kernel
theorem dX11_pointAt_63 : decode cX11_pointAt 63 = .ok (.imul, 1) := by decide +kernel
theorem dX11_pointAt_64 : decode cX11_pointAt 64 = .ok (.iconst 5, 1) := by decide +kernel
theorem dX11_pointAt_65 : decode cX11_pointAt 65 = .ok (.iadd, 1) := by decide +kernel
theorem dX11_pointAt_66 : decode cX11_pointAt 66 = .ok (.iload 4, 2) := by decide +kernel
theorem dX11_pointAt_68 : decode cX11_pointAt 68 = .ok (.isub, 1) := by decide +kernel
theorem dX11_pointAt_69 : decode cX11_pointAt 69 = .ok (.ireturn, 1) := by decide +kernel
theorem dX11_pointAt_70 : decode cX11_pointAt 70 = .ok (.bipush 6, 2) := by decide +kernel
theorem dX11_pointAt_72 : decode cX11_pointAt 72 = .ok (.iconst 5, 1) := by decide +kernel
theorem dX11_pointAt_73 : decode cX11_pointAt 73 = .ok (.iload 4, 2) := by decide +kernel
theorem dX11_pointAt_75 : decode cX11_pointAt 75 = .ok (.isub, 1) := by decide +kernel
theorem dX11_pointAt_76 : decode cX11_pointAt 76 = .ok (.imul, 1) := by decide +kernel
theorem dX11_pointAt_77 : decode cX11_pointAt 77 = .ok (.iload_n 2, 1) := by decide +kernel
theorem dX11_pointAt_78 : decode cX11_pointAt 78 = .ok (.iadd, 1) := by decide +kernel
theorem dX11_pointAt_79 : decode cX11_pointAt 79 = .ok (.ireturn, 1) := by decide +kernel
theorem dX11_goes_0 : decode cX11_goes 0 = .ok (.iload_n 2, 1) := by decide +kernel
theorem dX11_goes_1 : decode cX11_goes 1 = .ok (.iload_n 3, 1) := by decide +kernel
theorem dX11_goes_2 : decode cX11_goes 2 = .ok (.invokestatic 77, 3) := by decide +kernel
theorem dX11_goes_5 : decode cX11_goes 5 = .ok (.istore 5, 2) := by decide +kernel
theorem dX11_goes_7 : decode cX11_goes 7 = .ok (.iload_n 3, 1) := by decide +kernel
theorem dX11_goes_8 : decode cX11_goes 8 = .ok (.istore 6, 2) := by decide +kernel
theorem dX11_goes_10 : decode cX11_goes 10 = .ok (.aload_n 0, 1) := by decide +kernel
theorem dX11_goes_11 : decode cX11_goes 11 = .ok (.iconst 0, 1) := by decide +kernel
theorem dX11_goes_12 : decode cX11_goes 12 = .ok (.putfield 81, 3) := by decide +kernel
theorem dX11_goes_15 : decode cX11_goes 15 = .ok (.aload_n 0, 1) := by decide +kernel
theorem dX11_goes_16 : decode cX11_goes 16 = .ok (.iconst 0, 1) := by decide +kernel
theorem dX11_goes_17 : decode cX11_goes 17 = .ok (.putfield 84, 3) := by decide +kernel
theorem dX11_goes_20 : decode cX11_goes 20 = .ok (.iconst 1, 1) := by decide +kernel
theorem dX11_goes_21 : decode cX11_goes 21 = .ok (.istore 7, 2) := by decide +kernel
theorem dX11_goes_23 : decode cX11_goes 23 = .ok (.iload 7, 2) := by decide +kernel
theorem dX11_goes_25 : decode cX11_goes 25 = .ok (.bipush 24, 2) := by decide +kernel
theorem dX11_goes_27 : decode cX11_goes 27 = .ok (.if_icmp .ge 117, 3) := by decide +kernel
theorem dX11_goes_30 : decode cX11_goes 30 = .ok (.aload_n 0, 1) := by decide +kernel
theorem dX11_goes_31 : decode cX11_goes 31 = .ok (.dup, 1) := by decide +kernel
theorem dX11_goes_32 : decode cX11_goes 32 = .ok (.getfield 81, 3) := by decide +kernel
theorem dX11_goes_35 : decode cX11_goes 35 = .ok (.iload 4, 2) := by decide +kernel
theorem dX11_goes_37 : decode cX11_goes 37 = .ok (.ifCond .eq 15, 3) := by decide +kernel
theorem dX11_goes_40 : decode cX11_goes 40 = .ok (.iload 6, 2) := by decide +kernel
theorem dX11_goes_42 : decode cX11_goes 42 = .ok (.bipush 6, 2) := by decide +kernel
theorem dX11_goes_44 : decode cX11_goes 44 = .ok (.irem, 1) := by decide +kernel
theorem dX11_goes_45 : decode cX11_goes 45 = .ok (.iconst 5, 1) := by decide +kernel
theorem dX11_goes_46 : decode cX11_goes 46 = .ok (.if_icmp .ne 18, 3) := by decide +kernel
theorem dX11_goes_49 : decode cX11_goes 49 = .ok (.goto 11, 3) := by decide +kernel
theorem dX11_goes_52 : decode cX11_goes 52 = .ok (.iload 6, 2) := by decide +kernel
theorem dX11_goes_54 : decode cX11_goes 54 = .ok (.bipush 6, 2) := by decide +kernel
theorem dX11_goes_56 : decode cX11_goes 56 = .ok (.irem, 1) := by decide +kernel
theorem dX11_goes_57 : decode cX11_goes 57 = .ok (.ifCond .ne 7, 3) := by decide +kernel
theorem dX11_goes_60 : decode cX11_goes 60 = .ok (.iconst 1, 1) := by decide +kernel
theorem dX11_goes_61 : decode cX11_goes 61 = .ok (.goto 4, 3) := by decide +kernel
theorem dX11_goes_64 : decode cX11_goes 64 = .ok (.iconst 0, 1) := by decide +kernel
theorem dX11_goes_65 : decode cX11_goes 65 = .ok (.iadd, 1) := by decide +kernel
theorem dX11_goes_66 : decode cX11_goes 66 = .ok (.putfield 81, 3) := by decide +kernel
theorem dX11_goes_69 : decode cX11_goes 69 = .ok (.iload 6, 2) := by decide +kernel
theorem dX11_goes_71 : decode cX11_goes 71 = .ok (.iload 4, 2) := by decide +kernel
theorem dX11_goes_73 : decode cX11_goes 73 = .ok (.ifCond .eq 7, 3) := by decide +kernel
theorem dX11_goes_76 : decode cX11_goes 76 = .ok (.iconst 1, 1) := by decide +kernel
theorem dX11_goes_77 : decode cX11_goes 77 = .ok (.goto 5, 3) := by decide +kernel
theorem dX11_goes_80 : decode cX11_goes 80 = .ok (.bipush 23, 2) := by decide +kernel
theorem dX11_goes_82 : decode cX11_goes 82 = .ok (.iadd, 1) := by decide +kernel
theorem dX11_goes_83 : decode cX11_goes 83 = .ok (.bipush 24, 2) := by decide +kernel
theorem dX11_goes_85 : decode cX11_goes 85 = .ok (.irem, 1) := by decide +kernel
theorem dX11_goes_86 : decode cX11_goes 86 = .ok (.istore 6, 2) := by decide +kernel
theorem dX11_goes_88 : decode cX11_goes 88 = .ok (.aload_n 0, 1) := by decide +kernel
theorem dX11_goes_89 : decode cX11_goes 89 = .ok (.dup, 1) := by decide +kernel
theorem dX11_goes_90 : decode cX11_goes 90 = .ok (.getfield 84, 3) := by decide +kernel
theorem dX11_goes_93 : decode cX11_goes 93 = .ok (.iconst 1, 1) := by decide +kernel
theorem dX11_goes_94 : decode cX11_goes 94 = .ok (.iadd, 1) := by decide +kernel
theorem dX11_goes_95 : decode cX11_goes 95 = .ok (.putfield 84, 3) := by decide +kernel
theorem dX11_goes_98 : decode cX11_goes 98 = .ok (.iload_n 2, 1) := by decide +kernel
theorem dX11_goes_99 : decode cX11_goes 99 = .ok (.iload 6, 2) := by decide +kernel
theorem dX11_goes_101 : decode cX11_goes 101 = .ok (.invokestatic 77, 3) := by decide +kernel
theorem dX11_goes_104 : decode cX11_goes 104 = .ok (.istore 8, 2) := by decide +kernel
theorem dX11_goes_106 : decode cX11_goes 106 = .ok (.iload 8, 2) := by decide +kernel
theorem dX11_goes_108 : decode cX11_goes 108 = .ok (.iload 5, 2) := by decide +kernel
theorem dX11_goes_110 : decode cX11_goes 110 = .ok (.if_icmp .eq 28, 3) := by decide +kernel
theorem dX11_goes_113 : decode cX11_goes 113 = .ok (.aload_n 1, 1) := by decide +kernel
theorem dX11_goes_114 : decode cX11_goes 114 = .ok (.bipush 6, 2) := by decide +kernel
theorem dX11_goes_116 : decode cX11_goes 116 = .ok (.iload 8, 2) := by decide +kernel
theorem dX11_goes_118 : decode cX11_goes 118 = .ok (.iadd, 1) := by decide +kernel
theorem dX11_goes_119 : decode cX11_goes 119 = .ok (.iaload, 1) := by decide +kernel
theorem dX11_goes_120 : decode cX11_goes 120 = .ok (.ifCond .le 18, 3) := by decide +kernel
theorem dX11_goes_123 : decode cX11_goes 123 = .ok (.aload_n 0, 1) := by decide +kernel
theorem dX11_goes_124 : decode cX11_goes 124 = .ok (.getfield 81, 3) := by decide +kernel
theorem dX11_goes_127 : decode cX11_goes 127 = .ok (.ifCond .le 8, 3) := by decide +kernel
theorem dX11_goes_130 : decode cX11_goes 130 = .ok (.iload 8, 2) := by decide +kernel
theorem dX11_goes_132 : decode cX11_goes 132 = .ok (.goto 5, 3) := by decide +kernel
theorem dX11_goes_135 : decode cX11_goes 135 = .ok (.bipush (-105), 2) := by decide +kernel
theorem dX11_goes_137 : decode cX11_goes 137 = .ok (.ireturn, 1) := by decide +kernel
theorem dX11_goes_138 : decode cX11_goes 138 = .ok (.iinc 7 1, 3) := by decide +kernel
theorem dX11_goes_141 : decode cX11_goes 141 = .ok (.goto (-118), 3) := by decide +kernel
theorem dX11_goes_144 : decode cX11_goes 144 = .ok (.bipush (-105), 2) := by decide +kernel
theorem dX11_goes_146 : decode cX11_goes 146 = .ok (.ireturn, 1) := by decide +kernel
theorem dX11_bestWay_0 : decode cX11_bestWay 0 = .ok (.bipush (-105), 2) := by decide +kernel
theorem dX11_bestWay_2 : decode cX11_bestWay 2 = .ok (.istore 4, 2) := by decide +kernel
theorem dX11_bestWay_4 : decode cX11_bestWay 4 = .ok (.sipush 1000, 3) := by decide +kernel
theorem dX11_bestWay_7 : decode cX11_bestWay 7 = .ok (.istore 5, 2) := by decide +kernel
theorem dX11_bestWay_9 : decode cX11_bestWay 9 = .ok (.sipush 1000, 3) := by decide +kernel
theorem dX11_bestWay_12 : decode cX11_bestWay 12 = .ok (.istore 6, 2) := by decide +kernel
theorem dX11_bestWay_14 : decode cX11_bestWay 14 = .ok (.iconst 0, 1) := by decide +kernel
theorem dX11_bestWay_15 : decode cX11_bestWay 15 = .ok (.istore 7, 2) := by decide +kernel
theorem dX11_bestWay_17 : decode cX11_bestWay 17 = .ok (.iload 7, 2) := by decide +kernel
theorem dX11_bestWay_19 : decode cX11_bestWay 19 = .ok (.bipush 96, 2) := by decide +kernel
theorem dX11_bestWay_21 : decode cX11_bestWay 21 = .ok (.if_icmp .ge 104, 3) := by decide +kernel
theorem dX11_bestWay_24 : decode cX11_bestWay 24 = .ok (.iload 7, 2) := by decide +kernel
theorem dX11_bestWay_26 : decode cX11_bestWay 26 = .ok (.bipush 48, 2) := by decide +kernel
theorem dX11_bestWay_28 : decode cX11_bestWay 28 = .ok (.idiv, 1) := by decide +kernel
theorem dX11_bestWay_29 : decode cX11_bestWay 29 = .ok (.istore 8, 2) := by decide +kernel
theorem dX11_bestWay_31 : decode cX11_bestWay 31 = .ok (.iload 7, 2) := by decide +kernel
theorem dX11_bestWay_33 : decode cX11_bestWay 33 = .ok (.iconst 2, 1) := by decide +kernel
theorem dX11_bestWay_34 : decode cX11_bestWay 34 = .ok (.idiv, 1) := by decide +kernel
theorem dX11_bestWay_35 : decode cX11_bestWay 35 = .ok (.bipush 24, 2) := by decide +kernel
theorem dX11_bestWay_37 : decode cX11_bestWay 37 = .ok (.irem, 1) := by decide +kernel
theorem dX11_bestWay_38 : decode cX11_bestWay 38 = .ok (.istore 9, 2) := by decide +kernel
theorem dX11_bestWay_40 : decode cX11_bestWay 40 = .ok (.iload 8, 2) := by decide +kernel
theorem dX11_bestWay_42 : decode cX11_bestWay 42 = .ok (.iload 9, 2) := by decide +kernel
theorem dX11_bestWay_44 : decode cX11_bestWay 44 = .ok (.invokestatic 77, 3) := by decide +kernel
theorem dX11_bestWay_47 : decode cX11_bestWay 47 = .ok (.iload_n 2, 1) := by decide +kernel
theorem dX11_bestWay_48 : decode cX11_bestWay 48 = .ok (.if_icmp .ne 71, 3) := by decide +kernel
theorem dX11_bestWay_51 : decode cX11_bestWay 51 = .ok (.aload_n 0, 1) := by decide +kernel
theorem dX11_bestWay_52 : decode cX11_bestWay 52 = .ok (.aload_n 1, 1) := by decide +kernel
theorem dX11_bestWay_53 : decode cX11_bestWay 53 = .ok (.iload 8, 2) := by decide +kernel
theorem dX11_bestWay_55 : decode cX11_bestWay 55 = .ok (.iload 9, 2) := by decide +kernel
theorem dX11_bestWay_57 : decode cX11_bestWay 57 = .ok (.iload 7, 2) := by decide +kernel
theorem dX11_bestWay_59 : decode cX11_bestWay 59 = .ok (.iconst 2, 1) := by decide +kernel
theorem dX11_bestWay_60 : decode cX11_bestWay 60 = .ok (.irem, 1) := by decide +kernel
theorem dX11_bestWay_61 : decode cX11_bestWay 61 = .ok (.ifCond .ne 7, 3) := by decide +kernel
theorem dX11_bestWay_64 : decode cX11_bestWay 64 = .ok (.iconst 1, 1) := by decide +kernel
theorem dX11_bestWay_65 : decode cX11_bestWay 65 = .ok (.goto 4, 3) := by decide +kernel
theorem dX11_bestWay_68 : decode cX11_bestWay 68 = .ok (.iconst 0, 1) := by decide +kernel
theorem dX11_bestWay_69 : decode cX11_bestWay 69 = .ok (.invokevirtual 87, 3) := by decide +kernel
theorem dX11_bestWay_72 : decode cX11_bestWay 72 = .ok (.iload_n 3, 1) := by decide +kernel
theorem dX11_bestWay_73 : decode cX11_bestWay 73 = .ok (.if_icmp .ne 46, 3) := by decide +kernel
theorem dX11_bestWay_76 : decode cX11_bestWay 76 = .ok (.aload_n 0, 1) := by decide +kernel
theorem dX11_bestWay_77 : decode cX11_bestWay 77 = .ok (.getfield 81, 3) := by decide +kernel
theorem dX11_bestWay_80 : decode cX11_bestWay 80 = .ok (.iload 5, 2) := by decide +kernel
theorem dX11_bestWay_82 : decode cX11_bestWay 82 = .ok (.if_icmp .lt 21, 3) := by decide +kernel
theorem dX11_bestWay_85 : decode cX11_bestWay 85 = .ok (.aload_n 0, 1) := by decide +kernel
theorem dX11_bestWay_86 : decode cX11_bestWay 86 = .ok (.getfield 81, 3) := by decide +kernel
theorem dX11_bestWay_89 : decode cX11_bestWay 89 = .ok (.iload 5, 2) := by decide +kernel
theorem dX11_bestWay_91 : decode cX11_bestWay 91 = .ok (.if_icmp .ne 28, 3) := by decide +kernel
theorem dX11_bestWay_94 : decode cX11_bestWay 94 = .ok (.aload_n 0, 1) := by decide +kernel
theorem dX11_bestWay_95 : decode cX11_bestWay 95 = .ok (.getfield 84, 3) := by decide +kernel
theorem dX11_bestWay_98 : decode cX11_bestWay 98 = .ok (.iload 6, 2) := by decide +kernel
theorem dX11_bestWay_100 : decode cX11_bestWay 100 = .ok (.if_icmp .ge 19, 3) := by decide +kernel
theorem dX11_bestWay_103 : decode cX11_bestWay 103 = .ok (.iload 7, 2) := by decide +kernel
theorem dX11_bestWay_105 : decode cX11_bestWay 105 = .ok (.istore 4, 2) := by decide +kernel
theorem dX11_bestWay_107 : decode cX11_bestWay 107 = .ok (.aload_n 0, 1) := by decide +kernel
theorem dX11_bestWay_108 : decode cX11_bestWay 108 = .ok (.getfield 81, 3) := by decide +kernel
theorem dX11_bestWay_111 : decode cX11_bestWay 111 = .ok (.istore 5, 2) := by decide +kernel
theorem dX11_bestWay_113 : decode cX11_bestWay 113 = .ok (.aload_n 0, 1) := by decide +kernel
theorem dX11_bestWay_114 : decode cX11_bestWay 114 = .ok (.getfield 84, 3) := by decide +kernel
theorem dX11_bestWay_117 : decode cX11_bestWay 117 = .ok (.istore 6, 2) := by decide +kernel
theorem dX11_bestWay_119 : decode cX11_bestWay 119 = .ok (.iinc 7 1, 3) := by decide +kernel
theorem dX11_bestWay_122 : decode cX11_bestWay 122 = .ok (.goto (-105), 3) := by decide +kernel
theorem dX11_bestWay_125 : decode cX11_bestWay 125 = .ok (.aload_n 0, 1) := by decide +kernel
theorem dX11_bestWay_126 : decode cX11_bestWay 126 = .ok (.iload 5, 2) := by decide +kernel
theorem dX11_bestWay_128 : decode cX11_bestWay 128 = .ok (.putfield 81, 3) := by decide +kernel
theorem dX11_bestWay_131 : decode cX11_bestWay 131 = .ok (.aload_n 0, 1) := by decide +kernel
theorem dX11_bestWay_132 : decode cX11_bestWay 132 = .ok (.iload 6, 2) := by decide +kernel
theorem dX11_bestWay_134 : decode cX11_bestWay 134 = .ok (.putfield 84, 3) := by decide +kernel
theorem dX11_bestWay_137 : decode cX11_bestWay 137 = .ok (.aload_n 0, 1) := by decide +kernel
theorem dX11_bestWay_138 : decode cX11_bestWay 138 = .ok (.iload 4, 2) := by decide +kernel
theorem dX11_bestWay_140 : decode cX11_bestWay 140 = .ok (.putfield 91, 3) := by decide +kernel
theorem dX11_bestWay_143 : decode cX11_bestWay 143 = .ok (.iload 4, 2) := by decide +kernel
theorem dX11_bestWay_145 : decode cX11_bestWay 145 = .ok (.ireturn, 1) := by decide +kernel
theorem dX11_targets_0 : decode cX11_targets 0 = .ok (.lconst 0, 1) := by decide +kernel
theorem dX11_targets_1 : decode cX11_targets 1 = .ok (.lstore_n 3, 1) := by decide +kernel
theorem dX11_targets_2 : decode cX11_targets 2 = .ok (.aload_n 1, 1) := by decide +kernel
theorem dX11_targets_3 : decode cX11_targets 3 = .ok (.bipush 6, 2) := by decide +kernel
theorem dX11_targets_5 : decode cX11_targets 5 = .ok (.iload_n 2, 1) := by decide +kernel
theorem dX11_targets_6 : decode cX11_targets 6 = .ok (.iadd, 1) := by decide +kernel
theorem dX11_targets_7 : decode cX11_targets 7 = .ok (.iaload, 1) := by decide +kernel
theorem dX11_targets_8 : decode cX11_targets 8 = .ok (.istore 5, 2) := by decide +kernel
theorem dX11_targets_10 : decode cX11_targets 10 = .ok (.iconst 0, 1) := by decide +kernel
theorem dX11_targets_11 : decode cX11_targets 11 = .ok (.istore 6, 2) := by decide +kernel
theorem dX11_targets_13 : decode cX11_targets 13 = .ok (.iload 6, 2) := by decide +kernel
theorem dX11_targets_15 : decode cX11_targets 15 = .ok (.bipush 96, 2) := by decide +kernel
theorem dX11_targets_17 : decode cX11_targets 17 = .ok (.if_icmp .ge 101, 3) := by decide +kernel
theorem dX11_targets_20 : decode cX11_targets 20 = .ok (.iload 5, 2) := by decide +kernel
theorem dX11_targets_22 : decode cX11_targets 22 = .ok (.ifCond .le 96, 3) := by decide +kernel
theorem dX11_targets_25 : decode cX11_targets 25 = .ok (.iload 6, 2) := by decide +kernel
theorem dX11_targets_27 : decode cX11_targets 27 = .ok (.bipush 48, 2) := by decide +kernel
theorem dX11_targets_29 : decode cX11_targets 29 = .ok (.idiv, 1) := by decide +kernel
theorem dX11_targets_30 : decode cX11_targets 30 = .ok (.istore 7, 2) := by decide +kernel
theorem dX11_targets_32 : decode cX11_targets 32 = .ok (.iload 6, 2) := by decide +kernel
theorem dX11_targets_34 : decode cX11_targets 34 = .ok (.iconst 2, 1) := by decide +kernel
theorem dX11_targets_35 : decode cX11_targets 35 = .ok (.idiv, 1) := by decide +kernel
theorem dX11_targets_36 : decode cX11_targets 36 = .ok (.bipush 24, 2) := by decide +kernel
theorem dX11_targets_38 : decode cX11_targets 38 = .ok (.irem, 1) := by decide +kernel
theorem dX11_targets_39 : decode cX11_targets 39 = .ok (.istore 8, 2) := by decide +kernel
theorem dX11_targets_41 : decode cX11_targets 41 = .ok (.iload 7, 2) := by decide +kernel
theorem dX11_targets_43 : decode cX11_targets 43 = .ok (.iload 8, 2) := by decide +kernel
theorem dX11_targets_45 : decode cX11_targets 45 = .ok (.invokestatic 77, 3) := by decide +kernel
theorem dX11_targets_48 : decode cX11_targets 48 = .ok (.iload_n 2, 1) := by decide +kernel
theorem dX11_targets_49 : decode cX11_targets 49 = .ok (.if_icmp .ne 27, 3) := by decide +kernel
theorem dX11_targets_52 : decode cX11_targets 52 = .ok (.aload_n 0, 1) := by decide +kernel
theorem dX11_targets_53 : decode cX11_targets 53 = .ok (.aload_n 1, 1) := by decide +kernel
theorem dX11_targets_54 : decode cX11_targets 54 = .ok (.iload 7, 2) := by decide +kernel
theorem dX11_targets_56 : decode cX11_targets 56 = .ok (.iload 8, 2) := by decide +kernel
theorem dX11_targets_58 : decode cX11_targets 58 = .ok (.iload 6, 2) := by decide +kernel
theorem dX11_targets_60 : decode cX11_targets 60 = .ok (.iconst 2, 1) := by decide +kernel
theorem dX11_targets_61 : decode cX11_targets 61 = .ok (.irem, 1) := by decide +kernel
theorem dX11_targets_62 : decode cX11_targets 62 = .ok (.ifCond .ne 7, 3) := by decide +kernel
theorem dX11_targets_65 : decode cX11_targets 65 = .ok (.iconst 1, 1) := by decide +kernel
theorem dX11_targets_66 : decode cX11_targets 66 = .ok (.goto 4, 3) := by decide +kernel
theorem dX11_targets_69 : decode cX11_targets 69 = .ok (.iconst 0, 1) := by decide +kernel
theorem dX11_targets_70 : decode cX11_targets 70 = .ok (.invokevirtual 87, 3) := by decide +kernel
theorem dX11_targets_73 : decode cX11_targets 73 = .ok (.goto 5, 3) := by decide +kernel
theorem dX11_targets_76 : decode cX11_targets 76 = .ok (.bipush (-105), 2) := by decide +kernel
theorem dX11_targets_78 : decode cX11_targets 78 = .ok (.istore 9, 2) := by decide +kernel
theorem dX11_targets_80 : decode cX11_targets 80 = .ok (.lload_n 3, 1) := by decide +kernel
theorem dX11_targets_81 : decode cX11_targets 81 = .ok (.iload 9, 2) := by decide +kernel
theorem dX11_targets_83 : decode cX11_targets 83 = .ok (.bipush (-105), 2) := by decide +kernel
theorem dX11_targets_85 : decode cX11_targets 85 = .ok (.if_icmp .eq 24, 3) := by decide +kernel
theorem dX11_targets_88 : decode cX11_targets 88 = .ok (.aload_n 1, 1) := by decide +kernel
theorem dX11_targets_89 : decode cX11_targets 89 = .ok (.bipush 6, 2) := by decide +kernel
theorem dX11_targets_91 : decode cX11_targets 91 = .ok (.iload 9, 2) := by decide +kernel
theorem dX11_targets_93 : decode cX11_targets 93 = .ok (.iadd, 1) := by decide +kernel
theorem dX11_targets_94 : decode cX11_targets 94 = .ok (.iaload, 1) := by decide +kernel
theorem dX11_targets_95 : decode cX11_targets 95 = .ok (.iconst 3, 1) := by decide +kernel
theorem dX11_targets_96 : decode cX11_targets 96 = .ok (.iload 5, 2) := by decide +kernel
theorem dX11_targets_98 : decode cX11_targets 98 = .ok (.isub, 1) := by decide +kernel
theorem dX11_targets_99 : decode cX11_targets 99 = .ok (.if_icmp .ne 10, 3) := by decide +kernel
theorem dX11_targets_102 : decode cX11_targets 102 = .ok (.lconst 1, 1) := by decide +kernel
theorem dX11_targets_103 : decode cX11_targets 103 = .ok (.iload 9, 2) := by decide +kernel
theorem dX11_targets_105 : decode cX11_targets 105 = .ok (.lshl, 1) := by decide +kernel
theorem dX11_targets_106 : decode cX11_targets 106 = .ok (.goto 4, 3) := by decide +kernel
theorem dX11_targets_109 : decode cX11_targets 109 = .ok (.lconst 0, 1) := by decide +kernel
theorem dX11_targets_110 : decode cX11_targets 110 = .ok (.lor, 1) := by decide +kernel
theorem dX11_targets_111 : decode cX11_targets 111 = .ok (.lstore_n 3, 1) := by decide +kernel
theorem dX11_targets_112 : decode cX11_targets 112 = .ok (.iinc 6 1, 3) := by decide +kernel
theorem dX11_targets_115 : decode cX11_targets 115 = .ok (.goto (-102), 3) := by decide +kernel
theorem dX11_targets_118 : decode cX11_targets 118 = .ok (.lload_n 3, 1) := by decide +kernel
theorem dX11_targets_119 : decode cX11_targets 119 = .ok (.lreturn, 1) := by decide +kernel
theorem dX11_isBeside_0 : decode cX11_isBeside 0 = .ok (.iload_n 0, 1) := by decide +kernel
theorem dX11_isBeside_1 : decode cX11_isBeside 1 = .ok (.bipush 6, 2) := by decide +kernel
theorem dX11_isBeside_3 : decode cX11_isBeside 3 = .ok (.irem, 1) := by decide +kernel
theorem dX11_isBeside_4 : decode cX11_isBeside 4 = .ok (.iload_n 1, 1) := by decide +kernel
theorem dX11_isBeside_5 : decode cX11_isBeside 5 = .ok (.bipush 6, 2) := by decide +kernel
theorem dX11_isBeside_7 : decode cX11_isBeside 7 = .ok (.irem, 1) := by decide +kernel
theorem dX11_isBeside_8 : decode cX11_isBeside 8 = .ok (.isub, 1) := by decide +kernel
theorem dX11_isBeside_9 : decode cX11_isBeside 9 = .ok (.istore_n 2, 1) := by decide +kernel
theorem dX11_isBeside_10 : decode cX11_isBeside 10 = .ok (.iload_n 0, 1) := by decide +kernel
theorem dX11_isBeside_11 : decode cX11_isBeside 11 = .ok (.bipush 6, 2) := by decide +kernel
theorem dX11_isBeside_13 : decode cX11_isBeside 13 = .ok (.idiv, 1) := by decide +kernel
theorem dX11_isBeside_14 : decode cX11_isBeside 14 = .ok (.iload_n 1, 1) := by decide +kernel
theorem dX11_isBeside_15 : decode cX11_isBeside 15 = .ok (.bipush 6, 2) := by decide +kernel
theorem dX11_isBeside_17 : decode cX11_isBeside 17 = .ok (.idiv, 1) := by decide +kernel
theorem dX11_isBeside_18 : decode cX11_isBeside 18 = .ok (.isub, 1) := by decide +kernel
theorem dX11_isBeside_19 : decode cX11_isBeside 19 = .ok (.istore_n 3, 1) := by decide +kernel
theorem dX11_isBeside_20 : decode cX11_isBeside 20 = .ok (.iload_n 0, 1) := by decide +kernel
theorem dX11_isBeside_21 : decode cX11_isBeside 21 = .ok (.iload_n 1, 1) := by decide +kernel
theorem dX11_isBeside_22 : decode cX11_isBeside 22 = .ok (.if_icmp .eq 25, 3) := by decide +kernel
theorem dX11_isBeside_25 : decode cX11_isBeside 25 = .ok (.iload_n 2, 1) := by decide +kernel
theorem dX11_isBeside_26 : decode cX11_isBeside 26 = .ok (.iconst (-1), 1) := by decide +kernel
theorem dX11_isBeside_27 : decode cX11_isBeside 27 = .ok (.iconst 1, 1) := by decide +kernel
theorem dX11_isBeside_28 : decode cX11_isBeside 28 = .ok (.invokestatic 41, 3) := by decide +kernel
theorem dX11_isBeside_31 : decode cX11_isBeside 31 = .ok (.ifCond .eq 16, 3) := by decide +kernel
theorem dX11_isBeside_34 : decode cX11_isBeside 34 = .ok (.iload_n 3, 1) := by decide +kernel
theorem dX11_isBeside_35 : decode cX11_isBeside 35 = .ok (.iconst (-1), 1) := by decide +kernel
theorem dX11_isBeside_36 : decode cX11_isBeside 36 = .ok (.iconst 1, 1) := by decide +kernel
theorem dX11_isBeside_37 : decode cX11_isBeside 37 = .ok (.invokestatic 41, 3) := by decide +kernel
theorem dX11_isBeside_40 : decode cX11_isBeside 40 = .ok (.ifCond .eq 7, 3) := by decide +kernel
theorem dX11_isBeside_43 : decode cX11_isBeside 43 = .ok (.iconst 1, 1) := by decide +kernel
theorem dX11_isBeside_44 : decode cX11_isBeside 44 = .ok (.goto 4, 3) := by decide +kernel
theorem dX11_isBeside_47 : decode cX11_isBeside 47 = .ok (.iconst 0, 1) := by decide +kernel
theorem dX11_isBeside_48 : decode cX11_isBeside 48 = .ok (.ireturn, 1) := by decide +kernel
theorem dX11_result_0 : decode cX11_result 0 = .ok (.aload_n 0, 1) := by decide +kernel
theorem dX11_result_1 : decode cX11_result 1 = .ok (.iconst 1, 1) := by decide +kernel
theorem dX11_result_2 : decode cX11_result 2 = .ok (.invokestatic 52, 3) := by decide +kernel
theorem dX11_result_5 : decode cX11_result 5 = .ok (.ifCond .le 7, 3) := by decide +kernel
theorem dX11_result_8 : decode cX11_result 8 = .ok (.iconst 1, 1) := by decide +kernel
theorem dX11_result_9 : decode cX11_result 9 = .ok (.goto 4, 3) := by decide +kernel
theorem dX11_result_12 : decode cX11_result 12 = .ok (.iconst 0, 1) := by decide +kernel
theorem dX11_result_13 : decode cX11_result 13 = .ok (.istore_n 1, 1) := by decide +kernel
theorem dX11_result_14 : decode cX11_result 14 = .ok (.aload_n 0, 1) := by decide +kernel
theorem dX11_result_15 : decode cX11_result 15 = .ok (.iconst 2, 1) := by decide +kernel
theorem dX11_result_16 : decode cX11_result 16 = .ok (.invokestatic 52, 3) := by decide +kernel
theorem dX11_result_19 : decode cX11_result 19 = .ok (.ifCond .le 7, 3) := by decide +kernel
theorem dX11_result_22 : decode cX11_result 22 = .ok (.iconst 1, 1) := by decide +kernel
theorem dX11_result_23 : decode cX11_result 23 = .ok (.goto 4, 3) := by decide +kernel
theorem dX11_result_26 : decode cX11_result 26 = .ok (.iconst 0, 1) := by decide +kernel
theorem dX11_result_27 : decode cX11_result 27 = .ok (.istore_n 2, 1) := by decide +kernel
theorem dX11_result_28 : decode cX11_result 28 = .ok (.iload_n 1, 1) := by decide +kernel
theorem dX11_result_29 : decode cX11_result 29 = .ok (.ifCond .eq 24, 3) := by decide +kernel
theorem dX11_result_32 : decode cX11_result 32 = .ok (.iload_n 2, 1) := by decide +kernel
theorem dX11_result_33 : decode cX11_result 33 = .ok (.ifCond .eq 20, 3) := by decide +kernel
theorem dX11_result_36 : decode cX11_result 36 = .ok (.aload_n 0, 1) := by decide +kernel
theorem dX11_result_37 : decode cX11_result 37 = .ok (.iconst 1, 1) := by decide +kernel
theorem dX11_result_38 : decode cX11_result 38 = .ok (.iaload, 1) := by decide +kernel
theorem dX11_result_39 : decode cX11_result 39 = .ok (.aload_n 0, 1) := by decide +kernel
theorem dX11_result_40 : decode cX11_result 40 = .ok (.iconst 4, 1) := by decide +kernel
theorem dX11_result_41 : decode cX11_result 41 = .ok (.iaload, 1) := by decide +kernel
theorem dX11_result_42 : decode cX11_result 42 = .ok (.if_icmp .lt 7, 3) := by decide +kernel
theorem dX11_result_45 : decode cX11_result 45 = .ok (.iconst 3, 1) := by decide +kernel
theorem dX11_result_46 : decode cX11_result 46 = .ok (.goto 24, 3) := by decide +kernel
theorem dX11_result_49 : decode cX11_result 49 = .ok (.iconst 0, 1) := by decide +kernel
theorem dX11_result_50 : decode cX11_result 50 = .ok (.goto 20, 3) := by decide +kernel
theorem dX11_result_53 : decode cX11_result 53 = .ok (.iload_n 1, 1) := by decide +kernel
theorem dX11_result_54 : decode cX11_result 54 = .ok (.ifCond .eq 7, 3) := by decide +kernel
theorem dX11_result_57 : decode cX11_result 57 = .ok (.iconst 1, 1) := by decide +kernel
theorem dX11_result_58 : decode cX11_result 58 = .ok (.goto 12, 3) := by decide +kernel
theorem dX11_result_61 : decode cX11_result 61 = .ok (.iload_n 2, 1) := by decide +kernel
theorem dX11_result_62 : decode cX11_result 62 = .ok (.ifCond .eq 7, 3) := by decide +kernel
theorem dX11_result_65 : decode cX11_result 65 = .ok (.iconst 2, 1) := by decide +kernel
theorem dX11_result_66 : decode cX11_result 66 = .ok (.goto 4, 3) := by decide +kernel
theorem dX11_result_69 : decode cX11_result 69 = .ok (.iconst 3, 1) := by decide +kernel
theorem dX11_result_70 : decode cX11_result 70 = .ok (.ireturn, 1) := by decide +kernel
theorem dX11_why_0 : decode cX11_why 0 = .ok (.aload_n 1, 1) := by decide +kernel
theorem dX11_why_1 : decode cX11_why 1 = .ok (.invokestatic 94, 3) := by decide +kernel
theorem dX11_why_4 : decode cX11_why 4 = .ok (.ifCond .le 5, 3) := by decide +kernel
theorem dX11_why_7 : decode cX11_why 7 = .ok (.iconst 1, 1) := by decide +kernel
theorem dX11_why_8 : decode cX11_why 8 = .ok (.ireturn, 1) := by decide +kernel
theorem dX11_why_9 : decode cX11_why 9 = .ok (.aload_n 1, 1) := by decide +kernel
theorem dX11_why_10 : decode cX11_why 10 = .ok (.bipush 6, 2) := by decide +kernel
theorem dX11_why_12 : decode cX11_why 12 = .ok (.iload_n 2, 1) := by decide +kernel
theorem dX11_why_13 : decode cX11_why 13 = .ok (.iadd, 1) := by decide +kernel
theorem dX11_why_14 : decode cX11_why 14 = .ok (.iaload, 1) := by decide +kernel
theorem dX11_why_15 : decode cX11_why 15 = .ok (.aload_n 1, 1) := by decide +kernel
theorem dX11_why_16 : decode cX11_why 16 = .ok (.iconst 0, 1) := by decide +kernel
theorem dX11_why_17 : decode cX11_why 17 = .ok (.iaload, 1) := by decide +kernel
theorem dX11_why_18 : decode cX11_why 18 = .ok (.if_icmp .eq 5, 3) := by decide +kernel
theorem dX11_why_21 : decode cX11_why 21 = .ok (.iconst 2, 1) := by decide +kernel
theorem dX11_why_22 : decode cX11_why 22 = .ok (.ireturn, 1) := by decide +kernel
theorem dX11_why_23 : decode cX11_why 23 = .ok (.aload_n 1, 1) := by decide +kernel
theorem dX11_why_24 : decode cX11_why 24 = .ok (.bipush 6, 2) := by decide +kernel
theorem dX11_why_26 : decode cX11_why 26 = .ok (.iload_n 3, 1) := by decide +kernel
theorem dX11_why_27 : decode cX11_why 27 = .ok (.iadd, 1) := by decide +kernel
theorem dX11_why_28 : decode cX11_why 28 = .ok (.iaload, 1) := by decide +kernel
theorem dX11_why_29 : decode cX11_why 29 = .ok (.aload_n 1, 1) := by decide +kernel
theorem dX11_why_30 : decode cX11_why 30 = .ok (.iconst 0, 1) := by decide +kernel
theorem dX11_why_31 : decode cX11_why 31 = .ok (.iaload, 1) := by decide +kernel
theorem dX11_why_32 : decode cX11_why 32 = .ok (.if_icmp .ne 5, 3) := by decide +kernel
theorem dX11_why_35 : decode cX11_why 35 = .ok (.iconst 3, 1) := by decide +kernel
theorem dX11_why_36 : decode cX11_why 36 = .ok (.ireturn, 1) := by decide +kernel
theorem dX11_why_37 : decode cX11_why 37 = .ok (.iload 4, 2) := by decide +kernel
theorem dX11_why_39 : decode cX11_why 39 = .ok (.ifCond .eq 26, 3) := by decide +kernel
theorem dX11_why_42 : decode cX11_why 42 = .ok (.aload_n 0, 1) := by decide +kernel
theorem dX11_why_43 : decode cX11_why 43 = .ok (.aload_n 1, 1) := by decide +kernel
theorem dX11_why_44 : decode cX11_why 44 = .ok (.iload_n 2, 1) := by decide +kernel
theorem dX11_why_45 : decode cX11_why 45 = .ok (.invokevirtual 98, 3) := by decide +kernel
theorem dX11_why_48 : decode cX11_why 48 = .ok (.iload_n 3, 1) := by decide +kernel
theorem dX11_why_49 : decode cX11_why 49 = .ok (.lshr, 1) := by decide +kernel
theorem dX11_why_50 : decode cX11_why 50 = .ok (.lconst 1, 1) := by decide +kernel
theorem dX11_why_51 : decode cX11_why 51 = .ok (.land, 1) := by decide +kernel
theorem dX11_why_52 : decode cX11_why 52 = .ok (.lconst 1, 1) := by decide +kernel
theorem dX11_why_53 : decode cX11_why 53 = .ok (.lcmp, 1) := by decide +kernel
theorem dX11_why_54 : decode cX11_why 54 = .ok (.ifCond .ne 7, 3) := by decide +kernel
theorem dX11_why_57 : decode cX11_why 57 = .ok (.iconst 1, 1) := by decide +kernel
theorem dX11_why_58 : decode cX11_why 58 = .ok (.goto 29, 3) := by decide +kernel
theorem dX11_why_61 : decode cX11_why 61 = .ok (.iconst 0, 1) := by decide +kernel
theorem dX11_why_62 : decode cX11_why 62 = .ok (.goto 25, 3) := by decide +kernel
theorem dX11_why_65 : decode cX11_why 65 = .ok (.aload_n 1, 1) := by decide +kernel
theorem dX11_why_66 : decode cX11_why 66 = .ok (.bipush 6, 2) := by decide +kernel
theorem dX11_why_68 : decode cX11_why 68 = .ok (.iload_n 3, 1) := by decide +kernel
theorem dX11_why_69 : decode cX11_why 69 = .ok (.iadd, 1) := by decide +kernel
theorem dX11_why_70 : decode cX11_why 70 = .ok (.iaload, 1) := by decide +kernel
theorem dX11_why_71 : decode cX11_why 71 = .ok (.ifCond .ne 15, 3) := by decide +kernel
theorem dX11_why_74 : decode cX11_why 74 = .ok (.iload_n 2, 1) := by decide +kernel
theorem dX11_why_75 : decode cX11_why 75 = .ok (.iload_n 3, 1) := by decide +kernel
theorem dX11_why_76 : decode cX11_why 76 = .ok (.invokestatic 102, 3) := by decide +kernel
theorem dX11_why_79 : decode cX11_why 79 = .ok (.ifCond .eq 7, 3) := by decide +kernel
theorem dX11_why_82 : decode cX11_why 82 = .ok (.iconst 1, 1) := by decide +kernel
theorem dX11_why_83 : decode cX11_why 83 = .ok (.goto 4, 3) := by decide +kernel
theorem dX11_why_86 : decode cX11_why 86 = .ok (.iconst 0, 1) := by decide +kernel
theorem dX11_why_87 : decode cX11_why 87 = .ok (.istore 5, 2) := by decide +kernel
theorem dX11_why_89 : decode cX11_why 89 = .ok (.iload 5, 2) := by decide +kernel
theorem dX11_why_91 : decode cX11_why 91 = .ok (.ifCond .eq 7, 3) := by decide +kernel
theorem dX11_why_94 : decode cX11_why 94 = .ok (.iconst 0, 1) := by decide +kernel
theorem dX11_why_95 : decode cX11_why 95 = .ok (.goto 4, 3) := by decide +kernel
theorem dX11_why_98 : decode cX11_why 98 = .ok (.iconst 4, 1) := by decide +kernel
theorem dX11_why_99 : decode cX11_why 99 = .ok (.ireturn, 1) := by decide +kernel
theorem dX11_makes_0 : decode cX11_makes 0 = .ok (.aload_n 0, 1) := by decide +kernel
theorem dX11_makes_1 : decode cX11_makes 1 = .ok (.bipush 6, 2) := by decide +kernel
theorem dX11_makes_3 : decode cX11_makes 3 = .ok (.iload_n 2, 1) := by decide +kernel
theorem dX11_makes_4 : decode cX11_makes 4 = .ok (.iadd, 1) := by decide +kernel
theorem dX11_makes_5 : decode cX11_makes 5 = .ok (.iaload, 1) := by decide +kernel
theorem dX11_makes_6 : decode cX11_makes 6 = .ok (.ifCond .le 7, 3) := by decide +kernel
theorem dX11_makes_9 : decode cX11_makes 9 = .ok (.iconst 1, 1) := by decide +kernel
theorem dX11_makes_10 : decode cX11_makes 10 = .ok (.goto 4, 3) := by decide +kernel
theorem dX11_makes_13 : decode cX11_makes 13 = .ok (.iconst 0, 1) := by decide +kernel
theorem dX11_makes_14 : decode cX11_makes 14 = .ok (.istore_n 3, 1) := by decide +kernel
theorem dX11_makes_15 : decode cX11_makes 15 = .ok (.aload_n 0, 1) := by decide +kernel
theorem dX11_makes_16 : decode cX11_makes 16 = .ok (.bipush 6, 2) := by decide +kernel
theorem dX11_makes_18 : decode cX11_makes 18 = .ok (.iload_n 2, 1) := by decide +kernel
theorem dX11_makes_19 : decode cX11_makes 19 = .ok (.iadd, 1) := by decide +kernel
theorem dX11_makes_20 : decode cX11_makes 20 = .ok (.aload_n 0, 1) := by decide +kernel
theorem dX11_makes_21 : decode cX11_makes 21 = .ok (.bipush 6, 2) := by decide +kernel
theorem dX11_makes_23 : decode cX11_makes 23 = .ok (.iload_n 1, 1) := by decide +kernel
theorem dX11_makes_24 : decode cX11_makes 24 = .ok (.iadd, 1) := by decide +kernel
theorem dX11_makes_25 : decode cX11_makes 25 = .ok (.iaload, 1) := by decide +kernel
theorem dX11_makes_26 : decode cX11_makes 26 = .ok (.iastore, 1) := by decide +kernel
theorem dX11_makes_27 : decode cX11_makes 27 = .ok (.aload_n 0, 1) := by decide +kernel
theorem dX11_makes_28 : decode cX11_makes 28 = .ok (.bipush 6, 2) := by decide +kernel
theorem dX11_makes_30 : decode cX11_makes 30 = .ok (.iload_n 1, 1) := by decide +kernel
theorem dX11_makes_31 : decode cX11_makes 31 = .ok (.iadd, 1) := by decide +kernel
theorem dX11_makes_32 : decode cX11_makes 32 = .ok (.iconst 0, 1) := by decide +kernel
theorem dX11_makes_33 : decode cX11_makes 33 = .ok (.iastore, 1) := by decide +kernel
theorem dX11_makes_34 : decode cX11_makes 34 = .ok (.aload_n 0, 1) := by decide +kernel
theorem dX11_makes_35 : decode cX11_makes 35 = .ok (.iconst 0, 1) := by decide +kernel
theorem dX11_makes_36 : decode cX11_makes 36 = .ok (.iconst 3, 1) := by decide +kernel
theorem dX11_makes_37 : decode cX11_makes 37 = .ok (.aload_n 0, 1) := by decide +kernel
theorem dX11_makes_38 : decode cX11_makes 38 = .ok (.iconst 0, 1) := by decide +kernel
theorem dX11_makes_39 : decode cX11_makes 39 = .ok (.iaload, 1) := by decide +kernel
theorem dX11_makes_40 : decode cX11_makes 40 = .ok (.isub, 1) := by decide +kernel
theorem dX11_makes_41 : decode cX11_makes 41 = .ok (.iastore, 1) := by decide +kernel
theorem dX11_makes_42 : decode cX11_makes 42 = .ok (.aload_n 0, 1) := by decide +kernel
theorem dX11_makes_43 : decode cX11_makes 43 = .ok (.iconst 2, 1) := by decide +kernel
theorem dX11_makes_44 : decode cX11_makes 44 = .ok (.dup2, 1) := by decide +kernel
theorem dX11_makes_45 : decode cX11_makes 45 = .ok (.iaload, 1) := by decide +kernel
theorem dX11_makes_46 : decode cX11_makes 46 = .ok (.iconst 1, 1) := by decide +kernel
theorem dX11_makes_47 : decode cX11_makes 47 = .ok (.iadd, 1) := by decide +kernel
theorem dX11_makes_48 : decode cX11_makes 48 = .ok (.iastore, 1) := by decide +kernel
theorem dX11_makes_49 : decode cX11_makes 49 = .ok (.iload_n 3, 1) := by decide +kernel
theorem dX11_makes_50 : decode cX11_makes 50 = .ok (.ifCond .eq 17, 3) := by decide +kernel
theorem dX11_makes_53 : decode cX11_makes 53 = .ok (.aload_n 0, 1) := by decide +kernel
theorem dX11_makes_54 : decode cX11_makes 54 = .ok (.iconst 3, 1) := by decide +kernel
theorem dX11_makes_55 : decode cX11_makes 55 = .ok (.dup2, 1) := by decide +kernel
theorem dX11_makes_56 : decode cX11_makes 56 = .ok (.iaload, 1) := by decide +kernel
theorem dX11_makes_57 : decode cX11_makes 57 = .ok (.iconst 1, 1) := by decide +kernel
theorem dX11_makes_58 : decode cX11_makes 58 = .ok (.iadd, 1) := by decide +kernel
theorem dX11_makes_59 : decode cX11_makes 59 = .ok (.iastore, 1) := by decide +kernel
theorem dX11_makes_60 : decode cX11_makes 60 = .ok (.aload_n 0, 1) := by decide +kernel
theorem dX11_makes_61 : decode cX11_makes 61 = .ok (.invokestatic 74, 3) := by decide +kernel
theorem dX11_makes_64 : decode cX11_makes 64 = .ok (.goto 14, 3) := by decide +kernel
theorem dX11_makes_67 : decode cX11_makes 67 = .ok (.aload_n 0, 1) := by decide +kernel
theorem dX11_makes_68 : decode cX11_makes 68 = .ok (.iconst 1, 1) := by decide +kernel
theorem dX11_makes_69 : decode cX11_makes 69 = .ok (.dup2, 1) := by decide +kernel
theorem dX11_makes_70 : decode cX11_makes 70 = .ok (.iaload, 1) := by decide +kernel
theorem dX11_makes_71 : decode cX11_makes 71 = .ok (.iconst 1, 1) := by decide +kernel
theorem dX11_makes_72 : decode cX11_makes 72 = .ok (.iadd, 1) := by decide +kernel
theorem dX11_makes_73 : decode cX11_makes 73 = .ok (.iastore, 1) := by decide +kernel
theorem dX11_makes_74 : decode cX11_makes 74 = .ok (.aload_n 0, 1) := by decide +kernel
theorem dX11_makes_75 : decode cX11_makes 75 = .ok (.invokestatic 70, 3) := by decide +kernel
theorem dX11_makes_78 : decode cX11_makes 78 = .ok (.return_, 1) := by decide +kernel
theorem dX11_moves_0 : decode cX11_moves 0 = .ok (.iload_n 1, 1) := by decide +kernel
theorem dX11_moves_1 : decode cX11_moves 1 = .ok (.invokestatic 106, 3) := by decide +kernel
theorem dX11_moves_4 : decode cX11_moves 4 = .ok (.ifCond .eq 10, 3) := by decide +kernel
theorem dX11_moves_7 : decode cX11_moves 7 = .ok (.iload_n 2, 1) := by decide +kernel
theorem dX11_moves_8 : decode cX11_moves 8 = .ok (.invokestatic 106, 3) := by decide +kernel
theorem dX11_moves_11 : decode cX11_moves 11 = .ok (.ifCond .ne 6, 3) := by decide +kernel
theorem dX11_moves_14 : decode cX11_moves 14 = .ok (.bipush (-101), 2) := by decide +kernel
theorem dX11_moves_16 : decode cX11_moves 16 = .ok (.ireturn, 1) := by decide +kernel
theorem dX11_moves_17 : decode cX11_moves 17 = .ok (.aload_n 0, 1) := by decide +kernel
theorem dX11_moves_18 : decode cX11_moves 18 = .ok (.aload_n 0, 1) := by decide +kernel
theorem dX11_moves_19 : decode cX11_moves 19 = .ok (.getfield 7, 3) := by decide +kernel
theorem dX11_moves_22 : decode cX11_moves 22 = .ok (.iload_n 1, 1) := by decide +kernel
theorem dX11_moves_23 : decode cX11_moves 23 = .ok (.iload_n 2, 1) := by decide +kernel
theorem dX11_moves_24 : decode cX11_moves 24 = .ok (.iload_n 3, 1) := by decide +kernel
theorem dX11_moves_25 : decode cX11_moves 25 = .ok (.invokevirtual 110, 3) := by decide +kernel
theorem dX11_moves_28 : decode cX11_moves 28 = .ok (.istore 4, 2) := by decide +kernel
theorem dX11_moves_30 : decode cX11_moves 30 = .ok (.iload 4, 2) := by decide +kernel
theorem dX11_moves_32 : decode cX11_moves 32 = .ok (.ifCond .le 9, 3) := by decide +kernel
theorem dX11_moves_35 : decode cX11_moves 35 = .ok (.bipush (-110), 2) := by decide +kernel
theorem dX11_moves_37 : decode cX11_moves 37 = .ok (.iload 4, 2) := by decide +kernel
theorem dX11_moves_39 : decode cX11_moves 39 = .ok (.isub, 1) := by decide +kernel
theorem dX11_moves_40 : decode cX11_moves 40 = .ok (.ireturn, 1) := by decide +kernel
theorem dX11_moves_41 : decode cX11_moves 41 = .ok (.aload_n 0, 1) := by decide +kernel
theorem dX11_moves_42 : decode cX11_moves 42 = .ok (.invokevirtual 64, 3) := by decide +kernel
theorem dX11_moves_45 : decode cX11_moves 45 = .ok (.aload_n 0, 1) := by decide +kernel
theorem dX11_moves_46 : decode cX11_moves 46 = .ok (.getfield 7, 3) := by decide +kernel
theorem dX11_moves_49 : decode cX11_moves 49 = .ok (.iload_n 1, 1) := by decide +kernel
theorem dX11_moves_50 : decode cX11_moves 50 = .ok (.iload_n 2, 1) := by decide +kernel
theorem dX11_moves_51 : decode cX11_moves 51 = .ok (.invokestatic 113, 3) := by decide +kernel
theorem dX11_moves_54 : decode cX11_moves 54 = .ok (.iload_n 3, 1) := by decide +kernel
theorem dX11_moves_55 : decode cX11_moves 55 = .ok (.ifCond .eq 19, 3) := by decide +kernel
theorem dX11_moves_58 : decode cX11_moves 58 = .ok (.aload_n 0, 1) := by decide +kernel
theorem dX11_moves_59 : decode cX11_moves 59 = .ok (.getfield 7, 3) := by decide +kernel
theorem dX11_moves_62 : decode cX11_moves 62 = .ok (.aload_n 0, 1) := by decide +kernel
theorem dX11_moves_63 : decode cX11_moves 63 = .ok (.getfield 7, 3) := by decide +kernel
theorem dX11_moves_66 : decode cX11_moves 66 = .ok (.iconst 0, 1) := by decide +kernel
theorem dX11_moves_67 : decode cX11_moves 67 = .ok (.iaload, 1) := by decide +kernel
theorem dX11_moves_68 : decode cX11_moves 68 = .ok (.invokestatic 52, 3) := by decide +kernel
theorem dX11_moves_71 : decode cX11_moves 71 = .ok (.goto 9, 3) := by decide +kernel
theorem dX11_moves_74 : decode cX11_moves 74 = .ok (.aload_n 0, 1) := by decide +kernel
theorem dX11_moves_75 : decode cX11_moves 75 = .ok (.getfield 7, 3) := by decide +kernel
theorem dX11_moves_78 : decode cX11_moves 78 = .ok (.iconst 1, 1) := by decide +kernel
theorem dX11_moves_79 : decode cX11_moves 79 = .ok (.iaload, 1) := by decide +kernel
theorem dX11_moves_80 : decode cX11_moves 80 = .ok (.ireturn, 1) := by decide +kernel
theorem dX11_move_0 : decode cX11_move 0 = .ok (.aload_n 0, 1) := by decide +kernel
theorem dX11_move_1 : decode cX11_move 1 = .ok (.iload_n 1, 1) := by decide +kernel
theorem dX11_move_2 : decode cX11_move 2 = .ok (.iload_n 2, 1) := by decide +kernel
theorem dX11_move_3 : decode cX11_move 3 = .ok (.iconst 0, 1) := by decide +kernel
theorem dX11_move_4 : decode cX11_move 4 = .ok (.invokevirtual 117, 3) := by decide +kernel
theorem dX11_move_7 : decode cX11_move 7 = .ok (.ireturn, 1) := by decide +kernel
theorem dX11_capture_0 : decode cX11_capture 0 = .ok (.aload_n 0, 1) := by decide +kernel
theorem dX11_capture_1 : decode cX11_capture 1 = .ok (.iload_n 1, 1) := by decide +kernel
theorem dX11_capture_2 : decode cX11_capture 2 = .ok (.iload_n 2, 1) := by decide +kernel
theorem dX11_capture_3 : decode cX11_capture 3 = .ok (.iconst 1, 1) := by decide +kernel
theorem dX11_capture_4 : decode cX11_capture 4 = .ok (.invokevirtual 117, 3) := by decide +kernel
theorem dX11_capture_7 : decode cX11_capture 7 = .ok (.ireturn, 1) := by decide +kernel
theorem dX11_ends_0 : decode cX11_ends 0 = .ok (.aload_n 1, 1) := by decide +kernel
theorem dX11_ends_1 : decode cX11_ends 1 = .ok (.bipush 6, 2) := by decide +kernel
theorem dX11_ends_3 : decode cX11_ends 3 = .ok (.iload_n 2, 1) := by decide +kernel
theorem dX11_ends_4 : decode cX11_ends 4 = .ok (.iadd, 1) := by decide +kernel
theorem dX11_ends_5 : decode cX11_ends 5 = .ok (.iaload, 1) := by decide +kernel
theorem dX11_ends_6 : decode cX11_ends 6 = .ok (.aload_n 1, 1) := by decide +kernel
theorem dX11_ends_7 : decode cX11_ends 7 = .ok (.iconst 0, 1) := by decide +kernel
theorem dX11_ends_8 : decode cX11_ends 8 = .ok (.iaload, 1) := by decide +kernel
theorem dX11_ends_9 : decode cX11_ends 9 = .ok (.if_icmp .eq 5, 3) := by decide +kernel
theorem dX11_ends_12 : decode cX11_ends 12 = .ok (.lconst 0, 1) := by decide +kernel
theorem dX11_ends_13 : decode cX11_ends 13 = .ok (.lreturn, 1) := by decide +kernel
theorem dX11_ends_14 : decode cX11_ends 14 = .ok (.iload_n 3, 1) := by decide +kernel
theorem dX11_ends_15 : decode cX11_ends 15 = .ok (.ifCond .eq 12, 3) := by decide +kernel
theorem dX11_ends_18 : decode cX11_ends 18 = .ok (.aload_n 0, 1) := by decide +kernel
theorem dX11_ends_19 : decode cX11_ends 19 = .ok (.aload_n 1, 1) := by decide +kernel
theorem dX11_ends_20 : decode cX11_ends 20 = .ok (.iload_n 2, 1) := by decide +kernel
theorem dX11_ends_21 : decode cX11_ends 21 = .ok (.invokevirtual 98, 3) := by decide +kernel
theorem dX11_ends_24 : decode cX11_ends 24 = .ok (.goto 4, 3) := by decide +kernel
theorem dX11_ends_27 : decode cX11_ends 27 = .ok (.lconst 0, 1) := by decide +kernel
theorem dX11_ends_28 : decode cX11_ends 28 = .ok (.lstore 4, 2) := by decide +kernel
theorem dX11_ends_30 : decode cX11_ends 30 = .ok (.iconst 0, 1) := by decide +kernel
theorem dX11_ends_31 : decode cX11_ends 31 = .ok (.istore 6, 2) := by decide +kernel
theorem dX11_ends_33 : decode cX11_ends 33 = .ok (.iload 6, 2) := by decide +kernel
theorem dX11_ends_35 : decode cX11_ends 35 = .ok (.bipush 36, 2) := by decide +kernel
theorem dX11_ends_37 : decode cX11_ends 37 = .ok (.if_icmp .ge 45, 3) := by decide +kernel
theorem dX11_ends_40 : decode cX11_ends 40 = .ok (.iload_n 3, 1) := by decide +kernel
theorem dX11_ends_41 : decode cX11_ends 41 = .ok (.ifCond .ne 41, 3) := by decide +kernel
theorem dX11_ends_44 : decode cX11_ends 44 = .ok (.lload 4, 2) := by decide +kernel
theorem dX11_ends_46 : decode cX11_ends 46 = .ok (.aload_n 1, 1) := by decide +kernel
theorem dX11_ends_47 : decode cX11_ends 47 = .ok (.bipush 6, 2) := by decide +kernel
theorem dX11_ends_49 : decode cX11_ends 49 = .ok (.iload 6, 2) := by decide +kernel
theorem dX11_ends_51 : decode cX11_ends 51 = .ok (.iadd, 1) := by decide +kernel
theorem dX11_ends_52 : decode cX11_ends 52 = .ok (.iaload, 1) := by decide +kernel
theorem dX11_ends_53 : decode cX11_ends 53 = .ok (.ifCond .ne 19, 3) := by decide +kernel
theorem dX11_ends_56 : decode cX11_ends 56 = .ok (.iload_n 2, 1) := by decide +kernel
theorem dX11_ends_57 : decode cX11_ends 57 = .ok (.iload 6, 2) := by decide +kernel
theorem dX11_ends_59 : decode cX11_ends 59 = .ok (.invokestatic 102, 3) := by decide +kernel
theorem dX11_ends_62 : decode cX11_ends 62 = .ok (.ifCond .eq 10, 3) := by decide +kernel
theorem dX11_ends_65 : decode cX11_ends 65 = .ok (.lconst 1, 1) := by decide +kernel
theorem dX11_ends_66 : decode cX11_ends 66 = .ok (.iload 6, 2) := by decide +kernel
theorem dX11_ends_68 : decode cX11_ends 68 = .ok (.lshl, 1) := by decide +kernel
theorem dX11_ends_69 : decode cX11_ends 69 = .ok (.goto 4, 3) := by decide +kernel
theorem dX11_ends_72 : decode cX11_ends 72 = .ok (.lconst 0, 1) := by decide +kernel
theorem dX11_ends_73 : decode cX11_ends 73 = .ok (.lor, 1) := by decide +kernel
theorem dX11_ends_74 : decode cX11_ends 74 = .ok (.lstore 4, 2) := by decide +kernel
theorem dX11_ends_76 : decode cX11_ends 76 = .ok (.iinc 6 1, 3) := by decide +kernel
theorem dX11_ends_79 : decode cX11_ends 79 = .ok (.goto (-46), 3) := by decide +kernel
theorem dX11_ends_82 : decode cX11_ends 82 = .ok (.lload 4, 2) := by decide +kernel
theorem dX11_ends_84 : decode cX11_ends 84 = .ok (.lreturn, 1) := by decide +kernel
theorem dX11_worth_0 : decode cX11_worth 0 = .ok (.aload_n 0, 1) := by decide +kernel
theorem dX11_worth_1 : decode cX11_worth 1 = .ok (.aload_n 0, 1) := by decide +kernel
theorem dX11_worth_2 : decode cX11_worth 2 = .ok (.iconst 0, 1) := by decide +kernel
theorem dX11_worth_3 : decode cX11_worth 3 = .ok (.iaload, 1) := by decide +kernel
theorem dX11_worth_4 : decode cX11_worth 4 = .ok (.invokestatic 52, 3) := by decide +kernel
theorem dX11_worth_7 : decode cX11_worth 7 = .ok (.aload_n 0, 1) := by decide +kernel
theorem dX11_worth_8 : decode cX11_worth 8 = .ok (.iconst 3, 1) := by decide +kernel
theorem dX11_worth_9 : decode cX11_worth 9 = .ok (.aload_n 0, 1) := by decide +kernel
theorem dX11_worth_10 : decode cX11_worth 10 = .ok (.iconst 0, 1) := by decide +kernel
theorem dX11_worth_11 : decode cX11_worth 11 = .ok (.iaload, 1) := by decide +kernel
theorem dX11_worth_12 : decode cX11_worth 12 = .ok (.isub, 1) := by decide +kernel
theorem dX11_worth_13 : decode cX11_worth 13 = .ok (.invokestatic 52, 3) := by decide +kernel
theorem dX11_worth_16 : decode cX11_worth 16 = .ok (.isub, 1) := by decide +kernel
theorem dX11_worth_17 : decode cX11_worth 17 = .ok (.ireturn, 1) := by decide +kernel
theorem dX11_deep_0 : decode cX11_deep 0 = .ok (.sipush (-1000), 3) := by decide +kernel
theorem dX11_deep_3 : decode cX11_deep 3 = .ok (.istore_n 2, 1) := by decide +kernel
theorem dX11_deep_4 : decode cX11_deep 4 = .ok (.iconst 0, 1) := by decide +kernel
theorem dX11_deep_5 : decode cX11_deep 5 = .ok (.istore_n 3, 1) := by decide +kernel
theorem dX11_deep_6 : decode cX11_deep 6 = .ok (.iload_n 3, 1) := by decide +kernel
theorem dX11_deep_7 : decode cX11_deep 7 = .ok (.bipush 72, 2) := by decide +kernel
theorem dX11_deep_9 : decode cX11_deep 9 = .ok (.if_icmp .ge 101, 3) := by decide +kernel
theorem dX11_deep_12 : decode cX11_deep 12 = .ok (.aload_n 1, 1) := by decide +kernel
theorem dX11_deep_13 : decode cX11_deep 13 = .ok (.invokestatic 94, 3) := by decide +kernel
theorem dX11_deep_16 : decode cX11_deep 16 = .ok (.ifCond .ne 94, 3) := by decide +kernel
theorem dX11_deep_19 : decode cX11_deep 19 = .ok (.iload_n 3, 1) := by decide +kernel
theorem dX11_deep_20 : decode cX11_deep 20 = .ok (.bipush 36, 2) := by decide +kernel
theorem dX11_deep_22 : decode cX11_deep 22 = .ok (.irem, 1) := by decide +kernel
theorem dX11_deep_23 : decode cX11_deep 23 = .ok (.istore 4, 2) := by decide +kernel
theorem dX11_deep_25 : decode cX11_deep 25 = .ok (.aload_n 0, 1) := by decide +kernel
theorem dX11_deep_26 : decode cX11_deep 26 = .ok (.aload_n 1, 1) := by decide +kernel
theorem dX11_deep_27 : decode cX11_deep 27 = .ok (.iload 4, 2) := by decide +kernel
theorem dX11_deep_29 : decode cX11_deep 29 = .ok (.iload_n 3, 1) := by decide +kernel
theorem dX11_deep_30 : decode cX11_deep 30 = .ok (.bipush 36, 2) := by decide +kernel
theorem dX11_deep_32 : decode cX11_deep 32 = .ok (.if_icmp .ge 7, 3) := by decide +kernel
theorem dX11_deep_35 : decode cX11_deep 35 = .ok (.iconst 1, 1) := by decide +kernel
theorem dX11_deep_36 : decode cX11_deep 36 = .ok (.goto 4, 3) := by decide +kernel
theorem dX11_deep_39 : decode cX11_deep 39 = .ok (.iconst 0, 1) := by decide +kernel
theorem dX11_deep_40 : decode cX11_deep 40 = .ok (.invokevirtual 121, 3) := by decide +kernel
theorem dX11_deep_43 : decode cX11_deep 43 = .ok (.lstore 5, 2) := by decide +kernel
theorem dX11_deep_45 : decode cX11_deep 45 = .ok (.iconst 0, 1) := by decide +kernel
theorem dX11_deep_46 : decode cX11_deep 46 = .ok (.istore 7, 2) := by decide +kernel
theorem dX11_deep_48 : decode cX11_deep 48 = .ok (.iload 7, 2) := by decide +kernel
theorem dX11_deep_50 : decode cX11_deep 50 = .ok (.bipush 36, 2) := by decide +kernel
theorem dX11_deep_52 : decode cX11_deep 52 = .ok (.if_icmp .ge 52, 3) := by decide +kernel
theorem dX11_deep_55 : decode cX11_deep 55 = .ok (.lload 5, 2) := by decide +kernel
theorem dX11_deep_57 : decode cX11_deep 57 = .ok (.iload 7, 2) := by decide +kernel
theorem dX11_deep_59 : decode cX11_deep 59 = .ok (.lshr, 1) := by decide +kernel
theorem dX11_deep_60 : decode cX11_deep 60 = .ok (.lconst 1, 1) := by decide +kernel
theorem dX11_deep_61 : decode cX11_deep 61 = .ok (.land, 1) := by decide +kernel
theorem dX11_deep_62 : decode cX11_deep 62 = .ok (.lconst 1, 1) := by decide +kernel
theorem dX11_deep_63 : decode cX11_deep 63 = .ok (.lcmp, 1) := by decide +kernel
theorem dX11_deep_64 : decode cX11_deep 64 = .ok (.ifCond .ne 34, 3) := by decide +kernel
theorem dX11_deep_67 : decode cX11_deep 67 = .ok (.aload_n 1, 1) := by decide +kernel
theorem dX11_deep_68 : decode cX11_deep 68 = .ok (.invokestatic 125, 3) := by decide +kernel
theorem dX11_deep_71 : decode cX11_deep 71 = .ok (.iload_n 3, 1) := by decide +kernel
theorem dX11_deep_72 : decode cX11_deep 72 = .ok (.bipush 36, 2) := by decide +kernel
theorem dX11_deep_74 : decode cX11_deep 74 = .ok (.if_icmp .ge 7, 3) := by decide +kernel
theorem dX11_deep_77 : decode cX11_deep 77 = .ok (.iconst 1, 1) := by decide +kernel
theorem dX11_deep_78 : decode cX11_deep 78 = .ok (.goto 4, 3) := by decide +kernel
theorem dX11_deep_81 : decode cX11_deep 81 = .ok (.iconst 0, 1) := by decide +kernel
theorem dX11_deep_82 : decode cX11_deep 82 = .ok (.iadd, 1) := by decide +kernel
theorem dX11_deep_83 : decode cX11_deep 83 = .ok (.istore 8, 2) := by decide +kernel
theorem dX11_deep_85 : decode cX11_deep 85 = .ok (.iload 8, 2) := by decide +kernel
theorem dX11_deep_87 : decode cX11_deep 87 = .ok (.iload_n 2, 1) := by decide +kernel
theorem dX11_deep_88 : decode cX11_deep 88 = .ok (.if_icmp .le 8, 3) := by decide +kernel
theorem dX11_deep_91 : decode cX11_deep 91 = .ok (.iload 8, 2) := by decide +kernel
theorem dX11_deep_93 : decode cX11_deep 93 = .ok (.goto 4, 3) := by decide +kernel
theorem dX11_deep_96 : decode cX11_deep 96 = .ok (.iload_n 2, 1) := by decide +kernel
theorem dX11_deep_97 : decode cX11_deep 97 = .ok (.istore_n 2, 1) := by decide +kernel
theorem dX11_deep_98 : decode cX11_deep 98 = .ok (.iinc 7 1, 3) := by decide +kernel
theorem dX11_deep_101 : decode cX11_deep 101 = .ok (.goto (-53), 3) := by decide +kernel
theorem dX11_deep_104 : decode cX11_deep 104 = .ok (.iinc 3 1, 3) := by decide +kernel
theorem dX11_deep_107 : decode cX11_deep 107 = .ok (.goto (-101), 3) := by decide +kernel
theorem dX11_deep_110 : decode cX11_deep 110 = .ok (.iload_n 2, 1) := by decide +kernel
theorem dX11_deep_111 : decode cX11_deep 111 = .ok (.sipush (-1000), 3) := by decide +kernel
theorem dX11_deep_114 : decode cX11_deep 114 = .ok (.if_icmp .ne 10, 3) := by decide +kernel
theorem dX11_deep_117 : decode cX11_deep 117 = .ok (.aload_n 1, 1) := by decide +kernel
theorem dX11_deep_118 : decode cX11_deep 118 = .ok (.invokestatic 125, 3) := by decide +kernel
theorem dX11_deep_121 : decode cX11_deep 121 = .ok (.goto 4, 3) := by decide +kernel
theorem dX11_deep_124 : decode cX11_deep 124 = .ok (.iload_n 2, 1) := by decide +kernel
theorem dX11_deep_125 : decode cX11_deep 125 = .ok (.ireturn, 1) := by decide +kernel
theorem dX11_bestOf_0 : decode cX11_bestOf 0 = .ok (.bipush (-105), 2) := by decide +kernel
theorem dX11_bestOf_2 : decode cX11_bestOf 2 = .ok (.istore_n 2, 1) := by decide +kernel
theorem dX11_bestOf_3 : decode cX11_bestOf 3 = .ok (.aload_n 0, 1) := by decide +kernel
theorem dX11_bestOf_4 : decode cX11_bestOf 4 = .ok (.aload_n 0, 1) := by decide +kernel
theorem dX11_bestOf_5 : decode cX11_bestOf 5 = .ok (.getfield 7, 3) := by decide +kernel
theorem dX11_bestOf_8 : decode cX11_bestOf 8 = .ok (.invokestatic 125, 3) := by decide +kernel
theorem dX11_bestOf_11 : decode cX11_bestOf 11 = .ok (.putfield 128, 3) := by decide +kernel
theorem dX11_bestOf_14 : decode cX11_bestOf 14 = .ok (.iconst 0, 1) := by decide +kernel
theorem dX11_bestOf_15 : decode cX11_bestOf 15 = .ok (.istore_n 3, 1) := by decide +kernel
theorem dX11_bestOf_16 : decode cX11_bestOf 16 = .ok (.iload_n 3, 1) := by decide +kernel
theorem dX11_bestOf_17 : decode cX11_bestOf 17 = .ok (.bipush 72, 2) := by decide +kernel
theorem dX11_bestOf_19 : decode cX11_bestOf 19 = .ok (.if_icmp .ge 185, 3) := by decide +kernel
theorem dX11_bestOf_22 : decode cX11_bestOf 22 = .ok (.aload_n 0, 1) := by decide +kernel
theorem dX11_bestOf_23 : decode cX11_bestOf 23 = .ok (.getfield 7, 3) := by decide +kernel
theorem dX11_bestOf_26 : decode cX11_bestOf 26 = .ok (.invokestatic 94, 3) := by decide +kernel
theorem dX11_bestOf_29 : decode cX11_bestOf 29 = .ok (.ifCond .ne 175, 3) := by decide +kernel
theorem dX11_bestOf_32 : decode cX11_bestOf 32 = .ok (.iload_n 3, 1) := by decide +kernel
theorem dX11_bestOf_33 : decode cX11_bestOf 33 = .ok (.bipush 36, 2) := by decide +kernel
theorem dX11_bestOf_35 : decode cX11_bestOf 35 = .ok (.irem, 1) := by decide +kernel
theorem dX11_bestOf_36 : decode cX11_bestOf 36 = .ok (.istore 4, 2) := by decide +kernel
theorem dX11_bestOf_38 : decode cX11_bestOf 38 = .ok (.aload_n 0, 1) := by decide +kernel
theorem dX11_bestOf_39 : decode cX11_bestOf 39 = .ok (.aload_n 0, 1) := by decide +kernel
theorem dX11_bestOf_40 : decode cX11_bestOf 40 = .ok (.getfield 7, 3) := by decide +kernel
theorem dX11_bestOf_43 : decode cX11_bestOf 43 = .ok (.iload 4, 2) := by decide +kernel
theorem dX11_bestOf_45 : decode cX11_bestOf 45 = .ok (.iload_n 3, 1) := by decide +kernel
theorem dX11_bestOf_46 : decode cX11_bestOf 46 = .ok (.bipush 36, 2) := by decide +kernel
theorem dX11_bestOf_48 : decode cX11_bestOf 48 = .ok (.if_icmp .ge 7, 3) := by decide +kernel
theorem dX11_bestOf_51 : decode cX11_bestOf 51 = .ok (.iconst 1, 1) := by decide +kernel
theorem dX11_bestOf_52 : decode cX11_bestOf 52 = .ok (.goto 4, 3) := by decide +kernel
theorem dX11_bestOf_55 : decode cX11_bestOf 55 = .ok (.iconst 0, 1) := by decide +kernel
theorem dX11_bestOf_56 : decode cX11_bestOf 56 = .ok (.invokevirtual 121, 3) := by decide +kernel
theorem dX11_bestOf_59 : decode cX11_bestOf 59 = .ok (.lstore 5, 2) := by decide +kernel
theorem dX11_bestOf_61 : decode cX11_bestOf 61 = .ok (.iconst 0, 1) := by decide +kernel
theorem dX11_bestOf_62 : decode cX11_bestOf 62 = .ok (.istore 7, 2) := by decide +kernel
theorem dX11_bestOf_64 : decode cX11_bestOf 64 = .ok (.iload 7, 2) := by decide +kernel
theorem dX11_bestOf_66 : decode cX11_bestOf 66 = .ok (.bipush 36, 2) := by decide +kernel
theorem dX11_bestOf_68 : decode cX11_bestOf 68 = .ok (.if_icmp .ge 130, 3) := by decide +kernel
theorem dX11_bestOf_71 : decode cX11_bestOf 71 = .ok (.lload 5, 2) := by decide +kernel
theorem dX11_bestOf_73 : decode cX11_bestOf 73 = .ok (.iload 7, 2) := by decide +kernel
theorem dX11_bestOf_75 : decode cX11_bestOf 75 = .ok (.lshr, 1) := by decide +kernel
theorem dX11_bestOf_76 : decode cX11_bestOf 76 = .ok (.lconst 1, 1) := by decide +kernel
theorem dX11_bestOf_77 : decode cX11_bestOf 77 = .ok (.land, 1) := by decide +kernel
theorem dX11_bestOf_78 : decode cX11_bestOf 78 = .ok (.lconst 1, 1) := by decide +kernel
theorem dX11_bestOf_79 : decode cX11_bestOf 79 = .ok (.lcmp, 1) := by decide +kernel
theorem dX11_bestOf_80 : decode cX11_bestOf 80 = .ok (.ifCond .ne 112, 3) := by decide +kernel
theorem dX11_bestOf_83 : decode cX11_bestOf 83 = .ok (.aload_n 0, 1) := by decide +kernel
theorem dX11_bestOf_84 : decode cX11_bestOf 84 = .ok (.getfield 7, 3) := by decide +kernel
theorem dX11_bestOf_87 : decode cX11_bestOf 87 = .ok (.iconst 0, 1) := by decide +kernel
theorem dX11_bestOf_88 : decode cX11_bestOf 88 = .ok (.aload_n 0, 1) := by decide +kernel
theorem dX11_bestOf_89 : decode cX11_bestOf 89 = .ok (.getfield 13, 3) := by decide +kernel
theorem dX11_bestOf_92 : decode cX11_bestOf 92 = .ok (.iconst 0, 1) := by decide +kernel
theorem dX11_bestOf_93 : decode cX11_bestOf 93 = .ok (.invokestatic 48, 3) := by decide +kernel
theorem dX11_bestOf_96 : decode cX11_bestOf 96 = .ok (.aload_n 0, 1) := by decide +kernel
theorem dX11_bestOf_97 : decode cX11_bestOf 97 = .ok (.getfield 13, 3) := by decide +kernel
theorem dX11_bestOf_100 : decode cX11_bestOf 100 = .ok (.iload 4, 2) := by decide +kernel
theorem dX11_bestOf_102 : decode cX11_bestOf 102 = .ok (.iload 7, 2) := by decide +kernel
theorem dX11_bestOf_104 : decode cX11_bestOf 104 = .ok (.invokestatic 113, 3) := by decide +kernel
theorem dX11_bestOf_107 : decode cX11_bestOf 107 = .ok (.iload_n 1, 1) := by decide +kernel
theorem dX11_bestOf_108 : decode cX11_bestOf 108 = .ok (.iconst 1, 1) := by decide +kernel
theorem dX11_bestOf_109 : decode cX11_bestOf 109 = .ok (.if_icmp .ne 14, 3) := by decide +kernel
theorem dX11_bestOf_112 : decode cX11_bestOf 112 = .ok (.aload_n 0, 1) := by decide +kernel
theorem dX11_bestOf_113 : decode cX11_bestOf 113 = .ok (.getfield 13, 3) := by decide +kernel
theorem dX11_bestOf_116 : decode cX11_bestOf 116 = .ok (.invokestatic 125, 3) := by decide +kernel
theorem dX11_bestOf_119 : decode cX11_bestOf 119 = .ok (.ineg, 1) := by decide +kernel
theorem dX11_bestOf_120 : decode cX11_bestOf 120 = .ok (.goto 12, 3) := by decide +kernel
theorem dX11_bestOf_123 : decode cX11_bestOf 123 = .ok (.aload_n 0, 1) := by decide +kernel
theorem dX11_bestOf_124 : decode cX11_bestOf 124 = .ok (.aload_n 0, 1) := by decide +kernel
theorem dX11_bestOf_125 : decode cX11_bestOf 125 = .ok (.getfield 13, 3) := by decide +kernel
theorem dX11_bestOf_128 : decode cX11_bestOf 128 = .ok (.invokevirtual 131, 3) := by decide +kernel
theorem dX11_bestOf_131 : decode cX11_bestOf 131 = .ok (.ineg, 1) := by decide +kernel
theorem dX11_bestOf_132 : decode cX11_bestOf 132 = .ok (.istore 8, 2) := by decide +kernel
theorem dX11_bestOf_134 : decode cX11_bestOf 134 = .ok (.iload_n 2, 1) := by decide +kernel
theorem dX11_bestOf_135 : decode cX11_bestOf 135 = .ok (.bipush (-105), 2) := by decide +kernel
theorem dX11_bestOf_137 : decode cX11_bestOf 137 = .ok (.if_icmp .eq 12, 3) := by decide +kernel
theorem dX11_bestOf_140 : decode cX11_bestOf 140 = .ok (.iload 8, 2) := by decide +kernel
theorem dX11_bestOf_142 : decode cX11_bestOf 142 = .ok (.aload_n 0, 1) := by decide +kernel
theorem dX11_bestOf_143 : decode cX11_bestOf 143 = .ok (.getfield 128, 3) := by decide +kernel
theorem dX11_bestOf_146 : decode cX11_bestOf 146 = .ok (.if_icmp .le 7, 3) := by decide +kernel
theorem dX11_bestOf_149 : decode cX11_bestOf 149 = .ok (.iconst 1, 1) := by decide +kernel
theorem dX11_bestOf_150 : decode cX11_bestOf 150 = .ok (.goto 4, 3) := by decide +kernel
theorem dX11_bestOf_153 : decode cX11_bestOf 153 = .ok (.iconst 0, 1) := by decide +kernel
theorem dX11_bestOf_154 : decode cX11_bestOf 154 = .ok (.istore 9, 2) := by decide +kernel
theorem dX11_bestOf_156 : decode cX11_bestOf 156 = .ok (.iload 9, 2) := by decide +kernel
theorem dX11_bestOf_158 : decode cX11_bestOf 158 = .ok (.ifCond .eq 14, 3) := by decide +kernel
theorem dX11_bestOf_161 : decode cX11_bestOf 161 = .ok (.bipush 100, 2) := by decide +kernel
theorem dX11_bestOf_163 : decode cX11_bestOf 163 = .ok (.iload 4, 2) := by decide +kernel
theorem dX11_bestOf_165 : decode cX11_bestOf 165 = .ok (.imul, 1) := by decide +kernel
theorem dX11_bestOf_166 : decode cX11_bestOf 166 = .ok (.iload 7, 2) := by decide +kernel
theorem dX11_bestOf_168 : decode cX11_bestOf 168 = .ok (.iadd, 1) := by decide +kernel
theorem dX11_bestOf_169 : decode cX11_bestOf 169 = .ok (.goto 4, 3) := by decide +kernel
theorem dX11_bestOf_172 : decode cX11_bestOf 172 = .ok (.iload_n 2, 1) := by decide +kernel
theorem dX11_bestOf_173 : decode cX11_bestOf 173 = .ok (.istore_n 2, 1) := by decide +kernel
theorem dX11_bestOf_174 : decode cX11_bestOf 174 = .ok (.aload_n 0, 1) := by decide +kernel
theorem dX11_bestOf_175 : decode cX11_bestOf 175 = .ok (.iload 9, 2) := by decide +kernel
theorem dX11_bestOf_177 : decode cX11_bestOf 177 = .ok (.ifCond .eq 8, 3) := by decide +kernel
theorem dX11_bestOf_180 : decode cX11_bestOf 180 = .ok (.iload 8, 2) := by decide +kernel
theorem dX11_bestOf_182 : decode cX11_bestOf 182 = .ok (.goto 7, 3) := by decide +kernel
theorem dX11_bestOf_185 : decode cX11_bestOf 185 = .ok (.aload_n 0, 1) := by decide +kernel
theorem dX11_bestOf_186 : decode cX11_bestOf 186 = .ok (.getfield 128, 3) := by decide +kernel
theorem dX11_bestOf_189 : decode cX11_bestOf 189 = .ok (.putfield 128, 3) := by decide +kernel
theorem dX11_bestOf_192 : decode cX11_bestOf 192 = .ok (.iinc 7 1, 3) := by decide +kernel
theorem dX11_bestOf_195 : decode cX11_bestOf 195 = .ok (.goto (-131), 3) := by decide +kernel
theorem dX11_bestOf_198 : decode cX11_bestOf 198 = .ok (.iinc 3 1, 3) := by decide +kernel
theorem dX11_bestOf_201 : decode cX11_bestOf 201 = .ok (.goto (-185), 3) := by decide +kernel
theorem dX11_bestOf_204 : decode cX11_bestOf 204 = .ok (.iload_n 2, 1) := by decide +kernel
theorem dX11_bestOf_205 : decode cX11_bestOf 205 = .ok (.ireturn, 1) := by decide +kernel
theorem dX11_play_0 : decode cX11_play 0 = .ok (.iload_n 1, 1) := by decide +kernel
theorem dX11_play_1 : decode cX11_play 1 = .ok (.iconst 1, 1) := by decide +kernel
theorem dX11_play_2 : decode cX11_play 2 = .ok (.iconst 2, 1) := by decide +kernel
theorem dX11_play_3 : decode cX11_play 3 = .ok (.invokestatic 41, 3) := by decide +kernel
theorem dX11_play_6 : decode cX11_play 6 = .ok (.ifCond .ne 6, 3) := by decide +kernel
theorem dX11_play_9 : decode cX11_play 9 = .ok (.bipush (-102), 2) := by decide +kernel
theorem dX11_play_11 : decode cX11_play 11 = .ok (.ireturn, 1) := by decide +kernel
theorem dX11_play_12 : decode cX11_play 12 = .ok (.aload_n 0, 1) := by decide +kernel
theorem dX11_play_13 : decode cX11_play 13 = .ok (.iload_n 1, 1) := by decide +kernel
theorem dX11_play_14 : decode cX11_play 14 = .ok (.invokevirtual 134, 3) := by decide +kernel
theorem dX11_play_17 : decode cX11_play 17 = .ok (.istore_n 2, 1) := by decide +kernel
theorem dX11_play_18 : decode cX11_play 18 = .ok (.iload_n 2, 1) := by decide +kernel
theorem dX11_play_19 : decode cX11_play 19 = .ok (.bipush (-105), 2) := by decide +kernel
theorem dX11_play_21 : decode cX11_play 21 = .ok (.if_icmp .ne 6, 3) := by decide +kernel
theorem dX11_play_24 : decode cX11_play 24 = .ok (.bipush (-104), 2) := by decide +kernel
theorem dX11_play_26 : decode cX11_play 26 = .ok (.ireturn, 1) := by decide +kernel
theorem dX11_play_27 : decode cX11_play 27 = .ok (.aload_n 0, 1) := by decide +kernel
theorem dX11_play_28 : decode cX11_play 28 = .ok (.invokevirtual 64, 3) := by decide +kernel
theorem dX11_play_31 : decode cX11_play 31 = .ok (.aload_n 0, 1) := by decide +kernel
theorem dX11_play_32 : decode cX11_play 32 = .ok (.getfield 7, 3) := by decide +kernel
theorem dX11_play_35 : decode cX11_play 35 = .ok (.iload_n 2, 1) := by decide +kernel
theorem dX11_play_36 : decode cX11_play 36 = .ok (.bipush 100, 2) := by decide +kernel
theorem dX11_play_38 : decode cX11_play 38 = .ok (.idiv, 1) := by decide +kernel
theorem dX11_play_39 : decode cX11_play 39 = .ok (.iload_n 2, 1) := by decide +kernel
theorem dX11_play_40 : decode cX11_play 40 = .ok (.bipush 100, 2) := by decide +kernel
theorem dX11_play_42 : decode cX11_play 42 = .ok (.irem, 1) := by decide +kernel
theorem dX11_play_43 : decode cX11_play 43 = .ok (.invokestatic 113, 3) := by decide +kernel
theorem dX11_play_46 : decode cX11_play 46 = .ok (.iload_n 2, 1) := by decide +kernel
theorem dX11_play_47 : decode cX11_play 47 = .ok (.ireturn, 1) := by decide +kernel
theorem dX11_setUp_0 : decode cX11_setUp 0 = .ok (.iload_n 1, 1) := by decide +kernel
theorem dX11_setUp_1 : decode cX11_setUp 1 = .ok (.invokestatic 106, 3) := by decide +kernel
theorem dX11_setUp_4 : decode cX11_setUp 4 = .ok (.ifCond .ne 6, 3) := by decide +kernel
theorem dX11_setUp_7 : decode cX11_setUp 7 = .ok (.bipush (-101), 2) := by decide +kernel
theorem dX11_setUp_9 : decode cX11_setUp 9 = .ok (.ireturn, 1) := by decide +kernel
theorem dX11_setUp_10 : decode cX11_setUp 10 = .ok (.iload_n 2, 1) := by decide +kernel
theorem dX11_setUp_11 : decode cX11_setUp 11 = .ok (.iconst 0, 1) := by decide +kernel
theorem dX11_setUp_12 : decode cX11_setUp 12 = .ok (.iconst 2, 1) := by decide +kernel
theorem dX11_setUp_13 : decode cX11_setUp 13 = .ok (.invokestatic 41, 3) := by decide +kernel
theorem dX11_setUp_16 : decode cX11_setUp 16 = .ok (.ifCond .ne 6, 3) := by decide +kernel
theorem dX11_setUp_19 : decode cX11_setUp 19 = .ok (.bipush (-102), 2) := by decide +kernel
theorem dX11_setUp_21 : decode cX11_setUp 21 = .ok (.ireturn, 1) := by decide +kernel
theorem dX11_setUp_22 : decode cX11_setUp 22 = .ok (.aload_n 0, 1) := by decide +kernel
theorem dX11_setUp_23 : decode cX11_setUp 23 = .ok (.getfield 7, 3) := by decide +kernel
theorem dX11_setUp_26 : decode cX11_setUp 26 = .ok (.bipush 6, 2) := by decide +kernel
theorem dX11_setUp_28 : decode cX11_setUp 28 = .ok (.iload_n 1, 1) := by decide +kernel
theorem dX11_setUp_29 : decode cX11_setUp 29 = .ok (.iadd, 1) := by decide +kernel
theorem dX11_setUp_30 : decode cX11_setUp 30 = .ok (.iaload, 1) := by decide +kernel
theorem dX11_setUp_31 : decode cX11_setUp 31 = .ok (.istore_n 3, 1) := by decide +kernel
theorem dX11_setUp_32 : decode cX11_setUp 32 = .ok (.iload_n 3, 1) := by decide +kernel
theorem dX11_setUp_33 : decode cX11_setUp 33 = .ok (.iload_n 2, 1) := by decide +kernel
theorem dX11_setUp_34 : decode cX11_setUp 34 = .ok (.if_icmp .ne 6, 3) := by decide +kernel
theorem dX11_setUp_37 : decode cX11_setUp 37 = .ok (.bipush (-105), 2) := by decide +kernel
theorem dX11_setUp_39 : decode cX11_setUp 39 = .ok (.ireturn, 1) := by decide +kernel
theorem dX11_setUp_40 : decode cX11_setUp 40 = .ok (.aload_n 0, 1) := by decide +kernel
theorem dX11_setUp_41 : decode cX11_setUp 41 = .ok (.invokevirtual 64, 3) := by decide +kernel
theorem dX11_setUp_44 : decode cX11_setUp 44 = .ok (.aload_n 0, 1) := by decide +kernel
theorem dX11_setUp_45 : decode cX11_setUp 45 = .ok (.getfield 7, 3) := by decide +kernel
theorem dX11_setUp_48 : decode cX11_setUp 48 = .ok (.bipush 6, 2) := by decide +kernel
theorem dX11_setUp_50 : decode cX11_setUp 50 = .ok (.iload_n 1, 1) := by decide +kernel
theorem dX11_setUp_51 : decode cX11_setUp 51 = .ok (.iadd, 1) := by decide +kernel
theorem dX11_setUp_52 : decode cX11_setUp 52 = .ok (.iload_n 2, 1) := by decide +kernel
theorem dX11_setUp_53 : decode cX11_setUp 53 = .ok (.iastore, 1) := by decide +kernel
theorem dX11_setUp_54 : decode cX11_setUp 54 = .ok (.aload_n 0, 1) := by decide +kernel
theorem dX11_setUp_55 : decode cX11_setUp 55 = .ok (.getfield 7, 3) := by decide +kernel
theorem dX11_setUp_58 : decode cX11_setUp 58 = .ok (.invokestatic 74, 3) := by decide +kernel
theorem dX11_setUp_61 : decode cX11_setUp 61 = .ok (.iload_n 3, 1) := by decide +kernel
theorem dX11_setUp_62 : decode cX11_setUp 62 = .ok (.ireturn, 1) := by decide +kernel
theorem dX11_turn_0 : decode cX11_turn 0 = .ok (.aload_n 0, 1) := by decide +kernel
theorem dX11_turn_1 : decode cX11_turn 1 = .ok (.invokevirtual 64, 3) := by decide +kernel
theorem dX11_turn_4 : decode cX11_turn 4 = .ok (.aload_n 0, 1) := by decide +kernel
theorem dX11_turn_5 : decode cX11_turn 5 = .ok (.getfield 7, 3) := by decide +kernel
theorem dX11_turn_8 : decode cX11_turn 8 = .ok (.iconst 0, 1) := by decide +kernel
theorem dX11_turn_9 : decode cX11_turn 9 = .ok (.iconst 3, 1) := by decide +kernel
theorem dX11_turn_10 : decode cX11_turn 10 = .ok (.aload_n 0, 1) := by decide +kernel
theorem dX11_turn_11 : decode cX11_turn 11 = .ok (.getfield 7, 3) := by decide +kernel
theorem dX11_turn_14 : decode cX11_turn 14 = .ok (.iconst 0, 1) := by decide +kernel
theorem dX11_turn_15 : decode cX11_turn 15 = .ok (.iaload, 1) := by decide +kernel
theorem dX11_turn_16 : decode cX11_turn 16 = .ok (.isub, 1) := by decide +kernel
theorem dX11_turn_17 : decode cX11_turn 17 = .ok (.iastore, 1) := by decide +kernel
theorem dX11_turn_18 : decode cX11_turn 18 = .ok (.aload_n 0, 1) := by decide +kernel
theorem dX11_turn_19 : decode cX11_turn 19 = .ok (.getfield 7, 3) := by decide +kernel
theorem dX11_turn_22 : decode cX11_turn 22 = .ok (.invokestatic 74, 3) := by decide +kernel
theorem dX11_turn_25 : decode cX11_turn 25 = .ok (.aload_n 0, 1) := by decide +kernel
theorem dX11_turn_26 : decode cX11_turn 26 = .ok (.getfield 7, 3) := by decide +kernel
theorem dX11_turn_29 : decode cX11_turn 29 = .ok (.iconst 0, 1) := by decide +kernel
theorem dX11_turn_30 : decode cX11_turn 30 = .ok (.iaload, 1) := by decide +kernel
theorem dX11_turn_31 : decode cX11_turn 31 = .ok (.ireturn, 1) := by decide +kernel
theorem dX11_begin_0 : decode cX11_begin 0 = .ok (.aload_n 0, 1) := by decide +kernel
theorem dX11_begin_1 : decode cX11_begin 1 = .ok (.invokevirtual 64, 3) := by decide +kernel
theorem dX11_begin_4 : decode cX11_begin 4 = .ok (.aload_n 0, 1) := by decide +kernel
theorem dX11_begin_5 : decode cX11_begin 5 = .ok (.invokevirtual 60, 3) := by decide +kernel
theorem dX11_begin_8 : decode cX11_begin 8 = .ok (.istore_n 1, 1) := by decide +kernel
theorem dX11_begin_9 : decode cX11_begin 9 = .ok (.aload_n 0, 1) := by decide +kernel
theorem dX11_begin_10 : decode cX11_begin 10 = .ok (.invokevirtual 38, 3) := by decide +kernel
theorem dX11_begin_13 : decode cX11_begin 13 = .ok (.iload_n 1, 1) := by decide +kernel
theorem dX11_begin_14 : decode cX11_begin 14 = .ok (.ireturn, 1) := by decide +kernel
theorem dX11_setLimit_0 : decode cX11_setLimit 0 = .ok (.iload_n 1, 1) := by decide +kernel
theorem dX11_setLimit_1 : decode cX11_setLimit 1 = .ok (.iconst 4, 1) := by decide +kernel
theorem dX11_setLimit_2 : decode cX11_setLimit 2 = .ok (.bipush 60, 2) := by decide +kernel
theorem dX11_setLimit_4 : decode cX11_setLimit 4 = .ok (.invokestatic 41, 3) := by decide +kernel
theorem dX11_setLimit_7 : decode cX11_setLimit 7 = .ok (.ifCond .ne 6, 3) := by decide +kernel
theorem dX11_setLimit_10 : decode cX11_setLimit 10 = .ok (.bipush (-102), 2) := by decide +kernel
theorem dX11_setLimit_12 : decode cX11_setLimit 12 = .ok (.ireturn, 1) := by decide +kernel
theorem dX11_setLimit_13 : decode cX11_setLimit 13 = .ok (.aload_n 0, 1) := by decide +kernel
theorem dX11_setLimit_14 : decode cX11_setLimit 14 = .ok (.getfield 7, 3) := by decide +kernel
theorem dX11_setLimit_17 : decode cX11_setLimit 17 = .ok (.iconst 4, 1) := by decide +kernel
theorem dX11_setLimit_18 : decode cX11_setLimit 18 = .ok (.iaload, 1) := by decide +kernel
theorem dX11_setLimit_19 : decode cX11_setLimit 19 = .ok (.istore_n 2, 1) := by decide +kernel
theorem dX11_setLimit_20 : decode cX11_setLimit 20 = .ok (.iload_n 2, 1) := by decide +kernel
theorem dX11_setLimit_21 : decode cX11_setLimit 21 = .ok (.iload_n 1, 1) := by decide +kernel
theorem dX11_setLimit_22 : decode cX11_setLimit 22 = .ok (.if_icmp .ne 6, 3) := by decide +kernel
theorem dX11_setLimit_25 : decode cX11_setLimit 25 = .ok (.bipush (-105), 2) := by decide +kernel
theorem dX11_setLimit_27 : decode cX11_setLimit 27 = .ok (.ireturn, 1) := by decide +kernel
theorem dX11_setLimit_28 : decode cX11_setLimit 28 = .ok (.aload_n 0, 1) := by decide +kernel
theorem dX11_setLimit_29 : decode cX11_setLimit 29 = .ok (.invokevirtual 64, 3) := by decide +kernel
theorem dX11_setLimit_32 : decode cX11_setLimit 32 = .ok (.aload_n 0, 1) := by decide +kernel
theorem dX11_setLimit_33 : decode cX11_setLimit 33 = .ok (.getfield 7, 3) := by decide +kernel
theorem dX11_setLimit_36 : decode cX11_setLimit 36 = .ok (.iconst 4, 1) := by decide +kernel
theorem dX11_setLimit_37 : decode cX11_setLimit 37 = .ok (.iload_n 1, 1) := by decide +kernel
theorem dX11_setLimit_38 : decode cX11_setLimit 38 = .ok (.iastore, 1) := by decide +kernel
theorem dX11_setLimit_39 : decode cX11_setLimit 39 = .ok (.iload_n 2, 1) := by decide +kernel
theorem dX11_setLimit_40 : decode cX11_setLimit 40 = .ok (.ireturn, 1) := by decide +kernel
theorem dX11_type_0 : decode cX11_type 0 = .ok (.aload_n 0, 1) := by decide +kernel
theorem dX11_type_1 : decode cX11_type 1 = .ok (.getfield 138, 3) := by decide +kernel
theorem dX11_type_4 : decode cX11_type 4 = .ok (.bipush 80, 2) := by decide +kernel
theorem dX11_type_6 : decode cX11_type 6 = .ok (.if_icmp .ne 6, 3) := by decide +kernel
theorem dX11_type_9 : decode cX11_type 9 = .ok (.bipush (-103), 2) := by decide +kernel
theorem dX11_type_11 : decode cX11_type 11 = .ok (.ireturn, 1) := by decide +kernel
theorem dX11_type_12 : decode cX11_type 12 = .ok (.aload_n 0, 1) := by decide +kernel
theorem dX11_type_13 : decode cX11_type 13 = .ok (.getfield 28, 3) := by decide +kernel
theorem dX11_type_16 : decode cX11_type 16 = .ok (.aload_n 0, 1) := by decide +kernel
theorem dX11_type_17 : decode cX11_type 17 = .ok (.getfield 138, 3) := by decide +kernel
theorem dX11_type_20 : decode cX11_type 20 = .ok (.iload_n 1, 1) := by decide +kernel
theorem dX11_type_21 : decode cX11_type 21 = .ok (.iastore, 1) := by decide +kernel
theorem dX11_type_22 : decode cX11_type 22 = .ok (.aload_n 0, 1) := by decide +kernel
theorem dX11_type_23 : decode cX11_type 23 = .ok (.dup, 1) := by decide +kernel
theorem dX11_type_24 : decode cX11_type 24 = .ok (.getfield 138, 3) := by decide +kernel
theorem dX11_type_27 : decode cX11_type 27 = .ok (.iconst 1, 1) := by decide +kernel
theorem dX11_type_28 : decode cX11_type 28 = .ok (.iadd, 1) := by decide +kernel
theorem dX11_type_29 : decode cX11_type 29 = .ok (.putfield 138, 3) := by decide +kernel
theorem dX11_type_32 : decode cX11_type 32 = .ok (.aload_n 0, 1) := by decide +kernel
theorem dX11_type_33 : decode cX11_type 33 = .ok (.getfield 138, 3) := by decide +kernel
theorem dX11_type_36 : decode cX11_type 36 = .ok (.ireturn, 1) := by decide +kernel
theorem dX11_clearText_0 : decode cX11_clearText 0 = .ok (.aload_n 0, 1) := by decide +kernel
theorem dX11_clearText_1 : decode cX11_clearText 1 = .ok (.getfield 138, 3) := by decide +kernel
theorem dX11_clearText_4 : decode cX11_clearText 4 = .ok (.istore_n 1, 1) := by decide +kernel
theorem dX11_clearText_5 : decode cX11_clearText 5 = .ok (.aload_n 0, 1) := by decide +kernel
theorem dX11_clearText_6 : decode cX11_clearText 6 = .ok (.iconst 0, 1) := by decide +kernel
theorem dX11_clearText_7 : decode cX11_clearText 7 = .ok (.putfield 138, 3) := by decide +kernel
theorem dX11_clearText_10 : decode cX11_clearText 10 = .ok (.iload_n 1, 1) := by decide +kernel
theorem dX11_clearText_11 : decode cX11_clearText 11 = .ok (.ireturn, 1) := by decide +kernel
theorem dX11_isAllowed_0 : decode cX11_isAllowed 0 = .ok (.iload_n 0, 1) := by decide +kernel
theorem dX11_isAllowed_1 : decode cX11_isAllowed 1 = .ok (.tableswitch 71 0 4 #[35, 44, 53, 35, 44], 35) := by decide +kernel
theorem dX11_isAllowed_36 : decode cX11_isAllowed 36 = .ok (.iload_n 1, 1) := by decide +kernel
theorem dX11_isAllowed_37 : decode cX11_isAllowed 37 = .ok (.bipush 97, 2) := by decide +kernel
theorem dX11_isAllowed_39 : decode cX11_isAllowed 39 = .ok (.bipush 102, 2) := by decide +kernel
theorem dX11_isAllowed_41 : decode cX11_isAllowed 41 = .ok (.invokestatic 41, 3) := by decide +kernel
theorem dX11_isAllowed_44 : decode cX11_isAllowed 44 = .ok (.ireturn, 1) := by decide +kernel
theorem dX11_isAllowed_45 : decode cX11_isAllowed 45 = .ok (.iload_n 1, 1) := by decide +kernel
theorem dX11_isAllowed_46 : decode cX11_isAllowed 46 = .ok (.bipush 49, 2) := by decide +kernel
theorem dX11_isAllowed_48 : decode cX11_isAllowed 48 = .ok (.bipush 54, 2) := by decide +kernel
theorem dX11_isAllowed_50 : decode cX11_isAllowed 50 = .ok (.invokestatic 41, 3) := by decide +kernel
theorem dX11_isAllowed_53 : decode cX11_isAllowed 53 = .ok (.ireturn, 1) := by decide +kernel
theorem dX11_isAllowed_54 : decode cX11_isAllowed 54 = .ok (.iload_n 1, 1) := by decide +kernel
theorem dX11_isAllowed_55 : decode cX11_isAllowed 55 = .ok (.bipush 45, 2) := by decide +kernel
theorem dX11_isAllowed_57 : decode cX11_isAllowed 57 = .ok (.if_icmp .eq 9, 3) := by decide +kernel
theorem dX11_isAllowed_60 : decode cX11_isAllowed 60 = .ok (.iload_n 1, 1) := by decide +kernel
theorem dX11_isAllowed_61 : decode cX11_isAllowed 61 = .ok (.bipush 120, 2) := by decide +kernel
theorem dX11_isAllowed_63 : decode cX11_isAllowed 63 = .ok (.if_icmp .ne 7, 3) := by decide +kernel
theorem dX11_isAllowed_66 : decode cX11_isAllowed 66 = .ok (.iconst 1, 1) := by decide +kernel
theorem dX11_isAllowed_67 : decode cX11_isAllowed 67 = .ok (.goto 4, 3) := by decide +kernel
theorem dX11_isAllowed_70 : decode cX11_isAllowed 70 = .ok (.iconst 0, 1) := by decide +kernel
theorem dX11_isAllowed_71 : decode cX11_isAllowed 71 = .ok (.ireturn, 1) := by decide +kernel
theorem dX11_isAllowed_72 : decode cX11_isAllowed 72 = .ok (.iload_n 1, 1) := by decide +kernel
theorem dX11_isAllowed_73 : decode cX11_isAllowed 73 = .ok (.bipush 59, 2) := by decide +kernel
theorem dX11_isAllowed_75 : decode cX11_isAllowed 75 = .ok (.if_icmp .ne 7, 3) := by decide +kernel
theorem dX11_isAllowed_78 : decode cX11_isAllowed 78 = .ok (.iconst 1, 1) := by decide +kernel
theorem dX11_isAllowed_79 : decode cX11_isAllowed 79 = .ok (.goto 4, 3) := by decide +kernel
theorem dX11_isAllowed_82 : decode cX11_isAllowed 82 = .ok (.iconst 0, 1) := by decide +kernel
theorem dX11_isAllowed_83 : decode cX11_isAllowed 83 = .ok (.ireturn, 1) := by decide +kernel
theorem dX11_isText_0 : decode cX11_isText 0 = .ok (.aload_n 0, 1) := by decide +kernel
theorem dX11_isText_1 : decode cX11_isText 1 = .ok (.iconst 0, 1) := by decide +kernel
theorem dX11_isText_2 : decode cX11_isText 2 = .ok (.putfield 141, 3) := by decide +kernel
theorem dX11_isText_5 : decode cX11_isText 5 = .ok (.aload_n 0, 1) := by decide +kernel
theorem dX11_isText_6 : decode cX11_isText 6 = .ok (.getfield 141, 3) := by decide +kernel
theorem dX11_isText_9 : decode cX11_isText 9 = .ok (.aload_n 0, 1) := by decide +kernel
theorem dX11_isText_10 : decode cX11_isText 10 = .ok (.getfield 138, 3) := by decide +kernel
theorem dX11_isText_13 : decode cX11_isText 13 = .ok (.if_icmp .ge 38, 3) := by decide +kernel
theorem dX11_isText_16 : decode cX11_isText 16 = .ok (.aload_n 0, 1) := by decide +kernel
theorem dX11_isText_17 : decode cX11_isText 17 = .ok (.getfield 141, 3) := by decide +kernel
theorem dX11_isText_20 : decode cX11_isText 20 = .ok (.bipush 6, 2) := by decide +kernel
theorem dX11_isText_22 : decode cX11_isText 22 = .ok (.irem, 1) := by decide +kernel
theorem dX11_isText_23 : decode cX11_isText 23 = .ok (.aload_n 0, 1) := by decide +kernel
theorem dX11_isText_24 : decode cX11_isText 24 = .ok (.getfield 28, 3) := by decide +kernel
theorem dX11_isText_27 : decode cX11_isText 27 = .ok (.aload_n 0, 1) := by decide +kernel
theorem dX11_isText_28 : decode cX11_isText 28 = .ok (.getfield 141, 3) := by decide +kernel
theorem dX11_isText_31 : decode cX11_isText 31 = .ok (.iaload, 1) := by decide +kernel
theorem dX11_isText_32 : decode cX11_isText 32 = .ok (.invokestatic 144, 3) := by decide +kernel
theorem dX11_isText_35 : decode cX11_isText 35 = .ok (.ifCond .eq 16, 3) := by decide +kernel
theorem dX11_isText_38 : decode cX11_isText 38 = .ok (.aload_n 0, 1) := by decide +kernel
theorem dX11_isText_39 : decode cX11_isText 39 = .ok (.dup, 1) := by decide +kernel
theorem dX11_isText_40 : decode cX11_isText 40 = .ok (.getfield 141, 3) := by decide +kernel
theorem dX11_isText_43 : decode cX11_isText 43 = .ok (.iconst 1, 1) := by decide +kernel
theorem dX11_isText_44 : decode cX11_isText 44 = .ok (.iadd, 1) := by decide +kernel
theorem dX11_isText_45 : decode cX11_isText 45 = .ok (.putfield 141, 3) := by decide +kernel
theorem dX11_isText_48 : decode cX11_isText 48 = .ok (.goto (-43), 3) := by decide +kernel
theorem dX11_isText_51 : decode cX11_isText 51 = .ok (.aload_n 0, 1) := by decide +kernel
theorem dX11_isText_52 : decode cX11_isText 52 = .ok (.getfield 141, 3) := by decide +kernel
theorem dX11_isText_55 : decode cX11_isText 55 = .ok (.aload_n 0, 1) := by decide +kernel
theorem dX11_isText_56 : decode cX11_isText 56 = .ok (.getfield 138, 3) := by decide +kernel
theorem dX11_isText_59 : decode cX11_isText 59 = .ok (.if_icmp .ne 18, 3) := by decide +kernel
theorem dX11_isText_62 : decode cX11_isText 62 = .ok (.aload_n 0, 1) := by decide +kernel
theorem dX11_isText_63 : decode cX11_isText 63 = .ok (.getfield 141, 3) := by decide +kernel
theorem dX11_isText_66 : decode cX11_isText 66 = .ok (.bipush 6, 2) := by decide +kernel
theorem dX11_isText_68 : decode cX11_isText 68 = .ok (.irem, 1) := by decide +kernel
theorem dX11_isText_69 : decode cX11_isText 69 = .ok (.iconst 5, 1) := by decide +kernel
theorem dX11_isText_70 : decode cX11_isText 70 = .ok (.if_icmp .ne 7, 3) := by decide +kernel
theorem dX11_isText_73 : decode cX11_isText 73 = .ok (.iconst 1, 1) := by decide +kernel
theorem dX11_isText_74 : decode cX11_isText 74 = .ok (.goto 4, 3) := by decide +kernel
theorem dX11_isText_77 : decode cX11_isText 77 = .ok (.iconst 0, 1) := by decide +kernel
theorem dX11_isText_78 : decode cX11_isText 78 = .ok (.ireturn, 1) := by decide +kernel
theorem dX11_toldPoint_0 : decode cX11_toldPoint 0 = .ok (.bipush 6, 2) := by decide +kernel
theorem dX11_toldPoint_2 : decode cX11_toldPoint 2 = .ok (.aload_n 0, 1) := by decide +kernel
theorem dX11_toldPoint_3 : decode cX11_toldPoint 3 = .ok (.getfield 28, 3) := by decide +kernel
theorem dX11_toldPoint_6 : decode cX11_toldPoint 6 = .ok (.iload_n 1, 1) := by decide +kernel
theorem dX11_toldPoint_7 : decode cX11_toldPoint 7 = .ok (.iconst 1, 1) := by decide +kernel
theorem dX11_toldPoint_8 : decode cX11_toldPoint 8 = .ok (.iadd, 1) := by decide +kernel
theorem dX11_toldPoint_9 : decode cX11_toldPoint 9 = .ok (.iaload, 1) := by decide +kernel
theorem dX11_toldPoint_10 : decode cX11_toldPoint 10 = .ok (.bipush 49, 2) := by decide +kernel
theorem dX11_toldPoint_12 : decode cX11_toldPoint 12 = .ok (.isub, 1) := by decide +kernel
theorem dX11_toldPoint_13 : decode cX11_toldPoint 13 = .ok (.imul, 1) := by decide +kernel
theorem dX11_toldPoint_14 : decode cX11_toldPoint 14 = .ok (.aload_n 0, 1) := by decide +kernel
theorem dX11_toldPoint_15 : decode cX11_toldPoint 15 = .ok (.getfield 28, 3) := by decide +kernel
theorem dX11_toldPoint_18 : decode cX11_toldPoint 18 = .ok (.iload_n 1, 1) := by decide +kernel
theorem dX11_toldPoint_19 : decode cX11_toldPoint 19 = .ok (.iaload, 1) := by decide +kernel
theorem dX11_toldPoint_20 : decode cX11_toldPoint 20 = .ok (.iadd, 1) := by decide +kernel
theorem dX11_toldPoint_21 : decode cX11_toldPoint 21 = .ok (.bipush 97, 2) := by decide +kernel
theorem dX11_toldPoint_23 : decode cX11_toldPoint 23 = .ok (.isub, 1) := by decide +kernel
theorem dX11_toldPoint_24 : decode cX11_toldPoint 24 = .ok (.ireturn, 1) := by decide +kernel
theorem dX11_perform_0 : decode cX11_perform 0 = .ok (.aload_n 0, 1) := by decide +kernel
theorem dX11_perform_1 : decode cX11_perform 1 = .ok (.invokevirtual 147, 3) := by decide +kernel
theorem dX11_perform_4 : decode cX11_perform 4 = .ok (.ifCond .ne 12, 3) := by decide +kernel
theorem dX11_perform_7 : decode cX11_perform 7 = .ok (.sipush (-200), 3) := by decide +kernel
theorem dX11_perform_10 : decode cX11_perform 10 = .ok (.aload_n 0, 1) := by decide +kernel
theorem dX11_perform_11 : decode cX11_perform 11 = .ok (.getfield 141, 3) := by decide +kernel
theorem dX11_perform_14 : decode cX11_perform 14 = .ok (.isub, 1) := by decide +kernel
theorem dX11_perform_15 : decode cX11_perform 15 = .ok (.ireturn, 1) := by decide +kernel
theorem dX11_perform_16 : decode cX11_perform 16 = .ok (.aload_n 0, 1) := by decide +kernel
theorem dX11_perform_17 : decode cX11_perform 17 = .ok (.getfield 7, 3) := by decide +kernel
theorem dX11_perform_20 : decode cX11_perform 20 = .ok (.iconst 0, 1) := by decide +kernel
theorem dX11_perform_21 : decode cX11_perform 21 = .ok (.aload_n 0, 1) := by decide +kernel
theorem dX11_perform_22 : decode cX11_perform 22 = .ok (.getfield 19, 3) := by decide +kernel
theorem dX11_perform_25 : decode cX11_perform 25 = .ok (.iconst 0, 1) := by decide +kernel
theorem dX11_perform_26 : decode cX11_perform 26 = .ok (.invokestatic 48, 3) := by decide +kernel
theorem dX11_perform_29 : decode cX11_perform 29 = .ok (.aload_n 0, 1) := by decide +kernel
theorem dX11_perform_30 : decode cX11_perform 30 = .ok (.getfield 138, 3) := by decide +kernel
theorem dX11_perform_33 : decode cX11_perform 33 = .ok (.iconst 1, 1) := by decide +kernel
theorem dX11_perform_34 : decode cX11_perform 34 = .ok (.iadd, 1) := by decide +kernel
theorem dX11_perform_35 : decode cX11_perform 35 = .ok (.bipush 6, 2) := by decide +kernel
theorem dX11_perform_37 : decode cX11_perform 37 = .ok (.idiv, 1) := by decide +kernel
theorem dX11_perform_38 : decode cX11_perform 38 = .ok (.istore_n 1, 1) := by decide +kernel
theorem dX11_perform_39 : decode cX11_perform 39 = .ok (.iconst 0, 1) := by decide +kernel
theorem dX11_perform_40 : decode cX11_perform 40 = .ok (.istore_n 2, 1) := by decide +kernel
theorem dX11_perform_41 : decode cX11_perform 41 = .ok (.iload_n 2, 1) := by decide +kernel
theorem dX11_perform_42 : decode cX11_perform 42 = .ok (.iload_n 1, 1) := by decide +kernel
theorem dX11_perform_43 : decode cX11_perform 43 = .ok (.if_icmp .ge 93, 3) := by decide +kernel
theorem dX11_perform_46 : decode cX11_perform 46 = .ok (.aload_n 0, 1) := by decide +kernel
theorem dX11_perform_47 : decode cX11_perform 47 = .ok (.bipush 6, 2) := by decide +kernel
theorem dX11_perform_49 : decode cX11_perform 49 = .ok (.iload_n 2, 1) := by decide +kernel
theorem dX11_perform_50 : decode cX11_perform 50 = .ok (.imul, 1) := by decide +kernel
theorem dX11_perform_51 : decode cX11_perform 51 = .ok (.invokevirtual 151, 3) := by decide +kernel
theorem dX11_perform_54 : decode cX11_perform 54 = .ok (.istore_n 3, 1) := by decide +kernel
theorem dX11_perform_55 : decode cX11_perform 55 = .ok (.aload_n 0, 1) := by decide +kernel
theorem dX11_perform_56 : decode cX11_perform 56 = .ok (.bipush 6, 2) := by decide +kernel
theorem dX11_perform_58 : decode cX11_perform 58 = .ok (.iload_n 2, 1) := by decide +kernel
theorem dX11_perform_59 : decode cX11_perform 59 = .ok (.imul, 1) := by decide +kernel
theorem dX11_perform_60 : decode cX11_perform 60 = .ok (.iconst 3, 1) := by decide +kernel
theorem dX11_perform_61 : decode cX11_perform 61 = .ok (.iadd, 1) := by decide +kernel
theorem dX11_perform_62 : decode cX11_perform 62 = .ok (.invokevirtual 151, 3) := by decide +kernel
theorem dX11_perform_65 : decode cX11_perform 65 = .ok (.istore 4, 2) := by decide +kernel
theorem dX11_perform_67 : decode cX11_perform 67 = .ok (.aload_n 0, 1) := by decide +kernel
theorem dX11_perform_68 : decode cX11_perform 68 = .ok (.aload_n 0, 1) := by decide +kernel
theorem dX11_perform_69 : decode cX11_perform 69 = .ok (.getfield 19, 3) := by decide +kernel
theorem dX11_perform_72 : decode cX11_perform 72 = .ok (.iload_n 3, 1) := by decide +kernel
theorem dX11_perform_73 : decode cX11_perform 73 = .ok (.iload 4, 2) := by decide +kernel
theorem dX11_perform_75 : decode cX11_perform 75 = .ok (.aload_n 0, 1) := by decide +kernel
theorem dX11_perform_76 : decode cX11_perform 76 = .ok (.getfield 28, 3) := by decide +kernel
theorem dX11_perform_79 : decode cX11_perform 79 = .ok (.bipush 6, 2) := by decide +kernel
theorem dX11_perform_81 : decode cX11_perform 81 = .ok (.iload_n 2, 1) := by decide +kernel
theorem dX11_perform_82 : decode cX11_perform 82 = .ok (.imul, 1) := by decide +kernel
theorem dX11_perform_83 : decode cX11_perform 83 = .ok (.iconst 2, 1) := by decide +kernel
theorem dX11_perform_84 : decode cX11_perform 84 = .ok (.iadd, 1) := by decide +kernel
theorem dX11_perform_85 : decode cX11_perform 85 = .ok (.iaload, 1) := by decide +kernel
theorem dX11_perform_86 : decode cX11_perform 86 = .ok (.bipush 120, 2) := by decide +kernel
theorem dX11_perform_88 : decode cX11_perform 88 = .ok (.if_icmp .ne 7, 3) := by decide +kernel
theorem dX11_perform_91 : decode cX11_perform 91 = .ok (.iconst 1, 1) := by decide +kernel
theorem dX11_perform_92 : decode cX11_perform 92 = .ok (.goto 4, 3) := by decide +kernel
theorem dX11_perform_95 : decode cX11_perform 95 = .ok (.iconst 0, 1) := by decide +kernel
theorem dX11_perform_96 : decode cX11_perform 96 = .ok (.invokevirtual 110, 3) := by decide +kernel
theorem dX11_perform_99 : decode cX11_perform 99 = .ok (.istore 5, 2) := by decide +kernel
theorem dX11_perform_101 : decode cX11_perform 101 = .ok (.iload 5, 2) := by decide +kernel
theorem dX11_perform_103 : decode cX11_perform 103 = .ok (.ifCond .le 17, 3) := by decide +kernel
theorem dX11_perform_106 : decode cX11_perform 106 = .ok (.aload_n 0, 1) := by decide +kernel
theorem dX11_perform_107 : decode cX11_perform 107 = .ok (.iload_n 2, 1) := by decide +kernel
theorem dX11_perform_108 : decode cX11_perform 108 = .ok (.putfield 31, 3) := by decide +kernel
theorem dX11_perform_111 : decode cX11_perform 111 = .ok (.aload_n 0, 1) := by decide +kernel
theorem dX11_perform_112 : decode cX11_perform 112 = .ok (.iload 5, 2) := by decide +kernel
theorem dX11_perform_114 : decode cX11_perform 114 = .ok (.putfield 35, 3) := by decide +kernel
theorem dX11_perform_117 : decode cX11_perform 117 = .ok (.bipush (-104), 2) := by decide +kernel
theorem dX11_perform_119 : decode cX11_perform 119 = .ok (.ireturn, 1) := by decide +kernel
theorem dX11_perform_120 : decode cX11_perform 120 = .ok (.aload_n 0, 1) := by decide +kernel
theorem dX11_perform_121 : decode cX11_perform 121 = .ok (.getfield 19, 3) := by decide +kernel
theorem dX11_perform_124 : decode cX11_perform 124 = .ok (.iload_n 3, 1) := by decide +kernel
theorem dX11_perform_125 : decode cX11_perform 125 = .ok (.iload 4, 2) := by decide +kernel
theorem dX11_perform_127 : decode cX11_perform 127 = .ok (.invokestatic 113, 3) := by decide +kernel
theorem dX11_perform_130 : decode cX11_perform 130 = .ok (.iinc 2 1, 3) := by decide +kernel
theorem dX11_perform_133 : decode cX11_perform 133 = .ok (.goto (-92), 3) := by decide +kernel
theorem dX11_perform_136 : decode cX11_perform 136 = .ok (.aload_n 0, 1) := by decide +kernel
theorem dX11_perform_137 : decode cX11_perform 137 = .ok (.invokevirtual 64, 3) := by decide +kernel
theorem dX11_perform_140 : decode cX11_perform 140 = .ok (.aload_n 0, 1) := by decide +kernel
theorem dX11_perform_141 : decode cX11_perform 141 = .ok (.getfield 19, 3) := by decide +kernel
theorem dX11_perform_144 : decode cX11_perform 144 = .ok (.iconst 0, 1) := by decide +kernel
theorem dX11_perform_145 : decode cX11_perform 145 = .ok (.aload_n 0, 1) := by decide +kernel
theorem dX11_perform_146 : decode cX11_perform 146 = .ok (.getfield 7, 3) := by decide +kernel
theorem dX11_perform_149 : decode cX11_perform 149 = .ok (.iconst 0, 1) := by decide +kernel
theorem dX11_perform_150 : decode cX11_perform 150 = .ok (.invokestatic 48, 3) := by decide +kernel
theorem dX11_perform_153 : decode cX11_perform 153 = .ok (.iload_n 1, 1) := by decide +kernel
theorem dX11_perform_154 : decode cX11_perform 154 = .ok (.ireturn, 1) := by decide +kernel
theorem dX11_stopped_0 : decode cX11_stopped 0 = .ok (.iload_n 1, 1) := by decide +kernel
theorem dX11_stopped_1 : decode cX11_stopped 1 = .ok (.ifCond .ne 10, 3) := by decide +kernel
theorem dX11_stopped_4 : decode cX11_stopped 4 = .ok (.aload_n 0, 1) := by decide +kernel
theorem dX11_stopped_5 : decode cX11_stopped 5 = .ok (.getfield 31, 3) := by decide +kernel
theorem dX11_stopped_8 : decode cX11_stopped 8 = .ok (.goto 17, 3) := by decide +kernel
theorem dX11_stopped_11 : decode cX11_stopped 11 = .ok (.iload_n 1, 1) := by decide +kernel
theorem dX11_stopped_12 : decode cX11_stopped 12 = .ok (.iconst 1, 1) := by decide +kernel
theorem dX11_stopped_13 : decode cX11_stopped 13 = .ok (.if_icmp .ne 10, 3) := by decide +kernel
theorem dX11_stopped_16 : decode cX11_stopped 16 = .ok (.aload_n 0, 1) := by decide +kernel
theorem dX11_stopped_17 : decode cX11_stopped 17 = .ok (.getfield 35, 3) := by decide +kernel
theorem dX11_stopped_20 : decode cX11_stopped 20 = .ok (.goto 5, 3) := by decide +kernel
theorem dX11_stopped_23 : decode cX11_stopped 23 = .ok (.bipush (-102), 2) := by decide +kernel
theorem dX11_stopped_25 : decode cX11_stopped 25 = .ok (.ireturn, 1) := by decide +kernel
theorem dX11_captors_0 : decode cX11_captors 0 = .ok (.iconst 0, 1) := by decide +kernel
theorem dX11_captors_1 : decode cX11_captors 1 = .ok (.istore 4, 2) := by decide +kernel
theorem dX11_captors_3 : decode cX11_captors 3 = .ok (.iconst 0, 1) := by decide +kernel
theorem dX11_captors_4 : decode cX11_captors 4 = .ok (.istore 5, 2) := by decide +kernel
theorem dX11_captors_6 : decode cX11_captors 6 = .ok (.iload 5, 2) := by decide +kernel
theorem dX11_captors_8 : decode cX11_captors 8 = .ok (.bipush 36, 2) := by decide +kernel
theorem dX11_captors_10 : decode cX11_captors 10 = .ok (.if_icmp .ge 46, 3) := by decide +kernel
theorem dX11_captors_13 : decode cX11_captors 13 = .ok (.iload 4, 2) := by decide +kernel
theorem dX11_captors_15 : decode cX11_captors 15 = .ok (.aload_n 1, 1) := by decide +kernel
theorem dX11_captors_16 : decode cX11_captors 16 = .ok (.bipush 6, 2) := by decide +kernel
theorem dX11_captors_18 : decode cX11_captors 18 = .ok (.iload 5, 2) := by decide +kernel
theorem dX11_captors_20 : decode cX11_captors 20 = .ok (.iadd, 1) := by decide +kernel
theorem dX11_captors_21 : decode cX11_captors 21 = .ok (.iaload, 1) := by decide +kernel
theorem dX11_captors_22 : decode cX11_captors 22 = .ok (.iload_n 3, 1) := by decide +kernel
theorem dX11_captors_23 : decode cX11_captors 23 = .ok (.if_icmp .ne 23, 3) := by decide +kernel
theorem dX11_captors_26 : decode cX11_captors 26 = .ok (.aload_n 0, 1) := by decide +kernel
theorem dX11_captors_27 : decode cX11_captors 27 = .ok (.aload_n 1, 1) := by decide +kernel
theorem dX11_captors_28 : decode cX11_captors 28 = .ok (.iload 5, 2) := by decide +kernel
theorem dX11_captors_30 : decode cX11_captors 30 = .ok (.invokevirtual 98, 3) := by decide +kernel
theorem dX11_captors_33 : decode cX11_captors 33 = .ok (.iload_n 2, 1) := by decide +kernel
theorem dX11_captors_34 : decode cX11_captors 34 = .ok (.lshr, 1) := by decide +kernel
theorem dX11_captors_35 : decode cX11_captors 35 = .ok (.lconst 1, 1) := by decide +kernel
theorem dX11_captors_36 : decode cX11_captors 36 = .ok (.land, 1) := by decide +kernel
theorem dX11_captors_37 : decode cX11_captors 37 = .ok (.lconst 1, 1) := by decide +kernel
theorem dX11_captors_38 : decode cX11_captors 38 = .ok (.lcmp, 1) := by decide +kernel
theorem dX11_captors_39 : decode cX11_captors 39 = .ok (.ifCond .ne 7, 3) := by decide +kernel
theorem dX11_captors_42 : decode cX11_captors 42 = .ok (.iconst 1, 1) := by decide +kernel
theorem dX11_captors_43 : decode cX11_captors 43 = .ok (.goto 4, 3) := by decide +kernel
theorem dX11_captors_46 : decode cX11_captors 46 = .ok (.iconst 0, 1) := by decide +kernel
theorem dX11_captors_47 : decode cX11_captors 47 = .ok (.iadd, 1) := by decide +kernel
theorem dX11_captors_48 : decode cX11_captors 48 = .ok (.istore 4, 2) := by decide +kernel
theorem dX11_captors_50 : decode cX11_captors 50 = .ok (.iinc 5 1, 3) := by decide +kernel
theorem dX11_captors_53 : decode cX11_captors 53 = .ok (.goto (-47), 3) := by decide +kernel
theorem dX11_captors_56 : decode cX11_captors 56 = .ok (.iload 4, 2) := by decide +kernel
theorem dX11_captors_58 : decode cX11_captors 58 = .ok (.ireturn, 1) := by decide +kernel
theorem dX11_ones_0 : decode cX11_ones 0 = .ok (.iconst 0, 1) := by decide +kernel
theorem dX11_ones_1 : decode cX11_ones 1 = .ok (.istore_n 2, 1) := by decide +kernel
theorem dX11_ones_2 : decode cX11_ones 2 = .ok (.lload_n 0, 1) := by decide +kernel
theorem dX11_ones_3 : decode cX11_ones 3 = .ok (.lstore_n 3, 1) := by decide +kernel
theorem dX11_ones_4 : decode cX11_ones 4 = .ok (.lload_n 3, 1) := by decide +kernel
theorem dX11_ones_5 : decode cX11_ones 5 = .ok (.lconst 0, 1) := by decide +kernel
theorem dX11_ones_6 : decode cX11_ones 6 = .ok (.lcmp, 1) := by decide +kernel
theorem dX11_ones_7 : decode cX11_ones 7 = .ok (.ifCond .eq 15, 3) := by decide +kernel
theorem dX11_ones_10 : decode cX11_ones 10 = .ok (.iinc 2 1, 3) := by decide +kernel
theorem dX11_ones_13 : decode cX11_ones 13 = .ok (.lload_n 3, 1) := by decide +kernel
theorem dX11_ones_14 : decode cX11_ones 14 = .ok (.lload_n 3, 1) := by decide +kernel
theorem dX11_ones_15 : decode cX11_ones 15 = .ok (.lconst 1, 1) := by decide +kernel
theorem dX11_ones_16 : decode cX11_ones 16 = .ok (.lsub, 1) := by decide +kernel
theorem dX11_ones_17 : decode cX11_ones 17 = .ok (.land, 1) := by decide +kernel
theorem dX11_ones_18 : decode cX11_ones 18 = .ok (.lstore_n 3, 1) := by decide +kernel
theorem dX11_ones_19 : decode cX11_ones 19 = .ok (.goto (-15), 3) := by decide +kernel
theorem dX11_ones_22 : decode cX11_ones 22 = .ok (.iload_n 2, 1) := by decide +kernel
theorem dX11_ones_23 : decode cX11_ones 23 = .ok (.ireturn, 1) := by decide +kernel
theorem dX11_covered_0 : decode cX11_covered 0 = .ok (.aload_n 0, 1) := by decide +kernel
theorem dX11_covered_1 : decode cX11_covered 1 = .ok (.getfield 7, 3) := by decide +kernel
theorem dX11_covered_4 : decode cX11_covered 4 = .ok (.bipush 6, 2) := by decide +kernel
theorem dX11_covered_6 : decode cX11_covered 6 = .ok (.iload_n 1, 1) := by decide +kernel
theorem dX11_covered_7 : decode cX11_covered 7 = .ok (.iadd, 1) := by decide +kernel
theorem dX11_covered_8 : decode cX11_covered 8 = .ok (.iaload, 1) := by decide +kernel
theorem dX11_covered_9 : decode cX11_covered 9 = .ok (.istore_n 2, 1) := by decide +kernel
theorem dX11_covered_10 : decode cX11_covered 10 = .ok (.aload_n 0, 1) := by decide +kernel
theorem dX11_covered_11 : decode cX11_covered 11 = .ok (.getfield 7, 3) := by decide +kernel
theorem dX11_covered_14 : decode cX11_covered 14 = .ok (.iconst 0, 1) := by decide +kernel
theorem dX11_covered_15 : decode cX11_covered 15 = .ok (.aload_n 0, 1) := by decide +kernel
theorem dX11_covered_16 : decode cX11_covered 16 = .ok (.getfield 16, 3) := by decide +kernel
theorem dX11_covered_19 : decode cX11_covered 19 = .ok (.iconst 0, 1) := by decide +kernel
theorem dX11_covered_20 : decode cX11_covered 20 = .ok (.invokestatic 48, 3) := by decide +kernel
theorem dX11_covered_23 : decode cX11_covered 23 = .ok (.aload_n 0, 1) := by decide +kernel
theorem dX11_covered_24 : decode cX11_covered 24 = .ok (.getfield 16, 3) := by decide +kernel
theorem dX11_covered_27 : decode cX11_covered 27 = .ok (.bipush 6, 2) := by decide +kernel
theorem dX11_covered_29 : decode cX11_covered 29 = .ok (.iload_n 1, 1) := by decide +kernel
theorem dX11_covered_30 : decode cX11_covered 30 = .ok (.iadd, 1) := by decide +kernel
theorem dX11_covered_31 : decode cX11_covered 31 = .ok (.iconst 3, 1) := by decide +kernel
theorem dX11_covered_32 : decode cX11_covered 32 = .ok (.iload_n 2, 1) := by decide +kernel
theorem dX11_covered_33 : decode cX11_covered 33 = .ok (.isub, 1) := by decide +kernel
theorem dX11_covered_34 : decode cX11_covered 34 = .ok (.iastore, 1) := by decide +kernel
theorem dX11_covered_35 : decode cX11_covered 35 = .ok (.aload_n 0, 1) := by decide +kernel
theorem dX11_covered_36 : decode cX11_covered 36 = .ok (.aload_n 0, 1) := by decide +kernel
theorem dX11_covered_37 : decode cX11_covered 37 = .ok (.getfield 16, 3) := by decide +kernel
theorem dX11_covered_40 : decode cX11_covered 40 = .ok (.iload_n 1, 1) := by decide +kernel
theorem dX11_covered_41 : decode cX11_covered 41 = .ok (.iload_n 2, 1) := by decide +kernel
theorem dX11_covered_42 : decode cX11_covered 42 = .ok (.invokevirtual 154, 3) := by decide +kernel
theorem dX11_covered_45 : decode cX11_covered 45 = .ok (.ireturn, 1) := by decide +kernel
theorem dX11_quietOnes_0 : decode cX11_quietOnes 0 = .ok (.iconst 0, 1) := by decide +kernel
theorem dX11_quietOnes_1 : decode cX11_quietOnes 1 = .ok (.istore_n 2, 1) := by decide +kernel
theorem dX11_quietOnes_2 : decode cX11_quietOnes 2 = .ok (.iconst 0, 1) := by decide +kernel
theorem dX11_quietOnes_3 : decode cX11_quietOnes 3 = .ok (.istore_n 3, 1) := by decide +kernel
theorem dX11_quietOnes_4 : decode cX11_quietOnes 4 = .ok (.iload_n 3, 1) := by decide +kernel
theorem dX11_quietOnes_5 : decode cX11_quietOnes 5 = .ok (.bipush 36, 2) := by decide +kernel
theorem dX11_quietOnes_7 : decode cX11_quietOnes 7 = .ok (.if_icmp .ge 37, 3) := by decide +kernel
theorem dX11_quietOnes_10 : decode cX11_quietOnes 10 = .ok (.iload_n 2, 1) := by decide +kernel
theorem dX11_quietOnes_11 : decode cX11_quietOnes 11 = .ok (.aload_n 0, 1) := by decide +kernel
theorem dX11_quietOnes_12 : decode cX11_quietOnes 12 = .ok (.getfield 7, 3) := by decide +kernel
theorem dX11_quietOnes_15 : decode cX11_quietOnes 15 = .ok (.bipush 6, 2) := by decide +kernel
theorem dX11_quietOnes_17 : decode cX11_quietOnes 17 = .ok (.iload_n 3, 1) := by decide +kernel
theorem dX11_quietOnes_18 : decode cX11_quietOnes 18 = .ok (.iadd, 1) := by decide +kernel
theorem dX11_quietOnes_19 : decode cX11_quietOnes 19 = .ok (.iaload, 1) := by decide +kernel
theorem dX11_quietOnes_20 : decode cX11_quietOnes 20 = .ok (.ifCond .ne 15, 3) := by decide +kernel
theorem dX11_quietOnes_23 : decode cX11_quietOnes 23 = .ok (.iload_n 1, 1) := by decide +kernel
theorem dX11_quietOnes_24 : decode cX11_quietOnes 24 = .ok (.iload_n 3, 1) := by decide +kernel
theorem dX11_quietOnes_25 : decode cX11_quietOnes 25 = .ok (.invokestatic 102, 3) := by decide +kernel
theorem dX11_quietOnes_28 : decode cX11_quietOnes 28 = .ok (.ifCond .eq 7, 3) := by decide +kernel
theorem dX11_quietOnes_31 : decode cX11_quietOnes 31 = .ok (.iconst 1, 1) := by decide +kernel
theorem dX11_quietOnes_32 : decode cX11_quietOnes 32 = .ok (.goto 4, 3) := by decide +kernel
theorem dX11_quietOnes_35 : decode cX11_quietOnes 35 = .ok (.iconst 0, 1) := by decide +kernel
theorem dX11_quietOnes_36 : decode cX11_quietOnes 36 = .ok (.iadd, 1) := by decide +kernel
theorem dX11_quietOnes_37 : decode cX11_quietOnes 37 = .ok (.istore_n 2, 1) := by decide +kernel
theorem dX11_quietOnes_38 : decode cX11_quietOnes 38 = .ok (.iinc 3 1, 3) := by decide +kernel
theorem dX11_quietOnes_41 : decode cX11_quietOnes 41 = .ok (.goto (-37), 3) := by decide +kernel
theorem dX11_quietOnes_44 : decode cX11_quietOnes 44 = .ok (.iload_n 2, 1) := by decide +kernel
theorem dX11_quietOnes_45 : decode cX11_quietOnes 45 = .ok (.ireturn, 1) := by decide +kernel
theorem dX11_point_0 : decode cX11_point 0 = .ok (.iload_n 1, 1) := by decide +kernel
theorem dX11_point_1 : decode cX11_point 1 = .ok (.invokestatic 106, 3) := by decide +kernel
theorem dX11_point_4 : decode cX11_point 4 = .ok (.ifCond .ne 6, 3) := by decide +kernel
theorem dX11_point_7 : decode cX11_point 7 = .ok (.bipush (-101), 2) := by decide +kernel
theorem dX11_point_9 : decode cX11_point 9 = .ok (.ireturn, 1) := by decide +kernel
theorem dX11_point_10 : decode cX11_point 10 = .ok (.iload_n 2, 1) := by decide +kernel
theorem dX11_point_11 : decode cX11_point 11 = .ok (.iconst 0, 1) := by decide +kernel
theorem dX11_point_12 : decode cX11_point 12 = .ok (.iconst 4, 1) := by decide +kernel
theorem dX11_point_13 : decode cX11_point 13 = .ok (.invokestatic 41, 3) := by decide +kernel
theorem dX11_point_16 : decode cX11_point 16 = .ok (.ifCond .ne 6, 3) := by decide +kernel
theorem dX11_point_19 : decode cX11_point 19 = .ok (.bipush (-102), 2) := by decide +kernel
theorem dX11_point_21 : decode cX11_point 21 = .ok (.ireturn, 1) := by decide +kernel
theorem dX11_point_22 : decode cX11_point 22 = .ok (.aload_n 0, 1) := by decide +kernel
theorem dX11_point_23 : decode cX11_point 23 = .ok (.getfield 7, 3) := by decide +kernel
theorem dX11_point_26 : decode cX11_point 26 = .ok (.bipush 6, 2) := by decide +kernel
theorem dX11_point_28 : decode cX11_point 28 = .ok (.iload_n 1, 1) := by decide +kernel
theorem dX11_point_29 : decode cX11_point 29 = .ok (.iadd, 1) := by decide +kernel
theorem dX11_point_30 : decode cX11_point 30 = .ok (.iaload, 1) := by decide +kernel
theorem dX11_point_31 : decode cX11_point 31 = .ok (.istore_n 3, 1) := by decide +kernel
theorem dX11_point_32 : decode cX11_point 32 = .ok (.iload_n 2, 1) := by decide +kernel
theorem dX11_point_33 : decode cX11_point 33 = .ok (.ifCond .eq 7, 3) := by decide +kernel
theorem dX11_point_36 : decode cX11_point 36 = .ok (.iload_n 3, 1) := by decide +kernel
theorem dX11_point_37 : decode cX11_point 37 = .ok (.ifCond .ne 5, 3) := by decide +kernel
theorem dX11_point_40 : decode cX11_point 40 = .ok (.iload_n 3, 1) := by decide +kernel
theorem dX11_point_41 : decode cX11_point 41 = .ok (.ireturn, 1) := by decide +kernel
theorem dX11_point_42 : decode cX11_point 42 = .ok (.iload_n 2, 1) := by decide +kernel
theorem dX11_point_43 : decode cX11_point 43 = .ok (.iconst 1, 1) := by decide +kernel
theorem dX11_point_44 : decode cX11_point 44 = .ok (.if_icmp .ne 18, 3) := by decide +kernel
theorem dX11_point_47 : decode cX11_point 47 = .ok (.aload_n 0, 1) := by decide +kernel
theorem dX11_point_48 : decode cX11_point 48 = .ok (.aload_n 0, 1) := by decide +kernel
theorem dX11_point_49 : decode cX11_point 49 = .ok (.getfield 7, 3) := by decide +kernel
theorem dX11_point_52 : decode cX11_point 52 = .ok (.iload_n 1, 1) := by decide +kernel
theorem dX11_point_53 : decode cX11_point 53 = .ok (.iconst 3, 1) := by decide +kernel
theorem dX11_point_54 : decode cX11_point 54 = .ok (.iload_n 3, 1) := by decide +kernel
theorem dX11_point_55 : decode cX11_point 55 = .ok (.isub, 1) := by decide +kernel
theorem dX11_point_56 : decode cX11_point 56 = .ok (.invokevirtual 154, 3) := by decide +kernel
theorem dX11_point_59 : decode cX11_point 59 = .ok (.goto 41, 3) := by decide +kernel
theorem dX11_point_62 : decode cX11_point 62 = .ok (.iload_n 2, 1) := by decide +kernel
theorem dX11_point_63 : decode cX11_point 63 = .ok (.iconst 2, 1) := by decide +kernel
theorem dX11_point_64 : decode cX11_point 64 = .ok (.if_icmp .ne 11, 3) := by decide +kernel
theorem dX11_point_67 : decode cX11_point 67 = .ok (.aload_n 0, 1) := by decide +kernel
theorem dX11_point_68 : decode cX11_point 68 = .ok (.iload_n 1, 1) := by decide +kernel
theorem dX11_point_69 : decode cX11_point 69 = .ok (.invokevirtual 158, 3) := by decide +kernel
theorem dX11_point_72 : decode cX11_point 72 = .ok (.goto 28, 3) := by decide +kernel
theorem dX11_point_75 : decode cX11_point 75 = .ok (.iload_n 2, 1) := by decide +kernel
theorem dX11_point_76 : decode cX11_point 76 = .ok (.iconst 3, 1) := by decide +kernel
theorem dX11_point_77 : decode cX11_point 77 = .ok (.if_icmp .ne 18, 3) := by decide +kernel
theorem dX11_point_80 : decode cX11_point 80 = .ok (.aload_n 0, 1) := by decide +kernel
theorem dX11_point_81 : decode cX11_point 81 = .ok (.aload_n 0, 1) := by decide +kernel
theorem dX11_point_82 : decode cX11_point 82 = .ok (.getfield 7, 3) := by decide +kernel
theorem dX11_point_85 : decode cX11_point 85 = .ok (.iload_n 1, 1) := by decide +kernel
theorem dX11_point_86 : decode cX11_point 86 = .ok (.invokevirtual 98, 3) := by decide +kernel
theorem dX11_point_89 : decode cX11_point 89 = .ok (.invokestatic 161, 3) := by decide +kernel
theorem dX11_point_92 : decode cX11_point 92 = .ok (.goto 8, 3) := by decide +kernel
theorem dX11_point_95 : decode cX11_point 95 = .ok (.aload_n 0, 1) := by decide +kernel
theorem dX11_point_96 : decode cX11_point 96 = .ok (.iload_n 1, 1) := by decide +kernel
theorem dX11_point_97 : decode cX11_point 97 = .ok (.invokevirtual 165, 3) := by decide +kernel
theorem dX11_point_100 : decode cX11_point 100 = .ok (.ireturn, 1) := by decide +kernel
theorem dX11_way_0 : decode cX11_way 0 = .ok (.iload_n 1, 1) := by decide +kernel
theorem dX11_way_1 : decode cX11_way 1 = .ok (.invokestatic 106, 3) := by decide +kernel
theorem dX11_way_4 : decode cX11_way 4 = .ok (.ifCond .eq 10, 3) := by decide +kernel
theorem dX11_way_7 : decode cX11_way 7 = .ok (.iload_n 2, 1) := by decide +kernel
theorem dX11_way_8 : decode cX11_way 8 = .ok (.invokestatic 106, 3) := by decide +kernel
theorem dX11_way_11 : decode cX11_way 11 = .ok (.ifCond .ne 6, 3) := by decide +kernel
theorem dX11_way_14 : decode cX11_way 14 = .ok (.bipush (-101), 2) := by decide +kernel
theorem dX11_way_16 : decode cX11_way 16 = .ok (.ireturn, 1) := by decide +kernel
theorem dX11_way_17 : decode cX11_way 17 = .ok (.iload_n 3, 1) := by decide +kernel
theorem dX11_way_18 : decode cX11_way 18 = .ok (.iconst 0, 1) := by decide +kernel
theorem dX11_way_19 : decode cX11_way 19 = .ok (.iconst 4, 1) := by decide +kernel
theorem dX11_way_20 : decode cX11_way 20 = .ok (.invokestatic 41, 3) := by decide +kernel
theorem dX11_way_23 : decode cX11_way 23 = .ok (.ifCond .ne 6, 3) := by decide +kernel
theorem dX11_way_26 : decode cX11_way 26 = .ok (.bipush (-102), 2) := by decide +kernel
theorem dX11_way_28 : decode cX11_way 28 = .ok (.ireturn, 1) := by decide +kernel
theorem dX11_way_29 : decode cX11_way 29 = .ok (.aload_n 0, 1) := by decide +kernel
theorem dX11_way_30 : decode cX11_way 30 = .ok (.getfield 7, 3) := by decide +kernel
theorem dX11_way_33 : decode cX11_way 33 = .ok (.bipush 6, 2) := by decide +kernel
theorem dX11_way_35 : decode cX11_way 35 = .ok (.iload_n 1, 1) := by decide +kernel
theorem dX11_way_36 : decode cX11_way 36 = .ok (.iadd, 1) := by decide +kernel
theorem dX11_way_37 : decode cX11_way 37 = .ok (.iaload, 1) := by decide +kernel
theorem dX11_way_38 : decode cX11_way 38 = .ok (.ifCond .le 30, 3) := by decide +kernel
theorem dX11_way_41 : decode cX11_way 41 = .ok (.aload_n 0, 1) := by decide +kernel
theorem dX11_way_42 : decode cX11_way 42 = .ok (.getfield 7, 3) := by decide +kernel
theorem dX11_way_45 : decode cX11_way 45 = .ok (.bipush 6, 2) := by decide +kernel
theorem dX11_way_47 : decode cX11_way 47 = .ok (.iload_n 2, 1) := by decide +kernel
theorem dX11_way_48 : decode cX11_way 48 = .ok (.iadd, 1) := by decide +kernel
theorem dX11_way_49 : decode cX11_way 49 = .ok (.iaload, 1) := by decide +kernel
theorem dX11_way_50 : decode cX11_way 50 = .ok (.iconst 3, 1) := by decide +kernel
theorem dX11_way_51 : decode cX11_way 51 = .ok (.aload_n 0, 1) := by decide +kernel
theorem dX11_way_52 : decode cX11_way 52 = .ok (.getfield 7, 3) := by decide +kernel
theorem dX11_way_55 : decode cX11_way 55 = .ok (.bipush 6, 2) := by decide +kernel
theorem dX11_way_57 : decode cX11_way 57 = .ok (.iload_n 1, 1) := by decide +kernel
theorem dX11_way_58 : decode cX11_way 58 = .ok (.iadd, 1) := by decide +kernel
theorem dX11_way_59 : decode cX11_way 59 = .ok (.iaload, 1) := by decide +kernel
theorem dX11_way_60 : decode cX11_way 60 = .ok (.isub, 1) := by decide +kernel
theorem dX11_way_61 : decode cX11_way 61 = .ok (.if_icmp .ne 7, 3) := by decide +kernel
theorem dX11_way_64 : decode cX11_way 64 = .ok (.iconst 1, 1) := by decide +kernel
theorem dX11_way_65 : decode cX11_way 65 = .ok (.goto 4, 3) := by decide +kernel
theorem dX11_way_68 : decode cX11_way 68 = .ok (.iconst 0, 1) := by decide +kernel
theorem dX11_way_69 : decode cX11_way 69 = .ok (.istore 4, 2) := by decide +kernel
theorem dX11_way_71 : decode cX11_way 71 = .ok (.iload 4, 2) := by decide +kernel
theorem dX11_way_73 : decode cX11_way 73 = .ok (.ifCond .eq 18, 3) := by decide +kernel
theorem dX11_way_76 : decode cX11_way 76 = .ok (.aload_n 0, 1) := by decide +kernel
theorem dX11_way_77 : decode cX11_way 77 = .ok (.aload_n 0, 1) := by decide +kernel
theorem dX11_way_78 : decode cX11_way 78 = .ok (.getfield 7, 3) := by decide +kernel
theorem dX11_way_81 : decode cX11_way 81 = .ok (.iload_n 1, 1) := by decide +kernel
theorem dX11_way_82 : decode cX11_way 82 = .ok (.iload_n 2, 1) := by decide +kernel
theorem dX11_way_83 : decode cX11_way 83 = .ok (.invokevirtual 168, 3) := by decide +kernel
theorem dX11_way_86 : decode cX11_way 86 = .ok (.bipush (-105), 2) := by decide +kernel
theorem dX11_way_88 : decode cX11_way 88 = .ok (.if_icmp .ne 6, 3) := by decide +kernel
theorem dX11_way_91 : decode cX11_way 91 = .ok (.bipush (-105), 2) := by decide +kernel
theorem dX11_way_93 : decode cX11_way 93 = .ok (.ireturn, 1) := by decide +kernel
theorem dX11_way_94 : decode cX11_way 94 = .ok (.iload_n 3, 1) := by decide +kernel
theorem dX11_way_95 : decode cX11_way 95 = .ok (.tableswitch 57 0 3 #[29, 34, 39, 47], 29) := by decide +kernel
theorem dX11_way_124 : decode cX11_way 124 = .ok (.aload_n 0, 1) := by decide +kernel
theorem dX11_way_125 : decode cX11_way 125 = .ok (.getfield 81, 3) := by decide +kernel
theorem dX11_way_128 : decode cX11_way 128 = .ok (.ireturn, 1) := by decide +kernel
theorem dX11_way_129 : decode cX11_way 129 = .ok (.aload_n 0, 1) := by decide +kernel
theorem dX11_way_130 : decode cX11_way 130 = .ok (.getfield 84, 3) := by decide +kernel
theorem dX11_way_133 : decode cX11_way 133 = .ok (.ireturn, 1) := by decide +kernel
theorem dX11_way_134 : decode cX11_way 134 = .ok (.aload_n 0, 1) := by decide +kernel
theorem dX11_way_135 : decode cX11_way 135 = .ok (.getfield 91, 3) := by decide +kernel
theorem dX11_way_138 : decode cX11_way 138 = .ok (.bipush 48, 2) := by decide +kernel
theorem dX11_way_140 : decode cX11_way 140 = .ok (.idiv, 1) := by decide +kernel
theorem dX11_way_141 : decode cX11_way 141 = .ok (.ireturn, 1) := by decide +kernel
theorem dX11_way_142 : decode cX11_way 142 = .ok (.aload_n 0, 1) := by decide +kernel
theorem dX11_way_143 : decode cX11_way 143 = .ok (.getfield 91, 3) := by decide +kernel
theorem dX11_way_146 : decode cX11_way 146 = .ok (.iconst 2, 1) := by decide +kernel
theorem dX11_way_147 : decode cX11_way 147 = .ok (.idiv, 1) := by decide +kernel
theorem dX11_way_148 : decode cX11_way 148 = .ok (.bipush 24, 2) := by decide +kernel
theorem dX11_way_150 : decode cX11_way 150 = .ok (.irem, 1) := by decide +kernel
theorem dX11_way_151 : decode cX11_way 151 = .ok (.ireturn, 1) := by decide +kernel
theorem dX11_way_152 : decode cX11_way 152 = .ok (.iconst 1, 1) := by decide +kernel
theorem dX11_way_153 : decode cX11_way 153 = .ok (.aload_n 0, 1) := by decide +kernel
theorem dX11_way_154 : decode cX11_way 154 = .ok (.getfield 91, 3) := by decide +kernel
theorem dX11_way_157 : decode cX11_way 157 = .ok (.iconst 2, 1) := by decide +kernel
theorem dX11_way_158 : decode cX11_way 158 = .ok (.irem, 1) := by decide +kernel
theorem dX11_way_159 : decode cX11_way 159 = .ok (.isub, 1) := by decide +kernel
theorem dX11_way_160 : decode cX11_way 160 = .ok (.ireturn, 1) := by decide +kernel
theorem dX11_circuit_0 : decode cX11_circuit 0 = .ok (.iload_n 1, 1) := by decide +kernel
theorem dX11_circuit_1 : decode cX11_circuit 1 = .ok (.iconst 0, 1) := by decide +kernel
theorem dX11_circuit_2 : decode cX11_circuit 2 = .ok (.iconst 1, 1) := by decide +kernel
theorem dX11_circuit_3 : decode cX11_circuit 3 = .ok (.invokestatic 41, 3) := by decide +kernel
theorem dX11_circuit_6 : decode cX11_circuit 6 = .ok (.ifCond .eq 21, 3) := by decide +kernel
theorem dX11_circuit_9 : decode cX11_circuit 9 = .ok (.iload_n 2, 1) := by decide +kernel
theorem dX11_circuit_10 : decode cX11_circuit 10 = .ok (.iconst 0, 1) := by decide +kernel
theorem dX11_circuit_11 : decode cX11_circuit 11 = .ok (.bipush 23, 2) := by decide +kernel
theorem dX11_circuit_13 : decode cX11_circuit 13 = .ok (.invokestatic 41, 3) := by decide +kernel
theorem dX11_circuit_16 : decode cX11_circuit 16 = .ok (.ifCond .eq 11, 3) := by decide +kernel
theorem dX11_circuit_19 : decode cX11_circuit 19 = .ok (.iload_n 1, 1) := by decide +kernel
theorem dX11_circuit_20 : decode cX11_circuit 20 = .ok (.iload_n 2, 1) := by decide +kernel
theorem dX11_circuit_21 : decode cX11_circuit 21 = .ok (.invokestatic 77, 3) := by decide +kernel
theorem dX11_circuit_24 : decode cX11_circuit 24 = .ok (.goto 5, 3) := by decide +kernel
theorem dX11_circuit_27 : decode cX11_circuit 27 = .ok (.bipush (-101), 2) := by decide +kernel
theorem dX11_circuit_29 : decode cX11_circuit 29 = .ok (.ireturn, 1) := by decide +kernel
theorem dX11_reason_0 : decode cX11_reason 0 = .ok (.iload_n 1, 1) := by decide +kernel
theorem dX11_reason_1 : decode cX11_reason 1 = .ok (.invokestatic 106, 3) := by decide +kernel
theorem dX11_reason_4 : decode cX11_reason 4 = .ok (.ifCond .eq 24, 3) := by decide +kernel
theorem dX11_reason_7 : decode cX11_reason 7 = .ok (.iload_n 2, 1) := by decide +kernel
theorem dX11_reason_8 : decode cX11_reason 8 = .ok (.invokestatic 106, 3) := by decide +kernel
theorem dX11_reason_11 : decode cX11_reason 11 = .ok (.ifCond .eq 17, 3) := by decide +kernel
theorem dX11_reason_14 : decode cX11_reason 14 = .ok (.aload_n 0, 1) := by decide +kernel
theorem dX11_reason_15 : decode cX11_reason 15 = .ok (.aload_n 0, 1) := by decide +kernel
theorem dX11_reason_16 : decode cX11_reason 16 = .ok (.getfield 7, 3) := by decide +kernel
theorem dX11_reason_19 : decode cX11_reason 19 = .ok (.iload_n 1, 1) := by decide +kernel
theorem dX11_reason_20 : decode cX11_reason 20 = .ok (.iload_n 2, 1) := by decide +kernel
theorem dX11_reason_21 : decode cX11_reason 21 = .ok (.iload_n 3, 1) := by decide +kernel
theorem dX11_reason_22 : decode cX11_reason 22 = .ok (.invokevirtual 110, 3) := by decide +kernel
theorem dX11_reason_25 : decode cX11_reason 25 = .ok (.goto 5, 3) := by decide +kernel
theorem dX11_reason_28 : decode cX11_reason 28 = .ok (.bipush (-101), 2) := by decide +kernel
theorem dX11_reason_30 : decode cX11_reason 30 = .ok (.ireturn, 1) := by decide +kernel
theorem dX11_many_0 : decode cX11_many 0 = .ok (.iconst 0, 1) := by decide +kernel
theorem dX11_many_1 : decode cX11_many 1 = .ok (.istore_n 2, 1) := by decide +kernel
theorem dX11_many_2 : decode cX11_many 2 = .ok (.iconst 0, 1) := by decide +kernel
theorem dX11_many_3 : decode cX11_many 3 = .ok (.istore_n 3, 1) := by decide +kernel
theorem dX11_many_4 : decode cX11_many 4 = .ok (.iload_n 3, 1) := by decide +kernel
theorem dX11_many_5 : decode cX11_many 5 = .ok (.bipush 36, 2) := by decide +kernel
theorem dX11_many_7 : decode cX11_many 7 = .ok (.if_icmp .ge 35, 3) := by decide +kernel
theorem dX11_many_10 : decode cX11_many 10 = .ok (.aload_n 0, 1) := by decide +kernel
theorem dX11_many_11 : decode cX11_many 11 = .ok (.getfield 7, 3) := by decide +kernel
theorem dX11_many_14 : decode cX11_many 14 = .ok (.invokestatic 94, 3) := by decide +kernel
theorem dX11_many_17 : decode cX11_many 17 = .ok (.ifCond .ne 25, 3) := by decide +kernel
theorem dX11_many_20 : decode cX11_many 20 = .ok (.iload_n 2, 1) := by decide +kernel
theorem dX11_many_21 : decode cX11_many 21 = .ok (.aload_n 0, 1) := by decide +kernel
theorem dX11_many_22 : decode cX11_many 22 = .ok (.aload_n 0, 1) := by decide +kernel
theorem dX11_many_23 : decode cX11_many 23 = .ok (.getfield 7, 3) := by decide +kernel
theorem dX11_many_26 : decode cX11_many 26 = .ok (.iload_n 3, 1) := by decide +kernel
theorem dX11_many_27 : decode cX11_many 27 = .ok (.iload_n 1, 1) := by decide +kernel
theorem dX11_many_28 : decode cX11_many 28 = .ok (.invokevirtual 121, 3) := by decide +kernel
theorem dX11_many_31 : decode cX11_many 31 = .ok (.invokestatic 161, 3) := by decide +kernel
theorem dX11_many_34 : decode cX11_many 34 = .ok (.iadd, 1) := by decide +kernel
theorem dX11_many_35 : decode cX11_many 35 = .ok (.istore_n 2, 1) := by decide +kernel
theorem dX11_many_36 : decode cX11_many 36 = .ok (.iinc 3 1, 3) := by decide +kernel
theorem dX11_many_39 : decode cX11_many 39 = .ok (.goto (-35), 3) := by decide +kernel
theorem dX11_many_42 : decode cX11_many 42 = .ok (.iload_n 2, 1) := by decide +kernel
theorem dX11_many_43 : decode cX11_many 43 = .ok (.ireturn, 1) := by decide +kernel
theorem dX11_possible_0 : decode cX11_possible 0 = .ok (.iload_n 1, 1) := by decide +kernel
theorem dX11_possible_1 : decode cX11_possible 1 = .ok (.ifCond .ge 6, 3) := by decide +kernel
theorem dX11_possible_4 : decode cX11_possible 4 = .ok (.bipush (-102), 2) := by decide +kernel
theorem dX11_possible_6 : decode cX11_possible 6 = .ok (.ireturn, 1) := by decide +kernel
theorem dX11_possible_7 : decode cX11_possible 7 = .ok (.iload_n 1, 1) := by decide +kernel
theorem dX11_possible_8 : decode cX11_possible 8 = .ok (.istore_n 2, 1) := by decide +kernel
theorem dX11_possible_9 : decode cX11_possible 9 = .ok (.iconst 0, 1) := by decide +kernel
theorem dX11_possible_10 : decode cX11_possible 10 = .ok (.istore_n 3, 1) := by decide +kernel
theorem dX11_possible_11 : decode cX11_possible 11 = .ok (.iload_n 3, 1) := by decide +kernel
theorem dX11_possible_12 : decode cX11_possible 12 = .ok (.bipush 72, 2) := by decide +kernel
theorem dX11_possible_14 : decode cX11_possible 14 = .ok (.if_icmp .ge 92, 3) := by decide +kernel
theorem dX11_possible_17 : decode cX11_possible 17 = .ok (.aload_n 0, 1) := by decide +kernel
theorem dX11_possible_18 : decode cX11_possible 18 = .ok (.getfield 7, 3) := by decide +kernel
theorem dX11_possible_21 : decode cX11_possible 21 = .ok (.invokestatic 94, 3) := by decide +kernel
theorem dX11_possible_24 : decode cX11_possible 24 = .ok (.ifCond .ne 82, 3) := by decide +kernel
theorem dX11_possible_27 : decode cX11_possible 27 = .ok (.iload_n 3, 1) := by decide +kernel
theorem dX11_possible_28 : decode cX11_possible 28 = .ok (.bipush 36, 2) := by decide +kernel
theorem dX11_possible_30 : decode cX11_possible 30 = .ok (.irem, 1) := by decide +kernel
theorem dX11_possible_31 : decode cX11_possible 31 = .ok (.istore 4, 2) := by decide +kernel
theorem dX11_possible_33 : decode cX11_possible 33 = .ok (.aload_n 0, 1) := by decide +kernel
theorem dX11_possible_34 : decode cX11_possible 34 = .ok (.aload_n 0, 1) := by decide +kernel
theorem dX11_possible_35 : decode cX11_possible 35 = .ok (.getfield 7, 3) := by decide +kernel
theorem dX11_possible_38 : decode cX11_possible 38 = .ok (.iload 4, 2) := by decide +kernel
theorem dX11_possible_40 : decode cX11_possible 40 = .ok (.iload_n 3, 1) := by decide +kernel
theorem dX11_possible_41 : decode cX11_possible 41 = .ok (.bipush 36, 2) := by decide +kernel
theorem dX11_possible_43 : decode cX11_possible 43 = .ok (.if_icmp .ge 7, 3) := by decide +kernel
theorem dX11_possible_46 : decode cX11_possible 46 = .ok (.iconst 1, 1) := by decide +kernel
theorem dX11_possible_47 : decode cX11_possible 47 = .ok (.goto 4, 3) := by decide +kernel
theorem dX11_possible_50 : decode cX11_possible 50 = .ok (.iconst 0, 1) := by decide +kernel
theorem dX11_possible_51 : decode cX11_possible 51 = .ok (.invokevirtual 121, 3) := by decide +kernel
theorem dX11_possible_54 : decode cX11_possible 54 = .ok (.lstore 5, 2) := by decide +kernel
theorem dX11_possible_56 : decode cX11_possible 56 = .ok (.iconst 0, 1) := by decide +kernel
theorem dX11_possible_57 : decode cX11_possible 57 = .ok (.istore 7, 2) := by decide +kernel
theorem dX11_possible_59 : decode cX11_possible 59 = .ok (.iload 7, 2) := by decide +kernel
theorem dX11_possible_61 : decode cX11_possible 61 = .ok (.bipush 36, 2) := by decide +kernel
theorem dX11_possible_63 : decode cX11_possible 63 = .ok (.if_icmp .ge 37, 3) := by decide +kernel
theorem dX11_possible_66 : decode cX11_possible 66 = .ok (.lload 5, 2) := by decide +kernel
theorem dX11_possible_68 : decode cX11_possible 68 = .ok (.iload 7, 2) := by decide +kernel
theorem dX11_possible_70 : decode cX11_possible 70 = .ok (.lshr, 1) := by decide +kernel
theorem dX11_possible_71 : decode cX11_possible 71 = .ok (.lconst 1, 1) := by decide +kernel
theorem dX11_possible_72 : decode cX11_possible 72 = .ok (.land, 1) := by decide +kernel
theorem dX11_possible_73 : decode cX11_possible 73 = .ok (.lconst 1, 1) := by decide +kernel
theorem dX11_possible_74 : decode cX11_possible 74 = .ok (.lcmp, 1) := by decide +kernel
theorem dX11_possible_75 : decode cX11_possible 75 = .ok (.ifCond .ne 19, 3) := by decide +kernel
theorem dX11_possible_78 : decode cX11_possible 78 = .ok (.iload_n 2, 1) := by decide +kernel
theorem dX11_possible_79 : decode cX11_possible 79 = .ok (.ifCond .ne 12, 3) := by decide +kernel
theorem dX11_possible_82 : decode cX11_possible 82 = .ok (.bipush 100, 2) := by decide +kernel
theorem dX11_possible_84 : decode cX11_possible 84 = .ok (.iload 4, 2) := by decide +kernel
theorem dX11_possible_86 : decode cX11_possible 86 = .ok (.imul, 1) := by decide +kernel
theorem dX11_possible_87 : decode cX11_possible 87 = .ok (.iload 7, 2) := by decide +kernel
theorem dX11_possible_89 : decode cX11_possible 89 = .ok (.iadd, 1) := by decide +kernel
theorem dX11_possible_90 : decode cX11_possible 90 = .ok (.ireturn, 1) := by decide +kernel
theorem dX11_possible_91 : decode cX11_possible 91 = .ok (.iinc 2 (-1), 3) := by decide +kernel
theorem dX11_possible_94 : decode cX11_possible 94 = .ok (.iinc 7 1, 3) := by decide +kernel
theorem dX11_possible_97 : decode cX11_possible 97 = .ok (.goto (-38), 3) := by decide +kernel
theorem dX11_possible_100 : decode cX11_possible 100 = .ok (.iinc 3 1, 3) := by decide +kernel
theorem dX11_possible_103 : decode cX11_possible 103 = .ok (.goto (-92), 3) := by decide +kernel
theorem dX11_possible_106 : decode cX11_possible 106 = .ok (.bipush (-105), 2) := by decide +kernel
theorem dX11_possible_108 : decode cX11_possible 108 = .ok (.ireturn, 1) := by decide +kernel
theorem dX11_look_0 : decode cX11_look 0 = .ok (.iload_n 1, 1) := by decide +kernel
theorem dX11_look_1 : decode cX11_look 1 = .ok (.iconst 0, 1) := by decide +kernel
theorem dX11_look_2 : decode cX11_look 2 = .ok (.iconst 2, 1) := by decide +kernel
theorem dX11_look_3 : decode cX11_look 3 = .ok (.invokestatic 41, 3) := by decide +kernel
theorem dX11_look_6 : decode cX11_look 6 = .ok (.ifCond .ne 6, 3) := by decide +kernel
theorem dX11_look_9 : decode cX11_look 9 = .ok (.bipush (-102), 2) := by decide +kernel
theorem dX11_look_11 : decode cX11_look 11 = .ok (.ireturn, 1) := by decide +kernel
theorem dX11_look_12 : decode cX11_look 12 = .ok (.iload_n 1, 1) := by decide +kernel
theorem dX11_look_13 : decode cX11_look 13 = .ok (.ifCond .eq 13, 3) := by decide +kernel
theorem dX11_look_16 : decode cX11_look 16 = .ok (.aload_n 0, 1) := by decide +kernel
theorem dX11_look_17 : decode cX11_look 17 = .ok (.iload_n 1, 1) := by decide +kernel
theorem dX11_look_18 : decode cX11_look 18 = .ok (.invokevirtual 134, 3) := by decide +kernel
theorem dX11_look_21 : decode cX11_look 21 = .ok (.bipush (-105), 2) := by decide +kernel
theorem dX11_look_23 : decode cX11_look 23 = .ok (.if_icmp .ne 11, 3) := by decide +kernel
theorem dX11_look_26 : decode cX11_look 26 = .ok (.aload_n 0, 1) := by decide +kernel
theorem dX11_look_27 : decode cX11_look 27 = .ok (.getfield 7, 3) := by decide +kernel
theorem dX11_look_30 : decode cX11_look 30 = .ok (.invokestatic 125, 3) := by decide +kernel
theorem dX11_look_33 : decode cX11_look 33 = .ok (.ireturn, 1) := by decide +kernel
theorem dX11_look_34 : decode cX11_look 34 = .ok (.aload_n 0, 1) := by decide +kernel
theorem dX11_look_35 : decode cX11_look 35 = .ok (.getfield 128, 3) := by decide +kernel
theorem dX11_look_38 : decode cX11_look 38 = .ok (.ireturn, 1) := by decide +kernel
theorem dX11_best_0 : decode cX11_best 0 = .ok (.iload_n 1, 1) := by decide +kernel
theorem dX11_best_1 : decode cX11_best 1 = .ok (.iconst 1, 1) := by decide +kernel
theorem dX11_best_2 : decode cX11_best 2 = .ok (.iconst 2, 1) := by decide +kernel
theorem dX11_best_3 : decode cX11_best 3 = .ok (.invokestatic 41, 3) := by decide +kernel
theorem dX11_best_6 : decode cX11_best 6 = .ok (.ifCond .eq 11, 3) := by decide +kernel
theorem dX11_best_9 : decode cX11_best 9 = .ok (.aload_n 0, 1) := by decide +kernel
theorem dX11_best_10 : decode cX11_best 10 = .ok (.iload_n 1, 1) := by decide +kernel
theorem dX11_best_11 : decode cX11_best 11 = .ok (.invokevirtual 134, 3) := by decide +kernel
theorem dX11_best_14 : decode cX11_best 14 = .ok (.goto 5, 3) := by decide +kernel
theorem dX11_best_17 : decode cX11_best 17 = .ok (.bipush (-102), 2) := by decide +kernel
theorem dX11_best_19 : decode cX11_best 19 = .ok (.ireturn, 1) := by decide +kernel
theorem dX11_threatened_0 : decode cX11_threatened 0 = .ok (.iconst 0, 1) := by decide +kernel
theorem dX11_threatened_1 : decode cX11_threatened 1 = .ok (.istore_n 1, 1) := by decide +kernel
theorem dX11_threatened_2 : decode cX11_threatened 2 = .ok (.iconst 0, 1) := by decide +kernel
theorem dX11_threatened_3 : decode cX11_threatened 3 = .ok (.istore_n 2, 1) := by decide +kernel
theorem dX11_threatened_4 : decode cX11_threatened 4 = .ok (.iload_n 2, 1) := by decide +kernel
theorem dX11_threatened_5 : decode cX11_threatened 5 = .ok (.bipush 36, 2) := by decide +kernel
theorem dX11_threatened_7 : decode cX11_threatened 7 = .ok (.if_icmp .ge 55, 3) := by decide +kernel
theorem dX11_threatened_10 : decode cX11_threatened 10 = .ok (.iload_n 1, 1) := by decide +kernel
theorem dX11_threatened_11 : decode cX11_threatened 11 = .ok (.aload_n 0, 1) := by decide +kernel
theorem dX11_threatened_12 : decode cX11_threatened 12 = .ok (.getfield 7, 3) := by decide +kernel
theorem dX11_threatened_15 : decode cX11_threatened 15 = .ok (.bipush 6, 2) := by decide +kernel
theorem dX11_threatened_17 : decode cX11_threatened 17 = .ok (.iload_n 2, 1) := by decide +kernel
theorem dX11_threatened_18 : decode cX11_threatened 18 = .ok (.iadd, 1) := by decide +kernel
theorem dX11_threatened_19 : decode cX11_threatened 19 = .ok (.iaload, 1) := by decide +kernel
theorem dX11_threatened_20 : decode cX11_threatened 20 = .ok (.aload_n 0, 1) := by decide +kernel
theorem dX11_threatened_21 : decode cX11_threatened 21 = .ok (.getfield 7, 3) := by decide +kernel
theorem dX11_threatened_24 : decode cX11_threatened 24 = .ok (.iconst 0, 1) := by decide +kernel
theorem dX11_threatened_25 : decode cX11_threatened 25 = .ok (.iaload, 1) := by decide +kernel
theorem dX11_threatened_26 : decode cX11_threatened 26 = .ok (.if_icmp .ne 27, 3) := by decide +kernel
theorem dX11_threatened_29 : decode cX11_threatened 29 = .ok (.aload_n 0, 1) := by decide +kernel
theorem dX11_threatened_30 : decode cX11_threatened 30 = .ok (.aload_n 0, 1) := by decide +kernel
theorem dX11_threatened_31 : decode cX11_threatened 31 = .ok (.getfield 7, 3) := by decide +kernel
theorem dX11_threatened_34 : decode cX11_threatened 34 = .ok (.iload_n 2, 1) := by decide +kernel
theorem dX11_threatened_35 : decode cX11_threatened 35 = .ok (.iconst 3, 1) := by decide +kernel
theorem dX11_threatened_36 : decode cX11_threatened 36 = .ok (.aload_n 0, 1) := by decide +kernel
theorem dX11_threatened_37 : decode cX11_threatened 37 = .ok (.getfield 7, 3) := by decide +kernel
theorem dX11_threatened_40 : decode cX11_threatened 40 = .ok (.iconst 0, 1) := by decide +kernel
theorem dX11_threatened_41 : decode cX11_threatened 41 = .ok (.iaload, 1) := by decide +kernel
theorem dX11_threatened_42 : decode cX11_threatened 42 = .ok (.isub, 1) := by decide +kernel
theorem dX11_threatened_43 : decode cX11_threatened 43 = .ok (.invokevirtual 154, 3) := by decide +kernel
theorem dX11_threatened_46 : decode cX11_threatened 46 = .ok (.ifCond .le 7, 3) := by decide +kernel
theorem dX11_threatened_49 : decode cX11_threatened 49 = .ok (.iconst 1, 1) := by decide +kernel
theorem dX11_threatened_50 : decode cX11_threatened 50 = .ok (.goto 4, 3) := by decide +kernel
theorem dX11_threatened_53 : decode cX11_threatened 53 = .ok (.iconst 0, 1) := by decide +kernel
theorem dX11_threatened_54 : decode cX11_threatened 54 = .ok (.iadd, 1) := by decide +kernel
theorem dX11_threatened_55 : decode cX11_threatened 55 = .ok (.istore_n 1, 1) := by decide +kernel
theorem dX11_threatened_56 : decode cX11_threatened 56 = .ok (.iinc 2 1, 3) := by decide +kernel
theorem dX11_threatened_59 : decode cX11_threatened 59 = .ok (.goto (-55), 3) := by decide +kernel
theorem dX11_threatened_62 : decode cX11_threatened 62 = .ok (.iload_n 1, 1) := by decide +kernel
theorem dX11_threatened_63 : decode cX11_threatened 63 = .ok (.ireturn, 1) := by decide +kernel
theorem dX11_count_0 : decode cX11_count 0 = .ok (.iload_n 1, 1) := by decide +kernel
theorem dX11_count_1 : decode cX11_count 1 = .ok (.tableswitch 156 0 13 #[71, 78, 78, 87, 94, 102, 102, 117, 117, 129, 134, 141, 146, 151], 71) := by decide +kernel
theorem dX11_count_72 : decode cX11_count 72 = .ok (.aload_n 0, 1) := by decide +kernel
theorem dX11_count_73 : decode cX11_count 73 = .ok (.getfield 7, 3) := by decide +kernel
theorem dX11_count_76 : decode cX11_count 76 = .ok (.iconst 0, 1) := by decide +kernel
theorem dX11_count_77 : decode cX11_count 77 = .ok (.iaload, 1) := by decide +kernel
theorem dX11_count_78 : decode cX11_count 78 = .ok (.ireturn, 1) := by decide +kernel
theorem dX11_count_79 : decode cX11_count 79 = .ok (.aload_n 0, 1) := by decide +kernel
theorem dX11_count_80 : decode cX11_count 80 = .ok (.getfield 7, 3) := by decide +kernel
theorem dX11_count_83 : decode cX11_count 83 = .ok (.iload_n 1, 1) := by decide +kernel
theorem dX11_count_84 : decode cX11_count 84 = .ok (.invokestatic 52, 3) := by decide +kernel
theorem dX11_count_87 : decode cX11_count 87 = .ok (.ireturn, 1) := by decide +kernel
theorem dX11_count_88 : decode cX11_count 88 = .ok (.aload_n 0, 1) := by decide +kernel
theorem dX11_count_89 : decode cX11_count 89 = .ok (.getfield 7, 3) := by decide +kernel
theorem dX11_count_92 : decode cX11_count 92 = .ok (.iconst 1, 1) := by decide +kernel
theorem dX11_count_93 : decode cX11_count 93 = .ok (.iaload, 1) := by decide +kernel
theorem dX11_count_94 : decode cX11_count 94 = .ok (.ireturn, 1) := by decide +kernel
theorem dX11_count_95 : decode cX11_count 95 = .ok (.aload_n 0, 1) := by decide +kernel
theorem dX11_count_96 : decode cX11_count 96 = .ok (.getfield 7, 3) := by decide +kernel
theorem dX11_count_99 : decode cX11_count 99 = .ok (.invokestatic 94, 3) := by decide +kernel
theorem dX11_count_102 : decode cX11_count 102 = .ok (.ireturn, 1) := by decide +kernel
theorem dX11_count_103 : decode cX11_count 103 = .ok (.aload_n 0, 1) := by decide +kernel
theorem dX11_count_104 : decode cX11_count 104 = .ok (.iload_n 1, 1) := by decide +kernel
theorem dX11_count_105 : decode cX11_count 105 = .ok (.iconst 5, 1) := by decide +kernel
theorem dX11_count_106 : decode cX11_count 106 = .ok (.if_icmp .ne 7, 3) := by decide +kernel
theorem dX11_count_109 : decode cX11_count 109 = .ok (.iconst 1, 1) := by decide +kernel
theorem dX11_count_110 : decode cX11_count 110 = .ok (.goto 4, 3) := by decide +kernel
theorem dX11_count_113 : decode cX11_count 113 = .ok (.iconst 0, 1) := by decide +kernel
theorem dX11_count_114 : decode cX11_count 114 = .ok (.invokevirtual 171, 3) := by decide +kernel
theorem dX11_count_117 : decode cX11_count 117 = .ok (.ireturn, 1) := by decide +kernel
theorem dX11_count_118 : decode cX11_count 118 = .ok (.aload_n 0, 1) := by decide +kernel
theorem dX11_count_119 : decode cX11_count 119 = .ok (.getfield 7, 3) := by decide +kernel
theorem dX11_count_122 : decode cX11_count 122 = .ok (.iconst 2, 1) := by decide +kernel
theorem dX11_count_123 : decode cX11_count 123 = .ok (.iload_n 1, 1) := by decide +kernel
theorem dX11_count_124 : decode cX11_count 124 = .ok (.iadd, 1) := by decide +kernel
theorem dX11_count_125 : decode cX11_count 125 = .ok (.bipush 7, 2) := by decide +kernel
theorem dX11_count_127 : decode cX11_count 127 = .ok (.isub, 1) := by decide +kernel
theorem dX11_count_128 : decode cX11_count 128 = .ok (.iaload, 1) := by decide +kernel
theorem dX11_count_129 : decode cX11_count 129 = .ok (.ireturn, 1) := by decide +kernel
theorem dX11_count_130 : decode cX11_count 130 = .ok (.aload_n 0, 1) := by decide +kernel
theorem dX11_count_131 : decode cX11_count 131 = .ok (.invokevirtual 175, 3) := by decide +kernel
theorem dX11_count_134 : decode cX11_count 134 = .ok (.ireturn, 1) := by decide +kernel
theorem dX11_count_135 : decode cX11_count 135 = .ok (.aload_n 0, 1) := by decide +kernel
theorem dX11_count_136 : decode cX11_count 136 = .ok (.getfield 7, 3) := by decide +kernel
theorem dX11_count_139 : decode cX11_count 139 = .ok (.iconst 4, 1) := by decide +kernel
theorem dX11_count_140 : decode cX11_count 140 = .ok (.iaload, 1) := by decide +kernel
theorem dX11_count_141 : decode cX11_count 141 = .ok (.ireturn, 1) := by decide +kernel
theorem dX11_count_142 : decode cX11_count 142 = .ok (.aload_n 0, 1) := by decide +kernel
theorem dX11_count_143 : decode cX11_count 143 = .ok (.invokevirtual 178, 3) := by decide +kernel
theorem dX11_count_146 : decode cX11_count 146 = .ok (.ireturn, 1) := by decide +kernel
theorem dX11_count_147 : decode cX11_count 147 = .ok (.aload_n 0, 1) := by decide +kernel
theorem dX11_count_148 : decode cX11_count 148 = .ok (.getfield 45, 3) := by decide +kernel
theorem dX11_count_151 : decode cX11_count 151 = .ok (.ireturn, 1) := by decide +kernel
theorem dX11_count_152 : decode cX11_count 152 = .ok (.aload_n 0, 1) := by decide +kernel
theorem dX11_count_153 : decode cX11_count 153 = .ok (.getfield 138, 3) := by decide +kernel
theorem dX11_count_156 : decode cX11_count 156 = .ok (.ireturn, 1) := by decide +kernel
theorem dX11_count_157 : decode cX11_count 157 = .ok (.bipush (-102), 2) := by decide +kernel
theorem dX11_count_159 : decode cX11_count 159 = .ok (.ireturn, 1) := by decide +kernel
theorem dJ9_abs_0f7a4_0 : decode cJ9_abs_0f7a4 0 = .ok (.iload_n 0, 1) := by decide +kernel
theorem dJ9_abs_0f7a4_1 : decode cJ9_abs_0f7a4 1 = .ok (.ifCond .ge 8, 3) := by decide +kernel
theorem dJ9_abs_0f7a4_4 : decode cJ9_abs_0f7a4 4 = .ok (.iload_n 0, 1) := by decide +kernel
theorem dJ9_abs_0f7a4_5 : decode cJ9_abs_0f7a4 5 = .ok (.ineg, 1) := by decide +kernel
theorem dJ9_abs_0f7a4_6 : decode cJ9_abs_0f7a4 6 = .ok (.goto 4, 3) := by decide +kernel
theorem dJ9_abs_0f7a4_9 : decode cJ9_abs_0f7a4 9 = .ok (.iload_n 0, 1) := by decide +kernel
theorem dJ9_abs_0f7a4_10 : decode cJ9_abs_0f7a4 10 = .ok (.ireturn, 1) := by decide +kernel
theorem dJ9_max_7cf53_0 : decode cJ9_max_7cf53 0 = .ok (.iload_n 0, 1) := by decide +kernel
theorem dJ9_max_7cf53_1 : decode cJ9_max_7cf53 1 = .ok (.iload_n 1, 1) := by decide +kernel
theorem dJ9_max_7cf53_2 : decode cJ9_max_7cf53 2 = .ok (.if_icmp .lt 7, 3) := by decide +kernel
theorem dJ9_max_7cf53_5 : decode cJ9_max_7cf53 5 = .ok (.iload_n 0, 1) := by decide +kernel
theorem dJ9_max_7cf53_6 : decode cJ9_max_7cf53 6 = .ok (.goto 4, 3) := by decide +kernel
theorem dJ9_max_7cf53_9 : decode cJ9_max_7cf53 9 = .ok (.iload_n 1, 1) := by decide +kernel
theorem dJ9_max_7cf53_10 : decode cJ9_max_7cf53 10 = .ok (.ireturn, 1) := by decide +kernel
theorem dJ9_min_7cf53_0 : decode cJ9_min_7cf53 0 = .ok (.iload_n 0, 1) := by decide +kernel
theorem dJ9_min_7cf53_1 : decode cJ9_min_7cf53 1 = .ok (.iload_n 1, 1) := by decide +kernel
theorem dJ9_min_7cf53_2 : decode cJ9_min_7cf53 2 = .ok (.if_icmp .gt 7, 3) := by decide +kernel
theorem dJ9_min_7cf53_5 : decode cJ9_min_7cf53 5 = .ok (.iload_n 0, 1) := by decide +kernel
theorem dJ9_min_7cf53_6 : decode cJ9_min_7cf53 6 = .ok (.goto 4, 3) := by decide +kernel
theorem dJ9_min_7cf53_9 : decode cJ9_min_7cf53 9 = .ok (.iload_n 1, 1) := by decide +kernel
theorem dJ9_min_7cf53_10 : decode cJ9_min_7cf53 10 = .ok (.ireturn, 1) := by decide +kernel
theorem dL_law_0 : decode cL_law 0 = .ok (.new 7, 3) := by decide +kernel
theorem dL_law_3 : decode cL_law 3 = .ok (.dup, 1) := by decide +kernel
theorem dL_law_4 : decode cL_law 4 = .ok (.invokespecial 9, 3) := by decide +kernel
theorem dL_law_7 : decode cL_law 7 = .ok (.astore_n 1, 1) := by decide +kernel
theorem dL_law_8 : decode cL_law 8 = .ok (.new 10, 3) := by decide +kernel
theorem dL_law_11 : decode cL_law 11 = .ok (.dup, 1) := by decide +kernel
theorem dL_law_12 : decode cL_law 12 = .ok (.invokespecial 12, 3) := by decide +kernel
theorem dL_law_15 : decode cL_law 15 = .ok (.astore_n 2, 1) := by decide +kernel
theorem dL_law_16 : decode cL_law 16 = .ok (.iconst 0, 1) := by decide +kernel
theorem dL_law_17 : decode cL_law 17 = .ok (.istore_n 3, 1) := by decide +kernel
theorem dL_law_18 : decode cL_law 18 = .ok (.iload_n 3, 1) := by decide +kernel
theorem dL_law_19 : decode cL_law 19 = .ok (.aload_n 0, 1) := by decide +kernel
theorem dL_law_20 : decode cL_law 20 = .ok (.arraylength, 1) := by decide +kernel
theorem dL_law_21 : decode cL_law 21 = .ok (.iconst 4, 1) := by decide +kernel
theorem dL_law_22 : decode cL_law 22 = .ok (.isub, 1) := by decide +kernel
theorem dL_law_23 : decode cL_law 23 = .ok (.if_icmp .gt 663, 3) := by decide +kernel
theorem dL_law_26 : decode cL_law 26 = .ok (.aload_n 0, 1) := by decide +kernel
theorem dL_law_27 : decode cL_law 27 = .ok (.iload_n 3, 1) := by decide +kernel
theorem dL_law_28 : decode cL_law 28 = .ok (.iaload, 1) := by decide +kernel
theorem dL_law_29 : decode cL_law 29 = .ok (.bipush 31, 2) := by decide +kernel
theorem dL_law_31 : decode cL_law 31 = .ok (.iand, 1) := by decide +kernel
theorem dL_law_32 : decode cL_law 32 = .ok (.tableswitch 648 0 21 #[104, 137, 170, 193, 226, 239, 252, 275, 300, 313, 326, 349, 362, 375, 388, 421, 464, 497, 556, 579, 602, 625], 104) := by decide +kernel
theorem dL_law_136 : decode cL_law 136 = .ok (.aload_n 1, 1) := by decide +kernel
theorem dL_law_137 : decode cL_law 137 = .ok (.aload_n 0, 1) := by decide +kernel
theorem dL_law_138 : decode cL_law 138 = .ok (.iload_n 3, 1) := by decide +kernel
theorem dL_law_139 : decode cL_law 139 = .ok (.iconst 1, 1) := by decide +kernel
theorem dL_law_140 : decode cL_law 140 = .ok (.iadd, 1) := by decide +kernel
theorem dL_law_141 : decode cL_law 141 = .ok (.iaload, 1) := by decide +kernel
theorem dL_law_142 : decode cL_law 142 = .ok (.aload_n 0, 1) := by decide +kernel
theorem dL_law_143 : decode cL_law 143 = .ok (.iload_n 3, 1) := by decide +kernel
theorem dL_law_144 : decode cL_law 144 = .ok (.iconst 2, 1) := by decide +kernel
theorem dL_law_145 : decode cL_law 145 = .ok (.iadd, 1) := by decide +kernel
theorem dL_law_146 : decode cL_law 146 = .ok (.iaload, 1) := by decide +kernel
theorem dL_law_147 : decode cL_law 147 = .ok (.invokevirtual 13, 3) := by decide +kernel
theorem dL_law_150 : decode cL_law 150 = .ok (.aload_n 2, 1) := by decide +kernel
theorem dL_law_151 : decode cL_law 151 = .ok (.aload_n 0, 1) := by decide +kernel
theorem dL_law_152 : decode cL_law 152 = .ok (.iload_n 3, 1) := by decide +kernel
theorem dL_law_153 : decode cL_law 153 = .ok (.iconst 1, 1) := by decide +kernel
theorem dL_law_154 : decode cL_law 154 = .ok (.iadd, 1) := by decide +kernel
theorem dL_law_155 : decode cL_law 155 = .ok (.iaload, 1) := by decide +kernel
theorem dL_law_156 : decode cL_law 156 = .ok (.aload_n 0, 1) := by decide +kernel
theorem dL_law_157 : decode cL_law 157 = .ok (.iload_n 3, 1) := by decide +kernel
theorem dL_law_158 : decode cL_law 158 = .ok (.iconst 2, 1) := by decide +kernel
theorem dL_law_159 : decode cL_law 159 = .ok (.iadd, 1) := by decide +kernel
theorem dL_law_160 : decode cL_law 160 = .ok (.iaload, 1) := by decide +kernel
theorem dL_law_161 : decode cL_law 161 = .ok (.invokevirtual 17, 3) := by decide +kernel
theorem dL_law_164 : decode cL_law 164 = .ok (.if_icmp .eq 516, 3) := by decide +kernel
theorem dL_law_167 : decode cL_law 167 = .ok (.iconst 0, 1) := by decide +kernel
theorem dL_law_168 : decode cL_law 168 = .ok (.ireturn, 1) := by decide +kernel
theorem dL_law_169 : decode cL_law 169 = .ok (.aload_n 1, 1) := by decide +kernel
theorem dL_law_170 : decode cL_law 170 = .ok (.aload_n 0, 1) := by decide +kernel
theorem dL_law_171 : decode cL_law 171 = .ok (.iload_n 3, 1) := by decide +kernel
theorem dL_law_172 : decode cL_law 172 = .ok (.iconst 1, 1) := by decide +kernel
theorem dL_law_173 : decode cL_law 173 = .ok (.iadd, 1) := by decide +kernel
theorem dL_law_174 : decode cL_law 174 = .ok (.iaload, 1) := by decide +kernel
theorem dL_law_175 : decode cL_law 175 = .ok (.aload_n 0, 1) := by decide +kernel
theorem dL_law_176 : decode cL_law 176 = .ok (.iload_n 3, 1) := by decide +kernel
theorem dL_law_177 : decode cL_law 177 = .ok (.iconst 2, 1) := by decide +kernel
theorem dL_law_178 : decode cL_law 178 = .ok (.iadd, 1) := by decide +kernel
theorem dL_law_179 : decode cL_law 179 = .ok (.iaload, 1) := by decide +kernel
theorem dL_law_180 : decode cL_law 180 = .ok (.invokevirtual 18, 3) := by decide +kernel
theorem dL_law_183 : decode cL_law 183 = .ok (.aload_n 2, 1) := by decide +kernel
theorem dL_law_184 : decode cL_law 184 = .ok (.aload_n 0, 1) := by decide +kernel
theorem dL_law_185 : decode cL_law 185 = .ok (.iload_n 3, 1) := by decide +kernel
theorem dL_law_186 : decode cL_law 186 = .ok (.iconst 1, 1) := by decide +kernel
theorem dL_law_187 : decode cL_law 187 = .ok (.iadd, 1) := by decide +kernel
theorem dL_law_188 : decode cL_law 188 = .ok (.iaload, 1) := by decide +kernel
theorem dL_law_189 : decode cL_law 189 = .ok (.aload_n 0, 1) := by decide +kernel
theorem dL_law_190 : decode cL_law 190 = .ok (.iload_n 3, 1) := by decide +kernel
theorem dL_law_191 : decode cL_law 191 = .ok (.iconst 2, 1) := by decide +kernel
theorem dL_law_192 : decode cL_law 192 = .ok (.iadd, 1) := by decide +kernel
theorem dL_law_193 : decode cL_law 193 = .ok (.iaload, 1) := by decide +kernel
theorem dL_law_194 : decode cL_law 194 = .ok (.invokevirtual 21, 3) := by decide +kernel
theorem dL_law_197 : decode cL_law 197 = .ok (.if_icmp .eq 483, 3) := by decide +kernel
theorem dL_law_200 : decode cL_law 200 = .ok (.iconst 0, 1) := by decide +kernel
theorem dL_law_201 : decode cL_law 201 = .ok (.ireturn, 1) := by decide +kernel
theorem dL_law_202 : decode cL_law 202 = .ok (.aload_n 1, 1) := by decide +kernel
theorem dL_law_203 : decode cL_law 203 = .ok (.aload_n 0, 1) := by decide +kernel
theorem dL_law_204 : decode cL_law 204 = .ok (.iload_n 3, 1) := by decide +kernel
theorem dL_law_205 : decode cL_law 205 = .ok (.iconst 1, 1) := by decide +kernel
theorem dL_law_206 : decode cL_law 206 = .ok (.iadd, 1) := by decide +kernel
theorem dL_law_207 : decode cL_law 207 = .ok (.iaload, 1) := by decide +kernel
theorem dL_law_208 : decode cL_law 208 = .ok (.invokevirtual 22, 3) := by decide +kernel
theorem dL_law_211 : decode cL_law 211 = .ok (.aload_n 2, 1) := by decide +kernel
theorem dL_law_212 : decode cL_law 212 = .ok (.aload_n 0, 1) := by decide +kernel
theorem dL_law_213 : decode cL_law 213 = .ok (.iload_n 3, 1) := by decide +kernel
theorem dL_law_214 : decode cL_law 214 = .ok (.iconst 1, 1) := by decide +kernel
theorem dL_law_215 : decode cL_law 215 = .ok (.iadd, 1) := by decide +kernel
theorem dL_law_216 : decode cL_law 216 = .ok (.iaload, 1) := by decide +kernel
theorem dL_law_217 : decode cL_law 217 = .ok (.invokevirtual 26, 3) := by decide +kernel
theorem dL_law_220 : decode cL_law 220 = .ok (.if_icmp .eq 460, 3) := by decide +kernel
theorem dL_law_223 : decode cL_law 223 = .ok (.iconst 0, 1) := by decide +kernel
theorem dL_law_224 : decode cL_law 224 = .ok (.ireturn, 1) := by decide +kernel
theorem dL_law_225 : decode cL_law 225 = .ok (.aload_n 1, 1) := by decide +kernel
theorem dL_law_226 : decode cL_law 226 = .ok (.aload_n 0, 1) := by decide +kernel
theorem dL_law_227 : decode cL_law 227 = .ok (.iload_n 3, 1) := by decide +kernel
theorem dL_law_228 : decode cL_law 228 = .ok (.iconst 1, 1) := by decide +kernel
theorem dL_law_229 : decode cL_law 229 = .ok (.iadd, 1) := by decide +kernel
theorem dL_law_230 : decode cL_law 230 = .ok (.iaload, 1) := by decide +kernel
theorem dL_law_231 : decode cL_law 231 = .ok (.aload_n 0, 1) := by decide +kernel
theorem dL_law_232 : decode cL_law 232 = .ok (.iload_n 3, 1) := by decide +kernel
theorem dL_law_233 : decode cL_law 233 = .ok (.iconst 2, 1) := by decide +kernel
theorem dL_law_234 : decode cL_law 234 = .ok (.iadd, 1) := by decide +kernel
theorem dL_law_235 : decode cL_law 235 = .ok (.iaload, 1) := by decide +kernel
theorem dL_law_236 : decode cL_law 236 = .ok (.invokevirtual 27, 3) := by decide +kernel
theorem dL_law_239 : decode cL_law 239 = .ok (.aload_n 2, 1) := by decide +kernel
theorem dL_law_240 : decode cL_law 240 = .ok (.aload_n 0, 1) := by decide +kernel
theorem dL_law_241 : decode cL_law 241 = .ok (.iload_n 3, 1) := by decide +kernel
theorem dL_law_242 : decode cL_law 242 = .ok (.iconst 1, 1) := by decide +kernel
theorem dL_law_243 : decode cL_law 243 = .ok (.iadd, 1) := by decide +kernel
theorem dL_law_244 : decode cL_law 244 = .ok (.iaload, 1) := by decide +kernel
theorem dL_law_245 : decode cL_law 245 = .ok (.aload_n 0, 1) := by decide +kernel
theorem dL_law_246 : decode cL_law 246 = .ok (.iload_n 3, 1) := by decide +kernel
theorem dL_law_247 : decode cL_law 247 = .ok (.iconst 2, 1) := by decide +kernel
theorem dL_law_248 : decode cL_law 248 = .ok (.iadd, 1) := by decide +kernel
theorem dL_law_249 : decode cL_law 249 = .ok (.iaload, 1) := by decide +kernel
theorem dL_law_250 : decode cL_law 250 = .ok (.invokevirtual 30, 3) := by decide +kernel
theorem dL_law_253 : decode cL_law 253 = .ok (.if_icmp .eq 427, 3) := by decide +kernel
theorem dL_law_256 : decode cL_law 256 = .ok (.iconst 0, 1) := by decide +kernel
theorem dL_law_257 : decode cL_law 257 = .ok (.ireturn, 1) := by decide +kernel
theorem dL_law_258 : decode cL_law 258 = .ok (.aload_n 1, 1) := by decide +kernel
theorem dL_law_259 : decode cL_law 259 = .ok (.invokevirtual 31, 3) := by decide +kernel
theorem dL_law_262 : decode cL_law 262 = .ok (.aload_n 2, 1) := by decide +kernel
theorem dL_law_263 : decode cL_law 263 = .ok (.invokevirtual 35, 3) := by decide +kernel
theorem dL_law_266 : decode cL_law 266 = .ok (.if_icmp .eq 414, 3) := by decide +kernel
theorem dL_law_269 : decode cL_law 269 = .ok (.iconst 0, 1) := by decide +kernel
theorem dL_law_270 : decode cL_law 270 = .ok (.ireturn, 1) := by decide +kernel
theorem dL_law_271 : decode cL_law 271 = .ok (.aload_n 1, 1) := by decide +kernel
theorem dL_law_272 : decode cL_law 272 = .ok (.invokevirtual 36, 3) := by decide +kernel
theorem dL_law_275 : decode cL_law 275 = .ok (.aload_n 2, 1) := by decide +kernel
theorem dL_law_276 : decode cL_law 276 = .ok (.invokevirtual 39, 3) := by decide +kernel
theorem dL_law_279 : decode cL_law 279 = .ok (.if_icmp .eq 401, 3) := by decide +kernel
theorem dL_law_282 : decode cL_law 282 = .ok (.iconst 0, 1) := by decide +kernel
theorem dL_law_283 : decode cL_law 283 = .ok (.ireturn, 1) := by decide +kernel
theorem dL_law_284 : decode cL_law 284 = .ok (.aload_n 1, 1) := by decide +kernel
theorem dL_law_285 : decode cL_law 285 = .ok (.aload_n 0, 1) := by decide +kernel
theorem dL_law_286 : decode cL_law 286 = .ok (.iload_n 3, 1) := by decide +kernel
theorem dL_law_287 : decode cL_law 287 = .ok (.iconst 1, 1) := by decide +kernel
theorem dL_law_288 : decode cL_law 288 = .ok (.iadd, 1) := by decide +kernel
theorem dL_law_289 : decode cL_law 289 = .ok (.iaload, 1) := by decide +kernel
theorem dL_law_290 : decode cL_law 290 = .ok (.invokevirtual 40, 3) := by decide +kernel
theorem dL_law_293 : decode cL_law 293 = .ok (.aload_n 2, 1) := by decide +kernel
theorem dL_law_294 : decode cL_law 294 = .ok (.aload_n 0, 1) := by decide +kernel
theorem dL_law_295 : decode cL_law 295 = .ok (.iload_n 3, 1) := by decide +kernel
theorem dL_law_296 : decode cL_law 296 = .ok (.iconst 1, 1) := by decide +kernel
theorem dL_law_297 : decode cL_law 297 = .ok (.iadd, 1) := by decide +kernel
theorem dL_law_298 : decode cL_law 298 = .ok (.iaload, 1) := by decide +kernel
theorem dL_law_299 : decode cL_law 299 = .ok (.invokevirtual 43, 3) := by decide +kernel
theorem dL_law_302 : decode cL_law 302 = .ok (.if_icmp .eq 378, 3) := by decide +kernel
theorem dL_law_305 : decode cL_law 305 = .ok (.iconst 0, 1) := by decide +kernel
theorem dL_law_306 : decode cL_law 306 = .ok (.ireturn, 1) := by decide +kernel
theorem dL_law_307 : decode cL_law 307 = .ok (.aload_n 1, 1) := by decide +kernel
theorem dL_law_308 : decode cL_law 308 = .ok (.aload_n 0, 1) := by decide +kernel
theorem dL_law_309 : decode cL_law 309 = .ok (.iload_n 3, 1) := by decide +kernel
theorem dL_law_310 : decode cL_law 310 = .ok (.iconst 1, 1) := by decide +kernel
theorem dL_law_311 : decode cL_law 311 = .ok (.iadd, 1) := by decide +kernel
theorem dL_law_312 : decode cL_law 312 = .ok (.iaload, 1) := by decide +kernel
theorem dL_law_313 : decode cL_law 313 = .ok (.i2c, 1) := by decide +kernel
theorem dL_law_314 : decode cL_law 314 = .ok (.invokevirtual 44, 3) := by decide +kernel
theorem dL_law_317 : decode cL_law 317 = .ok (.aload_n 2, 1) := by decide +kernel
theorem dL_law_318 : decode cL_law 318 = .ok (.aload_n 0, 1) := by decide +kernel
theorem dL_law_319 : decode cL_law 319 = .ok (.iload_n 3, 1) := by decide +kernel
theorem dL_law_320 : decode cL_law 320 = .ok (.iconst 1, 1) := by decide +kernel
theorem dL_law_321 : decode cL_law 321 = .ok (.iadd, 1) := by decide +kernel
theorem dL_law_322 : decode cL_law 322 = .ok (.iaload, 1) := by decide +kernel
theorem dL_law_323 : decode cL_law 323 = .ok (.i2c, 1) := by decide +kernel
theorem dL_law_324 : decode cL_law 324 = .ok (.invokevirtual 48, 3) := by decide +kernel
theorem dL_law_327 : decode cL_law 327 = .ok (.if_icmp .eq 353, 3) := by decide +kernel
theorem dL_law_330 : decode cL_law 330 = .ok (.iconst 0, 1) := by decide +kernel
theorem dL_law_331 : decode cL_law 331 = .ok (.ireturn, 1) := by decide +kernel
theorem dL_law_332 : decode cL_law 332 = .ok (.aload_n 1, 1) := by decide +kernel
theorem dL_law_333 : decode cL_law 333 = .ok (.invokevirtual 49, 3) := by decide +kernel
theorem dL_law_336 : decode cL_law 336 = .ok (.aload_n 2, 1) := by decide +kernel
theorem dL_law_337 : decode cL_law 337 = .ok (.invokevirtual 52, 3) := by decide +kernel
theorem dL_law_340 : decode cL_law 340 = .ok (.if_icmp .eq 340, 3) := by decide +kernel
theorem dL_law_343 : decode cL_law 343 = .ok (.iconst 0, 1) := by decide +kernel
theorem dL_law_344 : decode cL_law 344 = .ok (.ireturn, 1) := by decide +kernel
theorem dL_law_345 : decode cL_law 345 = .ok (.aload_n 1, 1) := by decide +kernel
theorem dL_law_346 : decode cL_law 346 = .ok (.invokevirtual 53, 3) := by decide +kernel
theorem dL_law_349 : decode cL_law 349 = .ok (.aload_n 2, 1) := by decide +kernel
theorem dL_law_350 : decode cL_law 350 = .ok (.invokevirtual 56, 3) := by decide +kernel
theorem dL_law_353 : decode cL_law 353 = .ok (.if_icmp .eq 327, 3) := by decide +kernel
theorem dL_law_356 : decode cL_law 356 = .ok (.iconst 0, 1) := by decide +kernel
theorem dL_law_357 : decode cL_law 357 = .ok (.ireturn, 1) := by decide +kernel
theorem dL_law_358 : decode cL_law 358 = .ok (.aload_n 1, 1) := by decide +kernel
theorem dL_law_359 : decode cL_law 359 = .ok (.aload_n 0, 1) := by decide +kernel
theorem dL_law_360 : decode cL_law 360 = .ok (.iload_n 3, 1) := by decide +kernel
theorem dL_law_361 : decode cL_law 361 = .ok (.iconst 1, 1) := by decide +kernel
theorem dL_law_362 : decode cL_law 362 = .ok (.iadd, 1) := by decide +kernel
theorem dL_law_363 : decode cL_law 363 = .ok (.iaload, 1) := by decide +kernel
theorem dL_law_364 : decode cL_law 364 = .ok (.invokevirtual 57, 3) := by decide +kernel
theorem dL_law_367 : decode cL_law 367 = .ok (.aload_n 2, 1) := by decide +kernel
theorem dL_law_368 : decode cL_law 368 = .ok (.aload_n 0, 1) := by decide +kernel
theorem dL_law_369 : decode cL_law 369 = .ok (.iload_n 3, 1) := by decide +kernel
theorem dL_law_370 : decode cL_law 370 = .ok (.iconst 1, 1) := by decide +kernel
theorem dL_law_371 : decode cL_law 371 = .ok (.iadd, 1) := by decide +kernel
theorem dL_law_372 : decode cL_law 372 = .ok (.iaload, 1) := by decide +kernel
theorem dL_law_373 : decode cL_law 373 = .ok (.invokevirtual 60, 3) := by decide +kernel
theorem dL_law_376 : decode cL_law 376 = .ok (.if_icmp .eq 304, 3) := by decide +kernel
theorem dL_law_379 : decode cL_law 379 = .ok (.iconst 0, 1) := by decide +kernel
theorem dL_law_380 : decode cL_law 380 = .ok (.ireturn, 1) := by decide +kernel
theorem dL_law_381 : decode cL_law 381 = .ok (.aload_n 1, 1) := by decide +kernel
theorem dL_law_382 : decode cL_law 382 = .ok (.invokevirtual 61, 3) := by decide +kernel
theorem dL_law_385 : decode cL_law 385 = .ok (.aload_n 2, 1) := by decide +kernel
theorem dL_law_386 : decode cL_law 386 = .ok (.invokevirtual 64, 3) := by decide +kernel
theorem dL_law_389 : decode cL_law 389 = .ok (.if_icmp .eq 291, 3) := by decide +kernel
theorem dL_law_392 : decode cL_law 392 = .ok (.iconst 0, 1) := by decide +kernel
theorem dL_law_393 : decode cL_law 393 = .ok (.ireturn, 1) := by decide +kernel
theorem dL_law_394 : decode cL_law 394 = .ok (.aload_n 1, 1) := by decide +kernel
theorem dL_law_395 : decode cL_law 395 = .ok (.invokevirtual 65, 3) := by decide +kernel
theorem dL_law_398 : decode cL_law 398 = .ok (.aload_n 2, 1) := by decide +kernel
theorem dL_law_399 : decode cL_law 399 = .ok (.invokevirtual 68, 3) := by decide +kernel
theorem dL_law_402 : decode cL_law 402 = .ok (.if_icmp .eq 278, 3) := by decide +kernel
theorem dL_law_405 : decode cL_law 405 = .ok (.iconst 0, 1) := by decide +kernel
theorem dL_law_406 : decode cL_law 406 = .ok (.ireturn, 1) := by decide +kernel
theorem dL_law_407 : decode cL_law 407 = .ok (.aload_n 1, 1) := by decide +kernel
theorem dL_law_408 : decode cL_law 408 = .ok (.invokevirtual 69, 3) := by decide +kernel
theorem dL_law_411 : decode cL_law 411 = .ok (.aload_n 2, 1) := by decide +kernel
theorem dL_law_412 : decode cL_law 412 = .ok (.invokevirtual 72, 3) := by decide +kernel
theorem dL_law_415 : decode cL_law 415 = .ok (.if_icmp .eq 265, 3) := by decide +kernel
theorem dL_law_418 : decode cL_law 418 = .ok (.iconst 0, 1) := by decide +kernel
theorem dL_law_419 : decode cL_law 419 = .ok (.ireturn, 1) := by decide +kernel
theorem dL_law_420 : decode cL_law 420 = .ok (.aload_n 1, 1) := by decide +kernel
theorem dL_law_421 : decode cL_law 421 = .ok (.aload_n 0, 1) := by decide +kernel
theorem dL_law_422 : decode cL_law 422 = .ok (.iload_n 3, 1) := by decide +kernel
theorem dL_law_423 : decode cL_law 423 = .ok (.iconst 1, 1) := by decide +kernel
theorem dL_law_424 : decode cL_law 424 = .ok (.iadd, 1) := by decide +kernel
theorem dL_law_425 : decode cL_law 425 = .ok (.iaload, 1) := by decide +kernel
theorem dL_law_426 : decode cL_law 426 = .ok (.aload_n 0, 1) := by decide +kernel
theorem dL_law_427 : decode cL_law 427 = .ok (.iload_n 3, 1) := by decide +kernel
theorem dL_law_428 : decode cL_law 428 = .ok (.iconst 2, 1) := by decide +kernel
theorem dL_law_429 : decode cL_law 429 = .ok (.iadd, 1) := by decide +kernel
theorem dL_law_430 : decode cL_law 430 = .ok (.iaload, 1) := by decide +kernel
theorem dL_law_431 : decode cL_law 431 = .ok (.invokevirtual 73, 3) := by decide +kernel
theorem dL_law_434 : decode cL_law 434 = .ok (.aload_n 2, 1) := by decide +kernel
theorem dL_law_435 : decode cL_law 435 = .ok (.aload_n 0, 1) := by decide +kernel
theorem dL_law_436 : decode cL_law 436 = .ok (.iload_n 3, 1) := by decide +kernel
theorem dL_law_437 : decode cL_law 437 = .ok (.iconst 1, 1) := by decide +kernel
theorem dL_law_438 : decode cL_law 438 = .ok (.iadd, 1) := by decide +kernel
theorem dL_law_439 : decode cL_law 439 = .ok (.iaload, 1) := by decide +kernel
theorem dL_law_440 : decode cL_law 440 = .ok (.aload_n 0, 1) := by decide +kernel
theorem dL_law_441 : decode cL_law 441 = .ok (.iload_n 3, 1) := by decide +kernel
theorem dL_law_442 : decode cL_law 442 = .ok (.iconst 2, 1) := by decide +kernel
theorem dL_law_443 : decode cL_law 443 = .ok (.iadd, 1) := by decide +kernel
theorem dL_law_444 : decode cL_law 444 = .ok (.iaload, 1) := by decide +kernel
theorem dL_law_445 : decode cL_law 445 = .ok (.invokevirtual 76, 3) := by decide +kernel
theorem dL_law_448 : decode cL_law 448 = .ok (.if_icmp .eq 232, 3) := by decide +kernel
theorem dL_law_451 : decode cL_law 451 = .ok (.iconst 0, 1) := by decide +kernel
theorem dL_law_452 : decode cL_law 452 = .ok (.ireturn, 1) := by decide +kernel
theorem dL_law_453 : decode cL_law 453 = .ok (.aload_n 1, 1) := by decide +kernel
theorem dL_law_454 : decode cL_law 454 = .ok (.aload_n 0, 1) := by decide +kernel
theorem dL_law_455 : decode cL_law 455 = .ok (.iload_n 3, 1) := by decide +kernel
theorem dL_law_456 : decode cL_law 456 = .ok (.iconst 1, 1) := by decide +kernel
theorem dL_law_457 : decode cL_law 457 = .ok (.iadd, 1) := by decide +kernel
theorem dL_law_458 : decode cL_law 458 = .ok (.iaload, 1) := by decide +kernel
theorem dL_law_459 : decode cL_law 459 = .ok (.aload_n 0, 1) := by decide +kernel
theorem dL_law_460 : decode cL_law 460 = .ok (.iload_n 3, 1) := by decide +kernel
theorem dL_law_461 : decode cL_law 461 = .ok (.iconst 2, 1) := by decide +kernel
theorem dL_law_462 : decode cL_law 462 = .ok (.iadd, 1) := by decide +kernel
theorem dL_law_463 : decode cL_law 463 = .ok (.iaload, 1) := by decide +kernel
theorem dL_law_464 : decode cL_law 464 = .ok (.aload_n 0, 1) := by decide +kernel
theorem dL_law_465 : decode cL_law 465 = .ok (.iload_n 3, 1) := by decide +kernel
theorem dL_law_466 : decode cL_law 466 = .ok (.iconst 3, 1) := by decide +kernel
theorem dL_law_467 : decode cL_law 467 = .ok (.iadd, 1) := by decide +kernel
theorem dL_law_468 : decode cL_law 468 = .ok (.iaload, 1) := by decide +kernel
theorem dL_law_469 : decode cL_law 469 = .ok (.invokevirtual 77, 3) := by decide +kernel
theorem dL_law_472 : decode cL_law 472 = .ok (.aload_n 2, 1) := by decide +kernel
theorem dL_law_473 : decode cL_law 473 = .ok (.aload_n 0, 1) := by decide +kernel
theorem dL_law_474 : decode cL_law 474 = .ok (.iload_n 3, 1) := by decide +kernel
theorem dL_law_475 : decode cL_law 475 = .ok (.iconst 1, 1) := by decide +kernel
theorem dL_law_476 : decode cL_law 476 = .ok (.iadd, 1) := by decide +kernel
theorem dL_law_477 : decode cL_law 477 = .ok (.iaload, 1) := by decide +kernel
theorem dL_law_478 : decode cL_law 478 = .ok (.aload_n 0, 1) := by decide +kernel
theorem dL_law_479 : decode cL_law 479 = .ok (.iload_n 3, 1) := by decide +kernel
theorem dL_law_480 : decode cL_law 480 = .ok (.iconst 2, 1) := by decide +kernel
theorem dL_law_481 : decode cL_law 481 = .ok (.iadd, 1) := by decide +kernel
theorem dL_law_482 : decode cL_law 482 = .ok (.iaload, 1) := by decide +kernel
theorem dL_law_483 : decode cL_law 483 = .ok (.aload_n 0, 1) := by decide +kernel
theorem dL_law_484 : decode cL_law 484 = .ok (.iload_n 3, 1) := by decide +kernel
theorem dL_law_485 : decode cL_law 485 = .ok (.iconst 3, 1) := by decide +kernel
theorem dL_law_486 : decode cL_law 486 = .ok (.iadd, 1) := by decide +kernel
theorem dL_law_487 : decode cL_law 487 = .ok (.iaload, 1) := by decide +kernel
theorem dL_law_488 : decode cL_law 488 = .ok (.invokevirtual 81, 3) := by decide +kernel
theorem dL_law_491 : decode cL_law 491 = .ok (.if_icmp .eq 189, 3) := by decide +kernel
theorem dL_law_494 : decode cL_law 494 = .ok (.iconst 0, 1) := by decide +kernel
theorem dL_law_495 : decode cL_law 495 = .ok (.ireturn, 1) := by decide +kernel
theorem dL_law_496 : decode cL_law 496 = .ok (.aload_n 1, 1) := by decide +kernel
theorem dL_law_497 : decode cL_law 497 = .ok (.aload_n 0, 1) := by decide +kernel
theorem dL_law_498 : decode cL_law 498 = .ok (.iload_n 3, 1) := by decide +kernel
theorem dL_law_499 : decode cL_law 499 = .ok (.iconst 1, 1) := by decide +kernel
theorem dL_law_500 : decode cL_law 500 = .ok (.iadd, 1) := by decide +kernel
theorem dL_law_501 : decode cL_law 501 = .ok (.iaload, 1) := by decide +kernel
theorem dL_law_502 : decode cL_law 502 = .ok (.aload_n 0, 1) := by decide +kernel
theorem dL_law_503 : decode cL_law 503 = .ok (.iload_n 3, 1) := by decide +kernel
theorem dL_law_504 : decode cL_law 504 = .ok (.iconst 2, 1) := by decide +kernel
theorem dL_law_505 : decode cL_law 505 = .ok (.iadd, 1) := by decide +kernel
theorem dL_law_506 : decode cL_law 506 = .ok (.iaload, 1) := by decide +kernel
theorem dL_law_507 : decode cL_law 507 = .ok (.invokevirtual 82, 3) := by decide +kernel
theorem dL_law_510 : decode cL_law 510 = .ok (.aload_n 2, 1) := by decide +kernel
theorem dL_law_511 : decode cL_law 511 = .ok (.aload_n 0, 1) := by decide +kernel
theorem dL_law_512 : decode cL_law 512 = .ok (.iload_n 3, 1) := by decide +kernel
theorem dL_law_513 : decode cL_law 513 = .ok (.iconst 1, 1) := by decide +kernel
theorem dL_law_514 : decode cL_law 514 = .ok (.iadd, 1) := by decide +kernel
theorem dL_law_515 : decode cL_law 515 = .ok (.iaload, 1) := by decide +kernel
theorem dL_law_516 : decode cL_law 516 = .ok (.aload_n 0, 1) := by decide +kernel
theorem dL_law_517 : decode cL_law 517 = .ok (.iload_n 3, 1) := by decide +kernel
theorem dL_law_518 : decode cL_law 518 = .ok (.iconst 2, 1) := by decide +kernel
theorem dL_law_519 : decode cL_law 519 = .ok (.iadd, 1) := by decide +kernel
theorem dL_law_520 : decode cL_law 520 = .ok (.iaload, 1) := by decide +kernel
theorem dL_law_521 : decode cL_law 521 = .ok (.invokevirtual 85, 3) := by decide +kernel
theorem dL_law_524 : decode cL_law 524 = .ok (.if_icmp .eq 156, 3) := by decide +kernel
theorem dL_law_527 : decode cL_law 527 = .ok (.iconst 0, 1) := by decide +kernel
theorem dL_law_528 : decode cL_law 528 = .ok (.ireturn, 1) := by decide +kernel
theorem dL_law_529 : decode cL_law 529 = .ok (.aload_n 1, 1) := by decide +kernel
theorem dL_law_530 : decode cL_law 530 = .ok (.aload_n 0, 1) := by decide +kernel
theorem dL_law_531 : decode cL_law 531 = .ok (.iload_n 3, 1) := by decide +kernel
theorem dL_law_532 : decode cL_law 532 = .ok (.iconst 1, 1) := by decide +kernel
theorem dL_law_533 : decode cL_law 533 = .ok (.iadd, 1) := by decide +kernel
theorem dL_law_534 : decode cL_law 534 = .ok (.iaload, 1) := by decide +kernel
theorem dL_law_535 : decode cL_law 535 = .ok (.aload_n 0, 1) := by decide +kernel
theorem dL_law_536 : decode cL_law 536 = .ok (.iload_n 3, 1) := by decide +kernel
theorem dL_law_537 : decode cL_law 537 = .ok (.iconst 2, 1) := by decide +kernel
theorem dL_law_538 : decode cL_law 538 = .ok (.iadd, 1) := by decide +kernel
theorem dL_law_539 : decode cL_law 539 = .ok (.iaload, 1) := by decide +kernel
theorem dL_law_540 : decode cL_law 540 = .ok (.aload_n 0, 1) := by decide +kernel
theorem dL_law_541 : decode cL_law 541 = .ok (.iload_n 3, 1) := by decide +kernel
theorem dL_law_542 : decode cL_law 542 = .ok (.iconst 3, 1) := by decide +kernel
theorem dL_law_543 : decode cL_law 543 = .ok (.iadd, 1) := by decide +kernel
theorem dL_law_544 : decode cL_law 544 = .ok (.iaload, 1) := by decide +kernel
theorem dL_law_545 : decode cL_law 545 = .ok (.ifCond .eq 7, 3) := by decide +kernel
theorem dL_law_548 : decode cL_law 548 = .ok (.iconst 1, 1) := by decide +kernel
theorem dL_law_549 : decode cL_law 549 = .ok (.goto 4, 3) := by decide +kernel
theorem dL_law_552 : decode cL_law 552 = .ok (.iconst 0, 1) := by decide +kernel
theorem dL_law_553 : decode cL_law 553 = .ok (.invokevirtual 86, 3) := by decide +kernel
theorem dL_law_556 : decode cL_law 556 = .ok (.aload_n 2, 1) := by decide +kernel
theorem dL_law_557 : decode cL_law 557 = .ok (.aload_n 0, 1) := by decide +kernel
theorem dL_law_558 : decode cL_law 558 = .ok (.iload_n 3, 1) := by decide +kernel
theorem dL_law_559 : decode cL_law 559 = .ok (.iconst 1, 1) := by decide +kernel
theorem dL_law_560 : decode cL_law 560 = .ok (.iadd, 1) := by decide +kernel
theorem dL_law_561 : decode cL_law 561 = .ok (.iaload, 1) := by decide +kernel
theorem dL_law_562 : decode cL_law 562 = .ok (.aload_n 0, 1) := by decide +kernel
theorem dL_law_563 : decode cL_law 563 = .ok (.iload_n 3, 1) := by decide +kernel
theorem dL_law_564 : decode cL_law 564 = .ok (.iconst 2, 1) := by decide +kernel
theorem dL_law_565 : decode cL_law 565 = .ok (.iadd, 1) := by decide +kernel
theorem dL_law_566 : decode cL_law 566 = .ok (.iaload, 1) := by decide +kernel
theorem dL_law_567 : decode cL_law 567 = .ok (.aload_n 0, 1) := by decide +kernel
theorem dL_law_568 : decode cL_law 568 = .ok (.iload_n 3, 1) := by decide +kernel
theorem dL_law_569 : decode cL_law 569 = .ok (.iconst 3, 1) := by decide +kernel
theorem dL_law_570 : decode cL_law 570 = .ok (.iadd, 1) := by decide +kernel
theorem dL_law_571 : decode cL_law 571 = .ok (.iaload, 1) := by decide +kernel
theorem dL_law_572 : decode cL_law 572 = .ok (.ifCond .eq 7, 3) := by decide +kernel
theorem dL_law_575 : decode cL_law 575 = .ok (.iconst 1, 1) := by decide +kernel
theorem dL_law_576 : decode cL_law 576 = .ok (.goto 4, 3) := by decide +kernel
theorem dL_law_579 : decode cL_law 579 = .ok (.iconst 0, 1) := by decide +kernel
theorem dL_law_580 : decode cL_law 580 = .ok (.invokevirtual 90, 3) := by decide +kernel
theorem dL_law_583 : decode cL_law 583 = .ok (.if_icmp .eq 97, 3) := by decide +kernel
theorem dL_law_586 : decode cL_law 586 = .ok (.iconst 0, 1) := by decide +kernel
theorem dL_law_587 : decode cL_law 587 = .ok (.ireturn, 1) := by decide +kernel
theorem dL_law_588 : decode cL_law 588 = .ok (.aload_n 1, 1) := by decide +kernel
theorem dL_law_589 : decode cL_law 589 = .ok (.aload_n 0, 1) := by decide +kernel
theorem dL_law_590 : decode cL_law 590 = .ok (.iload_n 3, 1) := by decide +kernel
theorem dL_law_591 : decode cL_law 591 = .ok (.iconst 1, 1) := by decide +kernel
theorem dL_law_592 : decode cL_law 592 = .ok (.iadd, 1) := by decide +kernel
theorem dL_law_593 : decode cL_law 593 = .ok (.iaload, 1) := by decide +kernel
theorem dL_law_594 : decode cL_law 594 = .ok (.invokevirtual 91, 3) := by decide +kernel
theorem dL_law_597 : decode cL_law 597 = .ok (.aload_n 2, 1) := by decide +kernel
theorem dL_law_598 : decode cL_law 598 = .ok (.aload_n 0, 1) := by decide +kernel
theorem dL_law_599 : decode cL_law 599 = .ok (.iload_n 3, 1) := by decide +kernel
theorem dL_law_600 : decode cL_law 600 = .ok (.iconst 1, 1) := by decide +kernel
theorem dL_law_601 : decode cL_law 601 = .ok (.iadd, 1) := by decide +kernel
theorem dL_law_602 : decode cL_law 602 = .ok (.iaload, 1) := by decide +kernel
theorem dL_law_603 : decode cL_law 603 = .ok (.invokevirtual 94, 3) := by decide +kernel
theorem dL_law_606 : decode cL_law 606 = .ok (.if_icmp .eq 74, 3) := by decide +kernel
theorem dL_law_609 : decode cL_law 609 = .ok (.iconst 0, 1) := by decide +kernel
theorem dL_law_610 : decode cL_law 610 = .ok (.ireturn, 1) := by decide +kernel
theorem dL_law_611 : decode cL_law 611 = .ok (.aload_n 1, 1) := by decide +kernel
theorem dL_law_612 : decode cL_law 612 = .ok (.aload_n 0, 1) := by decide +kernel
theorem dL_law_613 : decode cL_law 613 = .ok (.iload_n 3, 1) := by decide +kernel
theorem dL_law_614 : decode cL_law 614 = .ok (.iconst 1, 1) := by decide +kernel
theorem dL_law_615 : decode cL_law 615 = .ok (.iadd, 1) := by decide +kernel
theorem dL_law_616 : decode cL_law 616 = .ok (.iaload, 1) := by decide +kernel
theorem dL_law_617 : decode cL_law 617 = .ok (.invokevirtual 95, 3) := by decide +kernel
theorem dL_law_620 : decode cL_law 620 = .ok (.aload_n 2, 1) := by decide +kernel
theorem dL_law_621 : decode cL_law 621 = .ok (.aload_n 0, 1) := by decide +kernel
theorem dL_law_622 : decode cL_law 622 = .ok (.iload_n 3, 1) := by decide +kernel
theorem dL_law_623 : decode cL_law 623 = .ok (.iconst 1, 1) := by decide +kernel
theorem dL_law_624 : decode cL_law 624 = .ok (.iadd, 1) := by decide +kernel
theorem dL_law_625 : decode cL_law 625 = .ok (.iaload, 1) := by decide +kernel
theorem dL_law_626 : decode cL_law 626 = .ok (.invokevirtual 98, 3) := by decide +kernel
theorem dL_law_629 : decode cL_law 629 = .ok (.if_icmp .eq 51, 3) := by decide +kernel
theorem dL_law_632 : decode cL_law 632 = .ok (.iconst 0, 1) := by decide +kernel
theorem dL_law_633 : decode cL_law 633 = .ok (.ireturn, 1) := by decide +kernel
theorem dL_law_634 : decode cL_law 634 = .ok (.aload_n 1, 1) := by decide +kernel
theorem dL_law_635 : decode cL_law 635 = .ok (.aload_n 0, 1) := by decide +kernel
theorem dL_law_636 : decode cL_law 636 = .ok (.iload_n 3, 1) := by decide +kernel
theorem dL_law_637 : decode cL_law 637 = .ok (.iconst 1, 1) := by decide +kernel
theorem dL_law_638 : decode cL_law 638 = .ok (.iadd, 1) := by decide +kernel
theorem dL_law_639 : decode cL_law 639 = .ok (.iaload, 1) := by decide +kernel
theorem dL_law_640 : decode cL_law 640 = .ok (.invokevirtual 99, 3) := by decide +kernel
theorem dL_law_643 : decode cL_law 643 = .ok (.aload_n 2, 1) := by decide +kernel
theorem dL_law_644 : decode cL_law 644 = .ok (.aload_n 0, 1) := by decide +kernel
theorem dL_law_645 : decode cL_law 645 = .ok (.iload_n 3, 1) := by decide +kernel
theorem dL_law_646 : decode cL_law 646 = .ok (.iconst 1, 1) := by decide +kernel
theorem dL_law_647 : decode cL_law 647 = .ok (.iadd, 1) := by decide +kernel
theorem dL_law_648 : decode cL_law 648 = .ok (.iaload, 1) := by decide +kernel
theorem dL_law_649 : decode cL_law 649 = .ok (.invokevirtual 102, 3) := by decide +kernel
theorem dL_law_652 : decode cL_law 652 = .ok (.if_icmp .eq 28, 3) := by decide +kernel
theorem dL_law_655 : decode cL_law 655 = .ok (.iconst 0, 1) := by decide +kernel
theorem dL_law_656 : decode cL_law 656 = .ok (.ireturn, 1) := by decide +kernel
theorem dL_law_657 : decode cL_law 657 = .ok (.aload_n 1, 1) := by decide +kernel
theorem dL_law_658 : decode cL_law 658 = .ok (.aload_n 0, 1) := by decide +kernel
theorem dL_law_659 : decode cL_law 659 = .ok (.iload_n 3, 1) := by decide +kernel
theorem dL_law_660 : decode cL_law 660 = .ok (.iconst 1, 1) := by decide +kernel
theorem dL_law_661 : decode cL_law 661 = .ok (.iadd, 1) := by decide +kernel
theorem dL_law_662 : decode cL_law 662 = .ok (.iaload, 1) := by decide +kernel
theorem dL_law_663 : decode cL_law 663 = .ok (.invokevirtual 103, 3) := by decide +kernel
theorem dL_law_666 : decode cL_law 666 = .ok (.aload_n 2, 1) := by decide +kernel
theorem dL_law_667 : decode cL_law 667 = .ok (.aload_n 0, 1) := by decide +kernel
theorem dL_law_668 : decode cL_law 668 = .ok (.iload_n 3, 1) := by decide +kernel
theorem dL_law_669 : decode cL_law 669 = .ok (.iconst 1, 1) := by decide +kernel
theorem dL_law_670 : decode cL_law 670 = .ok (.iadd, 1) := by decide +kernel
theorem dL_law_671 : decode cL_law 671 = .ok (.iaload, 1) := by decide +kernel
theorem dL_law_672 : decode cL_law 672 = .ok (.invokevirtual 106, 3) := by decide +kernel
theorem dL_law_675 : decode cL_law 675 = .ok (.if_icmp .eq 5, 3) := by decide +kernel
theorem dL_law_678 : decode cL_law 678 = .ok (.iconst 0, 1) := by decide +kernel
theorem dL_law_679 : decode cL_law 679 = .ok (.ireturn, 1) := by decide +kernel
theorem dL_law_680 : decode cL_law 680 = .ok (.iinc 3 4, 3) := by decide +kernel
theorem dL_law_683 : decode cL_law 683 = .ok (.goto (-665), 3) := by decide +kernel
theorem dL_law_686 : decode cL_law 686 = .ok (.iconst 1, 1) := by decide +kernel
theorem dL_law_687 : decode cL_law 687 = .ok (.ireturn, 1) := by decide +kernel
abbrev vwCl : List vw_C := [(RX0, TX0, 6), (RX1, TX1, 2), (RX2, TX2, 2), (RX3, TX3, 5), (RX4, TX4, 3), (RX5, TX5, 2), (RX6, TX6, 3), (RX7, TX7, 5), (RX8, TX8, 4), (RX9, TX9, 6), (RX10, TX10, 14), (RX11, TX11, 17)]
end
section
/-! which words the tables hold, by their places; written by a program (wip/whole/gen/words.py) -/
def lc_WS : List Cond := lw_tbl.filter goodWord
theorem lc_ws {w : Cond} (h : w ∈ lw_tbl) (g : goodWord w = true) : w ∈ lc_WS := List.mem_filter.mpr ⟨h, g⟩
theorem lc_WS_in : ∀ w ∈ lc_WS, w ∈ lw_tbl := fun w h => (List.mem_filter.mp h).1
theorem lc_WS_good : ∀ w ∈ lc_WS, goodWord w = true := fun w h => (List.mem_filter.mp h).2
theorem lc_t0 {w : Cond} (j : Nat) (h : (k2_sels lw_privs)[j]? = some w) : w ∈ lw_tbl := List.mem_append_left _ (List.mem_of_getElem? h)
theorem lc_tt {w : Cond} (h : w ∈ tables_1) : w ∈ lw_tbl := List.mem_append_right _ h
theorem lc_t1 {w : Cond} (j : Nat) (h : tables_1_1[j]? = some w) : w ∈ lw_tbl := lc_tt (List.mem_append_left _ (List.mem_of_getElem? h))
theorem lc_t2 {w : Cond} (j : Nat) (h : tables_1_2[j]? = some w) : w ∈ lw_tbl := lc_tt (List.mem_append_right _ (List.mem_append_left _ (List.mem_of_getElem? h)))
theorem lc_t3 {w : Cond} (j : Nat) (h : tables_1_3[j]? = some w) : w ∈ lw_tbl := lc_tt (List.mem_append_right _ (List.mem_append_right _ (List.mem_append_left _ (List.mem_of_getElem? h))))
theorem lc_t4 {w : Cond} (j : Nat) (h : tables_1_4[j]? = some w) : w ∈ lw_tbl := lc_tt (List.mem_append_right _ (List.mem_append_right _ (List.mem_append_right _ (List.mem_of_getElem? h))))
theorem lc_all {C : String} {T : u_T} {N : Nat} (h : ∀ j, j < N → u_lay C T j ∈ lc_WS) : ∀ w ∈ u_ws C T N, w ∈ lc_WS := by
  intro w hw
  obtain ⟨j, hj, rfl⟩ := List.mem_map.mp hw
  exact h j (List.mem_range.mp hj)
set_option maxRecDepth 20000 in
theorem lc_kX0 : ∀ w ∈ u_ws RX0 TX0 6, w ∈ lc_WS := lc_all (lt_s (lt_s (lt_s (lt_s (lt_s (lt_s (lt_0) (lc_ws (lc_t1 167 (by decide +kernel)) (by decide +kernel))) (lc_ws (lc_t1 169 (by decide +kernel)) (by decide +kernel))) (lc_ws (lc_t1 171 (by decide +kernel)) (by decide +kernel))) (lc_ws (lc_t1 173 (by decide +kernel)) (by decide +kernel))) (lc_ws (lc_t1 175 (by decide +kernel)) (by decide +kernel))) (lc_ws (lc_t1 177 (by decide +kernel)) (by decide +kernel)))
set_option maxRecDepth 20000 in
theorem lc_kX1 : ∀ w ∈ u_ws RX1 TX1 2, w ∈ lc_WS := lc_all (lt_s (lt_s (lt_0) (lc_ws (lc_t1 42 (by decide +kernel)) (by decide +kernel))) (lc_ws (lc_t1 44 (by decide +kernel)) (by decide +kernel)))
set_option maxRecDepth 20000 in
theorem lc_kX2 : ∀ w ∈ u_ws RX2 TX2 2, w ∈ lc_WS := lc_all (lt_s (lt_s (lt_0) (lc_ws (lc_t2 6 (by decide +kernel)) (by decide +kernel))) (lc_ws (lc_t2 8 (by decide +kernel)) (by decide +kernel)))
set_option maxRecDepth 20000 in
theorem lc_kX3 : ∀ w ∈ u_ws RX3 TX3 5, w ∈ lc_WS := lc_all (lt_s (lt_s (lt_s (lt_s (lt_s (lt_0) (lc_ws (lc_t1 187 (by decide +kernel)) (by decide +kernel))) (lc_ws (lc_t1 189 (by decide +kernel)) (by decide +kernel))) (lc_ws (lc_t1 191 (by decide +kernel)) (by decide +kernel))) (lc_ws (lc_t1 193 (by decide +kernel)) (by decide +kernel))) (lc_ws (lc_t1 195 (by decide +kernel)) (by decide +kernel)))
set_option maxRecDepth 20000 in
theorem lc_kX4 : ∀ w ∈ u_ws RX4 TX4 3, w ∈ lc_WS := lc_all (lt_s (lt_s (lt_s (lt_0) (lc_ws (lc_t1 127 (by decide +kernel)) (by decide +kernel))) (lc_ws (lc_t1 129 (by decide +kernel)) (by decide +kernel))) (lc_ws (lc_t1 131 (by decide +kernel)) (by decide +kernel)))
set_option maxRecDepth 20000 in
theorem lc_kX5 : ∀ w ∈ u_ws RX5 TX5 2, w ∈ lc_WS := lc_all (lt_s (lt_s (lt_0) (lc_ws (lc_t2 19 (by decide +kernel)) (by decide +kernel))) (lc_ws (lc_t2 21 (by decide +kernel)) (by decide +kernel)))
set_option maxRecDepth 20000 in
theorem lc_kX6 : ∀ w ∈ u_ws RX6 TX6 3, w ∈ lc_WS := lc_all (lt_s (lt_s (lt_s (lt_0) (lc_ws (lc_t1 111 (by decide +kernel)) (by decide +kernel))) (lc_ws (lc_t1 113 (by decide +kernel)) (by decide +kernel))) (lc_ws (lc_t1 115 (by decide +kernel)) (by decide +kernel)))
set_option maxRecDepth 20000 in
theorem lc_kX7 : ∀ w ∈ u_ws RX7 TX7 5, w ∈ lc_WS := lc_all (lt_s (lt_s (lt_s (lt_s (lt_s (lt_0) (lc_ws (lc_t1 223 (by decide +kernel)) (by decide +kernel))) (lc_ws (lc_t1 225 (by decide +kernel)) (by decide +kernel))) (lc_ws (lc_t1 227 (by decide +kernel)) (by decide +kernel))) (lc_ws (lc_t1 229 (by decide +kernel)) (by decide +kernel))) (lc_ws (lc_t1 231 (by decide +kernel)) (by decide +kernel)))
set_option maxRecDepth 20000 in
theorem lc_kX8 : ∀ w ∈ u_ws RX8 TX8 4, w ∈ lc_WS := lc_all (lt_s (lt_s (lt_s (lt_s (lt_0) (lc_ws (lc_t1 68 (by decide +kernel)) (by decide +kernel))) (lc_ws (lc_t1 70 (by decide +kernel)) (by decide +kernel))) (lc_ws (lc_t1 72 (by decide +kernel)) (by decide +kernel))) (lc_ws (lc_t1 74 (by decide +kernel)) (by decide +kernel)))
set_option maxRecDepth 20000 in
theorem lc_kX9 : ∀ w ∈ u_ws RX9 TX9 6, w ∈ lc_WS := lc_all (lt_s (lt_s (lt_s (lt_s (lt_s (lt_s (lt_0) (lc_ws (lc_t1 87 (by decide +kernel)) (by decide +kernel))) (lc_ws (lc_t1 89 (by decide +kernel)) (by decide +kernel))) (lc_ws (lc_t1 91 (by decide +kernel)) (by decide +kernel))) (lc_ws (lc_t1 93 (by decide +kernel)) (by decide +kernel))) (lc_ws (lc_t1 95 (by decide +kernel)) (by decide +kernel))) (lc_ws (lc_t1 97 (by decide +kernel)) (by decide +kernel)))
set_option maxRecDepth 20000 in
theorem lc_kX10 : ∀ w ∈ u_ws RX10 TX10 14, w ∈ lc_WS := lc_all (lt_s (lt_s (lt_s (lt_s (lt_s (lt_s (lt_s (lt_s (lt_s (lt_s (lt_s (lt_s (lt_s (lt_s (lt_0) (lc_ws (lc_t2 39 (by decide +kernel)) (by decide +kernel))) (lc_ws (lc_t2 41 (by decide +kernel)) (by decide +kernel))) (lc_ws (lc_t2 43 (by decide +kernel)) (by decide +kernel))) (lc_ws (lc_t2 45 (by decide +kernel)) (by decide +kernel))) (lc_ws (lc_t2 47 (by decide +kernel)) (by decide +kernel))) (lc_ws (lc_t2 49 (by decide +kernel)) (by decide +kernel))) (lc_ws (lc_t2 51 (by decide +kernel)) (by decide +kernel))) (lc_ws (lc_t2 53 (by decide +kernel)) (by decide +kernel))) (lc_ws (lc_t2 55 (by decide +kernel)) (by decide +kernel))) (lc_ws (lc_t2 57 (by decide +kernel)) (by decide +kernel))) (lc_ws (lc_t2 59 (by decide +kernel)) (by decide +kernel))) (lc_ws (lc_t2 61 (by decide +kernel)) (by decide +kernel))) (lc_ws (lc_t2 63 (by decide +kernel)) (by decide +kernel))) (lc_ws (lc_t2 65 (by decide +kernel)) (by decide +kernel)))
set_option maxRecDepth 20000 in
theorem lc_kX11 : ∀ w ∈ u_ws RX11 TX11 17, w ∈ lc_WS := lc_all (lt_s (lt_s (lt_s (lt_s (lt_s (lt_s (lt_s (lt_s (lt_s (lt_s (lt_s (lt_s (lt_s (lt_s (lt_s (lt_s (lt_s (lt_0) (lc_ws (lc_t4 4 (by decide +kernel)) (by decide +kernel))) (lc_ws (lc_t4 6 (by decide +kernel)) (by decide +kernel))) (lc_ws (lc_t4 8 (by decide +kernel)) (by decide +kernel))) (lc_ws (lc_t4 10 (by decide +kernel)) (by decide +kernel))) (lc_ws (lc_t4 12 (by decide +kernel)) (by decide +kernel))) (lc_ws (lc_t4 14 (by decide +kernel)) (by decide +kernel))) (lc_ws (lc_t4 16 (by decide +kernel)) (by decide +kernel))) (lc_ws (lc_t4 18 (by decide +kernel)) (by decide +kernel))) (lc_ws (lc_t4 20 (by decide +kernel)) (by decide +kernel))) (lc_ws (lc_t4 22 (by decide +kernel)) (by decide +kernel))) (lc_ws (lc_t4 24 (by decide +kernel)) (by decide +kernel))) (lc_ws (lc_t4 26 (by decide +kernel)) (by decide +kernel))) (lc_ws (lc_t4 28 (by decide +kernel)) (by decide +kernel))) (lc_ws (lc_t4 30 (by decide +kernel)) (by decide +kernel))) (lc_ws (lc_t4 32 (by decide +kernel)) (by decide +kernel))) (lc_ws (lc_t4 34 (by decide +kernel)) (by decide +kernel))) (lc_ws (lc_t4 36 (by decide +kernel)) (by decide +kernel)))
def lc_FL (own : String) (idx ci k : Nat) (fin : Bool) (ty : FieldType) : Prop := ∃ (C : String) (T : u_T) (N : Nat) (t0 : Nat → FieldType), vwCl[ci]? = some (C, T, N) ∧ k < N ∧ (∀ w ∈ u_ws C T N, w ∈ lc_WS) ∧ Cond.fieldLink own idx (T k).1 (T k).2.1 (T k).2.2.1 ∈ lc_WS ∧ (∀ j, j < N → parseFieldDescriptor (T j).2.2.1 = some (t0 j)) ∧ (∀ a, a < N → ∀ b, b < N → a ≠ b → (T a).2.1 ≠ (T b).2.1) ∧ t0 k = ty ∧ (T k).2.2.2 = fin ∧ (T k).1 = C
theorem lc_fX1_11 : lc_FL RX1 11 1 0 true (.array .int) := ⟨RX1, TX1, 2, tyX1, rfl, by decide, lc_kX1, lc_ws (lc_t1 40 (by decide +kernel)) (by decide +kernel), tyX1_ok, nmX1, rfl, rfl, rfl⟩
theorem lc_fX1_15 : lc_FL RX1 15 1 1 true (.array .int) := ⟨RX1, TX1, 2, tyX1, rfl, by decide, lc_kX1, lc_ws (lc_t1 41 (by decide +kernel)) (by decide +kernel), tyX1_ok, nmX1, rfl, rfl, rfl⟩
theorem lc_fX8_9 : lc_FL RX8 9 8 0 true (.object "LoopCaptures$Circuits") := ⟨RX8, TX8, 4, tyX8, rfl, by decide, lc_kX8, lc_ws (lc_t1 60 (by decide +kernel)) (by decide +kernel), tyX8_ok, nmX8, rfl, rfl, rfl⟩
theorem lc_fX8_15 : lc_FL RX8 15 8 1 false .int := ⟨RX8, TX8, 4, tyX8, rfl, by decide, lc_kX8, lc_ws (lc_t1 61 (by decide +kernel)) (by decide +kernel), tyX8_ok, nmX8, rfl, rfl, rfl⟩
theorem lc_fX6_92 : lc_FL RX6 92 8 1 false .int := ⟨RX8, TX8, 4, tyX8, rfl, by decide, lc_kX8, lc_ws (lc_t1 62 (by decide +kernel)) (by decide +kernel), tyX8_ok, nmX8, rfl, rfl, rfl⟩
theorem lc_fX8_19 : lc_FL RX8 19 8 2 false .int := ⟨RX8, TX8, 4, tyX8, rfl, by decide, lc_kX8, lc_ws (lc_t1 63 (by decide +kernel)) (by decide +kernel), tyX8_ok, nmX8, rfl, rfl, rfl⟩
theorem lc_fX9_50 : lc_FL RX9 50 8 2 false .int := ⟨RX8, TX8, 4, tyX8, rfl, by decide, lc_kX8, lc_ws (lc_t1 64 (by decide +kernel)) (by decide +kernel), tyX8_ok, nmX8, rfl, rfl, rfl⟩
theorem lc_fX6_88 : lc_FL RX6 88 8 2 false .int := ⟨RX8, TX8, 4, tyX8, rfl, by decide, lc_kX8, lc_ws (lc_t1 65 (by decide +kernel)) (by decide +kernel), tyX8_ok, nmX8, rfl, rfl, rfl⟩
theorem lc_fX8_28 : lc_FL RX8 28 8 3 false .int := ⟨RX8, TX8, 4, tyX8, rfl, by decide, lc_kX8, lc_ws (lc_t1 66 (by decide +kernel)) (by decide +kernel), tyX8_ok, nmX8, rfl, rfl, rfl⟩
theorem lc_fX9_51 : lc_FL RX9 51 8 3 false .int := ⟨RX8, TX8, 4, tyX8, rfl, by decide, lc_kX8, lc_ws (lc_t1 67 (by decide +kernel)) (by decide +kernel), tyX8_ok, nmX8, rfl, rfl, rfl⟩
theorem lc_fX9_9 : lc_FL RX9 9 9 0 true (.object "LoopCaptures$Circuits") := ⟨RX9, TX9, 6, tyX9, rfl, by decide, lc_kX9, lc_ws (lc_t1 77 (by decide +kernel)) (by decide +kernel), tyX9_ok, nmX9, rfl, rfl, rfl⟩
theorem lc_fX9_20 : lc_FL RX9 20 9 1 true (.object "LoopCaptures$Walk") := ⟨RX9, TX9, 6, tyX9, rfl, by decide, lc_kX9, lc_ws (lc_t1 78 (by decide +kernel)) (by decide +kernel), tyX9_ok, nmX9, rfl, rfl, rfl⟩
theorem lc_fX9_24 : lc_FL RX9 24 9 2 false .int := ⟨RX9, TX9, 6, tyX9, rfl, by decide, lc_kX9, lc_ws (lc_t1 79 (by decide +kernel)) (by decide +kernel), tyX9_ok, nmX9, rfl, rfl, rfl⟩
theorem lc_fX10_203 : lc_FL RX10 203 9 2 false .int := ⟨RX9, TX9, 6, tyX9, rfl, by decide, lc_kX9, lc_ws (lc_t1 80 (by decide +kernel)) (by decide +kernel), tyX9_ok, nmX9, rfl, rfl, rfl⟩
theorem lc_fX9_54 : lc_FL RX9 54 9 3 false .int := ⟨RX9, TX9, 6, tyX9, rfl, by decide, lc_kX9, lc_ws (lc_t1 81 (by decide +kernel)) (by decide +kernel), tyX9_ok, nmX9, rfl, rfl, rfl⟩
theorem lc_fX10_206 : lc_FL RX10 206 9 3 false .int := ⟨RX9, TX9, 6, tyX9, rfl, by decide, lc_kX9, lc_ws (lc_t1 82 (by decide +kernel)) (by decide +kernel), tyX9_ok, nmX9, rfl, rfl, rfl⟩
theorem lc_fX9_55 : lc_FL RX9 55 9 4 false .int := ⟨RX9, TX9, 6, tyX9, rfl, by decide, lc_kX9, lc_ws (lc_t1 83 (by decide +kernel)) (by decide +kernel), tyX9_ok, nmX9, rfl, rfl, rfl⟩
theorem lc_fX10_209 : lc_FL RX10 209 9 4 false .int := ⟨RX9, TX9, 6, tyX9, rfl, by decide, lc_kX9, lc_ws (lc_t1 84 (by decide +kernel)) (by decide +kernel), tyX9_ok, nmX9, rfl, rfl, rfl⟩
theorem lc_fX9_58 : lc_FL RX9 58 9 5 false .int := ⟨RX9, TX9, 6, tyX9, rfl, by decide, lc_kX9, lc_ws (lc_t1 85 (by decide +kernel)) (by decide +kernel), tyX9_ok, nmX9, rfl, rfl, rfl⟩
theorem lc_fX10_212 : lc_FL RX10 212 9 5 false .int := ⟨RX9, TX9, 6, tyX9, rfl, by decide, lc_kX9, lc_ws (lc_t1 86 (by decide +kernel)) (by decide +kernel), tyX9_ok, nmX9, rfl, rfl, rfl⟩
theorem lc_fX6_9 : lc_FL RX6 9 6 0 true (.object "LoopCaptures$Circuits") := ⟨RX6, TX6, 3, tyX6, rfl, by decide, lc_kX6, lc_ws (lc_t1 108 (by decide +kernel)) (by decide +kernel), tyX6_ok, nmX6, rfl, rfl, rfl⟩
theorem lc_fX6_20 : lc_FL RX6 20 6 1 true (.object "LoopCaptures$Walk") := ⟨RX6, TX6, 3, tyX6, rfl, by decide, lc_kX6, lc_ws (lc_t1 109 (by decide +kernel)) (by decide +kernel), tyX6_ok, nmX6, rfl, rfl, rfl⟩
theorem lc_fX6_24 : lc_FL RX6 24 6 2 true (.object "LoopCaptures$Way") := ⟨RX6, TX6, 3, tyX6, rfl, by decide, lc_kX6, lc_ws (lc_t1 110 (by decide +kernel)) (by decide +kernel), tyX6_ok, nmX6, rfl, rfl, rfl⟩
theorem lc_fX4_11 : lc_FL RX4 11 4 0 true (.array .int) := ⟨RX4, TX4, 3, tyX4, rfl, by decide, lc_kX4, lc_ws (lc_t1 124 (by decide +kernel)) (by decide +kernel), tyX4_ok, nmX4, rfl, rfl, rfl⟩
theorem lc_fX4_15 : lc_FL RX4 15 4 1 false .int := ⟨RX4, TX4, 3, tyX4, rfl, by decide, lc_kX4, lc_ws (lc_t1 125 (by decide +kernel)) (by decide +kernel), tyX4_ok, nmX4, rfl, rfl, rfl⟩
theorem lc_fX4_19 : lc_FL RX4 19 4 2 false .int := ⟨RX4, TX4, 3, tyX4, rfl, by decide, lc_kX4, lc_ws (lc_t1 126 (by decide +kernel)) (by decide +kernel), tyX4_ok, nmX4, rfl, rfl, rfl⟩
theorem lc_fX0_9 : lc_FL RX0 9 0 0 true (.array .int) := ⟨RX0, TX0, 6, tyX0, rfl, by decide, lc_kX0, lc_ws (lc_t1 161 (by decide +kernel)) (by decide +kernel), tyX0_ok, nmX0, rfl, rfl, rfl⟩
theorem lc_fX0_36 : lc_FL RX0 36 0 1 false .int := ⟨RX0, TX0, 6, tyX0, rfl, by decide, lc_kX0, lc_ws (lc_t1 162 (by decide +kernel)) (by decide +kernel), tyX0_ok, nmX0, rfl, rfl, rfl⟩
theorem lc_fX0_39 : lc_FL RX0 39 0 2 false .int := ⟨RX0, TX0, 6, tyX0, rfl, by decide, lc_kX0, lc_ws (lc_t1 163 (by decide +kernel)) (by decide +kernel), tyX0_ok, nmX0, rfl, rfl, rfl⟩
theorem lc_fX0_30 : lc_FL RX0 30 0 3 false .int := ⟨RX0, TX0, 6, tyX0, rfl, by decide, lc_kX0, lc_ws (lc_t1 164 (by decide +kernel)) (by decide +kernel), tyX0_ok, nmX0, rfl, rfl, rfl⟩
theorem lc_fX0_33 : lc_FL RX0 33 0 4 false .int := ⟨RX0, TX0, 6, tyX0, rfl, by decide, lc_kX0, lc_ws (lc_t1 165 (by decide +kernel)) (by decide +kernel), tyX0_ok, nmX0, rfl, rfl, rfl⟩
theorem lc_fX0_15 : lc_FL RX0 15 0 5 false .int := ⟨RX0, TX0, 6, tyX0, rfl, by decide, lc_kX0, lc_ws (lc_t1 166 (by decide +kernel)) (by decide +kernel), tyX0_ok, nmX0, rfl, rfl, rfl⟩
theorem lc_fX3_28 : lc_FL RX3 28 3 0 true (.object "LoopCaptures$Rules") := ⟨RX3, TX3, 5, tyX3, rfl, by decide, lc_kX3, lc_ws (lc_t1 182 (by decide +kernel)) (by decide +kernel), tyX3_ok, nmX3, rfl, rfl, rfl⟩
theorem lc_fX3_12 : lc_FL RX3 12 3 1 true (.object "LoopCaptures$Board") := ⟨RX3, TX3, 5, tyX3, rfl, by decide, lc_kX3, lc_ws (lc_t1 183 (by decide +kernel)) (by decide +kernel), tyX3_ok, nmX3, rfl, rfl, rfl⟩
theorem lc_fX3_21 : lc_FL RX3 21 3 2 true (.object "LoopCaptures$MoveList") := ⟨RX3, TX3, 5, tyX3, rfl, by decide, lc_kX3, lc_ws (lc_t1 184 (by decide +kernel)) (by decide +kernel), tyX3_ok, nmX3, rfl, rfl, rfl⟩
theorem lc_fX3_25 : lc_FL RX3 25 3 3 true (.object "LoopCaptures$MoveList") := ⟨RX3, TX3, 5, tyX3, rfl, by decide, lc_kX3, lc_ws (lc_t1 185 (by decide +kernel)) (by decide +kernel), tyX3_ok, nmX3, rfl, rfl, rfl⟩
theorem lc_fX3_40 : lc_FL RX3 40 3 4 false .int := ⟨RX3, TX3, 5, tyX3, rfl, by decide, lc_kX3, lc_ws (lc_t1 186 (by decide +kernel)) (by decide +kernel), tyX3_ok, nmX3, rfl, rfl, rfl⟩
theorem lc_fX7_12 : lc_FL RX7 12 7 0 true (.object "LoopCaptures$Board") := ⟨RX7, TX7, 5, tyX7, rfl, by decide, lc_kX7, lc_ws (lc_t1 215 (by decide +kernel)) (by decide +kernel), tyX7_ok, nmX7, rfl, rfl, rfl⟩
theorem lc_fX10_81 : lc_FL RX10 81 7 0 true (.object "LoopCaptures$Board") := ⟨RX7, TX7, 5, tyX7, rfl, by decide, lc_kX7, lc_ws (lc_t1 216 (by decide +kernel)) (by decide +kernel), tyX7_ok, nmX7, rfl, rfl, rfl⟩
theorem lc_fX7_28 : lc_FL RX7 28 7 1 false .int := ⟨RX7, TX7, 5, tyX7, rfl, by decide, lc_kX7, lc_ws (lc_t1 217 (by decide +kernel)) (by decide +kernel), tyX7_ok, nmX7, rfl, rfl, rfl⟩
theorem lc_fX10_236 : lc_FL RX10 236 7 1 false .int := ⟨RX7, TX7, 5, tyX7, rfl, by decide, lc_kX7, lc_ws (lc_t1 218 (by decide +kernel)) (by decide +kernel), tyX7_ok, nmX7, rfl, rfl, rfl⟩
theorem lc_fX7_32 : lc_FL RX7 32 7 2 false .int := ⟨RX7, TX7, 5, tyX7, rfl, by decide, lc_kX7, lc_ws (lc_t1 219 (by decide +kernel)) (by decide +kernel), tyX7_ok, nmX7, rfl, rfl, rfl⟩
theorem lc_fX10_238 : lc_FL RX10 238 7 2 false .int := ⟨RX7, TX7, 5, tyX7, rfl, by decide, lc_kX7, lc_ws (lc_t1 220 (by decide +kernel)) (by decide +kernel), tyX7_ok, nmX7, rfl, rfl, rfl⟩
theorem lc_fX7_18 : lc_FL RX7 18 7 3 true (.array .long) := ⟨RX7, TX7, 5, tyX7, rfl, by decide, lc_kX7, lc_ws (lc_t1 221 (by decide +kernel)) (by decide +kernel), tyX7_ok, nmX7, rfl, rfl, rfl⟩
theorem lc_fX7_52 : lc_FL RX7 52 7 4 false .int := ⟨RX7, TX7, 5, tyX7, rfl, by decide, lc_kX7, lc_ws (lc_t1 222 (by decide +kernel)) (by decide +kernel), tyX7_ok, nmX7, rfl, rfl, rfl⟩
theorem lc_fX2_11 : lc_FL RX2 11 2 0 true (.array (.object "LoopCaptures$State")) := ⟨RX2, TX2, 2, tyX2, rfl, by decide, lc_kX2, lc_ws (lc_t2 4 (by decide +kernel)) (by decide +kernel), tyX2_ok, nmX2, rfl, rfl, rfl⟩
theorem lc_fX2_16 : lc_FL RX2 16 2 1 false .int := ⟨RX2, TX2, 2, tyX2, rfl, by decide, lc_kX2, lc_ws (lc_t2 5 (by decide +kernel)) (by decide +kernel), tyX2_ok, nmX2, rfl, rfl, rfl⟩
theorem lc_fX5_11 : lc_FL RX5 11 5 0 true (.array .char) := ⟨RX5, TX5, 2, tyX5, rfl, by decide, lc_kX5, lc_ws (lc_t2 17 (by decide +kernel)) (by decide +kernel), tyX5_ok, nmX5, rfl, rfl, rfl⟩
theorem lc_fX5_15 : lc_FL RX5 15 5 1 false .int := ⟨RX5, TX5, 2, tyX5, rfl, by decide, lc_kX5, lc_ws (lc_t2 18 (by decide +kernel)) (by decide +kernel), tyX5_ok, nmX5, rfl, rfl, rfl⟩
theorem lc_fX10_10 : lc_FL RX10 10 10 0 true (.object "LoopCaptures$Circuits") := ⟨RX10, TX10, 14, tyX10, rfl, by decide, lc_kX10, lc_ws (lc_t2 25 (by decide +kernel)) (by decide +kernel), tyX10_ok, nmX10, rfl, rfl, rfl⟩
theorem lc_fX10_21 : lc_FL RX10 21 10 1 true (.object "LoopCaptures$Way") := ⟨RX10, TX10, 14, tyX10, rfl, by decide, lc_kX10, lc_ws (lc_t2 26 (by decide +kernel)) (by decide +kernel), tyX10_ok, nmX10, rfl, rfl, rfl⟩
theorem lc_fX10_30 : lc_FL RX10 30 10 2 true (.object "LoopCaptures$Rules") := ⟨RX10, TX10, 14, tyX10, rfl, by decide, lc_kX10, lc_ws (lc_t2 27 (by decide +kernel)) (by decide +kernel), tyX10_ok, nmX10, rfl, rfl, rfl⟩
theorem lc_fX10_37 : lc_FL RX10 37 10 3 true (.object "LoopCaptures$MoveList") := ⟨RX10, TX10, 14, tyX10, rfl, by decide, lc_kX10, lc_ws (lc_t2 28 (by decide +kernel)) (by decide +kernel), tyX10_ok, nmX10, rfl, rfl, rfl⟩
theorem lc_fX10_46 : lc_FL RX10 46 10 4 true (.object "LoopCaptures$Lookahead") := ⟨RX10, TX10, 14, tyX10, rfl, by decide, lc_kX10, lc_ws (lc_t2 29 (by decide +kernel)) (by decide +kernel), tyX10_ok, nmX10, rfl, rfl, rfl⟩
theorem lc_fX10_53 : lc_FL RX10 53 10 5 true (.object "LoopCaptures$State") := ⟨RX10, TX10, 14, tyX10, rfl, by decide, lc_kX10, lc_ws (lc_t2 30 (by decide +kernel)) (by decide +kernel), tyX10_ok, nmX10, rfl, rfl, rfl⟩
theorem lc_fX10_57 : lc_FL RX10 57 10 6 true (.object "LoopCaptures$State") := ⟨RX10, TX10, 14, tyX10, rfl, by decide, lc_kX10, lc_ws (lc_t2 31 (by decide +kernel)) (by decide +kernel), tyX10_ok, nmX10, rfl, rfl, rfl⟩
theorem lc_fX10_60 : lc_FL RX10 60 10 7 true (.object "LoopCaptures$State") := ⟨RX10, TX10, 14, tyX10, rfl, by decide, lc_kX10, lc_ws (lc_t2 32 (by decide +kernel)) (by decide +kernel), tyX10_ok, nmX10, rfl, rfl, rfl⟩
theorem lc_fX10_66 : lc_FL RX10 66 10 8 true (.object "LoopCaptures$History") := ⟨RX10, TX10, 14, tyX10, rfl, by decide, lc_kX10, lc_ws (lc_t2 33 (by decide +kernel)) (by decide +kernel), tyX10_ok, nmX10, rfl, rfl, rfl⟩
theorem lc_fX10_73 : lc_FL RX10 73 10 9 true (.object "LoopCaptures$MoveText") := ⟨RX10, TX10, 14, tyX10, rfl, by decide, lc_kX10, lc_ws (lc_t2 34 (by decide +kernel)) (by decide +kernel), tyX10_ok, nmX10, rfl, rfl, rfl⟩
theorem lc_fX10_184 : lc_FL RX10 184 10 10 false .boolean := ⟨RX10, TX10, 14, tyX10, rfl, by decide, lc_kX10, lc_ws (lc_t2 35 (by decide +kernel)) (by decide +kernel), tyX10_ok, nmX10, rfl, rfl, rfl⟩
theorem lc_fX10_167 : lc_FL RX10 167 10 11 false .boolean := ⟨RX10, TX10, 14, tyX10, rfl, by decide, lc_kX10, lc_ws (lc_t2 36 (by decide +kernel)) (by decide +kernel), tyX10_ok, nmX10, rfl, rfl, rfl⟩
theorem lc_fX10_171 : lc_FL RX10 171 10 12 false .int := ⟨RX10, TX10, 14, tyX10, rfl, by decide, lc_kX10, lc_ws (lc_t2 37 (by decide +kernel)) (by decide +kernel), tyX10_ok, nmX10, rfl, rfl, rfl⟩
theorem lc_fX10_175 : lc_FL RX10 175 10 13 false .int := ⟨RX10, TX10, 14, tyX10, rfl, by decide, lc_kX10, lc_ws (lc_t2 38 (by decide +kernel)) (by decide +kernel), tyX10_ok, nmX10, rfl, rfl, rfl⟩
theorem lc_fX11_7 : lc_FL RX11 7 11 0 true (.array .int) := ⟨RX11, TX11, 17, tyX11, rfl, by decide, lc_kX11, lc_ws (lc_t3 227 (by decide +kernel)) (by decide +kernel), tyX11_ok, nmX11, rfl, rfl, rfl⟩
theorem lc_fX11_13 : lc_FL RX11 13 11 1 true (.array .int) := ⟨RX11, TX11, 17, tyX11, rfl, by decide, lc_kX11, lc_ws (lc_t3 228 (by decide +kernel)) (by decide +kernel), tyX11_ok, nmX11, rfl, rfl, rfl⟩
theorem lc_fX11_16 : lc_FL RX11 16 11 2 true (.array .int) := ⟨RX11, TX11, 17, tyX11, rfl, by decide, lc_kX11, lc_ws (lc_t3 229 (by decide +kernel)) (by decide +kernel), tyX11_ok, nmX11, rfl, rfl, rfl⟩
theorem lc_fX11_19 : lc_FL RX11 19 11 3 true (.array .int) := ⟨RX11, TX11, 17, tyX11, rfl, by decide, lc_kX11, lc_ws (lc_t3 230 (by decide +kernel)) (by decide +kernel), tyX11_ok, nmX11, rfl, rfl, rfl⟩
theorem lc_fX11_22 : lc_FL RX11 22 11 4 true (.array .int) := ⟨RX11, TX11, 17, tyX11, rfl, by decide, lc_kX11, lc_ws (lc_t3 231 (by decide +kernel)) (by decide +kernel), tyX11_ok, nmX11, rfl, rfl, rfl⟩
theorem lc_fX11_45 : lc_FL RX11 45 11 5 false .int := ⟨RX11, TX11, 17, tyX11, rfl, by decide, lc_kX11, lc_ws (lc_t3 232 (by decide +kernel)) (by decide +kernel), tyX11_ok, nmX11, rfl, rfl, rfl⟩
theorem lc_fX11_25 : lc_FL RX11 25 11 6 true (.array .int) := ⟨RX11, TX11, 17, tyX11, rfl, by decide, lc_kX11, lc_ws (lc_t3 233 (by decide +kernel)) (by decide +kernel), tyX11_ok, nmX11, rfl, rfl, rfl⟩
theorem lc_fX11_56 : lc_FL RX11 56 11 7 false .boolean := ⟨RX11, TX11, 17, tyX11, rfl, by decide, lc_kX11, lc_ws (lc_t3 234 (by decide +kernel)) (by decide +kernel), tyX11_ok, nmX11, rfl, rfl, rfl⟩
theorem lc_fX11_28 : lc_FL RX11 28 11 8 true (.array .int) := ⟨RX11, TX11, 17, tyX11, rfl, by decide, lc_kX11, lc_ws (lc_t3 235 (by decide +kernel)) (by decide +kernel), tyX11_ok, nmX11, rfl, rfl, rfl⟩
theorem lc_fX11_138 : lc_FL RX11 138 11 9 false .int := ⟨RX11, TX11, 17, tyX11, rfl, by decide, lc_kX11, lc_ws (lc_t3 236 (by decide +kernel)) (by decide +kernel), tyX11_ok, nmX11, rfl, rfl, rfl⟩
theorem lc_fX11_141 : lc_FL RX11 141 11 10 false .int := ⟨RX11, TX11, 17, tyX11, rfl, by decide, lc_kX11, lc_ws (lc_t3 237 (by decide +kernel)) (by decide +kernel), tyX11_ok, nmX11, rfl, rfl, rfl⟩
theorem lc_fX11_31 : lc_FL RX11 31 11 11 false .int := ⟨RX11, TX11, 17, tyX11, rfl, by decide, lc_kX11, lc_ws (lc_t3 238 (by decide +kernel)) (by decide +kernel), tyX11_ok, nmX11, rfl, rfl, rfl⟩
theorem lc_fX11_35 : lc_FL RX11 35 11 12 false .int := ⟨RX11, TX11, 17, tyX11, rfl, by decide, lc_kX11, lc_ws (lc_t3 239 (by decide +kernel)) (by decide +kernel), tyX11_ok, nmX11, rfl, rfl, rfl⟩
theorem lc_fX11_81 : lc_FL RX11 81 11 13 false .int := ⟨RX11, TX11, 17, tyX11, rfl, by decide, lc_kX11, lc_ws (lc_t4 0 (by decide +kernel)) (by decide +kernel), tyX11_ok, nmX11, rfl, rfl, rfl⟩
theorem lc_fX11_84 : lc_FL RX11 84 11 14 false .int := ⟨RX11, TX11, 17, tyX11, rfl, by decide, lc_kX11, lc_ws (lc_t4 1 (by decide +kernel)) (by decide +kernel), tyX11_ok, nmX11, rfl, rfl, rfl⟩
theorem lc_fX11_91 : lc_FL RX11 91 11 15 false .int := ⟨RX11, TX11, 17, tyX11, rfl, by decide, lc_kX11, lc_ws (lc_t4 2 (by decide +kernel)) (by decide +kernel), tyX11_ok, nmX11, rfl, rfl, rfl⟩
theorem lc_fX11_128 : lc_FL RX11 128 11 16 false .int := ⟨RX11, TX11, 17, tyX11, rfl, by decide, lc_kX11, lc_ws (lc_t4 3 (by decide +kernel)) (by decide +kernel), tyX11_ok, nmX11, rfl, rfl, rfl⟩
def lc_YV (y : MethodName) (cc : ByteArray) (nL : Nat) (ret : Option FieldType) (na : Nat) : Prop := Cond.instanceMethod y ∈ lc_WS ∧ Cond.selects y.cls y y ∈ lc_WS ∧ Cond.initialized y.cls ∈ lc_WS ∧ Cond.code y cc nL ret ∈ lc_WS ∧ y.cls ≠ "java/lang/invoke/MethodHandle" ∧ y.cls ≠ "java/lang/invoke/VarHandle" ∧ (parseMethodDescriptor y.desc).map (fun d => d.parameters.length) = some na
def lc_YS (y : MethodName) (cc : ByteArray) (nL : Nat) (ret : Option FieldType) (na : Nat) : Prop := Cond.static y ∈ lc_WS ∧ Cond.initialized y.cls ∈ lc_WS ∧ Cond.code y cc nL ret ∈ lc_WS ∧ y.cls ≠ "java/lang/invoke/MethodHandle" ∧ y.cls ≠ "java/lang/invoke/VarHandle" ∧ (parseMethodDescriptor y.desc).map (fun d => d.parameters.length) = some na
def lc_YI (y : MethodName) (cc : ByteArray) (nL : Nat) (na : Nat) : Prop := y.name = "<init>" ∧ Cond.instanceMethod y ∈ lc_WS ∧ Cond.initialized y.cls ∈ lc_WS ∧ Cond.code y cc nL none ∈ lc_WS ∧ y.cls ≠ "java/lang/invoke/MethodHandle" ∧ y.cls ≠ "java/lang/invoke/VarHandle" ∧ (parseMethodDescriptor y.desc).map (fun d => d.parameters.length) = some na
theorem lc_yX10_init : lc_YI yX10_init cX10_init 1 0 := ⟨rfl, lc_ws (lc_t1 17 (by decide +kernel)) (by decide +kernel), lc_ws (lc_t1 1 (by decide +kernel)) (by decide +kernel), lc_ws (lc_t1 18 (by decide +kernel)) (by decide +kernel), by decide +kernel, by decide +kernel, by decide +kernel⟩
theorem lc_yX1_init : lc_YI yX1_init cX1_init 2 0 := ⟨rfl, lc_ws (lc_t1 25 (by decide +kernel)) (by decide +kernel), lc_ws (lc_t1 2 (by decide +kernel)) (by decide +kernel), lc_ws (lc_t1 26 (by decide +kernel)) (by decide +kernel), by decide +kernel, by decide +kernel, by decide +kernel⟩
theorem lc_yX1_layOut : lc_YV yX1_layOut cX1_layOut 7 none 1 := ⟨lc_ws (lc_t1 30 (by decide +kernel)) (by decide +kernel), lc_ws (lc_t0 0 (by decide +kernel)) (by decide +kernel), lc_ws (lc_t1 2 (by decide +kernel)) (by decide +kernel), lc_ws (lc_t1 31 (by decide +kernel)) (by decide +kernel), by decide +kernel, by decide +kernel, by decide +kernel⟩
theorem lc_yX1_put : lc_YV yX1_put cX1_put 4 none 3 := ⟨lc_ws (lc_t1 34 (by decide +kernel)) (by decide +kernel), lc_ws (lc_t0 1 (by decide +kernel)) (by decide +kernel), lc_ws (lc_t1 2 (by decide +kernel)) (by decide +kernel), lc_ws (lc_t1 35 (by decide +kernel)) (by decide +kernel), by decide +kernel, by decide +kernel, by decide +kernel⟩
theorem lc_yX1_addSpot : lc_YV yX1_addSpot cX1_addSpot 5 none 2 := ⟨lc_ws (lc_t1 38 (by decide +kernel)) (by decide +kernel), lc_ws (lc_t0 2 (by decide +kernel)) (by decide +kernel), lc_ws (lc_t1 2 (by decide +kernel)) (by decide +kernel), lc_ws (lc_t1 39 (by decide +kernel)) (by decide +kernel), by decide +kernel, by decide +kernel, by decide +kernel⟩
theorem lc_yX9_init : lc_YI yX9_init cX9_init 2 1 := ⟨rfl, lc_ws (lc_t1 51 (by decide +kernel)) (by decide +kernel), lc_ws (lc_t1 3 (by decide +kernel)) (by decide +kernel), lc_ws (lc_t1 52 (by decide +kernel)) (by decide +kernel), by decide +kernel, by decide +kernel, by decide +kernel⟩
theorem lc_yX8_init : lc_YI yX8_init cX8_init 2 1 := ⟨rfl, lc_ws (lc_t1 57 (by decide +kernel)) (by decide +kernel), lc_ws (lc_t1 4 (by decide +kernel)) (by decide +kernel), lc_ws (lc_t1 58 (by decide +kernel)) (by decide +kernel), by decide +kernel, by decide +kernel, by decide +kernel⟩
theorem lc_yX6_init : lc_YI yX6_init cX6_init 3 2 := ⟨rfl, lc_ws (lc_t1 103 (by decide +kernel)) (by decide +kernel), lc_ws (lc_t1 5 (by decide +kernel)) (by decide +kernel), lc_ws (lc_t1 104 (by decide +kernel)) (by decide +kernel), by decide +kernel, by decide +kernel, by decide +kernel⟩
theorem lc_yX4_init : lc_YI yX4_init cX4_init 1 0 := ⟨rfl, lc_ws (lc_t1 121 (by decide +kernel)) (by decide +kernel), lc_ws (lc_t1 6 (by decide +kernel)) (by decide +kernel), lc_ws (lc_t1 122 (by decide +kernel)) (by decide +kernel), by decide +kernel, by decide +kernel, by decide +kernel⟩
theorem lc_yX3_init : lc_YI yX3_init cX3_init 2 1 := ⟨rfl, lc_ws (lc_t1 137 (by decide +kernel)) (by decide +kernel), lc_ws (lc_t1 7 (by decide +kernel)) (by decide +kernel), lc_ws (lc_t1 138 (by decide +kernel)) (by decide +kernel), by decide +kernel, by decide +kernel, by decide +kernel⟩
theorem lc_yX0_init : lc_YI yX0_init cX0_init 1 0 := ⟨rfl, lc_ws (lc_t1 143 (by decide +kernel)) (by decide +kernel), lc_ws (lc_t1 8 (by decide +kernel)) (by decide +kernel), lc_ws (lc_t1 144 (by decide +kernel)) (by decide +kernel), by decide +kernel, by decide +kernel, by decide +kernel⟩
theorem lc_yX0_startAnew : lc_YV yX0_startAnew cX0_startAnew 2 none 0 := ⟨lc_ws (lc_t1 147 (by decide +kernel)) (by decide +kernel), lc_ws (lc_t1 148 (by decide +kernel)) (by decide +kernel), lc_ws (lc_t1 8 (by decide +kernel)) (by decide +kernel), lc_ws (lc_t1 149 (by decide +kernel)) (by decide +kernel), by decide +kernel, by decide +kernel, by decide +kernel⟩
theorem lc_yX0_firstSideAt : lc_YS yX0_firstSideAt cX0_firstSideAt 1 (some .int) 1 := ⟨lc_ws (lc_t1 151 (by decide +kernel)) (by decide +kernel), lc_ws (lc_t1 8 (by decide +kernel)) (by decide +kernel), lc_ws (lc_t1 152 (by decide +kernel)) (by decide +kernel), by decide +kernel, by decide +kernel, by decide +kernel⟩
theorem lc_yX0_put : lc_YV yX0_put cX0_put 3 none 2 := ⟨lc_ws (lc_t1 154 (by decide +kernel)) (by decide +kernel), lc_ws (lc_t1 155 (by decide +kernel)) (by decide +kernel), lc_ws (lc_t1 8 (by decide +kernel)) (by decide +kernel), lc_ws (lc_t1 156 (by decide +kernel)) (by decide +kernel), by decide +kernel, by decide +kernel, by decide +kernel⟩
theorem lc_yX0_tally : lc_YV yX0_tally cX0_tally 3 none 2 := ⟨lc_ws (lc_t1 159 (by decide +kernel)) (by decide +kernel), lc_ws (lc_t0 3 (by decide +kernel)) (by decide +kernel), lc_ws (lc_t1 8 (by decide +kernel)) (by decide +kernel), lc_ws (lc_t1 160 (by decide +kernel)) (by decide +kernel), by decide +kernel, by decide +kernel, by decide +kernel⟩
theorem lc_yX7_init : lc_YI yX7_init cX7_init 1 0 := ⟨rfl, lc_ws (lc_t1 201 (by decide +kernel)) (by decide +kernel), lc_ws (lc_t1 9 (by decide +kernel)) (by decide +kernel), lc_ws (lc_t1 202 (by decide +kernel)) (by decide +kernel), by decide +kernel, by decide +kernel, by decide +kernel⟩
theorem lc_yX7_remember : lc_YV yX7_remember cX7_remember 2 none 0 := ⟨lc_ws (lc_t1 208 (by decide +kernel)) (by decide +kernel), lc_ws (lc_t0 4 (by decide +kernel)) (by decide +kernel), lc_ws (lc_t1 9 (by decide +kernel)) (by decide +kernel), lc_ws (lc_t1 209 (by decide +kernel)) (by decide +kernel), by decide +kernel, by decide +kernel, by decide +kernel⟩
theorem lc_yX0_key : lc_YV yX0_key cX0_key 4 (some .long) 0 := ⟨lc_ws (lc_t1 211 (by decide +kernel)) (by decide +kernel), lc_ws (lc_t1 212 (by decide +kernel)) (by decide +kernel), lc_ws (lc_t1 8 (by decide +kernel)) (by decide +kernel), lc_ws (lc_t1 213 (by decide +kernel)) (by decide +kernel), by decide +kernel, by decide +kernel, by decide +kernel⟩
theorem lc_yX2_init : lc_YI yX2_init cX2_init 2 0 := ⟨rfl, lc_ws (lc_t1 238 (by decide +kernel)) (by decide +kernel), lc_ws (lc_t1 10 (by decide +kernel)) (by decide +kernel), lc_ws (lc_t1 239 (by decide +kernel)) (by decide +kernel), by decide +kernel, by decide +kernel, by decide +kernel⟩
theorem lc_yX5_init : lc_YI yX5_init cX5_init 1 0 := ⟨rfl, lc_ws (lc_t2 14 (by decide +kernel)) (by decide +kernel), lc_ws (lc_t1 11 (by decide +kernel)) (by decide +kernel), lc_ws (lc_t2 15 (by decide +kernel)) (by decide +kernel), by decide +kernel, by decide +kernel, by decide +kernel⟩
theorem lc_yX10_move : lc_YV yX10_move cX10_move 4 (some .int) 2 := ⟨lc_ws (lc_t2 69 (by decide +kernel)) (by decide +kernel), lc_ws (lc_t2 70 (by decide +kernel)) (by decide +kernel), lc_ws (lc_t1 1 (by decide +kernel)) (by decide +kernel), lc_ws (lc_t2 71 (by decide +kernel)) (by decide +kernel), by decide +kernel, by decide +kernel, by decide +kernel⟩
theorem lc_yX10_isPoint : lc_YS yX10_isPoint cX10_isPoint 1 (some .boolean) 1 := ⟨lc_ws (lc_t2 73 (by decide +kernel)) (by decide +kernel), lc_ws (lc_t1 1 (by decide +kernel)) (by decide +kernel), lc_ws (lc_t2 74 (by decide +kernel)) (by decide +kernel), by decide +kernel, by decide +kernel, by decide +kernel⟩
theorem lc_yX6_whyNot : lc_YV yX6_whyNot cX6_whyNot 7 (some .int) 4 := ⟨lc_ws (lc_t2 76 (by decide +kernel)) (by decide +kernel), lc_ws (lc_t2 77 (by decide +kernel)) (by decide +kernel), lc_ws (lc_t1 5 (by decide +kernel)) (by decide +kernel), lc_ws (lc_t2 78 (by decide +kernel)) (by decide +kernel), by decide +kernel, by decide +kernel, by decide +kernel⟩
theorem lc_yX0_result : lc_YV yX0_result cX0_result 1 (some .int) 0 := ⟨lc_ws (lc_t2 80 (by decide +kernel)) (by decide +kernel), lc_ws (lc_t2 81 (by decide +kernel)) (by decide +kernel), lc_ws (lc_t1 8 (by decide +kernel)) (by decide +kernel), lc_ws (lc_t2 82 (by decide +kernel)) (by decide +kernel), by decide +kernel, by decide +kernel, by decide +kernel⟩
theorem lc_yX0_sideToMove : lc_YV yX0_sideToMove cX0_sideToMove 1 (some .int) 0 := ⟨lc_ws (lc_t2 84 (by decide +kernel)) (by decide +kernel), lc_ws (lc_t2 85 (by decide +kernel)) (by decide +kernel), lc_ws (lc_t1 8 (by decide +kernel)) (by decide +kernel), lc_ws (lc_t2 86 (by decide +kernel)) (by decide +kernel), by decide +kernel, by decide +kernel, by decide +kernel⟩
theorem lc_yX0_at : lc_YV yX0_at cX0_at 2 (some .int) 1 := ⟨lc_ws (lc_t2 88 (by decide +kernel)) (by decide +kernel), lc_ws (lc_t2 89 (by decide +kernel)) (by decide +kernel), lc_ws (lc_t1 8 (by decide +kernel)) (by decide +kernel), lc_ws (lc_t2 90 (by decide +kernel)) (by decide +kernel), by decide +kernel, by decide +kernel, by decide +kernel⟩
theorem lc_yX6_couldCapture : lc_YV yX6_couldCapture cX6_couldCapture 4 (some .boolean) 3 := ⟨lc_ws (lc_t2 92 (by decide +kernel)) (by decide +kernel), lc_ws (lc_t2 93 (by decide +kernel)) (by decide +kernel), lc_ws (lc_t1 5 (by decide +kernel)) (by decide +kernel), lc_ws (lc_t2 94 (by decide +kernel)) (by decide +kernel), by decide +kernel, by decide +kernel, by decide +kernel⟩
theorem lc_yX6_areOfTwoSides : lc_YS yX6_areOfTwoSides cX6_areOfTwoSides 2 (some .boolean) 2 := ⟨lc_ws (lc_t2 96 (by decide +kernel)) (by decide +kernel), lc_ws (lc_t1 5 (by decide +kernel)) (by decide +kernel), lc_ws (lc_t2 97 (by decide +kernel)) (by decide +kernel), by decide +kernel, by decide +kernel, by decide +kernel⟩
theorem lc_yX9_find : lc_YV yX9_find cX9_find 6 (some .boolean) 3 := ⟨lc_ws (lc_t2 99 (by decide +kernel)) (by decide +kernel), lc_ws (lc_t2 100 (by decide +kernel)) (by decide +kernel), lc_ws (lc_t1 3 (by decide +kernel)) (by decide +kernel), lc_ws (lc_t2 101 (by decide +kernel)) (by decide +kernel), by decide +kernel, by decide +kernel, by decide +kernel⟩
theorem lc_yX1_spotOf : lc_YV yX1_spotOf cX1_spotOf 4 (some .int) 2 := ⟨lc_ws (lc_t2 103 (by decide +kernel)) (by decide +kernel), lc_ws (lc_t2 104 (by decide +kernel)) (by decide +kernel), lc_ws (lc_t1 2 (by decide +kernel)) (by decide +kernel), lc_ws (lc_t2 105 (by decide +kernel)) (by decide +kernel), by decide +kernel, by decide +kernel, by decide +kernel⟩
theorem lc_yX9_tryFrom : lc_YV yX9_tryFrom cX9_tryFrom 5 none 4 := ⟨lc_ws (lc_t2 108 (by decide +kernel)) (by decide +kernel), lc_ws (lc_t0 5 (by decide +kernel)) (by decide +kernel), lc_ws (lc_t1 3 (by decide +kernel)) (by decide +kernel), lc_ws (lc_t2 109 (by decide +kernel)) (by decide +kernel), by decide +kernel, by decide +kernel, by decide +kernel⟩
theorem lc_yX8_go : lc_YV yX8_go cX8_go 9 none 3 := ⟨lc_ws (lc_t2 111 (by decide +kernel)) (by decide +kernel), lc_ws (lc_t2 112 (by decide +kernel)) (by decide +kernel), lc_ws (lc_t1 4 (by decide +kernel)) (by decide +kernel), lc_ws (lc_t2 113 (by decide +kernel)) (by decide +kernel), by decide +kernel, by decide +kernel, by decide +kernel⟩
theorem lc_yX1_pointAt : lc_YV yX1_pointAt cX1_pointAt 2 (some .int) 1 := ⟨lc_ws (lc_t2 115 (by decide +kernel)) (by decide +kernel), lc_ws (lc_t2 116 (by decide +kernel)) (by decide +kernel), lc_ws (lc_t1 2 (by decide +kernel)) (by decide +kernel), lc_ws (lc_t2 117 (by decide +kernel)) (by decide +kernel), by decide +kernel, by decide +kernel, by decide +kernel⟩
theorem lc_yX8_wentOverLoopTo : lc_YV yX8_wentOverLoopTo cX8_wentOverLoopTo 2 (some .boolean) 1 := ⟨lc_ws (lc_t2 120 (by decide +kernel)) (by decide +kernel), lc_ws (lc_t2 121 (by decide +kernel)) (by decide +kernel), lc_ws (lc_t1 4 (by decide +kernel)) (by decide +kernel), lc_ws (lc_t2 122 (by decide +kernel)) (by decide +kernel), by decide +kernel, by decide +kernel, by decide +kernel⟩
theorem lc_yX9_walkIsShorter : lc_YV yX9_walkIsShorter cX9_walkIsShorter 1 (some .boolean) 0 := ⟨lc_ws (lc_t2 125 (by decide +kernel)) (by decide +kernel), lc_ws (lc_t0 6 (by decide +kernel)) (by decide +kernel), lc_ws (lc_t1 3 (by decide +kernel)) (by decide +kernel), lc_ws (lc_t2 126 (by decide +kernel)) (by decide +kernel), by decide +kernel, by decide +kernel, by decide +kernel⟩
theorem lc_yX6_couldStep : lc_YS yX6_couldStep cX6_couldStep 3 (some .boolean) 3 := ⟨lc_ws (lc_t2 128 (by decide +kernel)) (by decide +kernel), lc_ws (lc_t1 5 (by decide +kernel)) (by decide +kernel), lc_ws (lc_t2 129 (by decide +kernel)) (by decide +kernel), by decide +kernel, by decide +kernel, by decide +kernel⟩
theorem lc_yX2_push : lc_YV yX2_push cX2_push 3 none 1 := ⟨lc_ws (lc_t2 134 (by decide +kernel)) (by decide +kernel), lc_ws (lc_t2 135 (by decide +kernel)) (by decide +kernel), lc_ws (lc_t1 10 (by decide +kernel)) (by decide +kernel), lc_ws (lc_t2 136 (by decide +kernel)) (by decide +kernel), by decide +kernel, by decide +kernel, by decide +kernel⟩
theorem lc_yX2_dropOldest : lc_YV yX2_dropOldest cX2_dropOldest 3 none 0 := ⟨lc_ws (lc_t2 139 (by decide +kernel)) (by decide +kernel), lc_ws (lc_t0 7 (by decide +kernel)) (by decide +kernel), lc_ws (lc_t1 10 (by decide +kernel)) (by decide +kernel), lc_ws (lc_t2 140 (by decide +kernel)) (by decide +kernel), by decide +kernel, by decide +kernel, by decide +kernel⟩
theorem lc_yX7_copyFrom : lc_YV yX7_copyFrom cX7_copyFrom 3 none 1 := ⟨lc_ws (lc_t2 142 (by decide +kernel)) (by decide +kernel), lc_ws (lc_t2 143 (by decide +kernel)) (by decide +kernel), lc_ws (lc_t1 9 (by decide +kernel)) (by decide +kernel), lc_ws (lc_t2 144 (by decide +kernel)) (by decide +kernel), by decide +kernel, by decide +kernel, by decide +kernel⟩
theorem lc_yX0_copyFrom : lc_YV yX0_copyFrom cX0_copyFrom 3 none 1 := ⟨lc_ws (lc_t2 146 (by decide +kernel)) (by decide +kernel), lc_ws (lc_t2 147 (by decide +kernel)) (by decide +kernel), lc_ws (lc_t1 8 (by decide +kernel)) (by decide +kernel), lc_ws (lc_t2 148 (by decide +kernel)) (by decide +kernel), by decide +kernel, by decide +kernel, by decide +kernel⟩
theorem lc_yX7_makeMove : lc_YV yX7_makeMove cX7_makeMove 3 none 2 := ⟨lc_ws (lc_t2 150 (by decide +kernel)) (by decide +kernel), lc_ws (lc_t2 151 (by decide +kernel)) (by decide +kernel), lc_ws (lc_t1 9 (by decide +kernel)) (by decide +kernel), lc_ws (lc_t2 152 (by decide +kernel)) (by decide +kernel), by decide +kernel, by decide +kernel, by decide +kernel⟩
theorem lc_yX0_make : lc_YV yX0_make cX0_make 4 (some .int) 2 := ⟨lc_ws (lc_t2 154 (by decide +kernel)) (by decide +kernel), lc_ws (lc_t2 155 (by decide +kernel)) (by decide +kernel), lc_ws (lc_t1 8 (by decide +kernel)) (by decide +kernel), lc_ws (lc_t2 156 (by decide +kernel)) (by decide +kernel), by decide +kernel, by decide +kernel, by decide +kernel⟩
theorem lc_yX0_changeSide : lc_YV yX0_changeSide cX0_changeSide 1 none 0 := ⟨lc_ws (lc_t2 159 (by decide +kernel)) (by decide +kernel), lc_ws (lc_t2 160 (by decide +kernel)) (by decide +kernel), lc_ws (lc_t1 8 (by decide +kernel)) (by decide +kernel), lc_ws (lc_t2 161 (by decide +kernel)) (by decide +kernel), by decide +kernel, by decide +kernel, by decide +kernel⟩
theorem lc_yX7_forgetPositions : lc_YV yX7_forgetPositions cX7_forgetPositions 1 none 0 := ⟨lc_ws (lc_t2 164 (by decide +kernel)) (by decide +kernel), lc_ws (lc_t0 8 (by decide +kernel)) (by decide +kernel), lc_ws (lc_t1 9 (by decide +kernel)) (by decide +kernel), lc_ws (lc_t2 165 (by decide +kernel)) (by decide +kernel), by decide +kernel, by decide +kernel, by decide +kernel⟩
theorem lc_yX0_quietMoves : lc_YV yX0_quietMoves cX0_quietMoves 1 (some .int) 0 := ⟨lc_ws (lc_t2 167 (by decide +kernel)) (by decide +kernel), lc_ws (lc_t2 168 (by decide +kernel)) (by decide +kernel), lc_ws (lc_t1 8 (by decide +kernel)) (by decide +kernel), lc_ws (lc_t2 169 (by decide +kernel)) (by decide +kernel), by decide +kernel, by decide +kernel, by decide +kernel⟩
theorem lc_yX10_capture : lc_YV yX10_capture cX10_capture 4 (some .int) 2 := ⟨lc_ws (lc_t2 171 (by decide +kernel)) (by decide +kernel), lc_ws (lc_t2 172 (by decide +kernel)) (by decide +kernel), lc_ws (lc_t1 1 (by decide +kernel)) (by decide +kernel), lc_ws (lc_t2 173 (by decide +kernel)) (by decide +kernel), by decide +kernel, by decide +kernel, by decide +kernel⟩
theorem lc_yX0_piecesOf : lc_YV yX0_piecesOf cX0_piecesOf 2 (some .int) 1 := ⟨lc_ws (lc_t2 176 (by decide +kernel)) (by decide +kernel), lc_ws (lc_t2 177 (by decide +kernel)) (by decide +kernel), lc_ws (lc_t1 8 (by decide +kernel)) (by decide +kernel), lc_ws (lc_t2 178 (by decide +kernel)) (by decide +kernel), by decide +kernel, by decide +kernel, by decide +kernel⟩
theorem lc_yX10_play : lc_YV yX10_play cX10_play 3 (some .int) 1 := ⟨lc_ws (lc_t2 180 (by decide +kernel)) (by decide +kernel), lc_ws (lc_t2 181 (by decide +kernel)) (by decide +kernel), lc_ws (lc_t1 1 (by decide +kernel)) (by decide +kernel), lc_ws (lc_t2 182 (by decide +kernel)) (by decide +kernel), by decide +kernel, by decide +kernel, by decide +kernel⟩
theorem lc_yX3_bestMove : lc_YV yX3_bestMove cX3_bestMove 3 (some .int) 2 := ⟨lc_ws (lc_t2 184 (by decide +kernel)) (by decide +kernel), lc_ws (lc_t2 185 (by decide +kernel)) (by decide +kernel), lc_ws (lc_t1 7 (by decide +kernel)) (by decide +kernel), lc_ws (lc_t2 186 (by decide +kernel)) (by decide +kernel), by decide +kernel, by decide +kernel, by decide +kernel⟩
theorem lc_yX3_search : lc_YV yX3_search cX3_search 12 (some .int) 1 := ⟨lc_ws (lc_t2 190 (by decide +kernel)) (by decide +kernel), lc_ws (lc_t0 9 (by decide +kernel)) (by decide +kernel), lc_ws (lc_t1 7 (by decide +kernel)) (by decide +kernel), lc_ws (lc_t2 191 (by decide +kernel)) (by decide +kernel), by decide +kernel, by decide +kernel, by decide +kernel⟩
theorem lc_yX0_worth : lc_YV yX0_worth cX0_worth 1 (some .int) 0 := ⟨lc_ws (lc_t2 193 (by decide +kernel)) (by decide +kernel), lc_ws (lc_t2 194 (by decide +kernel)) (by decide +kernel), lc_ws (lc_t1 8 (by decide +kernel)) (by decide +kernel), lc_ws (lc_t2 195 (by decide +kernel)) (by decide +kernel), by decide +kernel, by decide +kernel, by decide +kernel⟩
theorem lc_yX6_listMoves : lc_YV yX6_listMoves cX6_listMoves 5 none 2 := ⟨lc_ws (lc_t2 197 (by decide +kernel)) (by decide +kernel), lc_ws (lc_t2 198 (by decide +kernel)) (by decide +kernel), lc_ws (lc_t1 5 (by decide +kernel)) (by decide +kernel), lc_ws (lc_t2 199 (by decide +kernel)) (by decide +kernel), by decide +kernel, by decide +kernel, by decide +kernel⟩
theorem lc_yX4_clear : lc_YV yX4_clear cX4_clear 1 none 0 := ⟨lc_ws (lc_t2 201 (by decide +kernel)) (by decide +kernel), lc_ws (lc_t2 202 (by decide +kernel)) (by decide +kernel), lc_ws (lc_t1 6 (by decide +kernel)) (by decide +kernel), lc_ws (lc_t2 203 (by decide +kernel)) (by decide +kernel), by decide +kernel, by decide +kernel, by decide +kernel⟩
theorem lc_yX6_listCaptures : lc_YV yX6_listCaptures cX6_listCaptures 8 none 3 := ⟨lc_ws (lc_t2 206 (by decide +kernel)) (by decide +kernel), lc_ws (lc_t0 10 (by decide +kernel)) (by decide +kernel), lc_ws (lc_t1 5 (by decide +kernel)) (by decide +kernel), lc_ws (lc_t2 207 (by decide +kernel)) (by decide +kernel), by decide +kernel, by decide +kernel, by decide +kernel⟩
theorem lc_yX4_addCapture : lc_YV yX4_addCapture cX4_addCapture 4 none 1 := ⟨lc_ws (lc_t2 211 (by decide +kernel)) (by decide +kernel), lc_ws (lc_t2 212 (by decide +kernel)) (by decide +kernel), lc_ws (lc_t1 6 (by decide +kernel)) (by decide +kernel), lc_ws (lc_t2 213 (by decide +kernel)) (by decide +kernel), by decide +kernel, by decide +kernel, by decide +kernel⟩
theorem lc_yX6_listQuietMoves : lc_YS yX6_listQuietMoves cX6_listQuietMoves 8 none 3 := ⟨lc_ws (lc_t2 215 (by decide +kernel)) (by decide +kernel), lc_ws (lc_t1 5 (by decide +kernel)) (by decide +kernel), lc_ws (lc_t2 216 (by decide +kernel)) (by decide +kernel), by decide +kernel, by decide +kernel, by decide +kernel⟩
theorem lc_yX4_addQuiet : lc_YV yX4_addQuiet cX4_addQuiet 2 none 1 := ⟨lc_ws (lc_t2 224 (by decide +kernel)) (by decide +kernel), lc_ws (lc_t2 225 (by decide +kernel)) (by decide +kernel), lc_ws (lc_t1 6 (by decide +kernel)) (by decide +kernel), lc_ws (lc_t2 226 (by decide +kernel)) (by decide +kernel), by decide +kernel, by decide +kernel, by decide +kernel⟩
theorem lc_yX4_size : lc_YV yX4_size cX4_size 1 (some .int) 0 := ⟨lc_ws (lc_t2 229 (by decide +kernel)) (by decide +kernel), lc_ws (lc_t2 230 (by decide +kernel)) (by decide +kernel), lc_ws (lc_t1 6 (by decide +kernel)) (by decide +kernel), lc_ws (lc_t2 231 (by decide +kernel)) (by decide +kernel), by decide +kernel, by decide +kernel, by decide +kernel⟩
theorem lc_yX4_get : lc_YV yX4_get cX4_get 2 (some .int) 1 := ⟨lc_ws (lc_t2 233 (by decide +kernel)) (by decide +kernel), lc_ws (lc_t2 234 (by decide +kernel)) (by decide +kernel), lc_ws (lc_t1 6 (by decide +kernel)) (by decide +kernel), lc_ws (lc_t2 235 (by decide +kernel)) (by decide +kernel), by decide +kernel, by decide +kernel, by decide +kernel⟩
theorem lc_yX0_takeBack : lc_YV yX0_takeBack cX0_takeBack 5 none 4 := ⟨lc_ws (lc_t2 238 (by decide +kernel)) (by decide +kernel), lc_ws (lc_t2 239 (by decide +kernel)) (by decide +kernel), lc_ws (lc_t1 8 (by decide +kernel)) (by decide +kernel), lc_ws (lc_t3 0 (by decide +kernel)) (by decide +kernel), by decide +kernel, by decide +kernel, by decide +kernel⟩
theorem lc_yX10_setUp : lc_YV yX10_setUp cX10_setUp 4 (some .int) 2 := ⟨lc_ws (lc_t3 2 (by decide +kernel)) (by decide +kernel), lc_ws (lc_t3 3 (by decide +kernel)) (by decide +kernel), lc_ws (lc_t1 1 (by decide +kernel)) (by decide +kernel), lc_ws (lc_t3 4 (by decide +kernel)) (by decide +kernel), by decide +kernel, by decide +kernel, by decide +kernel⟩
theorem lc_yX7_place : lc_YV yX7_place cX7_place 3 none 2 := ⟨lc_ws (lc_t3 7 (by decide +kernel)) (by decide +kernel), lc_ws (lc_t3 8 (by decide +kernel)) (by decide +kernel), lc_ws (lc_t1 9 (by decide +kernel)) (by decide +kernel), lc_ws (lc_t3 9 (by decide +kernel)) (by decide +kernel), by decide +kernel, by decide +kernel, by decide +kernel⟩
theorem lc_yX0_forgetQuietMoves : lc_YV yX0_forgetQuietMoves cX0_forgetQuietMoves 1 none 0 := ⟨lc_ws (lc_t3 12 (by decide +kernel)) (by decide +kernel), lc_ws (lc_t3 13 (by decide +kernel)) (by decide +kernel), lc_ws (lc_t1 8 (by decide +kernel)) (by decide +kernel), lc_ws (lc_t3 14 (by decide +kernel)) (by decide +kernel), by decide +kernel, by decide +kernel, by decide +kernel⟩
theorem lc_yX10_turn : lc_YV yX10_turn cX10_turn 1 (some .int) 0 := ⟨lc_ws (lc_t3 16 (by decide +kernel)) (by decide +kernel), lc_ws (lc_t3 17 (by decide +kernel)) (by decide +kernel), lc_ws (lc_t1 1 (by decide +kernel)) (by decide +kernel), lc_ws (lc_t3 18 (by decide +kernel)) (by decide +kernel), by decide +kernel, by decide +kernel, by decide +kernel⟩
theorem lc_yX7_changeSide : lc_YV yX7_changeSide cX7_changeSide 1 none 0 := ⟨lc_ws (lc_t3 20 (by decide +kernel)) (by decide +kernel), lc_ws (lc_t3 21 (by decide +kernel)) (by decide +kernel), lc_ws (lc_t1 9 (by decide +kernel)) (by decide +kernel), lc_ws (lc_t3 22 (by decide +kernel)) (by decide +kernel), by decide +kernel, by decide +kernel, by decide +kernel⟩
theorem lc_yX10_begin : lc_YV yX10_begin cX10_begin 2 (some .int) 0 := ⟨lc_ws (lc_t3 25 (by decide +kernel)) (by decide +kernel), lc_ws (lc_t3 26 (by decide +kernel)) (by decide +kernel), lc_ws (lc_t1 1 (by decide +kernel)) (by decide +kernel), lc_ws (lc_t3 27 (by decide +kernel)) (by decide +kernel), by decide +kernel, by decide +kernel, by decide +kernel⟩
theorem lc_yX0_allPieces : lc_YV yX0_allPieces cX0_allPieces 1 (some .int) 0 := ⟨lc_ws (lc_t3 29 (by decide +kernel)) (by decide +kernel), lc_ws (lc_t3 30 (by decide +kernel)) (by decide +kernel), lc_ws (lc_t1 8 (by decide +kernel)) (by decide +kernel), lc_ws (lc_t3 31 (by decide +kernel)) (by decide +kernel), by decide +kernel, by decide +kernel, by decide +kernel⟩
theorem lc_yX7_startAnew : lc_YV yX7_startAnew cX7_startAnew 1 none 0 := ⟨lc_ws (lc_t3 33 (by decide +kernel)) (by decide +kernel), lc_ws (lc_t3 34 (by decide +kernel)) (by decide +kernel), lc_ws (lc_t1 9 (by decide +kernel)) (by decide +kernel), lc_ws (lc_t3 35 (by decide +kernel)) (by decide +kernel), by decide +kernel, by decide +kernel, by decide +kernel⟩
theorem lc_yX10_setLimit : lc_YV yX10_setLimit cX10_setLimit 3 (some .int) 1 := ⟨lc_ws (lc_t3 38 (by decide +kernel)) (by decide +kernel), lc_ws (lc_t3 39 (by decide +kernel)) (by decide +kernel), lc_ws (lc_t1 1 (by decide +kernel)) (by decide +kernel), lc_ws (lc_t3 40 (by decide +kernel)) (by decide +kernel), by decide +kernel, by decide +kernel, by decide +kernel⟩
theorem lc_yX0_limit : lc_YV yX0_limit cX0_limit 1 (some .int) 0 := ⟨lc_ws (lc_t3 42 (by decide +kernel)) (by decide +kernel), lc_ws (lc_t3 43 (by decide +kernel)) (by decide +kernel), lc_ws (lc_t1 8 (by decide +kernel)) (by decide +kernel), lc_ws (lc_t3 44 (by decide +kernel)) (by decide +kernel), by decide +kernel, by decide +kernel, by decide +kernel⟩
theorem lc_yX0_changeLimit : lc_YV yX0_changeLimit cX0_changeLimit 2 none 1 := ⟨lc_ws (lc_t3 46 (by decide +kernel)) (by decide +kernel), lc_ws (lc_t3 47 (by decide +kernel)) (by decide +kernel), lc_ws (lc_t1 8 (by decide +kernel)) (by decide +kernel), lc_ws (lc_t3 48 (by decide +kernel)) (by decide +kernel), by decide +kernel, by decide +kernel, by decide +kernel⟩
theorem lc_yX10_type : lc_YV yX10_type cX10_type 2 (some .int) 1 := ⟨lc_ws (lc_t3 50 (by decide +kernel)) (by decide +kernel), lc_ws (lc_t3 51 (by decide +kernel)) (by decide +kernel), lc_ws (lc_t1 1 (by decide +kernel)) (by decide +kernel), lc_ws (lc_t3 52 (by decide +kernel)) (by decide +kernel), by decide +kernel, by decide +kernel, by decide +kernel⟩
theorem lc_yX5_append : lc_YV yX5_append cX5_append 2 (some .boolean) 1 := ⟨lc_ws (lc_t3 54 (by decide +kernel)) (by decide +kernel), lc_ws (lc_t3 55 (by decide +kernel)) (by decide +kernel), lc_ws (lc_t1 11 (by decide +kernel)) (by decide +kernel), lc_ws (lc_t3 56 (by decide +kernel)) (by decide +kernel), by decide +kernel, by decide +kernel, by decide +kernel⟩
theorem lc_yX5_length : lc_YV yX5_length cX5_length 1 (some .int) 0 := ⟨lc_ws (lc_t3 58 (by decide +kernel)) (by decide +kernel), lc_ws (lc_t3 59 (by decide +kernel)) (by decide +kernel), lc_ws (lc_t1 11 (by decide +kernel)) (by decide +kernel), lc_ws (lc_t3 60 (by decide +kernel)) (by decide +kernel), by decide +kernel, by decide +kernel, by decide +kernel⟩
theorem lc_yX10_clearText : lc_YV yX10_clearText cX10_clearText 2 (some .int) 0 := ⟨lc_ws (lc_t3 62 (by decide +kernel)) (by decide +kernel), lc_ws (lc_t3 63 (by decide +kernel)) (by decide +kernel), lc_ws (lc_t1 1 (by decide +kernel)) (by decide +kernel), lc_ws (lc_t3 64 (by decide +kernel)) (by decide +kernel), by decide +kernel, by decide +kernel, by decide +kernel⟩
theorem lc_yX5_empty : lc_YV yX5_empty cX5_empty 1 none 0 := ⟨lc_ws (lc_t3 66 (by decide +kernel)) (by decide +kernel), lc_ws (lc_t3 67 (by decide +kernel)) (by decide +kernel), lc_ws (lc_t1 11 (by decide +kernel)) (by decide +kernel), lc_ws (lc_t3 68 (by decide +kernel)) (by decide +kernel), by decide +kernel, by decide +kernel, by decide +kernel⟩
theorem lc_yX10_perform : lc_YV yX10_perform cX10_perform 7 (some .int) 0 := ⟨lc_ws (lc_t3 70 (by decide +kernel)) (by decide +kernel), lc_ws (lc_t3 71 (by decide +kernel)) (by decide +kernel), lc_ws (lc_t1 1 (by decide +kernel)) (by decide +kernel), lc_ws (lc_t3 72 (by decide +kernel)) (by decide +kernel), by decide +kernel, by decide +kernel, by decide +kernel⟩
theorem lc_yX5_fault : lc_YV yX5_fault cX5_fault 2 (some .int) 0 := ⟨lc_ws (lc_t3 74 (by decide +kernel)) (by decide +kernel), lc_ws (lc_t3 75 (by decide +kernel)) (by decide +kernel), lc_ws (lc_t1 11 (by decide +kernel)) (by decide +kernel), lc_ws (lc_t3 76 (by decide +kernel)) (by decide +kernel), by decide +kernel, by decide +kernel, by decide +kernel⟩
theorem lc_yX5_at : lc_YV yX5_at cX5_at 2 (some .char) 1 := ⟨lc_ws (lc_t3 79 (by decide +kernel)) (by decide +kernel), lc_ws (lc_t0 11 (by decide +kernel)) (by decide +kernel), lc_ws (lc_t1 11 (by decide +kernel)) (by decide +kernel), lc_ws (lc_t3 80 (by decide +kernel)) (by decide +kernel), by decide +kernel, by decide +kernel, by decide +kernel⟩
theorem lc_yX5_isAllowed : lc_YS yX5_isAllowed cX5_isAllowed 2 (some .boolean) 2 := ⟨lc_ws (lc_t3 82 (by decide +kernel)) (by decide +kernel), lc_ws (lc_t1 11 (by decide +kernel)) (by decide +kernel), lc_ws (lc_t3 83 (by decide +kernel)) (by decide +kernel), by decide +kernel, by decide +kernel, by decide +kernel⟩
theorem lc_yX5_moves : lc_YV yX5_moves cX5_moves 1 (some .int) 0 := ⟨lc_ws (lc_t3 86 (by decide +kernel)) (by decide +kernel), lc_ws (lc_t3 87 (by decide +kernel)) (by decide +kernel), lc_ws (lc_t1 11 (by decide +kernel)) (by decide +kernel), lc_ws (lc_t3 88 (by decide +kernel)) (by decide +kernel), by decide +kernel, by decide +kernel, by decide +kernel⟩
theorem lc_yX5_fromOf : lc_YV yX5_fromOf cX5_fromOf 2 (some .int) 1 := ⟨lc_ws (lc_t3 90 (by decide +kernel)) (by decide +kernel), lc_ws (lc_t3 91 (by decide +kernel)) (by decide +kernel), lc_ws (lc_t1 11 (by decide +kernel)) (by decide +kernel), lc_ws (lc_t3 92 (by decide +kernel)) (by decide +kernel), by decide +kernel, by decide +kernel, by decide +kernel⟩
theorem lc_yX5_pointAt : lc_YV yX5_pointAt cX5_pointAt 2 (some .int) 1 := ⟨lc_ws (lc_t3 95 (by decide +kernel)) (by decide +kernel), lc_ws (lc_t0 12 (by decide +kernel)) (by decide +kernel), lc_ws (lc_t1 11 (by decide +kernel)) (by decide +kernel), lc_ws (lc_t3 96 (by decide +kernel)) (by decide +kernel), by decide +kernel, by decide +kernel, by decide +kernel⟩
theorem lc_yX5_toOf : lc_YV yX5_toOf cX5_toOf 2 (some .int) 1 := ⟨lc_ws (lc_t3 98 (by decide +kernel)) (by decide +kernel), lc_ws (lc_t3 99 (by decide +kernel)) (by decide +kernel), lc_ws (lc_t1 11 (by decide +kernel)) (by decide +kernel), lc_ws (lc_t3 100 (by decide +kernel)) (by decide +kernel), by decide +kernel, by decide +kernel, by decide +kernel⟩
theorem lc_yX5_isCapture : lc_YV yX5_isCapture cX5_isCapture 2 (some .boolean) 1 := ⟨lc_ws (lc_t3 102 (by decide +kernel)) (by decide +kernel), lc_ws (lc_t3 103 (by decide +kernel)) (by decide +kernel), lc_ws (lc_t1 11 (by decide +kernel)) (by decide +kernel), lc_ws (lc_t3 104 (by decide +kernel)) (by decide +kernel), by decide +kernel, by decide +kernel, by decide +kernel⟩
theorem lc_yX10_noteStop : lc_YV yX10_noteStop cX10_noteStop 3 none 2 := ⟨lc_ws (lc_t3 107 (by decide +kernel)) (by decide +kernel), lc_ws (lc_t0 13 (by decide +kernel)) (by decide +kernel), lc_ws (lc_t1 1 (by decide +kernel)) (by decide +kernel), lc_ws (lc_t3 108 (by decide +kernel)) (by decide +kernel), by decide +kernel, by decide +kernel, by decide +kernel⟩
theorem lc_yX10_stopped : lc_YV yX10_stopped cX10_stopped 2 (some .int) 1 := ⟨lc_ws (lc_t3 110 (by decide +kernel)) (by decide +kernel), lc_ws (lc_t3 111 (by decide +kernel)) (by decide +kernel), lc_ws (lc_t1 1 (by decide +kernel)) (by decide +kernel), lc_ws (lc_t3 112 (by decide +kernel)) (by decide +kernel), by decide +kernel, by decide +kernel, by decide +kernel⟩
theorem lc_yX10_undo : lc_YV yX10_undo cX10_undo 1 (some .int) 0 := ⟨lc_ws (lc_t3 114 (by decide +kernel)) (by decide +kernel), lc_ws (lc_t3 115 (by decide +kernel)) (by decide +kernel), lc_ws (lc_t1 1 (by decide +kernel)) (by decide +kernel), lc_ws (lc_t3 116 (by decide +kernel)) (by decide +kernel), by decide +kernel, by decide +kernel, by decide +kernel⟩
theorem lc_yX2_size : lc_YV yX2_size cX2_size 1 (some .int) 0 := ⟨lc_ws (lc_t3 118 (by decide +kernel)) (by decide +kernel), lc_ws (lc_t3 119 (by decide +kernel)) (by decide +kernel), lc_ws (lc_t1 10 (by decide +kernel)) (by decide +kernel), lc_ws (lc_t3 120 (by decide +kernel)) (by decide +kernel), by decide +kernel, by decide +kernel, by decide +kernel⟩
theorem lc_yX2_takeLatest : lc_YV yX2_takeLatest cX2_takeLatest 3 none 1 := ⟨lc_ws (lc_t3 122 (by decide +kernel)) (by decide +kernel), lc_ws (lc_t3 123 (by decide +kernel)) (by decide +kernel), lc_ws (lc_t1 10 (by decide +kernel)) (by decide +kernel), lc_ws (lc_t3 124 (by decide +kernel)) (by decide +kernel), by decide +kernel, by decide +kernel, by decide +kernel⟩
theorem lc_yX10_keep : lc_YV yX10_keep cX10_keep 1 (some .int) 0 := ⟨lc_ws (lc_t3 126 (by decide +kernel)) (by decide +kernel), lc_ws (lc_t3 127 (by decide +kernel)) (by decide +kernel), lc_ws (lc_t1 1 (by decide +kernel)) (by decide +kernel), lc_ws (lc_t3 128 (by decide +kernel)) (by decide +kernel), by decide +kernel, by decide +kernel, by decide +kernel⟩
theorem lc_yX10_restore : lc_YV yX10_restore cX10_restore 1 (some .int) 0 := ⟨lc_ws (lc_t3 130 (by decide +kernel)) (by decide +kernel), lc_ws (lc_t3 131 (by decide +kernel)) (by decide +kernel), lc_ws (lc_t1 1 (by decide +kernel)) (by decide +kernel), lc_ws (lc_t3 132 (by decide +kernel)) (by decide +kernel), by decide +kernel, by decide +kernel, by decide +kernel⟩
theorem lc_yX10_point : lc_YV yX10_point cX10_point 3 (some .int) 2 := ⟨lc_ws (lc_t3 134 (by decide +kernel)) (by decide +kernel), lc_ws (lc_t3 135 (by decide +kernel)) (by decide +kernel), lc_ws (lc_t1 1 (by decide +kernel)) (by decide +kernel), lc_ws (lc_t3 136 (by decide +kernel)) (by decide +kernel), by decide +kernel, by decide +kernel, by decide +kernel⟩
theorem lc_yX6_threatsTo : lc_YV yX6_threatsTo cX6_threatsTo 5 (some .int) 2 := ⟨lc_ws (lc_t3 138 (by decide +kernel)) (by decide +kernel), lc_ws (lc_t3 139 (by decide +kernel)) (by decide +kernel), lc_ws (lc_t1 5 (by decide +kernel)) (by decide +kernel), lc_ws (lc_t3 140 (by decide +kernel)) (by decide +kernel), by decide +kernel, by decide +kernel, by decide +kernel⟩
theorem lc_yX6_coversOf : lc_YV yX6_coversOf cX6_coversOf 6 (some .int) 2 := ⟨lc_ws (lc_t3 142 (by decide +kernel)) (by decide +kernel), lc_ws (lc_t3 143 (by decide +kernel)) (by decide +kernel), lc_ws (lc_t1 5 (by decide +kernel)) (by decide +kernel), lc_ws (lc_t3 144 (by decide +kernel)) (by decide +kernel), by decide +kernel, by decide +kernel, by decide +kernel⟩
theorem lc_yX6_capturesFrom : lc_YV yX6_capturesFrom cX6_capturesFrom 5 (some .int) 2 := ⟨lc_ws (lc_t3 146 (by decide +kernel)) (by decide +kernel), lc_ws (lc_t3 147 (by decide +kernel)) (by decide +kernel), lc_ws (lc_t1 5 (by decide +kernel)) (by decide +kernel), lc_ws (lc_t3 148 (by decide +kernel)) (by decide +kernel), by decide +kernel, by decide +kernel, by decide +kernel⟩
theorem lc_yX6_quietMovesFrom : lc_YV yX6_quietMovesFrom cX6_quietMovesFrom 5 (some .int) 2 := ⟨lc_ws (lc_t3 150 (by decide +kernel)) (by decide +kernel), lc_ws (lc_t3 151 (by decide +kernel)) (by decide +kernel), lc_ws (lc_t1 5 (by decide +kernel)) (by decide +kernel), lc_ws (lc_t3 152 (by decide +kernel)) (by decide +kernel), by decide +kernel, by decide +kernel, by decide +kernel⟩
theorem lc_yX10_way : lc_YV yX10_way cX10_way 4 (some .int) 3 := ⟨lc_ws (lc_t3 154 (by decide +kernel)) (by decide +kernel), lc_ws (lc_t3 155 (by decide +kernel)) (by decide +kernel), lc_ws (lc_t1 1 (by decide +kernel)) (by decide +kernel), lc_ws (lc_t3 156 (by decide +kernel)) (by decide +kernel), by decide +kernel, by decide +kernel, by decide +kernel⟩
theorem lc_yX10_circuit : lc_YV yX10_circuit cX10_circuit 3 (some .int) 2 := ⟨lc_ws (lc_t3 159 (by decide +kernel)) (by decide +kernel), lc_ws (lc_t3 160 (by decide +kernel)) (by decide +kernel), lc_ws (lc_t1 1 (by decide +kernel)) (by decide +kernel), lc_ws (lc_t3 161 (by decide +kernel)) (by decide +kernel), by decide +kernel, by decide +kernel, by decide +kernel⟩
theorem lc_yX10_reason : lc_YV yX10_reason cX10_reason 4 (some .int) 3 := ⟨lc_ws (lc_t3 164 (by decide +kernel)) (by decide +kernel), lc_ws (lc_t3 165 (by decide +kernel)) (by decide +kernel), lc_ws (lc_t1 1 (by decide +kernel)) (by decide +kernel), lc_ws (lc_t3 166 (by decide +kernel)) (by decide +kernel), by decide +kernel, by decide +kernel, by decide +kernel⟩
theorem lc_yX10_possible : lc_YV yX10_possible cX10_possible 2 (some .int) 1 := ⟨lc_ws (lc_t3 168 (by decide +kernel)) (by decide +kernel), lc_ws (lc_t3 169 (by decide +kernel)) (by decide +kernel), lc_ws (lc_t1 1 (by decide +kernel)) (by decide +kernel), lc_ws (lc_t3 170 (by decide +kernel)) (by decide +kernel), by decide +kernel, by decide +kernel, by decide +kernel⟩
theorem lc_yX10_look : lc_YV yX10_look cX10_look 2 (some .int) 1 := ⟨lc_ws (lc_t3 175 (by decide +kernel)) (by decide +kernel), lc_ws (lc_t3 176 (by decide +kernel)) (by decide +kernel), lc_ws (lc_t1 1 (by decide +kernel)) (by decide +kernel), lc_ws (lc_t3 177 (by decide +kernel)) (by decide +kernel), by decide +kernel, by decide +kernel, by decide +kernel⟩
theorem lc_yX3_worthAhead : lc_YV yX3_worthAhead cX3_worthAhead 3 (some .int) 2 := ⟨lc_ws (lc_t3 179 (by decide +kernel)) (by decide +kernel), lc_ws (lc_t3 180 (by decide +kernel)) (by decide +kernel), lc_ws (lc_t1 7 (by decide +kernel)) (by decide +kernel), lc_ws (lc_t3 181 (by decide +kernel)) (by decide +kernel), by decide +kernel, by decide +kernel, by decide +kernel⟩
theorem lc_yX10_best : lc_YV yX10_best cX10_best 3 (some .int) 1 := ⟨lc_ws (lc_t3 183 (by decide +kernel)) (by decide +kernel), lc_ws (lc_t3 184 (by decide +kernel)) (by decide +kernel), lc_ws (lc_t1 1 (by decide +kernel)) (by decide +kernel), lc_ws (lc_t3 185 (by decide +kernel)) (by decide +kernel), by decide +kernel, by decide +kernel, by decide +kernel⟩
theorem lc_yX10_count : lc_YV yX10_count cX10_count 2 (some .int) 1 := ⟨lc_ws (lc_t3 187 (by decide +kernel)) (by decide +kernel), lc_ws (lc_t3 188 (by decide +kernel)) (by decide +kernel), lc_ws (lc_t1 1 (by decide +kernel)) (by decide +kernel), lc_ws (lc_t3 189 (by decide +kernel)) (by decide +kernel), by decide +kernel, by decide +kernel, by decide +kernel⟩
theorem lc_yX10_possibleMoves : lc_YV yX10_possibleMoves cX10_possibleMoves 2 (some .int) 1 := ⟨lc_ws (lc_t3 193 (by decide +kernel)) (by decide +kernel), lc_ws (lc_t0 14 (by decide +kernel)) (by decide +kernel), lc_ws (lc_t1 1 (by decide +kernel)) (by decide +kernel), lc_ws (lc_t3 194 (by decide +kernel)) (by decide +kernel), by decide +kernel, by decide +kernel, by decide +kernel⟩
theorem lc_yX4_captures : lc_YV yX4_captures cX4_captures 1 (some .int) 0 := ⟨lc_ws (lc_t3 196 (by decide +kernel)) (by decide +kernel), lc_ws (lc_t3 197 (by decide +kernel)) (by decide +kernel), lc_ws (lc_t1 6 (by decide +kernel)) (by decide +kernel), lc_ws (lc_t3 198 (by decide +kernel)) (by decide +kernel), by decide +kernel, by decide +kernel, by decide +kernel⟩
theorem lc_yX7_timesSeen : lc_YV yX7_timesSeen cX7_timesSeen 5 (some .int) 0 := ⟨lc_ws (lc_t3 200 (by decide +kernel)) (by decide +kernel), lc_ws (lc_t3 201 (by decide +kernel)) (by decide +kernel), lc_ws (lc_t1 9 (by decide +kernel)) (by decide +kernel), lc_ws (lc_t3 202 (by decide +kernel)) (by decide +kernel), by decide +kernel, by decide +kernel, by decide +kernel⟩
theorem lc_yX6_threatened : lc_YV yX6_threatened cX6_threatened 4 (some .int) 1 := ⟨lc_ws (lc_t3 204 (by decide +kernel)) (by decide +kernel), lc_ws (lc_t3 205 (by decide +kernel)) (by decide +kernel), lc_ws (lc_t1 5 (by decide +kernel)) (by decide +kernel), lc_ws (lc_t3 206 (by decide +kernel)) (by decide +kernel), by decide +kernel, by decide +kernel, by decide +kernel⟩
theorem lc_yX11_init : lc_YI yX11_init cX11_init 1 0 := ⟨rfl, lc_ws (lc_t3 211 (by decide +kernel)) (by decide +kernel), lc_ws (lc_t1 12 (by decide +kernel)) (by decide +kernel), lc_ws (lc_t3 212 (by decide +kernel)) (by decide +kernel), by decide +kernel, by decide +kernel, by decide +kernel⟩
theorem lc_yX11_begins : lc_YV yX11_begins cX11_begins 2 none 0 := ⟨lc_ws (lc_t3 216 (by decide +kernel)) (by decide +kernel), lc_ws (lc_t0 15 (by decide +kernel)) (by decide +kernel), lc_ws (lc_t1 12 (by decide +kernel)) (by decide +kernel), lc_ws (lc_t3 217 (by decide +kernel)) (by decide +kernel), by decide +kernel, by decide +kernel, by decide +kernel⟩
theorem lc_yX11_forgets : lc_YS yX11_forgets cX11_forgets 1 none 1 := ⟨lc_ws (lc_t3 219 (by decide +kernel)) (by decide +kernel), lc_ws (lc_t1 12 (by decide +kernel)) (by decide +kernel), lc_ws (lc_t3 220 (by decide +kernel)) (by decide +kernel), by decide +kernel, by decide +kernel, by decide +kernel⟩
theorem lc_yX11_notes : lc_YS yX11_notes cX11_notes 2 none 1 := ⟨lc_ws (lc_t3 222 (by decide +kernel)) (by decide +kernel), lc_ws (lc_t1 12 (by decide +kernel)) (by decide +kernel), lc_ws (lc_t3 223 (by decide +kernel)) (by decide +kernel), by decide +kernel, by decide +kernel, by decide +kernel⟩
theorem lc_yX11_packed : lc_YS yX11_packed cX11_packed 4 (some .int) 2 := ⟨lc_ws (lc_t3 225 (by decide +kernel)) (by decide +kernel), lc_ws (lc_t1 12 (by decide +kernel)) (by decide +kernel), lc_ws (lc_t3 226 (by decide +kernel)) (by decide +kernel), by decide +kernel, by decide +kernel, by decide +kernel⟩
theorem lc_yX11_undo : lc_YV yX11_undo cX11_undo 1 (some .int) 0 := ⟨lc_ws (lc_t4 40 (by decide +kernel)) (by decide +kernel), lc_ws (lc_t4 41 (by decide +kernel)) (by decide +kernel), lc_ws (lc_t1 12 (by decide +kernel)) (by decide +kernel), lc_ws (lc_t4 42 (by decide +kernel)) (by decide +kernel), by decide +kernel, by decide +kernel, by decide +kernel⟩
theorem lc_yX11_copies : lc_YS yX11_copies cX11_copies 5 none 4 := ⟨lc_ws (lc_t4 44 (by decide +kernel)) (by decide +kernel), lc_ws (lc_t1 12 (by decide +kernel)) (by decide +kernel), lc_ws (lc_t4 45 (by decide +kernel)) (by decide +kernel), by decide +kernel, by decide +kernel, by decide +kernel⟩
theorem lc_yX11_keep : lc_YV yX11_keep cX11_keep 1 (some .int) 0 := ⟨lc_ws (lc_t4 47 (by decide +kernel)) (by decide +kernel), lc_ws (lc_t4 48 (by decide +kernel)) (by decide +kernel), lc_ws (lc_t1 12 (by decide +kernel)) (by decide +kernel), lc_ws (lc_t4 49 (by decide +kernel)) (by decide +kernel), by decide +kernel, by decide +kernel, by decide +kernel⟩
theorem lc_yX11_allPieces : lc_YV yX11_allPieces cX11_allPieces 1 (some .int) 0 := ⟨lc_ws (lc_t4 52 (by decide +kernel)) (by decide +kernel), lc_ws (lc_t0 16 (by decide +kernel)) (by decide +kernel), lc_ws (lc_t1 12 (by decide +kernel)) (by decide +kernel), lc_ws (lc_t4 53 (by decide +kernel)) (by decide +kernel), by decide +kernel, by decide +kernel, by decide +kernel⟩
theorem lc_yX11_pieces : lc_YS yX11_pieces cX11_pieces 4 (some .int) 2 := ⟨lc_ws (lc_t4 55 (by decide +kernel)) (by decide +kernel), lc_ws (lc_t1 12 (by decide +kernel)) (by decide +kernel), lc_ws (lc_t4 56 (by decide +kernel)) (by decide +kernel), by decide +kernel, by decide +kernel, by decide +kernel⟩
theorem lc_yX11_restore : lc_YV yX11_restore cX11_restore 1 (some .int) 0 := ⟨lc_ws (lc_t4 58 (by decide +kernel)) (by decide +kernel), lc_ws (lc_t4 59 (by decide +kernel)) (by decide +kernel), lc_ws (lc_t1 12 (by decide +kernel)) (by decide +kernel), lc_ws (lc_t4 60 (by decide +kernel)) (by decide +kernel), by decide +kernel, by decide +kernel, by decide +kernel⟩
theorem lc_yX11_records : lc_YV yX11_records cX11_records 2 none 0 := ⟨lc_ws (lc_t4 63 (by decide +kernel)) (by decide +kernel), lc_ws (lc_t0 17 (by decide +kernel)) (by decide +kernel), lc_ws (lc_t1 12 (by decide +kernel)) (by decide +kernel), lc_ws (lc_t4 64 (by decide +kernel)) (by decide +kernel), by decide +kernel, by decide +kernel, by decide +kernel⟩
theorem lc_yX11_move : lc_YV yX11_move cX11_move 3 (some .int) 2 := ⟨lc_ws (lc_t4 66 (by decide +kernel)) (by decide +kernel), lc_ws (lc_t4 67 (by decide +kernel)) (by decide +kernel), lc_ws (lc_t1 12 (by decide +kernel)) (by decide +kernel), lc_ws (lc_t4 68 (by decide +kernel)) (by decide +kernel), by decide +kernel, by decide +kernel, by decide +kernel⟩
theorem lc_yX11_moves : lc_YV yX11_moves cX11_moves 5 (some .int) 3 := ⟨lc_ws (lc_t4 71 (by decide +kernel)) (by decide +kernel), lc_ws (lc_t0 18 (by decide +kernel)) (by decide +kernel), lc_ws (lc_t1 12 (by decide +kernel)) (by decide +kernel), lc_ws (lc_t4 72 (by decide +kernel)) (by decide +kernel), by decide +kernel, by decide +kernel, by decide +kernel⟩
theorem lc_yX11_isPoint : lc_YS yX11_isPoint cX11_isPoint 1 (some .boolean) 1 := ⟨lc_ws (lc_t4 74 (by decide +kernel)) (by decide +kernel), lc_ws (lc_t1 12 (by decide +kernel)) (by decide +kernel), lc_ws (lc_t4 75 (by decide +kernel)) (by decide +kernel), by decide +kernel, by decide +kernel, by decide +kernel⟩
theorem lc_yX11_in : lc_YS yX11_in cX11_in 3 (some .boolean) 3 := ⟨lc_ws (lc_t4 77 (by decide +kernel)) (by decide +kernel), lc_ws (lc_t1 12 (by decide +kernel)) (by decide +kernel), lc_ws (lc_t4 78 (by decide +kernel)) (by decide +kernel), by decide +kernel, by decide +kernel, by decide +kernel⟩
theorem lc_yX11_why : lc_YV yX11_why cX11_why 6 (some .int) 4 := ⟨lc_ws (lc_t4 81 (by decide +kernel)) (by decide +kernel), lc_ws (lc_t0 19 (by decide +kernel)) (by decide +kernel), lc_ws (lc_t1 12 (by decide +kernel)) (by decide +kernel), lc_ws (lc_t4 82 (by decide +kernel)) (by decide +kernel), by decide +kernel, by decide +kernel, by decide +kernel⟩
theorem lc_yX11_result : lc_YS yX11_result cX11_result 3 (some .int) 1 := ⟨lc_ws (lc_t4 84 (by decide +kernel)) (by decide +kernel), lc_ws (lc_t1 12 (by decide +kernel)) (by decide +kernel), lc_ws (lc_t4 85 (by decide +kernel)) (by decide +kernel), by decide +kernel, by decide +kernel, by decide +kernel⟩
theorem lc_yX11_targets : lc_YV yX11_targets cX11_targets 10 (some .long) 2 := ⟨lc_ws (lc_t4 88 (by decide +kernel)) (by decide +kernel), lc_ws (lc_t0 20 (by decide +kernel)) (by decide +kernel), lc_ws (lc_t1 12 (by decide +kernel)) (by decide +kernel), lc_ws (lc_t4 89 (by decide +kernel)) (by decide +kernel), by decide +kernel, by decide +kernel, by decide +kernel⟩
theorem lc_yX11_pointAt : lc_YS yX11_pointAt cX11_pointAt 5 (some .int) 2 := ⟨lc_ws (lc_t4 91 (by decide +kernel)) (by decide +kernel), lc_ws (lc_t1 12 (by decide +kernel)) (by decide +kernel), lc_ws (lc_t4 92 (by decide +kernel)) (by decide +kernel), by decide +kernel, by decide +kernel, by decide +kernel⟩
theorem lc_yX11_goes : lc_YV yX11_goes cX11_goes 9 (some .int) 4 := ⟨lc_ws (lc_t4 95 (by decide +kernel)) (by decide +kernel), lc_ws (lc_t0 21 (by decide +kernel)) (by decide +kernel), lc_ws (lc_t1 12 (by decide +kernel)) (by decide +kernel), lc_ws (lc_t4 96 (by decide +kernel)) (by decide +kernel), by decide +kernel, by decide +kernel, by decide +kernel⟩
theorem lc_yX11_isBeside : lc_YS yX11_isBeside cX11_isBeside 4 (some .boolean) 2 := ⟨lc_ws (lc_t4 98 (by decide +kernel)) (by decide +kernel), lc_ws (lc_t1 12 (by decide +kernel)) (by decide +kernel), lc_ws (lc_t4 99 (by decide +kernel)) (by decide +kernel), by decide +kernel, by decide +kernel, by decide +kernel⟩
theorem lc_yX11_makes : lc_YS yX11_makes cX11_makes 4 none 3 := ⟨lc_ws (lc_t4 101 (by decide +kernel)) (by decide +kernel), lc_ws (lc_t1 12 (by decide +kernel)) (by decide +kernel), lc_ws (lc_t4 102 (by decide +kernel)) (by decide +kernel), by decide +kernel, by decide +kernel, by decide +kernel⟩
theorem lc_yX11_capture : lc_YV yX11_capture cX11_capture 3 (some .int) 2 := ⟨lc_ws (lc_t4 104 (by decide +kernel)) (by decide +kernel), lc_ws (lc_t4 105 (by decide +kernel)) (by decide +kernel), lc_ws (lc_t1 12 (by decide +kernel)) (by decide +kernel), lc_ws (lc_t4 106 (by decide +kernel)) (by decide +kernel), by decide +kernel, by decide +kernel, by decide +kernel⟩
theorem lc_yX11_play : lc_YV yX11_play cX11_play 3 (some .int) 1 := ⟨lc_ws (lc_t4 108 (by decide +kernel)) (by decide +kernel), lc_ws (lc_t4 109 (by decide +kernel)) (by decide +kernel), lc_ws (lc_t1 12 (by decide +kernel)) (by decide +kernel), lc_ws (lc_t4 110 (by decide +kernel)) (by decide +kernel), by decide +kernel, by decide +kernel, by decide +kernel⟩
theorem lc_yX11_bestOf : lc_YV yX11_bestOf cX11_bestOf 10 (some .int) 1 := ⟨lc_ws (lc_t4 113 (by decide +kernel)) (by decide +kernel), lc_ws (lc_t0 22 (by decide +kernel)) (by decide +kernel), lc_ws (lc_t1 12 (by decide +kernel)) (by decide +kernel), lc_ws (lc_t4 114 (by decide +kernel)) (by decide +kernel), by decide +kernel, by decide +kernel, by decide +kernel⟩
theorem lc_yX11_worth : lc_YS yX11_worth cX11_worth 1 (some .int) 1 := ⟨lc_ws (lc_t4 116 (by decide +kernel)) (by decide +kernel), lc_ws (lc_t1 12 (by decide +kernel)) (by decide +kernel), lc_ws (lc_t4 117 (by decide +kernel)) (by decide +kernel), by decide +kernel, by decide +kernel, by decide +kernel⟩
theorem lc_yX11_ends : lc_YV yX11_ends cX11_ends 7 (some .long) 3 := ⟨lc_ws (lc_t4 120 (by decide +kernel)) (by decide +kernel), lc_ws (lc_t0 23 (by decide +kernel)) (by decide +kernel), lc_ws (lc_t1 12 (by decide +kernel)) (by decide +kernel), lc_ws (lc_t4 121 (by decide +kernel)) (by decide +kernel), by decide +kernel, by decide +kernel, by decide +kernel⟩
theorem lc_yX11_deep : lc_YV yX11_deep cX11_deep 9 (some .int) 1 := ⟨lc_ws (lc_t4 124 (by decide +kernel)) (by decide +kernel), lc_ws (lc_t0 24 (by decide +kernel)) (by decide +kernel), lc_ws (lc_t1 12 (by decide +kernel)) (by decide +kernel), lc_ws (lc_t4 125 (by decide +kernel)) (by decide +kernel), by decide +kernel, by decide +kernel, by decide +kernel⟩
theorem lc_yX11_setUp : lc_YV yX11_setUp cX11_setUp 4 (some .int) 2 := ⟨lc_ws (lc_t4 127 (by decide +kernel)) (by decide +kernel), lc_ws (lc_t4 128 (by decide +kernel)) (by decide +kernel), lc_ws (lc_t1 12 (by decide +kernel)) (by decide +kernel), lc_ws (lc_t4 129 (by decide +kernel)) (by decide +kernel), by decide +kernel, by decide +kernel, by decide +kernel⟩
theorem lc_yX11_turn : lc_YV yX11_turn cX11_turn 1 (some .int) 0 := ⟨lc_ws (lc_t4 131 (by decide +kernel)) (by decide +kernel), lc_ws (lc_t4 132 (by decide +kernel)) (by decide +kernel), lc_ws (lc_t1 12 (by decide +kernel)) (by decide +kernel), lc_ws (lc_t4 133 (by decide +kernel)) (by decide +kernel), by decide +kernel, by decide +kernel, by decide +kernel⟩
theorem lc_yX11_begin : lc_YV yX11_begin cX11_begin 2 (some .int) 0 := ⟨lc_ws (lc_t4 135 (by decide +kernel)) (by decide +kernel), lc_ws (lc_t4 136 (by decide +kernel)) (by decide +kernel), lc_ws (lc_t1 12 (by decide +kernel)) (by decide +kernel), lc_ws (lc_t4 137 (by decide +kernel)) (by decide +kernel), by decide +kernel, by decide +kernel, by decide +kernel⟩
theorem lc_yX11_setLimit : lc_YV yX11_setLimit cX11_setLimit 3 (some .int) 1 := ⟨lc_ws (lc_t4 139 (by decide +kernel)) (by decide +kernel), lc_ws (lc_t4 140 (by decide +kernel)) (by decide +kernel), lc_ws (lc_t1 12 (by decide +kernel)) (by decide +kernel), lc_ws (lc_t4 141 (by decide +kernel)) (by decide +kernel), by decide +kernel, by decide +kernel, by decide +kernel⟩
theorem lc_yX11_type : lc_YV yX11_type cX11_type 2 (some .int) 1 := ⟨lc_ws (lc_t4 143 (by decide +kernel)) (by decide +kernel), lc_ws (lc_t4 144 (by decide +kernel)) (by decide +kernel), lc_ws (lc_t1 12 (by decide +kernel)) (by decide +kernel), lc_ws (lc_t4 145 (by decide +kernel)) (by decide +kernel), by decide +kernel, by decide +kernel, by decide +kernel⟩
theorem lc_yX11_clearText : lc_YV yX11_clearText cX11_clearText 2 (some .int) 0 := ⟨lc_ws (lc_t4 147 (by decide +kernel)) (by decide +kernel), lc_ws (lc_t4 148 (by decide +kernel)) (by decide +kernel), lc_ws (lc_t1 12 (by decide +kernel)) (by decide +kernel), lc_ws (lc_t4 149 (by decide +kernel)) (by decide +kernel), by decide +kernel, by decide +kernel, by decide +kernel⟩
theorem lc_yX11_perform : lc_YV yX11_perform cX11_perform 6 (some .int) 0 := ⟨lc_ws (lc_t4 151 (by decide +kernel)) (by decide +kernel), lc_ws (lc_t4 152 (by decide +kernel)) (by decide +kernel), lc_ws (lc_t1 12 (by decide +kernel)) (by decide +kernel), lc_ws (lc_t4 153 (by decide +kernel)) (by decide +kernel), by decide +kernel, by decide +kernel, by decide +kernel⟩
theorem lc_yX11_isText : lc_YV yX11_isText cX11_isText 1 (some .boolean) 0 := ⟨lc_ws (lc_t4 156 (by decide +kernel)) (by decide +kernel), lc_ws (lc_t0 25 (by decide +kernel)) (by decide +kernel), lc_ws (lc_t1 12 (by decide +kernel)) (by decide +kernel), lc_ws (lc_t4 157 (by decide +kernel)) (by decide +kernel), by decide +kernel, by decide +kernel, by decide +kernel⟩
theorem lc_yX11_isAllowed : lc_YS yX11_isAllowed cX11_isAllowed 2 (some .boolean) 2 := ⟨lc_ws (lc_t4 159 (by decide +kernel)) (by decide +kernel), lc_ws (lc_t1 12 (by decide +kernel)) (by decide +kernel), lc_ws (lc_t4 160 (by decide +kernel)) (by decide +kernel), by decide +kernel, by decide +kernel, by decide +kernel⟩
theorem lc_yX11_toldPoint : lc_YV yX11_toldPoint cX11_toldPoint 2 (some .int) 1 := ⟨lc_ws (lc_t4 163 (by decide +kernel)) (by decide +kernel), lc_ws (lc_t0 26 (by decide +kernel)) (by decide +kernel), lc_ws (lc_t1 12 (by decide +kernel)) (by decide +kernel), lc_ws (lc_t4 164 (by decide +kernel)) (by decide +kernel), by decide +kernel, by decide +kernel, by decide +kernel⟩
theorem lc_yX11_stopped : lc_YV yX11_stopped cX11_stopped 2 (some .int) 1 := ⟨lc_ws (lc_t4 166 (by decide +kernel)) (by decide +kernel), lc_ws (lc_t4 167 (by decide +kernel)) (by decide +kernel), lc_ws (lc_t1 12 (by decide +kernel)) (by decide +kernel), lc_ws (lc_t4 168 (by decide +kernel)) (by decide +kernel), by decide +kernel, by decide +kernel, by decide +kernel⟩
theorem lc_yX11_point : lc_YV yX11_point cX11_point 4 (some .int) 2 := ⟨lc_ws (lc_t4 170 (by decide +kernel)) (by decide +kernel), lc_ws (lc_t4 171 (by decide +kernel)) (by decide +kernel), lc_ws (lc_t1 12 (by decide +kernel)) (by decide +kernel), lc_ws (lc_t4 172 (by decide +kernel)) (by decide +kernel), by decide +kernel, by decide +kernel, by decide +kernel⟩
theorem lc_yX11_captors : lc_YV yX11_captors cX11_captors 6 (some .int) 3 := ⟨lc_ws (lc_t4 175 (by decide +kernel)) (by decide +kernel), lc_ws (lc_t0 27 (by decide +kernel)) (by decide +kernel), lc_ws (lc_t1 12 (by decide +kernel)) (by decide +kernel), lc_ws (lc_t4 176 (by decide +kernel)) (by decide +kernel), by decide +kernel, by decide +kernel, by decide +kernel⟩
theorem lc_yX11_covered : lc_YV yX11_covered cX11_covered 3 (some .int) 1 := ⟨lc_ws (lc_t4 179 (by decide +kernel)) (by decide +kernel), lc_ws (lc_t0 28 (by decide +kernel)) (by decide +kernel), lc_ws (lc_t1 12 (by decide +kernel)) (by decide +kernel), lc_ws (lc_t4 180 (by decide +kernel)) (by decide +kernel), by decide +kernel, by decide +kernel, by decide +kernel⟩
theorem lc_yX11_ones : lc_YS yX11_ones cX11_ones 5 (some .int) 1 := ⟨lc_ws (lc_t4 182 (by decide +kernel)) (by decide +kernel), lc_ws (lc_t1 12 (by decide +kernel)) (by decide +kernel), lc_ws (lc_t4 183 (by decide +kernel)) (by decide +kernel), by decide +kernel, by decide +kernel, by decide +kernel⟩
theorem lc_yX11_quietOnes : lc_YV yX11_quietOnes cX11_quietOnes 4 (some .int) 1 := ⟨lc_ws (lc_t4 186 (by decide +kernel)) (by decide +kernel), lc_ws (lc_t0 29 (by decide +kernel)) (by decide +kernel), lc_ws (lc_t1 12 (by decide +kernel)) (by decide +kernel), lc_ws (lc_t4 187 (by decide +kernel)) (by decide +kernel), by decide +kernel, by decide +kernel, by decide +kernel⟩
theorem lc_yX11_way : lc_YV yX11_way cX11_way 5 (some .int) 3 := ⟨lc_ws (lc_t4 189 (by decide +kernel)) (by decide +kernel), lc_ws (lc_t4 190 (by decide +kernel)) (by decide +kernel), lc_ws (lc_t1 12 (by decide +kernel)) (by decide +kernel), lc_ws (lc_t4 191 (by decide +kernel)) (by decide +kernel), by decide +kernel, by decide +kernel, by decide +kernel⟩
theorem lc_yX11_bestWay : lc_YV yX11_bestWay cX11_bestWay 10 (some .int) 3 := ⟨lc_ws (lc_t4 194 (by decide +kernel)) (by decide +kernel), lc_ws (lc_t0 30 (by decide +kernel)) (by decide +kernel), lc_ws (lc_t1 12 (by decide +kernel)) (by decide +kernel), lc_ws (lc_t4 195 (by decide +kernel)) (by decide +kernel), by decide +kernel, by decide +kernel, by decide +kernel⟩
theorem lc_yX11_circuit : lc_YV yX11_circuit cX11_circuit 3 (some .int) 2 := ⟨lc_ws (lc_t4 197 (by decide +kernel)) (by decide +kernel), lc_ws (lc_t4 198 (by decide +kernel)) (by decide +kernel), lc_ws (lc_t1 12 (by decide +kernel)) (by decide +kernel), lc_ws (lc_t4 199 (by decide +kernel)) (by decide +kernel), by decide +kernel, by decide +kernel, by decide +kernel⟩
theorem lc_yX11_reason : lc_YV yX11_reason cX11_reason 4 (some .int) 3 := ⟨lc_ws (lc_t4 201 (by decide +kernel)) (by decide +kernel), lc_ws (lc_t4 202 (by decide +kernel)) (by decide +kernel), lc_ws (lc_t1 12 (by decide +kernel)) (by decide +kernel), lc_ws (lc_t4 203 (by decide +kernel)) (by decide +kernel), by decide +kernel, by decide +kernel, by decide +kernel⟩
theorem lc_yX11_possible : lc_YV yX11_possible cX11_possible 8 (some .int) 1 := ⟨lc_ws (lc_t4 205 (by decide +kernel)) (by decide +kernel), lc_ws (lc_t4 206 (by decide +kernel)) (by decide +kernel), lc_ws (lc_t1 12 (by decide +kernel)) (by decide +kernel), lc_ws (lc_t4 207 (by decide +kernel)) (by decide +kernel), by decide +kernel, by decide +kernel, by decide +kernel⟩
theorem lc_yX11_look : lc_YV yX11_look cX11_look 2 (some .int) 1 := ⟨lc_ws (lc_t4 209 (by decide +kernel)) (by decide +kernel), lc_ws (lc_t4 210 (by decide +kernel)) (by decide +kernel), lc_ws (lc_t1 12 (by decide +kernel)) (by decide +kernel), lc_ws (lc_t4 211 (by decide +kernel)) (by decide +kernel), by decide +kernel, by decide +kernel, by decide +kernel⟩
theorem lc_yX11_best : lc_YV yX11_best cX11_best 2 (some .int) 1 := ⟨lc_ws (lc_t4 213 (by decide +kernel)) (by decide +kernel), lc_ws (lc_t4 214 (by decide +kernel)) (by decide +kernel), lc_ws (lc_t1 12 (by decide +kernel)) (by decide +kernel), lc_ws (lc_t4 215 (by decide +kernel)) (by decide +kernel), by decide +kernel, by decide +kernel, by decide +kernel⟩
theorem lc_yX11_count : lc_YV yX11_count cX11_count 2 (some .int) 1 := ⟨lc_ws (lc_t4 217 (by decide +kernel)) (by decide +kernel), lc_ws (lc_t4 218 (by decide +kernel)) (by decide +kernel), lc_ws (lc_t1 12 (by decide +kernel)) (by decide +kernel), lc_ws (lc_t4 219 (by decide +kernel)) (by decide +kernel), by decide +kernel, by decide +kernel, by decide +kernel⟩
theorem lc_yX11_many : lc_YV yX11_many cX11_many 4 (some .int) 1 := ⟨lc_ws (lc_t4 222 (by decide +kernel)) (by decide +kernel), lc_ws (lc_t0 31 (by decide +kernel)) (by decide +kernel), lc_ws (lc_t1 12 (by decide +kernel)) (by decide +kernel), lc_ws (lc_t4 223 (by decide +kernel)) (by decide +kernel), by decide +kernel, by decide +kernel, by decide +kernel⟩
theorem lc_yX11_were : lc_YV yX11_were cX11_were 5 (some .int) 0 := ⟨lc_ws (lc_t4 226 (by decide +kernel)) (by decide +kernel), lc_ws (lc_t0 32 (by decide +kernel)) (by decide +kernel), lc_ws (lc_t1 12 (by decide +kernel)) (by decide +kernel), lc_ws (lc_t4 227 (by decide +kernel)) (by decide +kernel), by decide +kernel, by decide +kernel, by decide +kernel⟩
theorem lc_yX11_threatened : lc_YV yX11_threatened cX11_threatened 3 (some .int) 0 := ⟨lc_ws (lc_t4 230 (by decide +kernel)) (by decide +kernel), lc_ws (lc_t0 33 (by decide +kernel)) (by decide +kernel), lc_ws (lc_t1 12 (by decide +kernel)) (by decide +kernel), lc_ws (lc_t4 231 (by decide +kernel)) (by decide +kernel), by decide +kernel, by decide +kernel, by decide +kernel⟩
theorem lc_cL_7 : Cond.classLink RL 7 RX10 ∈ lc_WS := lc_ws (lc_t1 14 (by decide +kernel)) (by decide +kernel)
theorem lc_mL_9 : Cond.methodLink RL 9 yX10_init ∈ lc_WS := lc_ws (lc_t1 16 (by decide +kernel)) (by decide +kernel)
theorem lc_mX10_1 : Cond.methodLink RX10 1 Lib.objectInit ∈ lc_WS := lc_ws (lc_t1 19 (by decide +kernel)) (by decide +kernel)
theorem lc_cX10_7 : Cond.classLink RX10 7 RX1 ∈ lc_WS := lc_ws (lc_t1 22 (by decide +kernel)) (by decide +kernel)
theorem lc_mX10_9 : Cond.methodLink RX10 9 yX1_init ∈ lc_WS := lc_ws (lc_t1 24 (by decide +kernel)) (by decide +kernel)
theorem lc_mX1_3 : Cond.methodLink RX1 3 Lib.objectInit ∈ lc_WS := lc_ws (lc_t1 27 (by decide +kernel)) (by decide +kernel)
theorem lc_mX1_18 : Cond.methodLink RX1 18 yX1_layOut ∈ lc_WS := lc_ws (lc_t1 28 (by decide +kernel)) (by decide +kernel)
theorem lc_mX1_26 : Cond.methodLink RX1 26 yX1_put ∈ lc_WS := lc_ws (lc_t1 32 (by decide +kernel)) (by decide +kernel)
theorem lc_mX1_22 : Cond.methodLink RX1 22 yX1_addSpot ∈ lc_WS := lc_ws (lc_t1 36 (by decide +kernel)) (by decide +kernel)
theorem lc_cX10_16 : Cond.classLink RX10 16 RX9 ∈ lc_WS := lc_ws (lc_t1 48 (by decide +kernel)) (by decide +kernel)
theorem lc_mX10_18 : Cond.methodLink RX10 18 yX9_init ∈ lc_WS := lc_ws (lc_t1 50 (by decide +kernel)) (by decide +kernel)
theorem lc_mX9_3 : Cond.methodLink RX9 3 Lib.objectInit ∈ lc_WS := lc_ws (lc_t1 53 (by decide +kernel)) (by decide +kernel)
theorem lc_cX9_15 : Cond.classLink RX9 15 RX8 ∈ lc_WS := lc_ws (lc_t1 54 (by decide +kernel)) (by decide +kernel)
theorem lc_mX9_17 : Cond.methodLink RX9 17 yX8_init ∈ lc_WS := lc_ws (lc_t1 56 (by decide +kernel)) (by decide +kernel)
theorem lc_mX8_3 : Cond.methodLink RX8 3 Lib.objectInit ∈ lc_WS := lc_ws (lc_t1 59 (by decide +kernel)) (by decide +kernel)
theorem lc_cX10_25 : Cond.classLink RX10 25 RX6 ∈ lc_WS := lc_ws (lc_t1 100 (by decide +kernel)) (by decide +kernel)
theorem lc_mX10_27 : Cond.methodLink RX10 27 yX6_init ∈ lc_WS := lc_ws (lc_t1 102 (by decide +kernel)) (by decide +kernel)
theorem lc_mX6_3 : Cond.methodLink RX6 3 Lib.objectInit ∈ lc_WS := lc_ws (lc_t1 105 (by decide +kernel)) (by decide +kernel)
theorem lc_cX6_15 : Cond.classLink RX6 15 RX8 ∈ lc_WS := lc_ws (lc_t1 106 (by decide +kernel)) (by decide +kernel)
theorem lc_mX6_17 : Cond.methodLink RX6 17 yX8_init ∈ lc_WS := lc_ws (lc_t1 107 (by decide +kernel)) (by decide +kernel)
theorem lc_cX10_34 : Cond.classLink RX10 34 RX4 ∈ lc_WS := lc_ws (lc_t1 118 (by decide +kernel)) (by decide +kernel)
theorem lc_mX4_3 : Cond.methodLink RX4 3 Lib.objectInit ∈ lc_WS := lc_ws (lc_t1 123 (by decide +kernel)) (by decide +kernel)
theorem lc_cX10_41 : Cond.classLink RX10 41 RX3 ∈ lc_WS := lc_ws (lc_t1 134 (by decide +kernel)) (by decide +kernel)
theorem lc_mX10_43 : Cond.methodLink RX10 43 yX3_init ∈ lc_WS := lc_ws (lc_t1 136 (by decide +kernel)) (by decide +kernel)
theorem lc_mX3_3 : Cond.methodLink RX3 3 Lib.objectInit ∈ lc_WS := lc_ws (lc_t1 139 (by decide +kernel)) (by decide +kernel)
theorem lc_cX3_9 : Cond.classLink RX3 9 RX0 ∈ lc_WS := lc_ws (lc_t1 140 (by decide +kernel)) (by decide +kernel)
theorem lc_mX3_11 : Cond.methodLink RX3 11 yX0_init ∈ lc_WS := lc_ws (lc_t1 142 (by decide +kernel)) (by decide +kernel)
theorem lc_mX0_3 : Cond.methodLink RX0 3 Lib.objectInit ∈ lc_WS := lc_ws (lc_t1 145 (by decide +kernel)) (by decide +kernel)
theorem lc_mX0_19 : Cond.methodLink RX0 19 yX0_startAnew ∈ lc_WS := lc_ws (lc_t1 146 (by decide +kernel)) (by decide +kernel)
theorem lc_mX0_22 : Cond.methodLink RX0 22 yX0_firstSideAt ∈ lc_WS := lc_ws (lc_t1 150 (by decide +kernel)) (by decide +kernel)
theorem lc_mX0_26 : Cond.methodLink RX0 26 yX0_put ∈ lc_WS := lc_ws (lc_t1 153 (by decide +kernel)) (by decide +kernel)
theorem lc_mX0_42 : Cond.methodLink RX0 42 yX0_tally ∈ lc_WS := lc_ws (lc_t1 157 (by decide +kernel)) (by decide +kernel)
theorem lc_cX3_18 : Cond.classLink RX3 18 RX4 ∈ lc_WS := lc_ws (lc_t1 180 (by decide +kernel)) (by decide +kernel)
theorem lc_cX10_50 : Cond.classLink RX10 50 RX7 ∈ lc_WS := lc_ws (lc_t1 198 (by decide +kernel)) (by decide +kernel)
theorem lc_mX10_52 : Cond.methodLink RX10 52 yX7_init ∈ lc_WS := lc_ws (lc_t1 200 (by decide +kernel)) (by decide +kernel)
theorem lc_mX7_3 : Cond.methodLink RX7 3 Lib.objectInit ∈ lc_WS := lc_ws (lc_t1 203 (by decide +kernel)) (by decide +kernel)
theorem lc_cX7_9 : Cond.classLink RX7 9 RX0 ∈ lc_WS := lc_ws (lc_t1 204 (by decide +kernel)) (by decide +kernel)
theorem lc_mX7_11 : Cond.methodLink RX7 11 yX0_init ∈ lc_WS := lc_ws (lc_t1 205 (by decide +kernel)) (by decide +kernel)
theorem lc_mX7_22 : Cond.methodLink RX7 22 yX7_remember ∈ lc_WS := lc_ws (lc_t1 206 (by decide +kernel)) (by decide +kernel)
theorem lc_mX7_55 : Cond.methodLink RX7 55 yX0_key ∈ lc_WS := lc_ws (lc_t1 210 (by decide +kernel)) (by decide +kernel)
theorem lc_cX10_63 : Cond.classLink RX10 63 RX2 ∈ lc_WS := lc_ws (lc_t1 235 (by decide +kernel)) (by decide +kernel)
theorem lc_mX10_65 : Cond.methodLink RX10 65 yX2_init ∈ lc_WS := lc_ws (lc_t1 237 (by decide +kernel)) (by decide +kernel)
theorem lc_mX2_1 : Cond.methodLink RX2 1 Lib.objectInit ∈ lc_WS := lc_ws (lc_t2 0 (by decide +kernel)) (by decide +kernel)
theorem lc_cX2_9 : Cond.classLink RX2 9 RX7 ∈ lc_WS := lc_ws (lc_t2 1 (by decide +kernel)) (by decide +kernel)
theorem lc_mX2_15 : Cond.methodLink RX2 15 yX7_init ∈ lc_WS := lc_ws (lc_t2 3 (by decide +kernel)) (by decide +kernel)
theorem lc_cX10_70 : Cond.classLink RX10 70 RX5 ∈ lc_WS := lc_ws (lc_t2 11 (by decide +kernel)) (by decide +kernel)
theorem lc_mX5_3 : Cond.methodLink RX5 3 Lib.objectInit ∈ lc_WS := lc_ws (lc_t2 16 (by decide +kernel)) (by decide +kernel)
theorem lc_mL_13 : Cond.methodLink RL 13 yX10_move ∈ lc_WS := lc_ws (lc_t2 68 (by decide +kernel)) (by decide +kernel)
theorem lc_mX10_77 : Cond.methodLink RX10 77 yX10_isPoint ∈ lc_WS := lc_ws (lc_t2 72 (by decide +kernel)) (by decide +kernel)
theorem lc_mX10_85 : Cond.methodLink RX10 85 yX6_whyNot ∈ lc_WS := lc_ws (lc_t2 75 (by decide +kernel)) (by decide +kernel)
theorem lc_mX6_28 : Cond.methodLink RX6 28 yX0_result ∈ lc_WS := lc_ws (lc_t2 79 (by decide +kernel)) (by decide +kernel)
theorem lc_mX6_34 : Cond.methodLink RX6 34 yX0_sideToMove ∈ lc_WS := lc_ws (lc_t2 83 (by decide +kernel)) (by decide +kernel)
theorem lc_mX6_37 : Cond.methodLink RX6 37 yX0_at ∈ lc_WS := lc_ws (lc_t2 87 (by decide +kernel)) (by decide +kernel)
theorem lc_mX6_41 : Cond.methodLink RX6 41 yX6_couldCapture ∈ lc_WS := lc_ws (lc_t2 91 (by decide +kernel)) (by decide +kernel)
theorem lc_mX6_48 : Cond.methodLink RX6 48 yX6_areOfTwoSides ∈ lc_WS := lc_ws (lc_t2 95 (by decide +kernel)) (by decide +kernel)
theorem lc_mX6_52 : Cond.methodLink RX6 52 yX9_find ∈ lc_WS := lc_ws (lc_t2 98 (by decide +kernel)) (by decide +kernel)
theorem lc_mX9_30 : Cond.methodLink RX9 30 yX1_spotOf ∈ lc_WS := lc_ws (lc_t2 102 (by decide +kernel)) (by decide +kernel)
theorem lc_mX9_34 : Cond.methodLink RX9 34 yX9_tryFrom ∈ lc_WS := lc_ws (lc_t2 106 (by decide +kernel)) (by decide +kernel)
theorem lc_mX9_38 : Cond.methodLink RX9 38 yX8_go ∈ lc_WS := lc_ws (lc_t2 110 (by decide +kernel)) (by decide +kernel)
theorem lc_mX8_22 : Cond.methodLink RX8 22 yX1_pointAt ∈ lc_WS := lc_ws (lc_t2 114 (by decide +kernel)) (by decide +kernel)
theorem lc_mX8_31 : Cond.methodLink RX8 31 yX0_at ∈ lc_WS := lc_ws (lc_t2 118 (by decide +kernel)) (by decide +kernel)
theorem lc_mX9_42 : Cond.methodLink RX9 42 yX8_wentOverLoopTo ∈ lc_WS := lc_ws (lc_t2 119 (by decide +kernel)) (by decide +kernel)
theorem lc_mX9_46 : Cond.methodLink RX9 46 yX9_walkIsShorter ∈ lc_WS := lc_ws (lc_t2 123 (by decide +kernel)) (by decide +kernel)
theorem lc_mX6_45 : Cond.methodLink RX6 45 yX6_couldStep ∈ lc_WS := lc_ws (lc_t2 127 (by decide +kernel)) (by decide +kernel)
theorem lc_mX6_57 : Cond.methodLink RX6 57 Lib.Math.abs.name ∈ lc_WS := lc_ws (lc_t2 130 (by decide +kernel)) (by decide +kernel)
theorem lc_mX10_89 : Cond.methodLink RX10 89 yX2_push ∈ lc_WS := lc_ws (lc_t2 133 (by decide +kernel)) (by decide +kernel)
theorem lc_mX2_20 : Cond.methodLink RX2 20 yX2_dropOldest ∈ lc_WS := lc_ws (lc_t2 137 (by decide +kernel)) (by decide +kernel)
theorem lc_mX2_23 : Cond.methodLink RX2 23 yX7_copyFrom ∈ lc_WS := lc_ws (lc_t2 141 (by decide +kernel)) (by decide +kernel)
theorem lc_mX7_59 : Cond.methodLink RX7 59 yX0_copyFrom ∈ lc_WS := lc_ws (lc_t2 145 (by decide +kernel)) (by decide +kernel)
theorem lc_mX10_93 : Cond.methodLink RX10 93 yX7_makeMove ∈ lc_WS := lc_ws (lc_t2 149 (by decide +kernel)) (by decide +kernel)
theorem lc_mX7_38 : Cond.methodLink RX7 38 yX0_make ∈ lc_WS := lc_ws (lc_t2 153 (by decide +kernel)) (by decide +kernel)
theorem lc_mX0_45 : Cond.methodLink RX0 45 yX0_at ∈ lc_WS := lc_ws (lc_t2 157 (by decide +kernel)) (by decide +kernel)
theorem lc_mX0_48 : Cond.methodLink RX0 48 yX0_changeSide ∈ lc_WS := lc_ws (lc_t2 158 (by decide +kernel)) (by decide +kernel)
theorem lc_mX7_35 : Cond.methodLink RX7 35 yX7_forgetPositions ∈ lc_WS := lc_ws (lc_t2 162 (by decide +kernel)) (by decide +kernel)
theorem lc_mX10_97 : Cond.methodLink RX10 97 yX0_quietMoves ∈ lc_WS := lc_ws (lc_t2 166 (by decide +kernel)) (by decide +kernel)
theorem lc_mL_18 : Cond.methodLink RL 18 yX10_capture ∈ lc_WS := lc_ws (lc_t2 170 (by decide +kernel)) (by decide +kernel)
theorem lc_mX10_103 : Cond.methodLink RX10 103 yX0_sideToMove ∈ lc_WS := lc_ws (lc_t2 174 (by decide +kernel)) (by decide +kernel)
theorem lc_mX10_106 : Cond.methodLink RX10 106 yX0_piecesOf ∈ lc_WS := lc_ws (lc_t2 175 (by decide +kernel)) (by decide +kernel)
theorem lc_mL_22 : Cond.methodLink RL 22 yX10_play ∈ lc_WS := lc_ws (lc_t2 179 (by decide +kernel)) (by decide +kernel)
theorem lc_mX10_110 : Cond.methodLink RX10 110 yX3_bestMove ∈ lc_WS := lc_ws (lc_t2 183 (by decide +kernel)) (by decide +kernel)
theorem lc_mX3_32 : Cond.methodLink RX3 32 yX0_copyFrom ∈ lc_WS := lc_ws (lc_t2 187 (by decide +kernel)) (by decide +kernel)
theorem lc_mX3_36 : Cond.methodLink RX3 36 yX3_search ∈ lc_WS := lc_ws (lc_t2 188 (by decide +kernel)) (by decide +kernel)
theorem lc_mX3_44 : Cond.methodLink RX3 44 yX0_worth ∈ lc_WS := lc_ws (lc_t2 192 (by decide +kernel)) (by decide +kernel)
theorem lc_mX3_48 : Cond.methodLink RX3 48 yX6_listMoves ∈ lc_WS := lc_ws (lc_t2 196 (by decide +kernel)) (by decide +kernel)
theorem lc_mX6_66 : Cond.methodLink RX6 66 yX4_clear ∈ lc_WS := lc_ws (lc_t2 200 (by decide +kernel)) (by decide +kernel)
theorem lc_mX6_71 : Cond.methodLink RX6 71 yX6_listCaptures ∈ lc_WS := lc_ws (lc_t2 204 (by decide +kernel)) (by decide +kernel)
theorem lc_mX6_80 : Cond.methodLink RX6 80 yX1_spotOf ∈ lc_WS := lc_ws (lc_t2 208 (by decide +kernel)) (by decide +kernel)
theorem lc_mX6_84 : Cond.methodLink RX6 84 yX8_go ∈ lc_WS := lc_ws (lc_t2 209 (by decide +kernel)) (by decide +kernel)
theorem lc_mX6_95 : Cond.methodLink RX6 95 yX4_addCapture ∈ lc_WS := lc_ws (lc_t2 210 (by decide +kernel)) (by decide +kernel)
theorem lc_mX6_75 : Cond.methodLink RX6 75 yX6_listQuietMoves ∈ lc_WS := lc_ws (lc_t2 214 (by decide +kernel)) (by decide +kernel)
theorem lc_mX6_99 : Cond.methodLink RX6 99 Lib.Math.max.name ∈ lc_WS := lc_ws (lc_t2 217 (by decide +kernel)) (by decide +kernel)
theorem lc_mX6_102 : Cond.methodLink RX6 102 Lib.Math.min.name ∈ lc_WS := lc_ws (lc_t2 220 (by decide +kernel)) (by decide +kernel)
theorem lc_mX6_105 : Cond.methodLink RX6 105 yX4_addQuiet ∈ lc_WS := lc_ws (lc_t2 223 (by decide +kernel)) (by decide +kernel)
theorem lc_mX3_54 : Cond.methodLink RX3 54 yX0_quietMoves ∈ lc_WS := lc_ws (lc_t2 227 (by decide +kernel)) (by decide +kernel)
theorem lc_mX3_57 : Cond.methodLink RX3 57 yX4_size ∈ lc_WS := lc_ws (lc_t2 228 (by decide +kernel)) (by decide +kernel)
theorem lc_mX3_60 : Cond.methodLink RX3 60 yX4_get ∈ lc_WS := lc_ws (lc_t2 232 (by decide +kernel)) (by decide +kernel)
theorem lc_mX3_63 : Cond.methodLink RX3 63 yX0_make ∈ lc_WS := lc_ws (lc_t2 236 (by decide +kernel)) (by decide +kernel)
theorem lc_mX3_67 : Cond.methodLink RX3 67 yX0_takeBack ∈ lc_WS := lc_ws (lc_t2 237 (by decide +kernel)) (by decide +kernel)
theorem lc_mL_27 : Cond.methodLink RL 27 yX10_setUp ∈ lc_WS := lc_ws (lc_t3 1 (by decide +kernel)) (by decide +kernel)
theorem lc_mX10_114 : Cond.methodLink RX10 114 yX0_at ∈ lc_WS := lc_ws (lc_t3 5 (by decide +kernel)) (by decide +kernel)
theorem lc_mX10_117 : Cond.methodLink RX10 117 yX7_place ∈ lc_WS := lc_ws (lc_t3 6 (by decide +kernel)) (by decide +kernel)
theorem lc_mX7_42 : Cond.methodLink RX7 42 yX0_put ∈ lc_WS := lc_ws (lc_t3 10 (by decide +kernel)) (by decide +kernel)
theorem lc_mX7_46 : Cond.methodLink RX7 46 yX0_forgetQuietMoves ∈ lc_WS := lc_ws (lc_t3 11 (by decide +kernel)) (by decide +kernel)
theorem lc_mL_31 : Cond.methodLink RL 31 yX10_turn ∈ lc_WS := lc_ws (lc_t3 15 (by decide +kernel)) (by decide +kernel)
theorem lc_mX10_120 : Cond.methodLink RX10 120 yX7_changeSide ∈ lc_WS := lc_ws (lc_t3 19 (by decide +kernel)) (by decide +kernel)
theorem lc_mX7_49 : Cond.methodLink RX7 49 yX0_changeSide ∈ lc_WS := lc_ws (lc_t3 23 (by decide +kernel)) (by decide +kernel)
theorem lc_mL_36 : Cond.methodLink RL 36 yX10_begin ∈ lc_WS := lc_ws (lc_t3 24 (by decide +kernel)) (by decide +kernel)
theorem lc_mX10_123 : Cond.methodLink RX10 123 yX0_allPieces ∈ lc_WS := lc_ws (lc_t3 28 (by decide +kernel)) (by decide +kernel)
theorem lc_mX10_126 : Cond.methodLink RX10 126 yX7_startAnew ∈ lc_WS := lc_ws (lc_t3 32 (by decide +kernel)) (by decide +kernel)
theorem lc_mX7_25 : Cond.methodLink RX7 25 yX0_startAnew ∈ lc_WS := lc_ws (lc_t3 36 (by decide +kernel)) (by decide +kernel)
theorem lc_mL_40 : Cond.methodLink RL 40 yX10_setLimit ∈ lc_WS := lc_ws (lc_t3 37 (by decide +kernel)) (by decide +kernel)
theorem lc_mX10_129 : Cond.methodLink RX10 129 yX0_limit ∈ lc_WS := lc_ws (lc_t3 41 (by decide +kernel)) (by decide +kernel)
theorem lc_mX10_132 : Cond.methodLink RX10 132 yX0_changeLimit ∈ lc_WS := lc_ws (lc_t3 45 (by decide +kernel)) (by decide +kernel)
theorem lc_mL_44 : Cond.methodLink RL 44 yX10_type ∈ lc_WS := lc_ws (lc_t3 49 (by decide +kernel)) (by decide +kernel)
theorem lc_mX10_136 : Cond.methodLink RX10 136 yX5_append ∈ lc_WS := lc_ws (lc_t3 53 (by decide +kernel)) (by decide +kernel)
theorem lc_mX10_140 : Cond.methodLink RX10 140 yX5_length ∈ lc_WS := lc_ws (lc_t3 57 (by decide +kernel)) (by decide +kernel)
theorem lc_mL_49 : Cond.methodLink RL 49 yX10_clearText ∈ lc_WS := lc_ws (lc_t3 61 (by decide +kernel)) (by decide +kernel)
theorem lc_mX10_143 : Cond.methodLink RX10 143 yX5_empty ∈ lc_WS := lc_ws (lc_t3 65 (by decide +kernel)) (by decide +kernel)
theorem lc_mL_53 : Cond.methodLink RL 53 yX10_perform ∈ lc_WS := lc_ws (lc_t3 69 (by decide +kernel)) (by decide +kernel)
theorem lc_mX10_146 : Cond.methodLink RX10 146 yX5_fault ∈ lc_WS := lc_ws (lc_t3 73 (by decide +kernel)) (by decide +kernel)
theorem lc_mX5_19 : Cond.methodLink RX5 19 yX5_at ∈ lc_WS := lc_ws (lc_t3 77 (by decide +kernel)) (by decide +kernel)
theorem lc_mX5_23 : Cond.methodLink RX5 23 yX5_isAllowed ∈ lc_WS := lc_ws (lc_t3 81 (by decide +kernel)) (by decide +kernel)
theorem lc_mX10_149 : Cond.methodLink RX10 149 yX7_copyFrom ∈ lc_WS := lc_ws (lc_t3 84 (by decide +kernel)) (by decide +kernel)
theorem lc_mX10_152 : Cond.methodLink RX10 152 yX5_moves ∈ lc_WS := lc_ws (lc_t3 85 (by decide +kernel)) (by decide +kernel)
theorem lc_mX10_155 : Cond.methodLink RX10 155 yX5_fromOf ∈ lc_WS := lc_ws (lc_t3 89 (by decide +kernel)) (by decide +kernel)
theorem lc_mX5_27 : Cond.methodLink RX5 27 yX5_pointAt ∈ lc_WS := lc_ws (lc_t3 93 (by decide +kernel)) (by decide +kernel)
theorem lc_mX10_158 : Cond.methodLink RX10 158 yX5_toOf ∈ lc_WS := lc_ws (lc_t3 97 (by decide +kernel)) (by decide +kernel)
theorem lc_mX10_161 : Cond.methodLink RX10 161 yX5_isCapture ∈ lc_WS := lc_ws (lc_t3 101 (by decide +kernel)) (by decide +kernel)
theorem lc_mX10_164 : Cond.methodLink RX10 164 yX10_noteStop ∈ lc_WS := lc_ws (lc_t3 105 (by decide +kernel)) (by decide +kernel)
theorem lc_mL_57 : Cond.methodLink RL 57 yX10_stopped ∈ lc_WS := lc_ws (lc_t3 109 (by decide +kernel)) (by decide +kernel)
theorem lc_mL_61 : Cond.methodLink RL 61 yX10_undo ∈ lc_WS := lc_ws (lc_t3 113 (by decide +kernel)) (by decide +kernel)
theorem lc_mX10_178 : Cond.methodLink RX10 178 yX2_size ∈ lc_WS := lc_ws (lc_t3 117 (by decide +kernel)) (by decide +kernel)
theorem lc_mX10_181 : Cond.methodLink RX10 181 yX2_takeLatest ∈ lc_WS := lc_ws (lc_t3 121 (by decide +kernel)) (by decide +kernel)
theorem lc_mL_65 : Cond.methodLink RL 65 yX10_keep ∈ lc_WS := lc_ws (lc_t3 125 (by decide +kernel)) (by decide +kernel)
theorem lc_mL_69 : Cond.methodLink RL 69 yX10_restore ∈ lc_WS := lc_ws (lc_t3 129 (by decide +kernel)) (by decide +kernel)
theorem lc_mL_73 : Cond.methodLink RL 73 yX10_point ∈ lc_WS := lc_ws (lc_t3 133 (by decide +kernel)) (by decide +kernel)
theorem lc_mX10_187 : Cond.methodLink RX10 187 yX6_threatsTo ∈ lc_WS := lc_ws (lc_t3 137 (by decide +kernel)) (by decide +kernel)
theorem lc_mX10_190 : Cond.methodLink RX10 190 yX6_coversOf ∈ lc_WS := lc_ws (lc_t3 141 (by decide +kernel)) (by decide +kernel)
theorem lc_mX10_193 : Cond.methodLink RX10 193 yX6_capturesFrom ∈ lc_WS := lc_ws (lc_t3 145 (by decide +kernel)) (by decide +kernel)
theorem lc_mX10_196 : Cond.methodLink RX10 196 yX6_quietMovesFrom ∈ lc_WS := lc_ws (lc_t3 149 (by decide +kernel)) (by decide +kernel)
theorem lc_mL_77 : Cond.methodLink RL 77 yX10_way ∈ lc_WS := lc_ws (lc_t3 153 (by decide +kernel)) (by decide +kernel)
theorem lc_mX10_199 : Cond.methodLink RX10 199 yX6_couldCapture ∈ lc_WS := lc_ws (lc_t3 157 (by decide +kernel)) (by decide +kernel)
theorem lc_mL_82 : Cond.methodLink RL 82 yX10_circuit ∈ lc_WS := lc_ws (lc_t3 158 (by decide +kernel)) (by decide +kernel)
theorem lc_mX10_215 : Cond.methodLink RX10 215 yX1_pointAt ∈ lc_WS := lc_ws (lc_t3 162 (by decide +kernel)) (by decide +kernel)
theorem lc_mL_86 : Cond.methodLink RL 86 yX10_reason ∈ lc_WS := lc_ws (lc_t3 163 (by decide +kernel)) (by decide +kernel)
theorem lc_mL_91 : Cond.methodLink RL 91 yX10_possible ∈ lc_WS := lc_ws (lc_t3 167 (by decide +kernel)) (by decide +kernel)
theorem lc_mX10_218 : Cond.methodLink RX10 218 yX6_listMoves ∈ lc_WS := lc_ws (lc_t3 171 (by decide +kernel)) (by decide +kernel)
theorem lc_mX10_222 : Cond.methodLink RX10 222 yX4_size ∈ lc_WS := lc_ws (lc_t3 172 (by decide +kernel)) (by decide +kernel)
theorem lc_mX10_223 : Cond.methodLink RX10 223 yX4_get ∈ lc_WS := lc_ws (lc_t3 173 (by decide +kernel)) (by decide +kernel)
theorem lc_mL_95 : Cond.methodLink RL 95 yX10_look ∈ lc_WS := lc_ws (lc_t3 174 (by decide +kernel)) (by decide +kernel)
theorem lc_mX10_226 : Cond.methodLink RX10 226 yX3_worthAhead ∈ lc_WS := lc_ws (lc_t3 178 (by decide +kernel)) (by decide +kernel)
theorem lc_mL_99 : Cond.methodLink RL 99 yX10_best ∈ lc_WS := lc_ws (lc_t3 182 (by decide +kernel)) (by decide +kernel)
theorem lc_mL_103 : Cond.methodLink RL 103 yX10_count ∈ lc_WS := lc_ws (lc_t3 186 (by decide +kernel)) (by decide +kernel)
theorem lc_mX10_229 : Cond.methodLink RX10 229 yX0_result ∈ lc_WS := lc_ws (lc_t3 190 (by decide +kernel)) (by decide +kernel)
theorem lc_mX10_232 : Cond.methodLink RX10 232 yX10_possibleMoves ∈ lc_WS := lc_ws (lc_t3 191 (by decide +kernel)) (by decide +kernel)
theorem lc_mX10_248 : Cond.methodLink RX10 248 yX4_captures ∈ lc_WS := lc_ws (lc_t3 195 (by decide +kernel)) (by decide +kernel)
theorem lc_mX10_241 : Cond.methodLink RX10 241 yX7_timesSeen ∈ lc_WS := lc_ws (lc_t3 199 (by decide +kernel)) (by decide +kernel)
theorem lc_mX10_244 : Cond.methodLink RX10 244 yX6_threatened ∈ lc_WS := lc_ws (lc_t3 203 (by decide +kernel)) (by decide +kernel)
theorem lc_mX6_62 : Cond.methodLink RX6 62 yX6_threatsTo ∈ lc_WS := lc_ws (lc_t3 207 (by decide +kernel)) (by decide +kernel)
theorem lc_cL_10 : Cond.classLink RL 10 RX11 ∈ lc_WS := lc_ws (lc_t3 208 (by decide +kernel)) (by decide +kernel)
theorem lc_mL_12 : Cond.methodLink RL 12 yX11_init ∈ lc_WS := lc_ws (lc_t3 210 (by decide +kernel)) (by decide +kernel)
theorem lc_mX11_1 : Cond.methodLink RX11 1 Lib.objectInit ∈ lc_WS := lc_ws (lc_t3 213 (by decide +kernel)) (by decide +kernel)
theorem lc_mX11_38 : Cond.methodLink RX11 38 yX11_begins ∈ lc_WS := lc_ws (lc_t3 214 (by decide +kernel)) (by decide +kernel)
theorem lc_mX11_74 : Cond.methodLink RX11 74 yX11_forgets ∈ lc_WS := lc_ws (lc_t3 218 (by decide +kernel)) (by decide +kernel)
theorem lc_mX11_70 : Cond.methodLink RX11 70 yX11_notes ∈ lc_WS := lc_ws (lc_t3 221 (by decide +kernel)) (by decide +kernel)
theorem lc_mX11_67 : Cond.methodLink RX11 67 yX11_packed ∈ lc_WS := lc_ws (lc_t3 224 (by decide +kernel)) (by decide +kernel)
theorem lc_mL_64 : Cond.methodLink RL 64 yX11_undo ∈ lc_WS := lc_ws (lc_t4 39 (by decide +kernel)) (by decide +kernel)
theorem lc_mX11_48 : Cond.methodLink RX11 48 yX11_copies ∈ lc_WS := lc_ws (lc_t4 43 (by decide +kernel)) (by decide +kernel)
theorem lc_mL_68 : Cond.methodLink RL 68 yX11_keep ∈ lc_WS := lc_ws (lc_t4 46 (by decide +kernel)) (by decide +kernel)
theorem lc_mX11_60 : Cond.methodLink RX11 60 yX11_allPieces ∈ lc_WS := lc_ws (lc_t4 50 (by decide +kernel)) (by decide +kernel)
theorem lc_mX11_52 : Cond.methodLink RX11 52 yX11_pieces ∈ lc_WS := lc_ws (lc_t4 54 (by decide +kernel)) (by decide +kernel)
theorem lc_mL_72 : Cond.methodLink RL 72 yX11_restore ∈ lc_WS := lc_ws (lc_t4 57 (by decide +kernel)) (by decide +kernel)
theorem lc_mX11_64 : Cond.methodLink RX11 64 yX11_records ∈ lc_WS := lc_ws (lc_t4 61 (by decide +kernel)) (by decide +kernel)
theorem lc_mL_17 : Cond.methodLink RL 17 yX11_move ∈ lc_WS := lc_ws (lc_t4 65 (by decide +kernel)) (by decide +kernel)
theorem lc_mX11_117 : Cond.methodLink RX11 117 yX11_moves ∈ lc_WS := lc_ws (lc_t4 69 (by decide +kernel)) (by decide +kernel)
theorem lc_mX11_106 : Cond.methodLink RX11 106 yX11_isPoint ∈ lc_WS := lc_ws (lc_t4 73 (by decide +kernel)) (by decide +kernel)
theorem lc_mX11_41 : Cond.methodLink RX11 41 yX11_in ∈ lc_WS := lc_ws (lc_t4 76 (by decide +kernel)) (by decide +kernel)
theorem lc_mX11_110 : Cond.methodLink RX11 110 yX11_why ∈ lc_WS := lc_ws (lc_t4 79 (by decide +kernel)) (by decide +kernel)
theorem lc_mX11_94 : Cond.methodLink RX11 94 yX11_result ∈ lc_WS := lc_ws (lc_t4 83 (by decide +kernel)) (by decide +kernel)
theorem lc_mX11_98 : Cond.methodLink RX11 98 yX11_targets ∈ lc_WS := lc_ws (lc_t4 86 (by decide +kernel)) (by decide +kernel)
theorem lc_mX11_77 : Cond.methodLink RX11 77 yX11_pointAt ∈ lc_WS := lc_ws (lc_t4 90 (by decide +kernel)) (by decide +kernel)
theorem lc_mX11_87 : Cond.methodLink RX11 87 yX11_goes ∈ lc_WS := lc_ws (lc_t4 93 (by decide +kernel)) (by decide +kernel)
theorem lc_mX11_102 : Cond.methodLink RX11 102 yX11_isBeside ∈ lc_WS := lc_ws (lc_t4 97 (by decide +kernel)) (by decide +kernel)
theorem lc_mX11_113 : Cond.methodLink RX11 113 yX11_makes ∈ lc_WS := lc_ws (lc_t4 100 (by decide +kernel)) (by decide +kernel)
theorem lc_mL_21 : Cond.methodLink RL 21 yX11_capture ∈ lc_WS := lc_ws (lc_t4 103 (by decide +kernel)) (by decide +kernel)
theorem lc_mL_26 : Cond.methodLink RL 26 yX11_play ∈ lc_WS := lc_ws (lc_t4 107 (by decide +kernel)) (by decide +kernel)
theorem lc_mX11_134 : Cond.methodLink RX11 134 yX11_bestOf ∈ lc_WS := lc_ws (lc_t4 111 (by decide +kernel)) (by decide +kernel)
theorem lc_mX11_125 : Cond.methodLink RX11 125 yX11_worth ∈ lc_WS := lc_ws (lc_t4 115 (by decide +kernel)) (by decide +kernel)
theorem lc_mX11_121 : Cond.methodLink RX11 121 yX11_ends ∈ lc_WS := lc_ws (lc_t4 118 (by decide +kernel)) (by decide +kernel)
theorem lc_mX11_131 : Cond.methodLink RX11 131 yX11_deep ∈ lc_WS := lc_ws (lc_t4 122 (by decide +kernel)) (by decide +kernel)
theorem lc_mL_30 : Cond.methodLink RL 30 yX11_setUp ∈ lc_WS := lc_ws (lc_t4 126 (by decide +kernel)) (by decide +kernel)
theorem lc_mL_35 : Cond.methodLink RL 35 yX11_turn ∈ lc_WS := lc_ws (lc_t4 130 (by decide +kernel)) (by decide +kernel)
theorem lc_mL_39 : Cond.methodLink RL 39 yX11_begin ∈ lc_WS := lc_ws (lc_t4 134 (by decide +kernel)) (by decide +kernel)
theorem lc_mL_43 : Cond.methodLink RL 43 yX11_setLimit ∈ lc_WS := lc_ws (lc_t4 138 (by decide +kernel)) (by decide +kernel)
theorem lc_mL_48 : Cond.methodLink RL 48 yX11_type ∈ lc_WS := lc_ws (lc_t4 142 (by decide +kernel)) (by decide +kernel)
theorem lc_mL_52 : Cond.methodLink RL 52 yX11_clearText ∈ lc_WS := lc_ws (lc_t4 146 (by decide +kernel)) (by decide +kernel)
theorem lc_mL_56 : Cond.methodLink RL 56 yX11_perform ∈ lc_WS := lc_ws (lc_t4 150 (by decide +kernel)) (by decide +kernel)
theorem lc_mX11_147 : Cond.methodLink RX11 147 yX11_isText ∈ lc_WS := lc_ws (lc_t4 154 (by decide +kernel)) (by decide +kernel)
theorem lc_mX11_144 : Cond.methodLink RX11 144 yX11_isAllowed ∈ lc_WS := lc_ws (lc_t4 158 (by decide +kernel)) (by decide +kernel)
theorem lc_mX11_151 : Cond.methodLink RX11 151 yX11_toldPoint ∈ lc_WS := lc_ws (lc_t4 161 (by decide +kernel)) (by decide +kernel)
theorem lc_mL_60 : Cond.methodLink RL 60 yX11_stopped ∈ lc_WS := lc_ws (lc_t4 165 (by decide +kernel)) (by decide +kernel)
theorem lc_mL_76 : Cond.methodLink RL 76 yX11_point ∈ lc_WS := lc_ws (lc_t4 169 (by decide +kernel)) (by decide +kernel)
theorem lc_mX11_154 : Cond.methodLink RX11 154 yX11_captors ∈ lc_WS := lc_ws (lc_t4 173 (by decide +kernel)) (by decide +kernel)
theorem lc_mX11_158 : Cond.methodLink RX11 158 yX11_covered ∈ lc_WS := lc_ws (lc_t4 177 (by decide +kernel)) (by decide +kernel)
theorem lc_mX11_161 : Cond.methodLink RX11 161 yX11_ones ∈ lc_WS := lc_ws (lc_t4 181 (by decide +kernel)) (by decide +kernel)
theorem lc_mX11_165 : Cond.methodLink RX11 165 yX11_quietOnes ∈ lc_WS := lc_ws (lc_t4 184 (by decide +kernel)) (by decide +kernel)
theorem lc_mL_81 : Cond.methodLink RL 81 yX11_way ∈ lc_WS := lc_ws (lc_t4 188 (by decide +kernel)) (by decide +kernel)
theorem lc_mX11_168 : Cond.methodLink RX11 168 yX11_bestWay ∈ lc_WS := lc_ws (lc_t4 192 (by decide +kernel)) (by decide +kernel)
theorem lc_mL_85 : Cond.methodLink RL 85 yX11_circuit ∈ lc_WS := lc_ws (lc_t4 196 (by decide +kernel)) (by decide +kernel)
theorem lc_mL_90 : Cond.methodLink RL 90 yX11_reason ∈ lc_WS := lc_ws (lc_t4 200 (by decide +kernel)) (by decide +kernel)
theorem lc_mL_94 : Cond.methodLink RL 94 yX11_possible ∈ lc_WS := lc_ws (lc_t4 204 (by decide +kernel)) (by decide +kernel)
theorem lc_mL_98 : Cond.methodLink RL 98 yX11_look ∈ lc_WS := lc_ws (lc_t4 208 (by decide +kernel)) (by decide +kernel)
theorem lc_mL_102 : Cond.methodLink RL 102 yX11_best ∈ lc_WS := lc_ws (lc_t4 212 (by decide +kernel)) (by decide +kernel)
theorem lc_mL_106 : Cond.methodLink RL 106 yX11_count ∈ lc_WS := lc_ws (lc_t4 216 (by decide +kernel)) (by decide +kernel)
theorem lc_mX11_171 : Cond.methodLink RX11 171 yX11_many ∈ lc_WS := lc_ws (lc_t4 220 (by decide +kernel)) (by decide +kernel)
theorem lc_mX11_175 : Cond.methodLink RX11 175 yX11_were ∈ lc_WS := lc_ws (lc_t4 224 (by decide +kernel)) (by decide +kernel)
theorem lc_mX11_178 : Cond.methodLink RX11 178 yX11_threatened ∈ lc_WS := lc_ws (lc_t4 228 (by decide +kernel)) (by decide +kernel)
theorem lc_nX0 : Cond.instantiable RX0 6 ∈ lc_WS ∧ Cond.initialized RX0 ∈ lc_WS := ⟨lc_ws (lc_t1 141 (by decide +kernel)) (by decide +kernel), lc_ws (lc_t1 8 (by decide +kernel)) (by decide +kernel)⟩
theorem lc_nX1 : Cond.instantiable RX1 2 ∈ lc_WS ∧ Cond.initialized RX1 ∈ lc_WS := ⟨lc_ws (lc_t1 23 (by decide +kernel)) (by decide +kernel), lc_ws (lc_t1 2 (by decide +kernel)) (by decide +kernel)⟩
theorem lc_nX2 : Cond.instantiable RX2 2 ∈ lc_WS ∧ Cond.initialized RX2 ∈ lc_WS := ⟨lc_ws (lc_t1 236 (by decide +kernel)) (by decide +kernel), lc_ws (lc_t1 10 (by decide +kernel)) (by decide +kernel)⟩
theorem lc_nX3 : Cond.instantiable RX3 5 ∈ lc_WS ∧ Cond.initialized RX3 ∈ lc_WS := ⟨lc_ws (lc_t1 135 (by decide +kernel)) (by decide +kernel), lc_ws (lc_t1 7 (by decide +kernel)) (by decide +kernel)⟩
theorem lc_nX4 : Cond.instantiable RX4 3 ∈ lc_WS ∧ Cond.initialized RX4 ∈ lc_WS := ⟨lc_ws (lc_t1 119 (by decide +kernel)) (by decide +kernel), lc_ws (lc_t1 6 (by decide +kernel)) (by decide +kernel)⟩
theorem lc_nX5 : Cond.instantiable RX5 2 ∈ lc_WS ∧ Cond.initialized RX5 ∈ lc_WS := ⟨lc_ws (lc_t2 12 (by decide +kernel)) (by decide +kernel), lc_ws (lc_t1 11 (by decide +kernel)) (by decide +kernel)⟩
theorem lc_nX6 : Cond.instantiable RX6 3 ∈ lc_WS ∧ Cond.initialized RX6 ∈ lc_WS := ⟨lc_ws (lc_t1 101 (by decide +kernel)) (by decide +kernel), lc_ws (lc_t1 5 (by decide +kernel)) (by decide +kernel)⟩
theorem lc_nX7 : Cond.instantiable RX7 5 ∈ lc_WS ∧ Cond.initialized RX7 ∈ lc_WS := ⟨lc_ws (lc_t1 199 (by decide +kernel)) (by decide +kernel), lc_ws (lc_t1 9 (by decide +kernel)) (by decide +kernel)⟩
theorem lc_nX8 : Cond.instantiable RX8 4 ∈ lc_WS ∧ Cond.initialized RX8 ∈ lc_WS := ⟨lc_ws (lc_t1 55 (by decide +kernel)) (by decide +kernel), lc_ws (lc_t1 4 (by decide +kernel)) (by decide +kernel)⟩
theorem lc_nX9 : Cond.instantiable RX9 6 ∈ lc_WS ∧ Cond.initialized RX9 ∈ lc_WS := ⟨lc_ws (lc_t1 49 (by decide +kernel)) (by decide +kernel), lc_ws (lc_t1 3 (by decide +kernel)) (by decide +kernel)⟩
theorem lc_nX10 : Cond.instantiable RX10 14 ∈ lc_WS ∧ Cond.initialized RX10 ∈ lc_WS := ⟨lc_ws (lc_t1 15 (by decide +kernel)) (by decide +kernel), lc_ws (lc_t1 1 (by decide +kernel)) (by decide +kernel)⟩
theorem lc_nX11 : Cond.instantiable RX11 17 ∈ lc_WS ∧ Cond.initialized RX11 ∈ lc_WS := ⟨lc_ws (lc_t3 209 (by decide +kernel)) (by decide +kernel), lc_ws (lc_t1 12 (by decide +kernel)) (by decide +kernel)⟩
theorem lc_ac_int : Cond.arrayClass .int ∈ lc_WS := lc_ws (lc_t1 47 (by decide +kernel)) (by decide +kernel)
theorem lc_ac_long : Cond.arrayClass .long ∈ lc_WS := lc_ws (lc_t1 234 (by decide +kernel)) (by decide +kernel)
theorem lc_ac_char : Cond.arrayClass .char ∈ lc_WS := lc_ws (lc_t2 24 (by decide +kernel)) (by decide +kernel)
theorem lc_cl3 : Cond.constantLong RX0 51 3 ∈ lc_WS := lc_ws (lc_t1 214 (by decide +kernel)) (by decide +kernel)
theorem lc_obj : Cond.instanceMethod objectInit ∈ lc_WS ∧ Cond.code objectInit ⟨#[0xb1]⟩ 1 none ∈ lc_WS := ⟨lc_ws (lc_t1 20 (by decide +kernel)) (by decide +kernel), lc_ws (lc_t1 21 (by decide +kernel)) (by decide +kernel)⟩
theorem lc_math_max : Cond.static Lib.Math.max.name ∈ lc_WS ∧ Cond.initialized "java/lang/Math" ∈ lc_WS ∧ Cond.code Lib.Math.max.name Lib.Math.max.code 2 (some .int) ∈ lc_WS := ⟨lc_ws (lc_t2 218 (by decide +kernel)) (by decide +kernel), lc_ws (lc_t1 13 (by decide +kernel)) (by decide +kernel), lc_ws (lc_t2 219 (by decide +kernel)) (by decide +kernel)⟩
theorem lc_math_min : Cond.static Lib.Math.min.name ∈ lc_WS ∧ Cond.initialized "java/lang/Math" ∈ lc_WS ∧ Cond.code Lib.Math.min.name Lib.Math.min.code 2 (some .int) ∈ lc_WS := ⟨lc_ws (lc_t2 221 (by decide +kernel)) (by decide +kernel), lc_ws (lc_t1 13 (by decide +kernel)) (by decide +kernel), lc_ws (lc_t2 222 (by decide +kernel)) (by decide +kernel)⟩
theorem lc_math_abs : Cond.static Lib.Math.abs.name ∈ lc_WS ∧ Cond.initialized "java/lang/Math" ∈ lc_WS ∧ Cond.code Lib.Math.abs.name Lib.Math.abs.code 1 (some .int) ∈ lc_WS := ⟨lc_ws (lc_t2 131 (by decide +kernel)) (by decide +kernel), lc_ws (lc_t1 13 (by decide +kernel)) (by decide +kernel), lc_ws (lc_t2 132 (by decide +kernel)) (by decide +kernel)⟩
theorem lc_qX10_36 : Cond.methodLinkNest RX10 36 yX4_init RX10 ∈ lw_tbl := lc_t1 120 (by decide +kernel)
theorem lc_qX3_20 : Cond.methodLinkNest RX3 20 yX4_init RX10 ∈ lw_tbl := lc_t1 181 (by decide +kernel)
theorem lc_qX10_72 : Cond.methodLinkNest RX10 72 yX5_init RX10 ∈ lw_tbl := lc_t2 13 (by decide +kernel)
theorem lc_qS : Cond.arrayOver (.object "LoopCaptures$State") ∈ lw_tbl := lc_t2 2 (by decide +kernel)
end
section
/-! The machine's rows over a store of numbered cells: an int is lc_i of an Int, a reference is a cell's number, 0 is the script. -/
def lc_i (z : Int) : Int32 := Int32.ofInt z
theorem lc_i_add (a b : Int) : lc_i (a + b) = lc_i a + lc_i b := Int32.ofInt_add a b
theorem lc_i_sub (a b : Int) : lc_i (a - b) = lc_i a - lc_i b := Int32.ofInt_sub a b
theorem lc_i_mul (a b : Int) : lc_i (a * b) = lc_i a * lc_i b := Int32.ofInt_mul a b
theorem lc_i_neg (a : Int) : lc_i (-a) = -lc_i a := Int32.ofInt_neg a
theorem lc_i_of (x : Int32) : lc_i x.toInt = x := Int32.ofInt_toInt x
theorem lc_i_toInt {a : Int} (h1 : -2147483648 ≤ a) (h2 : a < 2147483648) : (lc_i a).toInt = a := Int32.toInt_ofInt_of_le (by omega) (by omega)
theorem lc_i_lt {a b : Int} (h : -2147483648 ≤ a ∧ a < 2147483648 ∧ -2147483648 ≤ b ∧ b < 2147483648) : lc_i a < lc_i b ↔ a < b := by
  rw [Int32.lt_iff_toInt_lt, lc_i_toInt h.1 h.2.1, lc_i_toInt h.2.2.1 h.2.2.2]
theorem lc_i_le {a b : Int} (h : -2147483648 ≤ a ∧ a < 2147483648 ∧ -2147483648 ≤ b ∧ b < 2147483648) : lc_i a ≤ lc_i b ↔ a ≤ b := by
  rw [Int32.le_iff_toInt_le, lc_i_toInt h.1 h.2.1, lc_i_toInt h.2.2.1 h.2.2.2]
theorem lc_i_eq {a b : Int} (h : -2147483648 ≤ a ∧ a < 2147483648 ∧ -2147483648 ≤ b ∧ b < 2147483648) : lc_i a = lc_i b ↔ a = b := by
  rw [← Int32.toInt_inj, lc_i_toInt h.1 h.2.1, lc_i_toInt h.2.2.1 h.2.2.2]
theorem lc_i_0 : lc_i 0 = 0 := by decide
theorem lc_i_div {a b : Int} (h : 0 ≤ a ∧ a < 2147483648 ∧ 0 < b ∧ b < 2147483648) : lc_i a / lc_i b = lc_i (a / b) := by
  have h1 : lc_i (a.tdiv b) = lc_i a / lc_i b := Int32.ofInt_tdiv (by have : Int32.minValue.toInt = -2147483648 := by decide
                                                                      omega) (by have : Int32.maxValue.toInt = 2147483647 := by decide
                                                                                 omega) (by have : Int32.minValue.toInt = -2147483648 := by decide
                                                                                            omega) (by have : Int32.maxValue.toInt = 2147483647 := by decide
                                                                                                       omega)
  rw [← h1, Int.tdiv_eq_ediv_of_nonneg h.1]
theorem lc_i_rem {a b : Int} (h : 0 ≤ a ∧ a < 2147483648 ∧ 0 < b ∧ b < 2147483648) : lc_i a - lc_i a / lc_i b * lc_i b = lc_i (a % b) := by
  rw [lc_i_div h, ← lc_i_mul, ← lc_i_sub]
  congr 1
  have := Int.emod_add_mul_ediv a b
  have h2 : a / b * b = b * (a / b) := Int.mul_comm _ _
  omega
theorem lc_i_in {j : Int} {n : Nat} (h : 0 ≤ j ∧ j < n) (hn : n < 2147483648) : vp_in (lc_i j) n := vp_in_iff.mpr (by rw [lc_i_toInt (by omega) (by omega)]; exact h)
theorem lc_i_cl {j : Int} (h : 0 ≤ j ∧ j < 2147483648) : (lc_i j).toNatClampNeg = j.toNat := by
  show (lc_i j).toInt.toNat = _
  rw [lc_i_toInt (by omega) h.2]
theorem lc_i_nat (n : Nat) : lc_i (n : Int) = Int32.ofNat n := Int32.ofInt_eq_ofNat
/-- a cell: an array (its kind, its length, its contents) or an object (its class, its fields) -/
abbrev lc_Cel : Type := (Nat × vp_A) ⊕ (Nat × List Value)
abbrev lc_S : Type := Nat → Option lc_Cel
def lc_up (σ : lc_S) (b : Nat) (c : lc_Cel) : lc_S := fun i => if i = b then some c else σ i
theorem lc_up_s (σ : lc_S) (b : Nat) (c : lc_Cel) : lc_up σ b c b = some c := if_pos rfl
theorem lc_up_n (σ : lc_S) {b i : Nat} (c : lc_Cel) (h : i ≠ b) : lc_up σ b c i = σ i := if_neg h
theorem lc_up_up (σ : lc_S) (b : Nat) (c d : lc_Cel) : lc_up (lc_up σ b c) b d = lc_up σ b d := by
  funext i
  unfold lc_up
  by_cases h : i = b <;> simp [h]
theorem lc_up_comm (σ : lc_S) {a b : Nat} (c d : lc_Cel) (h : a ≠ b) : lc_up (lc_up σ a c) b d = lc_up (lc_up σ b d) a c := by
  funext i
  unfold lc_up
  by_cases h1 : i = a
  · subst h1
    simp [h]
  · simp [h1]
theorem lc_up_id (σ : lc_S) {b : Nat} {c : lc_Cel} (h : σ b = some c) : lc_up σ b c = σ := by
  funext i
  unfold lc_up
  by_cases h1 : i = b
  · subst h1
    simp [h]
  · simp [h1]
/-- arrays of ints, longs, chars, states -/
def lc_aI (n : Nat) (f : Int → Int) : lc_Cel := .inl (0, (n, .inl (fun j => lc_i (f j))))
def lc_aJ (n : Nat) (f : Int → Int64) : lc_Cel := .inl (1, (n, .inr (.inl (fun j => f j))))
def lc_aC (n : Nat) (f : Int → Int) : lc_Cel := .inl (2, (n, .inl (fun j => lc_i (f j))))
def lc_aS (n : Nat) (f : Int → Option Nat) : lc_Cel := .inl (3, (n, .inr (.inr (.inr (.inr (fun j => f j))))))
def lc_u {α : Type} (f : Int → α) (j : Int) (x : α) : Int → α := fun i => if i = j then x else f i
theorem lc_u_s {α : Type} (f : Int → α) (j : Int) (x : α) : lc_u f j x j = x := if_pos rfl
theorem lc_u_n {α : Type} (f : Int → α) {i j : Int} (x : α) (h : i ≠ j) : lc_u f j x i = f i := if_neg h
/-- addresses -/
def lc_a (b b0 i : Nat) : Nat := if i = 0 then b else b0 + i
theorem lc_a_p {b b0 i : Nat} (h : 0 < i) : lc_a b b0 i = b0 + i := if_neg (Nat.ne_of_gt h)
def lc_v (b b0 : Nat) (v : Value) : Value := match v with
  | .ref i => .ref (lc_a b b0 i)
  | w => w
theorem lc_v_cat (b b0 : Nat) (v : Value) : (lc_v b b0 v).category = v.category := by cases v <;> rfl
def lc_L (b b0 : Nat) (lv : List (Nat × Value)) : List (Nat × Value) := lv.map (fun q => (q.1, lc_v b b0 q.2))
def lc_A (b b0 : Nat) (a : vp_A) : vp_A := match a with
  | (n, .inr (.inr (.inr (.inr f)))) => (n, .inr (.inr (.inr (.inr (fun j => (f j).map (lc_a b b0))))))
  | x => x
def lc_cE (b b0 : Nat) (ar : Nat → ClassId) (c : lc_Cel) : va_E := match c with
  | .inl (k, a) => .inl (ar k, lc_A b b0 a)
  | .inr (ci, vs) => .inr (ci, vs.map (lc_v b b0))
def lc_ty (ar : Nat → ClassId) : List (ClassId × FieldType) := [(ar 0, .int), (ar 1, .long), (ar 2, .char), (ar 3, .object "LoopCaptures$State")]
def lc_H (b b0 n : Nat) (D : va_G) (ar : Nat → ClassId) (σ : lc_S) (H : Heap) : Prop := H.size = b0 + n ∧ ∀ (i : Nat) (c : lc_Cel), σ i = some c → 0 < i ∧ va_at D vwCl (b0 + i, lc_cE b b0 ar c) H
theorem lc_H_one {b b0 n : Nat} {D : va_G} {ar : Nat → ClassId} {σ : lc_S} {H : Heap} (h : lc_H b b0 n D ar σ H) {i : Nat} {c : lc_Cel} (hi : σ i = some c) : va_P D vwCl [(b0 + i, lc_cE b b0 ar c)] H := by
  intro k q hk
  have hz : k < 1 := (List.getElem?_eq_some_iff.mp hk).1
  rw [show k = 0 by omega] at hk
  cases hk
  exact (h.2 i c hi).2
theorem lc_H_put {b b0 n : Nat} {D : va_G} {ar : Nat → ClassId} {σ : lc_S} {H H1 : Heap} (h : lc_H b b0 n D ar σ H) {j : Nat} (c : lc_Cel) (hj : 0 < j) (hn : va_at D vwCl (b0 + j, lc_cE b b0 ar c) H1) (z : H1.size = H.size) (oq : ∀ q : Nat, q ≠ b0 + j → H1[q]? = H[q]?) : lc_H b b0 n D ar (lc_up σ j c) H1 := by
  refine ⟨z.trans h.1, fun i x hi => ?_⟩
  unfold lc_up at hi
  by_cases hij : i = j
  · subst hij
    rw [if_pos rfl] at hi
    cases hi
    exact ⟨hj, hn⟩
  · rw [if_neg hij] at hi
    exact ⟨(h.2 i x hi).1, (h.2 i x hi).2.kept (oq (b0 + i) (by omega))⟩
theorem lc_H_new {b b0 n : Nat} {D : va_G} {ar : Nat → ClassId} {σ : lc_S} {H H1 : Heap} (h : lc_H b b0 n D ar σ H) (c : lc_Cel) (hz : 0 < n) (hn : va_at D vwCl (b0 + n, lc_cE b b0 ar c) H1) (z : H1.size = H.size + 1) (oq : ∀ q : Nat, q < H.size → H1[q]? = H[q]?) : lc_H b b0 (n + 1) D ar (lc_up σ n c) H1 := by
  refine ⟨by rw [z, h.1]; rfl, fun i x hi => ?_⟩
  unfold lc_up at hi
  by_cases hij : i = n
  · subst hij
    rw [if_pos rfl] at hi
    cases hi
    exact ⟨hz, hn⟩
  · rw [if_neg hij] at hi
    exact ⟨(h.2 i x hi).1, (h.2 i x hi).2.kept (oq (b0 + i) (h.2 i x hi).2.lt)⟩
/-- contents may be replaced by others that agree within the length -/
theorem lc_arr_ext (cA : ClassId) (n : Nat) (f g : Nat → Value) (h : ∀ j : Nat, j < n → f j = g j) : arrV cA n f = arrV cA n g := by
  have e : (Array.ofFn (n := n) fun j => f j.val) = (Array.ofFn (n := n) fun j => g j.val) := congrArg Array.ofFn (funext fun j => h j.val j.isLt)
  show ({ cls := cA, slots := Array.ofFn (n := n) fun j => f j.val, vm := .none } : Cell) = { cls := cA, slots := Array.ofFn (n := n) fun j => g j.val, vm := .none }
  rw [e]
abbrev lc_QT : Type := Option Value → Nat → lc_S → Prop
abbrev lc_GT : Type := Nat → Nat → va_G → (Nat → ClassId) → List Frame → Array Value → State → State → Prop
abbrev lc_ET : Type := Nat → Nat → Array Value → State → Prop
def lc_E0 : lc_ET := fun _ _ _ _ => True
/-- what stays true of the machine's tables for the whole run, beside the words -/
def lc_X (U : State) : Prop := va_Nw (.methodLinkNest RX10 36 yX4_init RX10) U ∧ va_Nw (.methodLinkNest RX3 20 yX4_init RX10) U ∧ va_Nw (.methodLinkNest RX10 72 yX5_init RX10) U ∧ va_AO "LoopCaptures$State" U
theorem lc_X_warm {s U : State} (hW : s.WarmedH U.vm) (h : lc_X s) : lc_X U := ⟨va_Nw.warmM hW h.1, va_Nw.warmM hW h.2.1, va_Nw.warmM hW h.2.2.1, va_AO.moved hW.alike h.2.2.2⟩
theorem lc_X_same {u U : State} (e : u.vm = U.vm) (h : lc_X u) : lc_X U := ⟨va_Nw.same rfl e h.1, va_Nw.same rfl e h.2.1, va_Nw.same rfl e h.2.2.1, va_AO.moved (by rw [e]; exact Vm.Alike.refl U.vm) h.2.2.2⟩
def lc_C (E : lc_ET) (b b0 : Nat) (D : va_G) (ar : Nat → ClassId) (own : String) (cc : ByteArray) (nL : Nat) (ret : Option FieldType) (ini : Bool) (p : Program) (s : State) (m : MethodId) (args : Array Value) (meth : Method) (c : Code) : Prop :=
  p.tables.exec = Jvm.exec ∧ c.code = cc ∧ meth.sig.returnType = ret ∧ c.maxLocals = nL ∧ s.vm.findClass own = some m.cls ∧ (∀ w ∈ lc_WS, w.before args s = true) ∧ va_K D vwCl (lc_ty ar) s ∧ meth.locks = false ∧ b0 < s.heap.size ∧ (ini = true → meth.name = "<init>") ∧ lc_X s ∧ E b b0 args s
def lc_V (l : Launch) (own : String) (cc : ByteArray) (nL : Nat) (ret : Option FieldType) (ini : Bool) (R : Room) (G : lc_GT) (E : lc_ET) (k z n pc : Nat) (lv : List (Nat × Value)) (stk : List Value) (σ : lc_S) : Prop :=
  ∀ (b b0 : Nat) (D : va_G) (ar : Nat → ClassId) (p : Program) (e : Env) (s : State) (m : MethodId) (args : Array Value) (below : List Frame) (meth : Method) (c : Code) (H : Heap) (locs : List Loc) (ls : Array Slot),
    lc_C E b b0 D ar own cc nL ret ini p s m args meth c → lc_H b b0 n D ar σ H → va_S (fun q => b0 < q) s.heap H locs → lv_has ls nL (lc_L b b0 lv) →
    W p l e R s m args below meth c H locs k z (G b b0 D ar below args s) (F0 m pc ls (stk.map (lc_v b b0)))
def lc_Q (b b0 : Nat) (D : va_G) (ar : Nat → ClassId) (Q : lc_QT) : Array Value → State → Outcome → State → Prop := fun _ st o t =>
  (∃ (v : Option Value) (n : Nat) (σ : lc_S), o = .returned (v.map (lc_v b b0)) ∧ Q v n σ ∧ lc_H b b0 n D ar σ t.heap) ∧ va_F (fun q => b0 < q) st t
def lc_G (Q : lc_QT) (mc ms : Nat) : lc_GT := fun b b0 D ar below args s => MQ below (lc_Q b b0 D ar Q) args s mc ms (fun q => b0 < q)
def lc_Pre (b b0 n : Nat) (D : va_G) (ar : Nat → ClassId) (σ : lc_S) (U : State) : Prop := b0 < U.heap.size ∧ lc_H b b0 n D ar σ U.heap ∧ va_K D vwCl (lc_ty ar) U ∧ lc_X U
/-- a method's contract -/
def lc_Con (l : Launch) (y : MethodName) (cc : ByteArray) (nL : Nat) (ret : Option FieldType) (R : Room) (av : List Value) (n : Nat) (σ : lc_S) (Q : lc_QT) : Prop :=
  ∀ (b b0 : Nat) (D : va_G) (ar : Nat → ClassId), Met l y (.code y cc nL ret :: lc_WS) R (va_Pc (av.map (lc_v b b0)) (lc_Pre b b0 n D ar σ)) (lc_Q b b0 D ar Q) R.cells R.slots (fun q => b0 < q)
theorem lc_sl_len (b b0 : Nat) (vs : List Value) : (lg_sl (vs.map (lc_v b b0))).length = (lg_sl vs).length := by
  induction vs with
  | nil => rfl
  | cons v t ih => cases v <;> simp_all [lg_sl, lc_v, Value.category]
theorem lc_args (b b0 : Nat) (vs : List Value) : ∀ k : Nat, lv_args k (vs.map (lc_v b b0)) = lc_L b b0 (lv_args k vs) := by
  induction vs with
  | nil => intro k; rfl
  | cons v t ih => intro k; cases v <;> simp_all [lv_args, lc_v, lc_L, Value.category]
theorem lc_con {l : Launch} {y : MethodName} {cc : ByteArray} {nL : Nat} {ret : Option FieldType} {R : Room} {av : List Value} {n : Nat} {σ : lc_S} {Q : lc_QT} (own : String) (ini : Bool) (hy : plainName y.cls = true) (ho : y.cls = own) (hi : ini = true → y.name = "<init>") (hlen : (lg_sl av).length ≤ nL)
    (hV : lc_V l own cc nL ret ini R (lc_G Q R.cells R.slots) lc_E0 0 0 n 0 (lv_args 0 av) [] σ) : lc_Con l y cc nL ret R av n σ Q := by
  intro b b0 D ar
  refine Met.ofW (cc := cc) (maxL := nL) (ret := ret) hy rfl ?_
  intro p e s m args below meth c s₁ B hml hv
  obtain ⟨rfl, hb0, hH, hK, hX⟩ := hv
  have hts := atoms_spec (ws := .code y cc nL ret :: lc_WS) B.pre
  have hown : s.vm.findClass own = some m.cls := ho ▸ findClass_of_methodNamed B.named
  have hl := lv_entry (av.map (lc_v b b0)) (n := nL) (by rw [lc_sl_len]; exact hlen)
  rw [lg_entry_eq]
  rw [lc_args] at hl
  exact hV b b0 D ar p e s m _ below meth c s.heap [] _ ⟨B.exec, B.bytes, B.returns, hml, hown, fun w hw => hts w (List.mem_cons_of_mem _ hw), hK, B.notSynchronized, hb0, fun h => by rw [(name_of_methodNamed B.named B.method).1]; exact hi h, hX, trivial⟩ hH va_S.rf hl
theorem lc_L_get {b b0 : Nat} {lv : List (Nat × Value)} {q i : Nat} {v : Value} (h : lv[q]? = some (i, v)) : (lc_L b b0 lv)[q]? = some (i, lc_v b b0 v) := by
  unfold lc_L
  rw [List.getElem?_map, h]
  rfl
theorem lc_L_mono {b b0 : Nat} {l l' : List (Nat × Value)} (h : ∀ q ∈ l', q ∈ l) : ∀ q ∈ lc_L b b0 l', q ∈ lc_L b b0 l := by
  intro q hq
  obtain ⟨x, hx, rfl⟩ := List.mem_map.mp hq
  exact List.mem_map.mpr ⟨x, h x hx, rfl⟩
/-- locals: one is set, the list stays in order -/
def lc_ins (i : Nat) (v : Value) : List (Nat × Value) → List (Nat × Value)
  | [] => [(i, v)]
  | q :: r => bif Nat.blt i q.1 then (i, v) :: q :: r else q :: lc_ins i v r
theorem lc_ins_mem {i : Nat} {v : Value} : ∀ {l : List (Nat × Value)} {q : Nat × Value}, q ∈ lc_ins i v l → q = (i, v) ∨ q ∈ l
  | [], q, h => Or.inl (List.mem_singleton.mp h)
  | x :: r, q, h => by
    unfold lc_ins at h
    cases hb : Nat.blt i x.1 with
    | true =>
      rw [hb] at h
      rcases List.mem_cons.mp h with e | e
      · exact Or.inl e
      · exact Or.inr e
    | false =>
      rw [hb] at h
      rcases List.mem_cons.mp h with e | e
      · exact Or.inr (e ▸ List.mem_cons_self)
      · rcases lc_ins_mem e with e1 | e1
        · exact Or.inl e1
        · exact Or.inr (List.mem_cons_of_mem _ e1)
def lc_set (i : Nat) (v : Value) (lv : List (Nat × Value)) : List (Nat × Value) := lc_ins i v (lv.filter (fun q => !(q.1 == i) && !(q.1 + 1 == i && q.2.category == 2)))
def lc_setL (i : Nat) (v : Value) (lv : List (Nat × Value)) : List (Nat × Value) := lc_ins i v (lv.filter (fun q => !(q.1 == i) && (!(q.1 == i + 1) && !(q.1 + 1 == i && q.2.category == 2))))
theorem lc_has_sub {ls : Array Slot} {nL : Nat} {l l' : List (Nat × Value)} (h : lv_has ls nL l) (hl : ∀ q ∈ l', q ∈ l) : lv_has ls nL l' := ⟨h.1, h.2.1, fun q hq => h.2.2 q (hl q hq)⟩
theorem lc_set_has {b b0 i nL : Nat} {lv : List (Nat × Value)} {ls : Array Slot} (v : Value) (h : lv_has ls nL ((i, lc_v b b0 v) :: (lc_L b b0 lv).filter (fun q => !(q.1 == i) && !(q.1 + 1 == i && q.2.category == 2)))) : lv_has ls nL (lc_L b b0 (lc_set i v lv)) := by
  refine lc_has_sub h fun q hq => ?_
  obtain ⟨x, hx, rfl⟩ := List.mem_map.mp hq
  rcases lc_ins_mem hx with e | e
  · rw [e]
    exact List.mem_cons_self
  · obtain ⟨e1, e2⟩ := List.mem_filter.mp e
    exact List.mem_cons_of_mem _ (List.mem_filter.mpr ⟨List.mem_map.mpr ⟨x, e1, rfl⟩, by rw [lc_v_cat]; exact e2⟩)
theorem lc_setL_has {b b0 i nL : Nat} {lv : List (Nat × Value)} {ls : Array Slot} (v : Value) (h : lv_has ls nL ((i, lc_v b b0 v) :: (lc_L b b0 lv).filter (fun q => !(q.1 == i) && (!(q.1 == i + 1) && !(q.1 + 1 == i && q.2.category == 2))))) : lv_has ls nL (lc_L b b0 (lc_setL i v lv)) := by
  refine lc_has_sub h fun q hq => ?_
  obtain ⟨x, hx, rfl⟩ := List.mem_map.mp hq
  rcases lc_ins_mem hx with e | e
  · rw [e]
    exact List.mem_cons_self
  · obtain ⟨e1, e2⟩ := List.mem_filter.mp e
    exact List.mem_cons_of_mem _ (List.mem_filter.mpr ⟨List.mem_map.mpr ⟨x, e1, rfl⟩, by rw [lc_v_cat]; exact e2⟩)
theorem lc_i_nz {y : Int} (h : 0 < y ∧ y < 2147483648) : ¬ lc_i y = 0 := by
  intro e
  rw [← lc_i_0] at e
  have := (lc_i_eq (by omega)).mp e
  omega
theorem lc_sw {x y : Int} (h : -2147483648 ≤ x ∧ x < 2147483648 ∧ -2147483648 ≤ y ∧ y < 2147483648) : -2147483648 ≤ y ∧ y < 2147483648 ∧ -2147483648 ≤ x ∧ x < 2147483648 := by omega
theorem lc_r0 {x : Int} (h : -2147483648 ≤ x ∧ x < 2147483648) : -2147483648 ≤ x ∧ x < 2147483648 ∧ -2147483648 ≤ (0 : Int) ∧ (0 : Int) < 2147483648 := by omega
theorem lc_rf {b b0 : Nat} (o : Option Nat) : va_rf (o.map (lc_a b b0)) = lc_v b b0 (va_rf o) := by cases o <;> rfl
def lc_noref (v : Value) : Bool := match v with
  | .ref _ => false
  | _ => true
theorem lc_fs {b b0 : Nat} {fs : List Value} (h : fs.all lc_noref = true) : fs.map (lc_v b b0) = fs := by
  induction fs with
  | nil => rfl
  | cons v t ih =>
    rw [List.all_cons, Bool.and_eq_true] at h
    rw [List.map_cons, ih h.2]
    congr 1
    cases v <;> first | rfl | (exact absurd h.1 Bool.noConfusion)
theorem lc_cats {b b0 : Nat} (stk : List Value) : ((stk.map (lc_v b b0)).map fun v => v.category).sum = (stk.map fun v => v.category).sum := by
  congr 1
  rw [List.map_map]
  exact List.map_congr_left fun v _ => lc_v_cat b b0 v
theorem lc_goodA {own : String} {idx : Nat} {y : MethodName} {ws : List Cond} (h : ∀ w ∈ ws, w ∈ lc_WS) : GoodIn lc_WS ws := fun w hw => ⟨h w hw, good_of_word (lc_WS_good w (h w hw))⟩
theorem lc_goodV {own : String} {idx na nL : Nat} {y : MethodName} {cc : ByteArray} {ret : Option FieldType} (hm : Cond.methodLink own idx y ∈ lc_WS) (hY : lc_YV y cc nL ret na) : GoodIn lc_WS (wsV own idx y.cls y (.code y cc nL ret :: lc_WS)) := by
  refine lc_goodA (own := own) (idx := idx) (y := y) fun w hw => ?_
  rcases List.mem_append.mp hw with h | h
  · rcases List.mem_cons.mp h with e | h
    · exact e ▸ hm
    · rcases List.mem_cons.mp h with e | h
      · exact e ▸ hY.1
      · rcases List.mem_cons.mp h with e | h
        · exact e ▸ hY.2.1
        · rw [List.mem_singleton.mp h]
          exact hY.2.2.1
  · rcases List.mem_cons.mp h with e | h
    · exact e ▸ hY.2.2.2.1
    · exact h
theorem lc_goodS {own : String} {idx na nL : Nat} {y : MethodName} {cc : ByteArray} {ret : Option FieldType} (hm : Cond.methodLink own idx y ∈ lc_WS) (hY : lc_YS y cc nL ret na) : GoodIn lc_WS (va_wsS own idx y (.code y cc nL ret :: lc_WS)) := by
  refine lc_goodA (own := own) (idx := idx) (y := y) fun w hw => ?_
  rcases List.mem_append.mp hw with h | h
  · rcases List.mem_cons.mp h with e | h
    · exact e ▸ hm
    · rcases List.mem_cons.mp h with e | h
      · exact e ▸ hY.1
      · rw [List.mem_singleton.mp h]
        exact hY.2.1
  · rcases List.mem_cons.mp h with e | h
    · exact e ▸ hY.2.2.1
    · exact h
theorem lc_goodI {na nL : Nat} {y : MethodName} {cc : ByteArray} (hY : lc_YI y cc nL na) : GoodIn lc_WS (.code y cc nL none :: lc_WS) := by
  refine lc_goodA (own := "") (idx := 0) (y := y) fun w hw => ?_
  rcases List.mem_cons.mp hw with e | h
  · exact e ▸ hY.2.2.2.1
  · exact h

section LcRows
variable {l : Launch} {own : String} {cc : ByteArray} {nL : Nat} {ret : Option FieldType} {ini : Bool} {R : Room} {G : lc_GT} {E : lc_ET} {k z n pc : Nat} {lv : List (Nat × Value)} {stk : List Value} {σ : lc_S}

theorem lc_iconst {v : Int} (hd : decode cc pc = .ok (.iconst v, 1)) (kk : lc_V l own cc nL ret ini R G E k z n (pc + 1) lv (.int (lc_i v) :: stk) σ) : lc_V l own cc nL ret ini R G E k z n pc lv stk σ := by
  intro b1 b0 D ar p e s m args below meth c H locs ls hC hH hS hl
  show W p l e R s m args below meth c H locs k z (G b1 b0 D ar below args s) (F0 m pc ls (stk.map (lc_v b1 b0)))
  refine lv_iconst (v := lc_i v) hC.1 hC.2.1 hd rfl ?_
  exact kk b1 b0 D ar p e s m args below meth c H locs ls hC hH hS hl

theorem lc_bipush {v : Int} (hd : decode cc pc = .ok (.bipush v, 2)) (hv : (Int8.ofInt v).toInt32 = lc_i v) (kk : lc_V l own cc nL ret ini R G E k z n (pc + 2) lv (.int (lc_i v) :: stk) σ) : lc_V l own cc nL ret ini R G E k z n pc lv stk σ := by
  intro b1 b0 D ar p e s m args below meth c H locs ls hC hH hS hl
  show W p l e R s m args below meth c H locs k z (G b1 b0 D ar below args s) (F0 m pc ls (stk.map (lc_v b1 b0)))
  refine lv_bipush (v := lc_i v) hC.1 hC.2.1 hd hv ?_
  exact kk b1 b0 D ar p e s m args below meth c H locs ls hC hH hS hl

theorem lc_sipush {v : Int} (hd : decode cc pc = .ok (.sipush v, 3)) (hv : (Int16.ofInt v).toInt32 = lc_i v) (kk : lc_V l own cc nL ret ini R G E k z n (pc + 3) lv (.int (lc_i v) :: stk) σ) : lc_V l own cc nL ret ini R G E k z n pc lv stk σ := by
  intro b1 b0 D ar p e s m args below meth c H locs ls hC hH hS hl
  show W p l e R s m args below meth c H locs k z (G b1 b0 D ar below args s) (F0 m pc ls (stk.map (lc_v b1 b0)))
  refine lv_sipush (v := lc_i v) hC.1 hC.2.1 hd hv ?_
  exact kk b1 b0 D ar p e s m args below meth c H locs ls hC hH hS hl

theorem lc_lconst {v : Fin 2} {x : Int64} (hd : decode cc pc = .ok (.lconst v, 1)) (hv : Int64.ofNat (v : Nat) = x) (kk : lc_V l own cc nL ret ini R G E k z n (pc + 1) lv (.long x :: stk) σ) : lc_V l own cc nL ret ini R G E k z n pc lv stk σ := by
  intro b1 b0 D ar p e s m args below meth c H locs ls hC hH hS hl
  show W p l e R s m args below meth c H locs k z (G b1 b0 D ar below args s) (F0 m pc ls (stk.map (lc_v b1 b0)))
  refine lv_lconst (v := x) hC.1 hC.2.1 hd hv ?_
  exact kk b1 b0 D ar p e s m args below meth c H locs ls hC hH hS hl

theorem lc_ldc2 {i : Nat} {x : Int64} (hd : decode cc pc = .ok (.ldc2_w i, 3)) (hw : Cond.constantLong own i x ∈ lc_WS) (kk : lc_V l own cc nL ret ini R G E k z n (pc + 3) lv (.long x :: stk) σ) : lc_V l own cc nL ret ini R G E k z n pc lv stk σ := by
  intro b1 b0 D ar p e s m args below meth c H locs ls hC hH hS hl
  show W p l e R s m args below meth c H locs k z (G b1 b0 D ar below args s) (F0 m pc ls (stk.map (lc_v b1 b0)))
  refine lv_ldc2 (v := x) hC.1 hC.2.1 hC.2.2.2.2.1 (hC.2.2.2.2.2.1 _ hw) hd ?_
  exact kk b1 b0 D ar p e s m args below meth c H locs ls hC hH hS hl

theorem lc_iload_n {j : Fin 4} {i : Nat} {x : Int32} (hd : decode cc pc = .ok (.iload_n j, 1)) (hi : (j : Nat) = i) (q : Nat) (hv : lv[q]? = some (i, .int x)) (kk : lc_V l own cc nL ret ini R G E k z n (pc + 1) lv (.int x :: stk) σ) : lc_V l own cc nL ret ini R G E k z n pc lv stk σ := by
  intro b1 b0 D ar p e s m args below meth c H locs ls hC hH hS hl
  show W p l e R s m args below meth c H locs k z (G b1 b0 D ar below args s) (F0 m pc ls (stk.map (lc_v b1 b0)))
  refine lv_iload_n (x := x) hC.1 hC.2.1 hd hi (lv_at hl q (lc_L_get hv)) ?_
  exact kk b1 b0 D ar p e s m args below meth c H locs ls hC hH hS hl

theorem lc_iload {i : Nat} {x : Int32} (hd : decode cc pc = .ok (.iload i, 2)) (q : Nat) (hv : lv[q]? = some (i, .int x)) (kk : lc_V l own cc nL ret ini R G E k z n (pc + 2) lv (.int x :: stk) σ) : lc_V l own cc nL ret ini R G E k z n pc lv stk σ := by
  intro b1 b0 D ar p e s m args below meth c H locs ls hC hH hS hl
  show W p l e R s m args below meth c H locs k z (G b1 b0 D ar below args s) (F0 m pc ls (stk.map (lc_v b1 b0)))
  refine lv_iload (x := x) hC.1 hC.2.1 hd (lv_at hl q (lc_L_get hv)) ?_
  exact kk b1 b0 D ar p e s m args below meth c H locs ls hC hH hS hl

theorem lc_aload_n {j : Fin 4} {i : Nat} {x : Nat} (hd : decode cc pc = .ok (.aload_n j, 1)) (hi : (j : Nat) = i) (q : Nat) (hv : lv[q]? = some (i, .ref x)) (kk : lc_V l own cc nL ret ini R G E k z n (pc + 1) lv (.ref x :: stk) σ) : lc_V l own cc nL ret ini R G E k z n pc lv stk σ := by
  intro b1 b0 D ar p e s m args below meth c H locs ls hC hH hS hl
  show W p l e R s m args below meth c H locs k z (G b1 b0 D ar below args s) (F0 m pc ls (stk.map (lc_v b1 b0)))
  refine lv_aload_n (x := lc_a b1 b0 x) hC.1 hC.2.1 hd hi (lv_at hl q (lc_L_get hv)) ?_
  exact kk b1 b0 D ar p e s m args below meth c H locs ls hC hH hS hl

theorem lc_aload {i : Nat} {x : Nat} (hd : decode cc pc = .ok (.aload i, 2)) (q : Nat) (hv : lv[q]? = some (i, .ref x)) (kk : lc_V l own cc nL ret ini R G E k z n (pc + 2) lv (.ref x :: stk) σ) : lc_V l own cc nL ret ini R G E k z n pc lv stk σ := by
  intro b1 b0 D ar p e s m args below meth c H locs ls hC hH hS hl
  show W p l e R s m args below meth c H locs k z (G b1 b0 D ar below args s) (F0 m pc ls (stk.map (lc_v b1 b0)))
  refine lv_aload (x := lc_a b1 b0 x) hC.1 hC.2.1 hd (lv_at hl q (lc_L_get hv)) ?_
  exact kk b1 b0 D ar p e s m args below meth c H locs ls hC hH hS hl

theorem lc_lload_n {j : Fin 4} {i : Nat} {x : Int64} (hd : decode cc pc = .ok (.lload_n j, 1)) (hi : (j : Nat) = i) (q : Nat) (hv : lv[q]? = some (i, .long x)) (kk : lc_V l own cc nL ret ini R G E k z n (pc + 1) lv (.long x :: stk) σ) : lc_V l own cc nL ret ini R G E k z n pc lv stk σ := by
  intro b1 b0 D ar p e s m args below meth c H locs ls hC hH hS hl
  show W p l e R s m args below meth c H locs k z (G b1 b0 D ar below args s) (F0 m pc ls (stk.map (lc_v b1 b0)))
  refine lv_lload_n (x := x) hC.1 hC.2.1 hd hi (lv_at hl q (lc_L_get hv)) ?_
  exact kk b1 b0 D ar p e s m args below meth c H locs ls hC hH hS hl

theorem lc_lload {i : Nat} {x : Int64} (hd : decode cc pc = .ok (.lload i, 2)) (q : Nat) (hv : lv[q]? = some (i, .long x)) (kk : lc_V l own cc nL ret ini R G E k z n (pc + 2) lv (.long x :: stk) σ) : lc_V l own cc nL ret ini R G E k z n pc lv stk σ := by
  intro b1 b0 D ar p e s m args below meth c H locs ls hC hH hS hl
  show W p l e R s m args below meth c H locs k z (G b1 b0 D ar below args s) (F0 m pc ls (stk.map (lc_v b1 b0)))
  refine lv_lload (x := x) hC.1 hC.2.1 hd (lv_at hl q (lc_L_get hv)) ?_
  exact kk b1 b0 D ar p e s m args below meth c H locs ls hC hH hS hl

theorem lc_istore_n {j : Fin 4} {i : Nat} {x : Int32} {lv' : List (Nat × Value)} (hd : decode cc pc = .ok (.istore_n j, 1)) (hi : (j : Nat) = i) (hn : i < nL) (hv : lc_set i (.int x) lv = lv') (kk : lc_V l own cc nL ret ini R G E k z n (pc + 1) lv' stk σ) : lc_V l own cc nL ret ini R G E k z n pc lv (.int x :: stk) σ := by
  intro b1 b0 D ar p e s m args below meth c H locs ls hC hH hS hl
  show W p l e R s m args below meth c H locs k z (G b1 b0 D ar below args s) (F0 m pc ls (.int (x) :: stk.map (lc_v b1 b0)))
  refine lv_istore_n (x := x) hC.1 hC.2.1 hd hi hl hn rfl (fun ls1 h1 => ?_)
  exact kk b1 b0 D ar p e s m args below meth c H locs ls1 hC hH hS (hv ▸ lc_set_has (.int x) h1)

theorem lc_istore {i : Nat} {x : Int32} {lv' : List (Nat × Value)} (hd : decode cc pc = .ok (.istore i, 2)) (hn : i < nL) (hv : lc_set i (.int x) lv = lv') (kk : lc_V l own cc nL ret ini R G E k z n (pc + 2) lv' stk σ) : lc_V l own cc nL ret ini R G E k z n pc lv (.int x :: stk) σ := by
  intro b1 b0 D ar p e s m args below meth c H locs ls hC hH hS hl
  show W p l e R s m args below meth c H locs k z (G b1 b0 D ar below args s) (F0 m pc ls (.int (x) :: stk.map (lc_v b1 b0)))
  refine lv_istore (x := x) hC.1 hC.2.1 hd hl hn rfl (fun ls1 h1 => ?_)
  exact kk b1 b0 D ar p e s m args below meth c H locs ls1 hC hH hS (hv ▸ lc_set_has (.int x) h1)

theorem lc_astore_n {j : Fin 4} {i : Nat} {x : Nat} {lv' : List (Nat × Value)} (hd : decode cc pc = .ok (.astore_n j, 1)) (hi : (j : Nat) = i) (hn : i < nL) (hv : lc_set i (.ref x) lv = lv') (kk : lc_V l own cc nL ret ini R G E k z n (pc + 1) lv' stk σ) : lc_V l own cc nL ret ini R G E k z n pc lv (.ref x :: stk) σ := by
  intro b1 b0 D ar p e s m args below meth c H locs ls hC hH hS hl
  show W p l e R s m args below meth c H locs k z (G b1 b0 D ar below args s) (F0 m pc ls (.ref (lc_a b1 b0 x) :: stk.map (lc_v b1 b0)))
  refine lv_astore_n (x := lc_a b1 b0 x) hC.1 hC.2.1 hd hi hl hn rfl (fun ls1 h1 => ?_)
  exact kk b1 b0 D ar p e s m args below meth c H locs ls1 hC hH hS (hv ▸ lc_set_has (.ref x) h1)

theorem lc_astore {i : Nat} {x : Nat} {lv' : List (Nat × Value)} (hd : decode cc pc = .ok (.astore i, 2)) (hn : i < nL) (hv : lc_set i (.ref x) lv = lv') (kk : lc_V l own cc nL ret ini R G E k z n (pc + 2) lv' stk σ) : lc_V l own cc nL ret ini R G E k z n pc lv (.ref x :: stk) σ := by
  intro b1 b0 D ar p e s m args below meth c H locs ls hC hH hS hl
  show W p l e R s m args below meth c H locs k z (G b1 b0 D ar below args s) (F0 m pc ls (.ref (lc_a b1 b0 x) :: stk.map (lc_v b1 b0)))
  refine lv_astore (x := lc_a b1 b0 x) hC.1 hC.2.1 hd hl hn rfl (fun ls1 h1 => ?_)
  exact kk b1 b0 D ar p e s m args below meth c H locs ls1 hC hH hS (hv ▸ lc_set_has (.ref x) h1)

theorem lc_lstore_n {j : Fin 4} {i : Nat} {x : Int64} {lv' : List (Nat × Value)} (hd : decode cc pc = .ok (.lstore_n j, 1)) (hi : (j : Nat) = i) (hn : i + 1 < nL) (hv : lc_setL i (.long x) lv = lv') (kk : lc_V l own cc nL ret ini R G E k z n (pc + 1) lv' stk σ) : lc_V l own cc nL ret ini R G E k z n pc lv (.long x :: stk) σ := by
  intro b1 b0 D ar p e s m args below meth c H locs ls hC hH hS hl
  show W p l e R s m args below meth c H locs k z (G b1 b0 D ar below args s) (F0 m pc ls (.long (x) :: stk.map (lc_v b1 b0)))
  refine lv_lstore_n (x := x) hC.1 hC.2.1 hd hi hl hn rfl (fun ls1 h1 => ?_)
  exact kk b1 b0 D ar p e s m args below meth c H locs ls1 hC hH hS (hv ▸ lc_setL_has (.long x) h1)

theorem lc_lstore {i : Nat} {x : Int64} {lv' : List (Nat × Value)} (hd : decode cc pc = .ok (.lstore i, 2)) (hn : i + 1 < nL) (hv : lc_setL i (.long x) lv = lv') (kk : lc_V l own cc nL ret ini R G E k z n (pc + 2) lv' stk σ) : lc_V l own cc nL ret ini R G E k z n pc lv (.long x :: stk) σ := by
  intro b1 b0 D ar p e s m args below meth c H locs ls hC hH hS hl
  show W p l e R s m args below meth c H locs k z (G b1 b0 D ar below args s) (F0 m pc ls (.long (x) :: stk.map (lc_v b1 b0)))
  refine lv_lstore (x := x) hC.1 hC.2.1 hd hl hn rfl (fun ls1 h1 => ?_)
  exact kk b1 b0 D ar p e s m args below meth c H locs ls1 hC hH hS (hv ▸ lc_setL_has (.long x) h1)

theorem lc_iinc {i : Nat} {v x : Int} {lv' : List (Nat × Value)} (hd : decode cc pc = .ok (.iinc i v, 3)) (q : Nat) (hq : lv[q]? = some (i, .int (lc_i x))) (hn : i < nL) (hv : lc_set i (.int (lc_i (x + v))) lv = lv') (kk : lc_V l own cc nL ret ini R G E k z n (pc + 3) lv' stk σ) : lc_V l own cc nL ret ini R G E k z n pc lv stk σ := by
  intro b1 b0 D ar p e s m args below meth c H locs ls hC hH hS hl
  refine lv_iinc (v := lc_i (x + v)) hC.1 hC.2.1 hd hl (k := q) (lc_L_get hq) (by rw [lc_i_add]; rfl) hn rfl (fun ls1 h1 => ?_)
  exact kk b1 b0 D ar p e s m args below meth c H locs ls1 hC hH hS (hv ▸ lc_set_has (.int (lc_i (x + v))) h1)

theorem lc_iadd {x y : Int} (hd : decode cc pc = .ok (.iadd, 1)) (kk : lc_V l own cc nL ret ini R G E k z n (pc + 1) lv (.int (lc_i (x + y)) :: stk) σ) : lc_V l own cc nL ret ini R G E k z n pc lv (.int (lc_i y) :: .int (lc_i x) :: stk) σ := by
  intro b1 b0 D ar p e s m args below meth c H locs ls hC hH hS hl
  show W p l e R s m args below meth c H locs k z (G b1 b0 D ar below args s) (F0 m pc ls (.int (lc_i y) :: .int (lc_i x) :: stk.map (lc_v b1 b0)))
  refine lv_iadd hC.1 hC.2.1 hd ?_
  rw [← lc_i_add]
  exact kk b1 b0 D ar p e s m args below meth c H locs ls hC hH hS hl

theorem lc_isub {x y : Int} (hd : decode cc pc = .ok (.isub, 1)) (kk : lc_V l own cc nL ret ini R G E k z n (pc + 1) lv (.int (lc_i (x - y)) :: stk) σ) : lc_V l own cc nL ret ini R G E k z n pc lv (.int (lc_i y) :: .int (lc_i x) :: stk) σ := by
  intro b1 b0 D ar p e s m args below meth c H locs ls hC hH hS hl
  show W p l e R s m args below meth c H locs k z (G b1 b0 D ar below args s) (F0 m pc ls (.int (lc_i y) :: .int (lc_i x) :: stk.map (lc_v b1 b0)))
  refine lv_isub hC.1 hC.2.1 hd ?_
  rw [← lc_i_sub]
  exact kk b1 b0 D ar p e s m args below meth c H locs ls hC hH hS hl

theorem lc_imul {x y : Int} (hd : decode cc pc = .ok (.imul, 1)) (kk : lc_V l own cc nL ret ini R G E k z n (pc + 1) lv (.int (lc_i (x * y)) :: stk) σ) : lc_V l own cc nL ret ini R G E k z n pc lv (.int (lc_i y) :: .int (lc_i x) :: stk) σ := by
  intro b1 b0 D ar p e s m args below meth c H locs ls hC hH hS hl
  show W p l e R s m args below meth c H locs k z (G b1 b0 D ar below args s) (F0 m pc ls (.int (lc_i y) :: .int (lc_i x) :: stk.map (lc_v b1 b0)))
  refine lv_imul hC.1 hC.2.1 hd ?_
  rw [← lc_i_mul]
  exact kk b1 b0 D ar p e s m args below meth c H locs ls hC hH hS hl

theorem lc_idiv {x y : Int} (hd : decode cc pc = .ok (.idiv, 1)) (h : 0 ≤ x ∧ x < 2147483648 ∧ 0 < y ∧ y < 2147483648) (kk : lc_V l own cc nL ret ini R G E k z n (pc + 1) lv (.int (lc_i (x / y)) :: stk) σ) : lc_V l own cc nL ret ini R G E k z n pc lv (.int (lc_i y) :: .int (lc_i x) :: stk) σ := by
  intro b1 b0 D ar p e s m args below meth c H locs ls hC hH hS hl
  show W p l e R s m args below meth c H locs k z (G b1 b0 D ar below args s) (F0 m pc ls (.int (lc_i y) :: .int (lc_i x) :: stk.map (lc_v b1 b0)))
  refine lv_idiv hC.1 hC.2.1 hd (lc_i_nz h.2.2) ?_
  rw [lc_i_div h]
  exact kk b1 b0 D ar p e s m args below meth c H locs ls hC hH hS hl

theorem lc_irem {x y : Int} (hd : decode cc pc = .ok (.irem, 1)) (h : 0 ≤ x ∧ x < 2147483648 ∧ 0 < y ∧ y < 2147483648) (kk : lc_V l own cc nL ret ini R G E k z n (pc + 1) lv (.int (lc_i (x % y)) :: stk) σ) : lc_V l own cc nL ret ini R G E k z n pc lv (.int (lc_i y) :: .int (lc_i x) :: stk) σ := by
  intro b1 b0 D ar p e s m args below meth c H locs ls hC hH hS hl
  show W p l e R s m args below meth c H locs k z (G b1 b0 D ar below args s) (F0 m pc ls (.int (lc_i y) :: .int (lc_i x) :: stk.map (lc_v b1 b0)))
  refine lv_irem hC.1 hC.2.1 hd (lc_i_nz h.2.2) ?_
  rw [lc_i_rem h]
  exact kk b1 b0 D ar p e s m args below meth c H locs ls hC hH hS hl

theorem lc_ineg {x : Int} (hd : decode cc pc = .ok (.ineg, 1)) (kk : lc_V l own cc nL ret ini R G E k z n (pc + 1) lv (.int (lc_i (-x)) :: stk) σ) : lc_V l own cc nL ret ini R G E k z n pc lv (.int (lc_i x) :: stk) σ := by
  intro b1 b0 D ar p e s m args below meth c H locs ls hC hH hS hl
  show W p l e R s m args below meth c H locs k z (G b1 b0 D ar below args s) (F0 m pc ls (.int (lc_i x) :: stk.map (lc_v b1 b0)))
  refine lv_ineg hC.1 hC.2.1 hd ?_
  rw [← lc_i_neg]
  exact kk b1 b0 D ar p e s m args below meth c H locs ls hC hH hS hl

theorem lc_iand {x y : Int32} (hd : decode cc pc = .ok (.iand, 1)) (kk : lc_V l own cc nL ret ini R G E k z n (pc + 1) lv (.int (x &&& y) :: stk) σ) : lc_V l own cc nL ret ini R G E k z n pc lv (.int y :: .int x :: stk) σ := by
  intro b1 b0 D ar p e s m args below meth c H locs ls hC hH hS hl
  show W p l e R s m args below meth c H locs k z (G b1 b0 D ar below args s) (F0 m pc ls (.int y :: .int x :: stk.map (lc_v b1 b0)))
  refine lv_iand hC.1 hC.2.1 hd ?_
  exact kk b1 b0 D ar p e s m args below meth c H locs ls hC hH hS hl

theorem lc_ladd {x y : Int64} (hd : decode cc pc = .ok (.ladd, 1)) (kk : lc_V l own cc nL ret ini R G E k z n (pc + 1) lv (.long (x + y) :: stk) σ) : lc_V l own cc nL ret ini R G E k z n pc lv (.long y :: .long x :: stk) σ := by
  intro b1 b0 D ar p e s m args below meth c H locs ls hC hH hS hl
  show W p l e R s m args below meth c H locs k z (G b1 b0 D ar below args s) (F0 m pc ls (.long y :: .long x :: stk.map (lc_v b1 b0)))
  refine lv_ladd hC.1 hC.2.1 hd ?_
  exact kk b1 b0 D ar p e s m args below meth c H locs ls hC hH hS hl

theorem lc_lsub {x y : Int64} (hd : decode cc pc = .ok (.lsub, 1)) (kk : lc_V l own cc nL ret ini R G E k z n (pc + 1) lv (.long (x - y) :: stk) σ) : lc_V l own cc nL ret ini R G E k z n pc lv (.long y :: .long x :: stk) σ := by
  intro b1 b0 D ar p e s m args below meth c H locs ls hC hH hS hl
  show W p l e R s m args below meth c H locs k z (G b1 b0 D ar below args s) (F0 m pc ls (.long y :: .long x :: stk.map (lc_v b1 b0)))
  refine lv_lsub hC.1 hC.2.1 hd ?_
  exact kk b1 b0 D ar p e s m args below meth c H locs ls hC hH hS hl

theorem lc_lmul {x y : Int64} (hd : decode cc pc = .ok (.lmul, 1)) (kk : lc_V l own cc nL ret ini R G E k z n (pc + 1) lv (.long (x * y) :: stk) σ) : lc_V l own cc nL ret ini R G E k z n pc lv (.long y :: .long x :: stk) σ := by
  intro b1 b0 D ar p e s m args below meth c H locs ls hC hH hS hl
  show W p l e R s m args below meth c H locs k z (G b1 b0 D ar below args s) (F0 m pc ls (.long y :: .long x :: stk.map (lc_v b1 b0)))
  refine lv_lmul hC.1 hC.2.1 hd ?_
  exact kk b1 b0 D ar p e s m args below meth c H locs ls hC hH hS hl

theorem lc_land {x y : Int64} (hd : decode cc pc = .ok (.land, 1)) (kk : lc_V l own cc nL ret ini R G E k z n (pc + 1) lv (.long (x &&& y) :: stk) σ) : lc_V l own cc nL ret ini R G E k z n pc lv (.long y :: .long x :: stk) σ := by
  intro b1 b0 D ar p e s m args below meth c H locs ls hC hH hS hl
  show W p l e R s m args below meth c H locs k z (G b1 b0 D ar below args s) (F0 m pc ls (.long y :: .long x :: stk.map (lc_v b1 b0)))
  refine lv_land hC.1 hC.2.1 hd ?_
  exact kk b1 b0 D ar p e s m args below meth c H locs ls hC hH hS hl

theorem lc_lor {x y : Int64} (hd : decode cc pc = .ok (.lor, 1)) (kk : lc_V l own cc nL ret ini R G E k z n (pc + 1) lv (.long (x ||| y) :: stk) σ) : lc_V l own cc nL ret ini R G E k z n pc lv (.long y :: .long x :: stk) σ := by
  intro b1 b0 D ar p e s m args below meth c H locs ls hC hH hS hl
  show W p l e R s m args below meth c H locs k z (G b1 b0 D ar below args s) (F0 m pc ls (.long y :: .long x :: stk.map (lc_v b1 b0)))
  refine lv_lor hC.1 hC.2.1 hd ?_
  exact kk b1 b0 D ar p e s m args below meth c H locs ls hC hH hS hl

theorem lc_lshl {x v : Int64} {y : Int32} (hd : decode cc pc = .ok (.lshl, 1)) (hv : x <<< (y.toInt64 &&& 63) = v) (kk : lc_V l own cc nL ret ini R G E k z n (pc + 1) lv (.long v :: stk) σ) : lc_V l own cc nL ret ini R G E k z n pc lv (.int y :: .long x :: stk) σ := by
  intro b1 b0 D ar p e s m args below meth c H locs ls hC hH hS hl
  show W p l e R s m args below meth c H locs k z (G b1 b0 D ar below args s) (F0 m pc ls (.int y :: .long x :: stk.map (lc_v b1 b0)))
  refine lv_lshl hC.1 hC.2.1 hd hv ?_
  exact kk b1 b0 D ar p e s m args below meth c H locs ls hC hH hS hl

theorem lc_lshr {x v : Int64} {y : Int32} (hd : decode cc pc = .ok (.lshr, 1)) (hv : x >>> (y.toInt64 &&& 63) = v) (kk : lc_V l own cc nL ret ini R G E k z n (pc + 1) lv (.long v :: stk) σ) : lc_V l own cc nL ret ini R G E k z n pc lv (.int y :: .long x :: stk) σ := by
  intro b1 b0 D ar p e s m args below meth c H locs ls hC hH hS hl
  show W p l e R s m args below meth c H locs k z (G b1 b0 D ar below args s) (F0 m pc ls (.int y :: .long x :: stk.map (lc_v b1 b0)))
  refine lv_lshr hC.1 hC.2.1 hd hv ?_
  exact kk b1 b0 D ar p e s m args below meth c H locs ls hC hH hS hl

theorem lc_i2l {x : Int32} {v : Int64} (hd : decode cc pc = .ok (.i2l, 1)) (hv : x.toInt64 = v) (kk : lc_V l own cc nL ret ini R G E k z n (pc + 1) lv (.long v :: stk) σ) : lc_V l own cc nL ret ini R G E k z n pc lv (.int x :: stk) σ := by
  intro b1 b0 D ar p e s m args below meth c H locs ls hC hH hS hl
  show W p l e R s m args below meth c H locs k z (G b1 b0 D ar below args s) (F0 m pc ls (.int x :: stk.map (lc_v b1 b0)))
  refine lv_i2l hC.1 hC.2.1 hd hv ?_
  exact kk b1 b0 D ar p e s m args below meth c H locs ls hC hH hS hl

theorem lc_l2i {x : Int64} {v : Int32} (hd : decode cc pc = .ok (.l2i, 1)) (hv : x.toInt32 = v) (kk : lc_V l own cc nL ret ini R G E k z n (pc + 1) lv (.int v :: stk) σ) : lc_V l own cc nL ret ini R G E k z n pc lv (.long x :: stk) σ := by
  intro b1 b0 D ar p e s m args below meth c H locs ls hC hH hS hl
  show W p l e R s m args below meth c H locs k z (G b1 b0 D ar below args s) (F0 m pc ls (.long x :: stk.map (lc_v b1 b0)))
  refine lv_l2i hC.1 hC.2.1 hd hv ?_
  exact kk b1 b0 D ar p e s m args below meth c H locs ls hC hH hS hl

theorem lc_i2c {x v : Int32} (hd : decode cc pc = .ok (.i2c, 1)) (hv : (x.toUInt32 % 65536).toInt32 = v) (kk : lc_V l own cc nL ret ini R G E k z n (pc + 1) lv (.int v :: stk) σ) : lc_V l own cc nL ret ini R G E k z n pc lv (.int x :: stk) σ := by
  intro b1 b0 D ar p e s m args below meth c H locs ls hC hH hS hl
  show W p l e R s m args below meth c H locs k z (G b1 b0 D ar below args s) (F0 m pc ls (.int x :: stk.map (lc_v b1 b0)))
  refine lv_i2c hC.1 hC.2.1 hd hv ?_
  exact kk b1 b0 D ar p e s m args below meth c H locs ls hC hH hS hl

theorem lc_lcmp {x y : Int64} (hd : decode cc pc = .ok (.lcmp, 1)) (kk : lc_V l own cc nL ret ini R G E k z n (pc + 1) lv (.int (lg_cmp x y) :: stk) σ) : lc_V l own cc nL ret ini R G E k z n pc lv (.long y :: .long x :: stk) σ := by
  intro b1 b0 D ar p e s m args below meth c H locs ls hC hH hS hl
  show W p l e R s m args below meth c H locs k z (G b1 b0 D ar below args s) (F0 m pc ls (.long y :: .long x :: stk.map (lc_v b1 b0)))
  refine W.lcmp hC.1 hC.2.1 hd ?_
  exact kk b1 b0 D ar p e s m args below meth c H locs ls hC hH hS hl

theorem lc_top {x y : Value} (e : x = y) (kk : lc_V l own cc nL ret ini R G E k z n pc lv (y :: stk) σ) : lc_V l own cc nL ret ini R G E k z n pc lv (x :: stk) σ := by
  rw [e]
  exact kk

theorem lc_locs {lv' : List (Nat × Value)} (h : ∀ q ∈ lv', q ∈ lv) (kk : lc_V l own cc nL ret ini R G E k z n pc lv' stk σ) : lc_V l own cc nL ret ini R G E k z n pc lv stk σ := by
  intro b1 b0 D ar p e s m args below meth c H locs ls hC hH hS hl
  exact kk b1 b0 D ar p e s m args below meth c H locs ls hC hH hS ⟨hl.1, hl.2.1, fun q hq => hl.2.2 q (lc_L_mono h q hq)⟩

theorem lc_pcs {pc' : Nat} (h : pc = pc') (kk : lc_V l own cc nL ret ini R G E k z n pc' lv stk σ) : lc_V l own cc nL ret ini R G E k z n pc lv stk σ := by
  rw [h]
  exact kk

theorem lc_dup {a : Value} (hd : decode cc pc = .ok (.dup, 1)) (ha : a.category = 1) (kk : lc_V l own cc nL ret ini R G E k z n (pc + 1) lv (a :: a :: stk) σ) : lc_V l own cc nL ret ini R G E k z n pc lv (a :: stk) σ := by
  intro b1 b0 D ar p e s m args below meth c H locs ls hC hH hS hl
  show W p l e R s m args below meth c H locs k z (G b1 b0 D ar below args s) (F0 m pc ls (lc_v b1 b0 a :: stk.map (lc_v b1 b0)))
  exact lv_dup hC.1 hC.2.1 hd ((lc_v_cat _ _ _).trans ha) (kk b1 b0 D ar p e s m args below meth c H locs ls hC hH hS hl)

theorem lc_pop {a : Value} (hd : decode cc pc = .ok (.pop, 1)) (ha : a.category = 1) (kk : lc_V l own cc nL ret ini R G E k z n (pc + 1) lv stk σ) : lc_V l own cc nL ret ini R G E k z n pc lv (a :: stk) σ := by
  intro b1 b0 D ar p e s m args below meth c H locs ls hC hH hS hl
  show W p l e R s m args below meth c H locs k z (G b1 b0 D ar below args s) (F0 m pc ls (lc_v b1 b0 a :: stk.map (lc_v b1 b0)))
  exact lv_pop hC.1 hC.2.1 hd ((lc_v_cat _ _ _).trans ha) (kk b1 b0 D ar p e s m args below meth c H locs ls hC hH hS hl)

theorem lc_dup2 {a b : Value} (hd : decode cc pc = .ok (.dup2, 1)) (ha : a.category = 1) (hb : b.category = 1) (kk : lc_V l own cc nL ret ini R G E k z n (pc + 1) lv (a :: b :: a :: b :: stk) σ) : lc_V l own cc nL ret ini R G E k z n pc lv (a :: b :: stk) σ := by
  intro b1 b0 D ar p e s m args below meth c H locs ls hC hH hS hl
  show W p l e R s m args below meth c H locs k z (G b1 b0 D ar below args s) (F0 m pc ls (lc_v b1 b0 a :: lc_v b1 b0 b :: stk.map (lc_v b1 b0)))
  exact lv_dup2_11 hC.1 hC.2.1 hd ((lc_v_cat _ _ _).trans ha) ((lc_v_cat _ _ _).trans hb) (kk b1 b0 D ar p e s m args below meth c H locs ls hC hH hS hl)

theorem lc_icmp_eq {x y : Int} {off : Int} {tgt : Nat} (hd : decode cc pc = .ok (.if_icmp .eq off, 3)) (ht : (pc : Int) + off = (tgt : Int)) (hr : -2147483648 ≤ x ∧ x < 2147483648 ∧ -2147483648 ≤ y ∧ y < 2147483648) (kt : x = y → lc_V l own cc nL ret ini R G E k z n tgt lv stk σ) (kf : x ≠ y → lc_V l own cc nL ret ini R G E k z n (pc + 3) lv stk σ) : lc_V l own cc nL ret ini R G E k z n pc lv (.int (lc_i y) :: .int (lc_i x) :: stk) σ := by
  intro b1 b0 D ar p e s m args below meth c H locs ls hC hH hS hl
  show W p l e R s m args below meth c H locs k z (G b1 b0 D ar below args s) (F0 m pc ls (.int (lc_i y) :: .int (lc_i x) :: stk.map (lc_v b1 b0)))
  exact lv_icmp_eq hC.1 hC.2.1 hd ht (fun h => kt ((lc_i_eq hr).mp h) b1 b0 D ar p e s m args below meth c H locs ls hC hH hS hl) (fun h => kf (fun q => h ((lc_i_eq hr).mpr q)) b1 b0 D ar p e s m args below meth c H locs ls hC hH hS hl)

theorem lc_if_eq {x : Int} {off : Int} {tgt : Nat} (hd : decode cc pc = .ok (.ifCond .eq off, 3)) (ht : (pc : Int) + off = (tgt : Int)) (hr : -2147483648 ≤ x ∧ x < 2147483648) (kt : x = 0 → lc_V l own cc nL ret ini R G E k z n tgt lv stk σ) (kf : x ≠ 0 → lc_V l own cc nL ret ini R G E k z n (pc + 3) lv stk σ) : lc_V l own cc nL ret ini R G E k z n pc lv (.int (lc_i x) :: stk) σ := by
  intro b1 b0 D ar p e s m args below meth c H locs ls hC hH hS hl
  show W p l e R s m args below meth c H locs k z (G b1 b0 D ar below args s) (F0 m pc ls (.int (lc_i x) :: stk.map (lc_v b1 b0)))
  refine lv_if_eq hC.1 hC.2.1 hd ht (fun h => ?_) (fun h => ?_)
  · rw [← lc_i_0] at h
    exact kt ((lc_i_eq (lc_r0 hr)).mp h) b1 b0 D ar p e s m args below meth c H locs ls hC hH hS hl
  · rw [← lc_i_0] at h
    exact kf (fun q => h ((lc_i_eq (lc_r0 hr)).mpr q)) b1 b0 D ar p e s m args below meth c H locs ls hC hH hS hl

theorem lc_icmp_ne {x y : Int} {off : Int} {tgt : Nat} (hd : decode cc pc = .ok (.if_icmp .ne off, 3)) (ht : (pc : Int) + off = (tgt : Int)) (hr : -2147483648 ≤ x ∧ x < 2147483648 ∧ -2147483648 ≤ y ∧ y < 2147483648) (kt : x ≠ y → lc_V l own cc nL ret ini R G E k z n tgt lv stk σ) (kf : x = y → lc_V l own cc nL ret ini R G E k z n (pc + 3) lv stk σ) : lc_V l own cc nL ret ini R G E k z n pc lv (.int (lc_i y) :: .int (lc_i x) :: stk) σ := by
  intro b1 b0 D ar p e s m args below meth c H locs ls hC hH hS hl
  show W p l e R s m args below meth c H locs k z (G b1 b0 D ar below args s) (F0 m pc ls (.int (lc_i y) :: .int (lc_i x) :: stk.map (lc_v b1 b0)))
  exact lv_icmp_ne hC.1 hC.2.1 hd ht (fun h => kt (fun q => h ((lc_i_eq hr).mpr q)) b1 b0 D ar p e s m args below meth c H locs ls hC hH hS hl) (fun h => kf ((lc_i_eq hr).mp h) b1 b0 D ar p e s m args below meth c H locs ls hC hH hS hl)

theorem lc_if_ne {x : Int} {off : Int} {tgt : Nat} (hd : decode cc pc = .ok (.ifCond .ne off, 3)) (ht : (pc : Int) + off = (tgt : Int)) (hr : -2147483648 ≤ x ∧ x < 2147483648) (kt : x ≠ 0 → lc_V l own cc nL ret ini R G E k z n tgt lv stk σ) (kf : x = 0 → lc_V l own cc nL ret ini R G E k z n (pc + 3) lv stk σ) : lc_V l own cc nL ret ini R G E k z n pc lv (.int (lc_i x) :: stk) σ := by
  intro b1 b0 D ar p e s m args below meth c H locs ls hC hH hS hl
  show W p l e R s m args below meth c H locs k z (G b1 b0 D ar below args s) (F0 m pc ls (.int (lc_i x) :: stk.map (lc_v b1 b0)))
  refine lv_if_ne hC.1 hC.2.1 hd ht (fun h => ?_) (fun h => ?_)
  · rw [← lc_i_0] at h
    exact kt (fun q => h ((lc_i_eq (lc_r0 hr)).mpr q)) b1 b0 D ar p e s m args below meth c H locs ls hC hH hS hl
  · rw [← lc_i_0] at h
    exact kf ((lc_i_eq (lc_r0 hr)).mp h) b1 b0 D ar p e s m args below meth c H locs ls hC hH hS hl

theorem lc_icmp_lt {x y : Int} {off : Int} {tgt : Nat} (hd : decode cc pc = .ok (.if_icmp .lt off, 3)) (ht : (pc : Int) + off = (tgt : Int)) (hr : -2147483648 ≤ x ∧ x < 2147483648 ∧ -2147483648 ≤ y ∧ y < 2147483648) (kt : x < y → lc_V l own cc nL ret ini R G E k z n tgt lv stk σ) (kf : y ≤ x → lc_V l own cc nL ret ini R G E k z n (pc + 3) lv stk σ) : lc_V l own cc nL ret ini R G E k z n pc lv (.int (lc_i y) :: .int (lc_i x) :: stk) σ := by
  intro b1 b0 D ar p e s m args below meth c H locs ls hC hH hS hl
  show W p l e R s m args below meth c H locs k z (G b1 b0 D ar below args s) (F0 m pc ls (.int (lc_i y) :: .int (lc_i x) :: stk.map (lc_v b1 b0)))
  exact lv_icmp_lt hC.1 hC.2.1 hd ht (fun h => kt ((lc_i_lt hr).mp h) b1 b0 D ar p e s m args below meth c H locs ls hC hH hS hl) (fun h => kf (Int.not_lt.mp (fun q => h ((lc_i_lt hr).mpr q))) b1 b0 D ar p e s m args below meth c H locs ls hC hH hS hl)

theorem lc_if_lt {x : Int} {off : Int} {tgt : Nat} (hd : decode cc pc = .ok (.ifCond .lt off, 3)) (ht : (pc : Int) + off = (tgt : Int)) (hr : -2147483648 ≤ x ∧ x < 2147483648) (kt : x < 0 → lc_V l own cc nL ret ini R G E k z n tgt lv stk σ) (kf : 0 ≤ x → lc_V l own cc nL ret ini R G E k z n (pc + 3) lv stk σ) : lc_V l own cc nL ret ini R G E k z n pc lv (.int (lc_i x) :: stk) σ := by
  intro b1 b0 D ar p e s m args below meth c H locs ls hC hH hS hl
  show W p l e R s m args below meth c H locs k z (G b1 b0 D ar below args s) (F0 m pc ls (.int (lc_i x) :: stk.map (lc_v b1 b0)))
  refine lv_if_lt hC.1 hC.2.1 hd ht (fun h => ?_) (fun h => ?_)
  · rw [← lc_i_0] at h
    exact kt ((lc_i_lt (lc_r0 hr)).mp h) b1 b0 D ar p e s m args below meth c H locs ls hC hH hS hl
  · rw [← lc_i_0] at h
    exact kf (Int.not_lt.mp (fun q => h ((lc_i_lt (lc_r0 hr)).mpr q))) b1 b0 D ar p e s m args below meth c H locs ls hC hH hS hl

theorem lc_icmp_ge {x y : Int} {off : Int} {tgt : Nat} (hd : decode cc pc = .ok (.if_icmp .ge off, 3)) (ht : (pc : Int) + off = (tgt : Int)) (hr : -2147483648 ≤ x ∧ x < 2147483648 ∧ -2147483648 ≤ y ∧ y < 2147483648) (kt : y ≤ x → lc_V l own cc nL ret ini R G E k z n tgt lv stk σ) (kf : x < y → lc_V l own cc nL ret ini R G E k z n (pc + 3) lv stk σ) : lc_V l own cc nL ret ini R G E k z n pc lv (.int (lc_i y) :: .int (lc_i x) :: stk) σ := by
  intro b1 b0 D ar p e s m args below meth c H locs ls hC hH hS hl
  show W p l e R s m args below meth c H locs k z (G b1 b0 D ar below args s) (F0 m pc ls (.int (lc_i y) :: .int (lc_i x) :: stk.map (lc_v b1 b0)))
  exact lv_icmp_ge hC.1 hC.2.1 hd ht (fun h => kt ((lc_i_le (lc_sw hr)).mp h) b1 b0 D ar p e s m args below meth c H locs ls hC hH hS hl) (fun h => kf (Int.not_le.mp (fun q => h ((lc_i_le (lc_sw hr)).mpr q))) b1 b0 D ar p e s m args below meth c H locs ls hC hH hS hl)

theorem lc_if_ge {x : Int} {off : Int} {tgt : Nat} (hd : decode cc pc = .ok (.ifCond .ge off, 3)) (ht : (pc : Int) + off = (tgt : Int)) (hr : -2147483648 ≤ x ∧ x < 2147483648) (kt : 0 ≤ x → lc_V l own cc nL ret ini R G E k z n tgt lv stk σ) (kf : x < 0 → lc_V l own cc nL ret ini R G E k z n (pc + 3) lv stk σ) : lc_V l own cc nL ret ini R G E k z n pc lv (.int (lc_i x) :: stk) σ := by
  intro b1 b0 D ar p e s m args below meth c H locs ls hC hH hS hl
  show W p l e R s m args below meth c H locs k z (G b1 b0 D ar below args s) (F0 m pc ls (.int (lc_i x) :: stk.map (lc_v b1 b0)))
  refine lv_if_ge hC.1 hC.2.1 hd ht (fun h => ?_) (fun h => ?_)
  · rw [← lc_i_0] at h
    exact kt ((lc_i_le (lc_sw (lc_r0 hr))).mp h) b1 b0 D ar p e s m args below meth c H locs ls hC hH hS hl
  · rw [← lc_i_0] at h
    exact kf (Int.not_le.mp (fun q => h ((lc_i_le (lc_sw (lc_r0 hr))).mpr q))) b1 b0 D ar p e s m args below meth c H locs ls hC hH hS hl

theorem lc_icmp_gt {x y : Int} {off : Int} {tgt : Nat} (hd : decode cc pc = .ok (.if_icmp .gt off, 3)) (ht : (pc : Int) + off = (tgt : Int)) (hr : -2147483648 ≤ x ∧ x < 2147483648 ∧ -2147483648 ≤ y ∧ y < 2147483648) (kt : y < x → lc_V l own cc nL ret ini R G E k z n tgt lv stk σ) (kf : x ≤ y → lc_V l own cc nL ret ini R G E k z n (pc + 3) lv stk σ) : lc_V l own cc nL ret ini R G E k z n pc lv (.int (lc_i y) :: .int (lc_i x) :: stk) σ := by
  intro b1 b0 D ar p e s m args below meth c H locs ls hC hH hS hl
  show W p l e R s m args below meth c H locs k z (G b1 b0 D ar below args s) (F0 m pc ls (.int (lc_i y) :: .int (lc_i x) :: stk.map (lc_v b1 b0)))
  exact lv_icmp_gt hC.1 hC.2.1 hd ht (fun h => kt ((lc_i_lt (lc_sw hr)).mp h) b1 b0 D ar p e s m args below meth c H locs ls hC hH hS hl) (fun h => kf (Int.not_lt.mp (fun q => h ((lc_i_lt (lc_sw hr)).mpr q))) b1 b0 D ar p e s m args below meth c H locs ls hC hH hS hl)

theorem lc_if_gt {x : Int} {off : Int} {tgt : Nat} (hd : decode cc pc = .ok (.ifCond .gt off, 3)) (ht : (pc : Int) + off = (tgt : Int)) (hr : -2147483648 ≤ x ∧ x < 2147483648) (kt : 0 < x → lc_V l own cc nL ret ini R G E k z n tgt lv stk σ) (kf : x ≤ 0 → lc_V l own cc nL ret ini R G E k z n (pc + 3) lv stk σ) : lc_V l own cc nL ret ini R G E k z n pc lv (.int (lc_i x) :: stk) σ := by
  intro b1 b0 D ar p e s m args below meth c H locs ls hC hH hS hl
  show W p l e R s m args below meth c H locs k z (G b1 b0 D ar below args s) (F0 m pc ls (.int (lc_i x) :: stk.map (lc_v b1 b0)))
  refine lv_if_gt hC.1 hC.2.1 hd ht (fun h => ?_) (fun h => ?_)
  · rw [← lc_i_0] at h
    exact kt ((lc_i_lt (lc_sw (lc_r0 hr))).mp h) b1 b0 D ar p e s m args below meth c H locs ls hC hH hS hl
  · rw [← lc_i_0] at h
    exact kf (Int.not_lt.mp (fun q => h ((lc_i_lt (lc_sw (lc_r0 hr))).mpr q))) b1 b0 D ar p e s m args below meth c H locs ls hC hH hS hl

theorem lc_icmp_le {x y : Int} {off : Int} {tgt : Nat} (hd : decode cc pc = .ok (.if_icmp .le off, 3)) (ht : (pc : Int) + off = (tgt : Int)) (hr : -2147483648 ≤ x ∧ x < 2147483648 ∧ -2147483648 ≤ y ∧ y < 2147483648) (kt : x ≤ y → lc_V l own cc nL ret ini R G E k z n tgt lv stk σ) (kf : y < x → lc_V l own cc nL ret ini R G E k z n (pc + 3) lv stk σ) : lc_V l own cc nL ret ini R G E k z n pc lv (.int (lc_i y) :: .int (lc_i x) :: stk) σ := by
  intro b1 b0 D ar p e s m args below meth c H locs ls hC hH hS hl
  show W p l e R s m args below meth c H locs k z (G b1 b0 D ar below args s) (F0 m pc ls (.int (lc_i y) :: .int (lc_i x) :: stk.map (lc_v b1 b0)))
  exact lv_icmp_le hC.1 hC.2.1 hd ht (fun h => kt ((lc_i_le hr).mp h) b1 b0 D ar p e s m args below meth c H locs ls hC hH hS hl) (fun h => kf (Int.not_le.mp (fun q => h ((lc_i_le hr).mpr q))) b1 b0 D ar p e s m args below meth c H locs ls hC hH hS hl)

theorem lc_if_le {x : Int} {off : Int} {tgt : Nat} (hd : decode cc pc = .ok (.ifCond .le off, 3)) (ht : (pc : Int) + off = (tgt : Int)) (hr : -2147483648 ≤ x ∧ x < 2147483648) (kt : x ≤ 0 → lc_V l own cc nL ret ini R G E k z n tgt lv stk σ) (kf : 0 < x → lc_V l own cc nL ret ini R G E k z n (pc + 3) lv stk σ) : lc_V l own cc nL ret ini R G E k z n pc lv (.int (lc_i x) :: stk) σ := by
  intro b1 b0 D ar p e s m args below meth c H locs ls hC hH hS hl
  show W p l e R s m args below meth c H locs k z (G b1 b0 D ar below args s) (F0 m pc ls (.int (lc_i x) :: stk.map (lc_v b1 b0)))
  refine lv_if_le hC.1 hC.2.1 hd ht (fun h => ?_) (fun h => ?_)
  · rw [← lc_i_0] at h
    exact kt ((lc_i_le (lc_r0 hr)).mp h) b1 b0 D ar p e s m args below meth c H locs ls hC hH hS hl
  · rw [← lc_i_0] at h
    exact kf (Int.not_le.mp (fun q => h ((lc_i_le (lc_r0 hr)).mpr q))) b1 b0 D ar p e s m args below meth c H locs ls hC hH hS hl

theorem lc_if_eqR {x : Int32} {off : Int} {tgt : Nat} (hd : decode cc pc = .ok (.ifCond .eq off, 3)) (ht : (pc : Int) + off = (tgt : Int)) (kt : x = 0 → lc_V l own cc nL ret ini R G E k z n tgt lv stk σ) (kf : ¬ x = 0 → lc_V l own cc nL ret ini R G E k z n (pc + 3) lv stk σ) : lc_V l own cc nL ret ini R G E k z n pc lv (.int x :: stk) σ := by
  intro b1 b0 D ar p e s m args below meth c H locs ls hC hH hS hl
  show W p l e R s m args below meth c H locs k z (G b1 b0 D ar below args s) (F0 m pc ls (.int x :: stk.map (lc_v b1 b0)))
  exact lv_if_eq hC.1 hC.2.1 hd ht (fun h => kt h b1 b0 D ar p e s m args below meth c H locs ls hC hH hS hl) (fun h => kf h b1 b0 D ar p e s m args below meth c H locs ls hC hH hS hl)

theorem lc_if_neR {x : Int32} {off : Int} {tgt : Nat} (hd : decode cc pc = .ok (.ifCond .ne off, 3)) (ht : (pc : Int) + off = (tgt : Int)) (kt : ¬ x = 0 → lc_V l own cc nL ret ini R G E k z n tgt lv stk σ) (kf : x = 0 → lc_V l own cc nL ret ini R G E k z n (pc + 3) lv stk σ) : lc_V l own cc nL ret ini R G E k z n pc lv (.int x :: stk) σ := by
  intro b1 b0 D ar p e s m args below meth c H locs ls hC hH hS hl
  show W p l e R s m args below meth c H locs k z (G b1 b0 D ar below args s) (F0 m pc ls (.int x :: stk.map (lc_v b1 b0)))
  exact lv_if_ne hC.1 hC.2.1 hd ht (fun h => kt h b1 b0 D ar p e s m args below meth c H locs ls hC hH hS hl) (fun h => kf h b1 b0 D ar p e s m args below meth c H locs ls hC hH hS hl)

theorem lc_icmp_eqR {x y : Int32} {off : Int} {tgt : Nat} (hd : decode cc pc = .ok (.if_icmp .eq off, 3)) (ht : (pc : Int) + off = (tgt : Int)) (kt : x = y → lc_V l own cc nL ret ini R G E k z n tgt lv stk σ) (kf : ¬ x = y → lc_V l own cc nL ret ini R G E k z n (pc + 3) lv stk σ) : lc_V l own cc nL ret ini R G E k z n pc lv (.int y :: .int x :: stk) σ := by
  intro b1 b0 D ar p e s m args below meth c H locs ls hC hH hS hl
  show W p l e R s m args below meth c H locs k z (G b1 b0 D ar below args s) (F0 m pc ls (.int y :: .int x :: stk.map (lc_v b1 b0)))
  exact lv_icmp_eq hC.1 hC.2.1 hd ht (fun h => kt h b1 b0 D ar p e s m args below meth c H locs ls hC hH hS hl) (fun h => kf h b1 b0 D ar p e s m args below meth c H locs ls hC hH hS hl)

theorem lc_goto {off : Int} {tgt : Nat} (hd : decode cc pc = .ok (.goto off, 3)) (ht : (pc : Int) + off = (tgt : Int)) (kk : lc_V l own cc nL ret ini R G E k z n tgt lv stk σ) : lc_V l own cc nL ret ini R G E k z n pc lv stk σ := by
  intro b1 b0 D ar p e s m args below meth c H locs ls hC hH hS hl
  exact lv_goto hC.1 hC.2.1 hd ht (kk b1 b0 D ar p e s m args below meth c H locs ls hC hH hS hl)

theorem lc_swOut {dflt lo hi : Int} {offs : Array Int} {len : Nat} {x : Int32} {tgt : Nat} (hd : decode cc pc = .ok (.tableswitch dflt lo hi offs, len)) (h : x.toInt < lo ∨ hi < x.toInt) (ht : (pc : Int) + dflt = (tgt : Int)) (kk : lc_V l own cc nL ret ini R G E k z n tgt lv stk σ) : lc_V l own cc nL ret ini R G E k z n pc lv (.int x :: stk) σ := by
  intro b1 b0 D ar p e s m args below meth c H locs ls hC hH hS hl
  show W p l e R s m args below meth c H locs k z (G b1 b0 D ar below args s) (F0 m pc ls (.int x :: stk.map (lc_v b1 b0)))
  exact lv_tableOut hC.1 hC.2.1 hd h ht (kk b1 b0 D ar p e s m args below meth c H locs ls hC hH hS hl)

theorem lc_swIn {dflt lo hi : Int} {offs : Array Int} {len : Nat} {x : Int32} {off : Int} {tgt : Nat} (hd : decode cc pc = .ok (.tableswitch dflt lo hi offs, len)) (h1 : ¬ x.toInt < lo) (h2 : ¬ hi < x.toInt) (ho : offs[(x.toInt - lo).toNat]? = some off) (ht : (pc : Int) + off = (tgt : Int)) (kk : lc_V l own cc nL ret ini R G E k z n tgt lv stk σ) : lc_V l own cc nL ret ini R G E k z n pc lv (.int x :: stk) σ := by
  intro b1 b0 D ar p e s m args below meth c H locs ls hC hH hS hl
  show W p l e R s m args below meth c H locs k z (G b1 b0 D ar below args s) (F0 m pc ls (.int x :: stk.map (lc_v b1 b0)))
  exact lv_tableIn hC.1 hC.2.1 hd h1 h2 ho ht (kk b1 b0 D ar p e s m args below meth c H locs ls hC hH hS hl)

theorem lc_ifnull {x : Nat} {off : Int} (hd : decode cc pc = .ok (.ifnull off, 3)) (kk : lc_V l own cc nL ret ini R G E k z n (pc + 3) lv stk σ) : lc_V l own cc nL ret ini R G E k z n pc lv (.ref x :: stk) σ := by
  intro b1 b0 D ar p e s m args below meth c H locs ls hC hH hS hl
  show W p l e R s m args below meth c H locs k z (G b1 b0 D ar below args s) (F0 m pc ls (.ref (lc_a b1 b0 x) :: stk.map (lc_v b1 b0)))
  exact lv_ifnull hC.1 hC.2.1 hd (kk b1 b0 D ar p e s m args below meth c H locs ls hC hH hS hl)

theorem lc_iret {Q : lc_QT} {mc ms : Nat} {x : Int32} (hd : decode cc pc = .ok (.ireturn, 1)) (hr : ret = some .int) (h1 : k ≤ mc) (h2 : z ≤ ms) (hQ : Q (some (.int x)) n σ) : lc_V l own cc nL ret ini R (lc_G Q mc ms) E k z n pc lv [.int x] σ := by
  intro b1 b0 D ar p e s m args below meth c H locs ls hC hH hS hl
  refine W.widen h1 h2 ?_
  exact W.iret (v := x) hC.1 hC.2.1 (hC.2.2.1.trans hr) (fun t ht hW => ⟨⟨some (.int x), n, σ, rfl, hQ, by rw [ht]; exact hH⟩, hS.F ht⟩) hS.2.2 hd hC.2.2.2.2.2.2.2.1

theorem lc_lret {Q : lc_QT} {mc ms : Nat} {x : Int64} (hd : decode cc pc = .ok (.lreturn, 1)) (hr : ret = some .long) (h1 : k ≤ mc) (h2 : z ≤ ms) (hQ : Q (some (.long x)) n σ) : lc_V l own cc nL ret ini R (lc_G Q mc ms) E k z n pc lv [.long x] σ := by
  intro b1 b0 D ar p e s m args below meth c H locs ls hC hH hS hl
  refine W.widen h1 h2 ?_
  exact W.lret (v := x) hC.1 hC.2.1 (hC.2.2.1.trans hr) (fun t ht hW => ⟨⟨some (.long x), n, σ, rfl, hQ, by rw [ht]; exact hH⟩, hS.F ht⟩) hS.2.2 hd hC.2.2.2.2.2.2.2.1

theorem lc_zret {Q : lc_QT} {mc ms : Nat} {x : Int32} {ty : FieldType} (hd : decode cc pc = .ok (.ireturn, 1)) (hr : ret = some ty) (hx : narrow ty (.int x) = .int x) (h1 : k ≤ mc) (h2 : z ≤ ms) (hQ : Q (some (.int x)) n σ) : lc_V l own cc nL ret ini R (lc_G Q mc ms) E k z n pc lv [.int x] σ := by
  intro b1 b0 D ar p e s m args below meth c H locs ls hC hH hS hl
  refine W.widen h1 h2 ?_
  exact W.zret (v := x) hC.1 hC.2.1 (hC.2.2.1.trans hr) hx (fun t ht hW => ⟨⟨some (.int x), n, σ, rfl, hQ, by rw [ht]; exact hH⟩, hS.F ht⟩) hS.2.2 hd hC.2.2.2.2.2.2.2.1

theorem lc_vret {Q : lc_QT} {mc ms : Nat} (hd : decode cc pc = .ok (.return_, 1)) (hr : ret = none) (h1 : k ≤ mc) (h2 : z ≤ ms) (hQ : Q none n σ) : lc_V l own cc nL ret ini R (lc_G Q mc ms) E k z n pc lv [] σ := by
  intro b1 b0 D ar p e s m args below meth c H locs ls hC hH hS hl
  refine W.widen h1 h2 ?_
  exact W.vret hC.1 hC.2.1 (hC.2.2.1.trans hr) (fun t ht hW => ⟨⟨none, n, σ, rfl, hQ, by rw [ht]; exact hH⟩, hS.F ht⟩) hS.2.2 hd hC.2.2.2.2.2.2.2.1

theorem lc_get {b idx ci q : Nat} {fin : Bool} {ty : FieldType} {vs : List Value} {v : Value} (hd : decode cc pc = .ok (.getfield idx, 3)) (hF : lc_FL own idx ci q fin ty) (hb : σ b = some (.inr (ci, vs))) (hv : vs[q]? = some v) (kk : lc_V l own cc nL ret ini R G E k z n (pc + 3) lv (v :: stk) σ) : lc_V l own cc nL ret ini R G E k z n pc lv (.ref b :: stk) σ := by
  intro b1 b0 D ar p e s m args below meth c H locs ls hC hH hS hl
  obtain ⟨C, T, N, t0, f1, f2, f3, f4, f5, f6, f7, f8, f9⟩ := hF
  have e1 := (hH.2 b _ hb).1
  show W p l e R s m args below meth c H locs k z (G b1 b0 D ar below args s) (F0 m pc ls (.ref (lc_a b1 b0 b) :: stk.map (lc_v b1 b0)))
  rw [lc_a_p e1]
  exact va_get (D := D) (ci := ci) (v := lc_v b1 b0 v) (C := C) (T := T) (N := N) hC.1 hC.2.1 hC.2.2.2.2.2.1 f3 hC.2.2.2.2.1 hC.2.2.2.2.2.2.1 (lc_H_one hH hb) 0 rfl f1 q f2 (hC.2.2.2.2.2.1 _ f4) (fun _ h9 => h9) (by simp [hv]) hd (kk b1 b0 D ar p e s m args below meth c H locs ls hC hH hS hl)

theorem lc_putI {b idx ci q : Nat} {ty : FieldType} {vs : List Value} {x : Int32} (hd : decode cc pc = .ok (.putfield idx, 3)) (hF : lc_FL own idx ci q false ty) (hb : σ b = some (.inr (ci, vs))) (hq : q < vs.length) (hx : narrow ty (.int x) = .int x) (hf : fits ty (.int x) = true) (kk : lc_V l own cc nL ret ini R G E k z n (pc + 3) lv stk (lc_up σ b (.inr (ci, vs.set q (.int x))))) : lc_V l own cc nL ret ini R G E k z n pc lv (.int x :: .ref b :: stk) σ := by
  intro b1 b0 D ar p e s m args below meth c H locs ls hC hH hS hl
  obtain ⟨C, T, N, t0, f1, f2, f3, f4, f5, f6, f7, f8, f9⟩ := hF
  have e1 := (hH.2 b _ hb).1
  show W p l e R s m args below meth c H locs k z (G b1 b0 D ar below args s) (F0 m pc ls (.int x :: .ref (lc_a b1 b0 b) :: stk.map (lc_v b1 b0)))
  rw [lc_a_p e1]
  have hK := hC.2.2.2.2.2.2.1
  have hts := hC.2.2.2.2.2.1
  have hap := va_apart (own := own) hts f3 t0 f5 f6 hK f1
  obtain ⟨r, h1, cell, q1, q2, q3, q4⟩ := (hH.2 b _ hb).2
  have hr : r = (C, T, N) := Option.some.inj (h1.symm.trans f1)
  subst hr
  obtain ⟨hS0, hfc, kC, hkC, hkind⟩ := hK.1 ci _ f1
  obtain ⟨cf, kf, fi, f, hi, hsl⟩ := hS0 q f2
  have hlay := hts _ (f3 _ (u_in_lay f2))
  unfold u_lay at hlay
  rw [if_neg (by rw [f8]; decide)] at hlay
  have hst := (u_facts hfc hkC (u_lays hts f3 f2) hi).1
  have h6 := u_store hfc hkC hkind hlay hi ((f5 q f2).trans (congrArg some f7)) hx hf
  refine W.putK hC.1 hC.2.1 (f := f) ⟨hC.2.2.2.2.1, hts _ f4, ⟨_, _, _, hi⟩, hst⟩ (by rw [q2]; exact h6) q1 q3 (by rw [hsl]; exact k2_hasslot (q4 q f2)) rfl rfl hd fun H' e1' e2 e3 => ?_
  rw [hsl] at e1' ⊢
  refine kk b1 b0 D ar p e s m args below meth c H' _ ls hC (lc_H_put hH _ e1 ⟨_, f1, t_OB.to (V := updV (vp_V (vs.map (lc_v b1 b0))) q (.int x)) ⟨_, e1', q2, q3, t_set q4 hap f2 _⟩ (fun j _ => ?_)⟩ e2 e3) (hS.put e2 e3 (by show b0 < b0 + b; omega)) hl
  rw [vp_updV_set (by simpa using hq)]
  rw [List.map_set]
  rfl

theorem lc_putR {b idx ci q : Nat} {ty : FieldType} {vs : List Value} {x : Nat} (hd : decode cc pc = .ok (.putfield idx, 3)) (hF : lc_FL own idx ci q false ty) (hb : σ b = some (.inr (ci, vs))) (hq : q < vs.length) (hx : ∀ y : Nat, narrow ty (.ref y) = .ref y ∧ fits ty (.ref y) = true) (kk : lc_V l own cc nL ret ini R G E k z n (pc + 3) lv stk (lc_up σ b (.inr (ci, vs.set q (.ref x))))) : lc_V l own cc nL ret ini R G E k z n pc lv (.ref x :: .ref b :: stk) σ := by
  intro b1 b0 D ar p e s m args below meth c H locs ls hC hH hS hl
  obtain ⟨C, T, N, t0, f1, f2, f3, f4, f5, f6, f7, f8, f9⟩ := hF
  have e1 := (hH.2 b _ hb).1
  show W p l e R s m args below meth c H locs k z (G b1 b0 D ar below args s) (F0 m pc ls (.ref (lc_a b1 b0 x) :: .ref (lc_a b1 b0 b) :: stk.map (lc_v b1 b0)))
  rw [lc_a_p e1]
  have hK := hC.2.2.2.2.2.2.1
  have hts := hC.2.2.2.2.2.1
  have hap := va_apart (own := own) hts f3 t0 f5 f6 hK f1
  obtain ⟨r, h1, cell, q1, q2, q3, q4⟩ := (hH.2 b _ hb).2
  have hr : r = (C, T, N) := Option.some.inj (h1.symm.trans f1)
  subst hr
  obtain ⟨hS0, hfc, kC, hkC, hkind⟩ := hK.1 ci _ f1
  obtain ⟨cf, kf, fi, f, hi, hsl⟩ := hS0 q f2
  have hlay := hts _ (f3 _ (u_in_lay f2))
  unfold u_lay at hlay
  rw [if_neg (by rw [f8]; decide)] at hlay
  have hst := (u_facts hfc hkC (u_lays hts f3 f2) hi).1
  have h6 := u_store hfc hkC hkind hlay hi ((f5 q f2).trans (congrArg some f7)) (hx (lc_a b1 b0 x)).1 (hx (lc_a b1 b0 x)).2
  refine W.putK hC.1 hC.2.1 (f := f) ⟨hC.2.2.2.2.1, hts _ f4, ⟨_, _, _, hi⟩, hst⟩ (by rw [q2]; exact h6) q1 q3 (by rw [hsl]; exact k2_hasslot (q4 q f2)) rfl rfl hd fun H' e1' e2 e3 => ?_
  rw [hsl] at e1' ⊢
  refine kk b1 b0 D ar p e s m args below meth c H' _ ls hC (lc_H_put hH _ e1 ⟨_, f1, t_OB.to (V := updV (vp_V (vs.map (lc_v b1 b0))) q (.ref (lc_a b1 b0 x))) ⟨_, e1', q2, q3, t_set q4 hap f2 _⟩ (fun j _ => ?_)⟩ e2 e3) (hS.put e2 e3 (by show b0 < b0 + b; omega)) hl
  rw [vp_updV_set (by simpa using hq)]
  rw [List.map_set]
  rfl

theorem lc_putF {b idx ci q : Nat} {ty : FieldType} {vs : List Value} {x : Nat} (hd : decode cc pc = .ok (.putfield idx, 3)) (hF : lc_FL own idx ci q true ty) (hb : σ b = some (.inr (ci, vs))) (hq : q < vs.length) (hini : ini = true) (hown : (vwCl[ci]?).map (fun q => q.1) = some own) (hx : ∀ y : Nat, narrow ty (.ref y) = .ref y ∧ fits ty (.ref y) = true) (kk : lc_V l own cc nL ret ini R G E k z n (pc + 3) lv stk (lc_up σ b (.inr (ci, vs.set q (.ref x))))) : lc_V l own cc nL ret ini R G E k z n pc lv (.ref x :: .ref b :: stk) σ := by
  intro b1 b0 D ar p e s m args below meth c H locs ls hC hH hS hl
  have hF0 := hF
  obtain ⟨C, T, N, t0, f1, f2, f3, f4, f5, f6, f7, f8, f9⟩ := hF
  have e1 := (hH.2 b _ hb).1
  show W p l e R s m args below meth c H locs k z (G b1 b0 D ar below args s) (F0 m pc ls (.ref (lc_a b1 b0 x) :: .ref (lc_a b1 b0 b) :: stk.map (lc_v b1 b0)))
  rw [lc_a_p e1]
  have hK := hC.2.2.2.2.2.2.1
  have hts := hC.2.2.2.2.2.1
  have hap := va_apart (own := own) hts f3 t0 f5 f6 hK f1
  obtain ⟨r, h1, cell, q1, q2, q3, q4⟩ := (hH.2 b _ hb).2
  have hr : r = (C, T, N) := Option.some.inj (h1.symm.trans f1)
  subst hr
  obtain ⟨hS0, hfc, kC, hkC, hkind⟩ := hK.1 ci _ f1
  obtain ⟨cf, kf, fi, f, hi, hsl⟩ := hS0 q f2
  have hlay := hts _ (f3 _ (u_in_lay f2))
  unfold u_lay at hlay
  rw [if_pos f8] at hlay
  have hst := (u_facts hfc hkC (u_lays hts f3 f2) hi).1
  have hCo : C = own := by
    rw [f1] at hown
    exact Option.some.inj hown
  have hcf : m.cls = cf := by
    obtain ⟨_, _, c', _, _, _, -, -, hf', -, -, -, hown2, -⟩ := Cond.laysFinal_spec hlay
    have e2 : c' = cf := by have := hi.symm.trans hf'; simp at this; exact this.1.symm
    rw [f9, hCo] at hown2
    rw [← e2]; exact Option.some.inj (hC.2.2.2.2.1.symm.trans hown2)
  have h6 := u_fits hfc hkC hkind (Or.inr hlay) hi ((f5 q f2).trans (congrArg some f7)) (hx (lc_a b1 b0 x)).1 (hx (lc_a b1 b0 x)).2
  refine W.putFinK hC.1 hC.2.1 hC.2.2.2.2.1 (hts _ f4) hi hst hcf (hC.2.2.2.2.2.2.2.2.2.1 hini) (by rw [q2]; exact h6) q1 q3 (by rw [hsl]; exact k2_hasslot (q4 q f2)) rfl rfl hd fun H' e1' e2 e3 => ?_
  rw [hsl] at e1' ⊢
  refine kk b1 b0 D ar p e s m args below meth c H' _ ls hC (lc_H_put hH _ e1 ⟨_, f1, t_OB.to (V := updV (vp_V (vs.map (lc_v b1 b0))) q (.ref (lc_a b1 b0 x))) ⟨_, e1', q2, q3, t_set q4 hap f2 _⟩ (fun j _ => ?_)⟩ e2 e3) (hS.put e2 e3 (by show b0 < b0 + b; omega)) hl
  rw [vp_updV_set (by simpa using hq)]
  rw [List.map_set]
  rfl

theorem lc_iald {a m : Nat} {f : Int → Int} {j : Int} (hd : decode cc pc = .ok (.iaload, 1)) (ha : σ a = some (lc_aI m f)) (hj : 0 ≤ j ∧ j < m) (hm : m < 2147483648) (kk : lc_V l own cc nL ret ini R G E k z n (pc + 1) lv (.int (lc_i (f j)) :: stk) σ) : lc_V l own cc nL ret ini R G E k z n pc lv (.int (lc_i j) :: .ref a :: stk) σ := by
  intro b1 b0 D ar p e s mm args below meth c H locs ls hC hH hS hl
  have e1 := (hH.2 a _ ha).1
  show W p l e R s mm args below meth c H locs k z (G b1 b0 D ar below args s) (F0 mm pc ls (.int (lc_i j) :: .ref (lc_a b1 b0 a) :: stk.map (lc_v b1 b0)))
  rw [lc_a_p e1]
  refine va_iald (f := fun i => lc_i (f i)) hC.1 hC.2.1 hC.2.2.2.2.2.2.1 (lc_H_one hH ha) 0 0 rfl rfl (lc_i_in hj hm) hd ?_
  have e2 : (((lc_i j).toNatClampNeg : Nat) : Int) = j := by rw [lc_i_cl (by omega)]; omega
  show W p l e R s mm args below meth c H locs k z (G b1 b0 D ar below args s) (F0 mm (pc + 1) ls (.int (lc_i (f (((lc_i j).toNatClampNeg : Nat) : Int))) :: stk.map (lc_v b1 b0)))
  rw [e2]
  exact kk b1 b0 D ar p e s mm args below meth c H locs ls hC hH hS hl

theorem lc_cald {a m : Nat} {f : Int → Int} {j : Int} (hd : decode cc pc = .ok (.caload, 1)) (ha : σ a = some (lc_aC m f)) (hj : 0 ≤ j ∧ j < m) (hm : m < 2147483648) (kk : lc_V l own cc nL ret ini R G E k z n (pc + 1) lv (.int (lc_i (f j)) :: stk) σ) : lc_V l own cc nL ret ini R G E k z n pc lv (.int (lc_i j) :: .ref a :: stk) σ := by
  intro b1 b0 D ar p e s mm args below meth c H locs ls hC hH hS hl
  have e1 := (hH.2 a _ ha).1
  show W p l e R s mm args below meth c H locs k z (G b1 b0 D ar below args s) (F0 mm pc ls (.int (lc_i j) :: .ref (lc_a b1 b0 a) :: stk.map (lc_v b1 b0)))
  rw [lc_a_p e1]
  refine va_cald (f := fun i => lc_i (f i)) hC.1 hC.2.1 hC.2.2.2.2.2.2.1 (lc_H_one hH ha) 0 2 rfl rfl (lc_i_in hj hm) hd ?_
  have e2 : (((lc_i j).toNatClampNeg : Nat) : Int) = j := by rw [lc_i_cl (by omega)]; omega
  show W p l e R s mm args below meth c H locs k z (G b1 b0 D ar below args s) (F0 mm (pc + 1) ls (.int (lc_i (f (((lc_i j).toNatClampNeg : Nat) : Int))) :: stk.map (lc_v b1 b0)))
  rw [e2]
  exact kk b1 b0 D ar p e s mm args below meth c H locs ls hC hH hS hl

theorem lc_lald {a m : Nat} {f : Int → Int64} {j : Int} (hd : decode cc pc = .ok (.laload, 1)) (ha : σ a = some (lc_aJ m f)) (hj : 0 ≤ j ∧ j < m) (hm : m < 2147483648) (kk : lc_V l own cc nL ret ini R G E k z n (pc + 1) lv (.long (f j) :: stk) σ) : lc_V l own cc nL ret ini R G E k z n pc lv (.int (lc_i j) :: .ref a :: stk) σ := by
  intro b1 b0 D ar p e s mm args below meth c H locs ls hC hH hS hl
  have e1 := (hH.2 a _ ha).1
  show W p l e R s mm args below meth c H locs k z (G b1 b0 D ar below args s) (F0 mm pc ls (.int (lc_i j) :: .ref (lc_a b1 b0 a) :: stk.map (lc_v b1 b0)))
  rw [lc_a_p e1]
  refine va_lald (f := fun i => f i) hC.1 hC.2.1 hC.2.2.2.2.2.2.1 (lc_H_one hH ha) 0 1 rfl rfl (lc_i_in hj hm) hd ?_
  have e2 : (((lc_i j).toNatClampNeg : Nat) : Int) = j := by rw [lc_i_cl (by omega)]; omega
  show W p l e R s mm args below meth c H locs k z (G b1 b0 D ar below args s) (F0 mm (pc + 1) ls (.long (f (((lc_i j).toNatClampNeg : Nat) : Int)) :: stk.map (lc_v b1 b0)))
  rw [e2]
  exact kk b1 b0 D ar p e s mm args below meth c H locs ls hC hH hS hl

theorem lc_aald {a m : Nat} {f : Int → Option Nat} {j : Int} (hd : decode cc pc = .ok (.aaload, 1)) (ha : σ a = some (lc_aS m f)) (hj : 0 ≤ j ∧ j < m) (hm : m < 2147483648) (kk : lc_V l own cc nL ret ini R G E k z n (pc + 1) lv (va_rf (f j) :: stk) σ) : lc_V l own cc nL ret ini R G E k z n pc lv (.int (lc_i j) :: .ref a :: stk) σ := by
  intro b1 b0 D ar p e s mm args below meth c H locs ls hC hH hS hl
  have e1 := (hH.2 a _ ha).1
  show W p l e R s mm args below meth c H locs k z (G b1 b0 D ar below args s) (F0 mm pc ls (.int (lc_i j) :: .ref (lc_a b1 b0 a) :: stk.map (lc_v b1 b0)))
  rw [lc_a_p e1]
  refine va_aldq (f := fun i => (f i).map (lc_a b1 b0)) hC.1 hC.2.1 hC.2.2.2.2.2.2.1 (lc_H_one hH ha) 0 3 rfl rfl (lc_i_in hj hm) hd ?_
  have e2 : (((lc_i j).toNatClampNeg : Nat) : Int) = j := by rw [lc_i_cl (by omega)]; omega
  show W p l e R s mm args below meth c H locs k z (G b1 b0 D ar below args s) (F0 mm (pc + 1) ls (va_rf ((f (((lc_i j).toNatClampNeg : Nat) : Int)).map (lc_a b1 b0)) :: stk.map (lc_v b1 b0)))
  rw [e2]
  rw [lc_rf]
  exact kk b1 b0 D ar p e s mm args below meth c H locs ls hC hH hS hl

theorem lc_iast {a m : Nat} {f : Int → Int} {j : Int} {x : Int} (hd : decode cc pc = .ok (.iastore, 1)) (ha : σ a = some (lc_aI m f)) (hj : 0 ≤ j ∧ j < m) (hm : m < 2147483648) (kk : lc_V l own cc nL ret ini R G E k z n (pc + 1) lv stk (lc_up σ a (lc_aI m (lc_u f j x)))) : lc_V l own cc nL ret ini R G E k z n pc lv (.int (lc_i x) :: .int (lc_i j) :: .ref a :: stk) σ := by
  intro b1 b0 D ar p e_ s mm args below meth c H locs ls hC hH hS hl
  have e1 := (hH.2 a _ ha).1
  show W p l e_ R s mm args below meth c H locs k z (G b1 b0 D ar below args s) (F0 mm pc ls (.int (lc_i x) :: .int (lc_i j) :: .ref (lc_a b1 b0 a) :: stk.map (lc_v b1 b0)))
  rw [lc_a_p e1]
  have hcell : H[b0 + a]? = some (arrV (ar 0) m (fun i => .int (lc_i (f i)))) := (hH.2 a _ ha).2
  refine W.iast hC.1 hC.2.1 hcell ((hC.2.2.2.2.2.2.1.2 0 _ rfl).1 m _) (fun q => by cases q) (by rw [arrV_size]; exact lc_i_in hj hm) rfl rfl hd fun H1 e z1 oq => ?_
  refine kk b1 b0 D ar p e_ s mm args below meth c H1 _ ls hC (lc_H_put hH _ e1 ?_ z1 oq) (hS.put z1 oq (by show b0 < b0 + a; omega)) hl
  rw [arrV_store] at e
  refine e.trans (congrArg some ?_)
  show arrV (ar 0) m _ = arrV (ar 0) m (fun i => .int (lc_i (lc_u f j x i)))
  refine lc_arr_ext _ _ _ _ fun i hi => ?_
  rw [lc_i_cl (by omega)]
  by_cases hij : (i : Int) = j
  · rw [updV, if_pos (by omega), lc_u, if_pos hij] 
  · rw [updV, if_neg (by omega), lc_u, if_neg hij]

theorem lc_last {a m : Nat} {f : Int → Int64} {j : Int} {x : Int64} (hd : decode cc pc = .ok (.lastore, 1)) (ha : σ a = some (lc_aJ m f)) (hj : 0 ≤ j ∧ j < m) (hm : m < 2147483648) (kk : lc_V l own cc nL ret ini R G E k z n (pc + 1) lv stk (lc_up σ a (lc_aJ m (lc_u f j x)))) : lc_V l own cc nL ret ini R G E k z n pc lv (.long x :: .int (lc_i j) :: .ref a :: stk) σ := by
  intro b1 b0 D ar p e_ s mm args below meth c H locs ls hC hH hS hl
  have e1 := (hH.2 a _ ha).1
  show W p l e_ R s mm args below meth c H locs k z (G b1 b0 D ar below args s) (F0 mm pc ls (.long x :: .int (lc_i j) :: .ref (lc_a b1 b0 a) :: stk.map (lc_v b1 b0)))
  rw [lc_a_p e1]
  have hcell : H[b0 + a]? = some (arrV (ar 1) m (fun i => .long (f i))) := (hH.2 a _ ha).2
  refine W.last hC.1 hC.2.1 hcell ((hC.2.2.2.2.2.2.1.2 1 _ rfl).1 m _) (fun q => by cases q) (by rw [arrV_size]; exact lc_i_in hj hm) rfl rfl hd fun H1 e z1 oq => ?_
  refine kk b1 b0 D ar p e_ s mm args below meth c H1 _ ls hC (lc_H_put hH _ e1 ?_ z1 oq) (hS.put z1 oq (by show b0 < b0 + a; omega)) hl
  rw [arrV_store] at e
  refine e.trans (congrArg some ?_)
  show arrV (ar 1) m _ = arrV (ar 1) m (fun i => .long (lc_u f j x i))
  refine lc_arr_ext _ _ _ _ fun i hi => ?_
  rw [lc_i_cl (by omega)]
  by_cases hij : (i : Int) = j
  · rw [updV, if_pos (by omega), lc_u, if_pos hij] 
  · rw [updV, if_neg (by omega), lc_u, if_neg hij]

theorem lc_cast {a m : Nat} {f : Int → Int} {j : Int} {x : Int} (hd : decode cc pc = .ok (.castore, 1)) (ha : σ a = some (lc_aC m f)) (hj : 0 ≤ j ∧ j < m) (hm : m < 2147483648) (hx : narrow .char (.int (lc_i x)) = .int (lc_i x)) (kk : lc_V l own cc nL ret ini R G E k z n (pc + 1) lv stk (lc_up σ a (lc_aC m (lc_u f j x)))) : lc_V l own cc nL ret ini R G E k z n pc lv (.int (lc_i x) :: .int (lc_i j) :: .ref a :: stk) σ := by
  intro b1 b0 D ar p e_ s mm args below meth c H locs ls hC hH hS hl
  have e1 := (hH.2 a _ ha).1
  show W p l e_ R s mm args below meth c H locs k z (G b1 b0 D ar below args s) (F0 mm pc ls (.int (lc_i x) :: .int (lc_i j) :: .ref (lc_a b1 b0 a) :: stk.map (lc_v b1 b0)))
  rw [lc_a_p e1]
  have hcell : H[b0 + a]? = some (arrV (ar 2) m (fun i => .int (lc_i (f i)))) := (hH.2 a _ ha).2
  refine W.cast hC.1 hC.2.1 hcell ((hC.2.2.2.2.2.2.1.2 2 _ rfl).1 m _) (fun q => by cases q) (by rw [arrV_size]; exact lc_i_in hj hm) rfl rfl hd fun H1 e z1 oq => ?_
  refine kk b1 b0 D ar p e_ s mm args below meth c H1 _ ls hC (lc_H_put hH _ e1 ?_ z1 oq) (hS.put z1 oq (by show b0 < b0 + a; omega)) hl
  rw [arrV_store] at e
  rw [hx] at e
  refine e.trans (congrArg some ?_)
  show arrV (ar 2) m _ = arrV (ar 2) m (fun i => .int (lc_i (lc_u f j x i)))
  refine lc_arr_ext _ _ _ _ fun i hi => ?_
  rw [lc_i_cl (by omega)]
  by_cases hij : (i : Int) = j
  · rw [updV, if_pos (by omega), lc_u, if_pos hij]
  · rw [updV, if_neg (by omega), lc_u, if_neg hij]

theorem lc_aast {a m x : Nat} {f : Int → Option Nat} {j : Int} {vs : List Value} (hd : decode cc pc = .ok (.aastore, 1)) (ha : σ a = some (lc_aS m f)) (hj : 0 ≤ j ∧ j < m) (hm : m < 2147483648) (hx : σ x = some (.inr (7, vs))) (kk : lc_V l own cc nL ret ini R G E k z n (pc + 1) lv stk (lc_up σ a (lc_aS m (lc_u f j (some x))))) : lc_V l own cc nL ret ini R G E k z n pc lv (.ref x :: .int (lc_i j) :: .ref a :: stk) σ := by
  intro b1 b0 D ar p e_ s mm args below meth c H locs ls hC hH hS hl
  have e1 := (hH.2 a _ ha).1
  have e3 := (hH.2 x _ hx).1
  show W p l e_ R s mm args below meth c H locs k z (G b1 b0 D ar below args s) (F0 mm pc ls (.ref (lc_a b1 b0 x) :: .int (lc_i j) :: .ref (lc_a b1 b0 a) :: stk.map (lc_v b1 b0)))
  have e5 := lc_a_p (b := b1) (b0 := b0) e3
  rw [lc_a_p e1, e5]
  have hcell : H[b0 + a]? = some (arrV (ar 3) m (fun i => va_rf ((f i).map (lc_a b1 b0)))) := (hH.2 a _ ha).2
  obtain ⟨r', hr', cellV, g1, g2, g3, -⟩ := (hH.2 x _ hx).2
  have hK := hC.2.2.2.2.2.2.1
  have hcls := (hK.1 7 _ rfl).2
  obtain ⟨kA, comp, k1, k2, k3, -⟩ := (hK.2 3 _ rfl).2
  have hcomp : comp = D.1 7 := Option.some.inj (k3.symm.trans hcls.1)
  subst hcomp
  obtain ⟨kC, hkC, -⟩ := id hcls.2
  refine W.aast hC.1 hC.2.1 hcell (fun q h => by cases h) (fun h => by cases h) k1 k2 rfl hkC ⟨by have := lc_i_in hj hm; exact fun q => this (Or.inl q), by rw [arrV_size, lc_i_cl (by omega)]; omega⟩ g1 (fun q h => by rw [g3] at h; cases h) (by rw [g2]; exact hkC) (by rw [g2]; exact va_assign hcls) rfl rfl hd fun H1 e z1 oq => ?_
  refine kk b1 b0 D ar p e_ s mm args below meth c H1 _ ls hC (lc_H_put hH _ e1 ?_ z1 oq) (hS.put z1 oq (by show b0 < b0 + a; omega)) hl
  rw [arrV_store] at e
  refine e.trans (congrArg some ?_)
  show arrV (ar 3) m _ = arrV (ar 3) m (fun i => va_rf ((lc_u f j (some x) i).map (lc_a b1 b0)))
  refine lc_arr_ext _ _ _ _ fun i hi => ?_
  rw [lc_i_cl (by omega)]
  by_cases hij : (i : Int) = j
  · rw [updV, if_pos (by omega), lc_u, if_pos hij]
    show Value.ref (b0 + x) = Value.ref (lc_a b1 b0 x)
    rw [e5]
  · rw [updV, if_neg (by omega), lc_u, if_neg hij]

theorem lc_alen {a : Nat} {t : Nat} {x : vp_A} (hd : decode cc pc = .ok (.arraylength, 1)) (ha : σ a = some (.inl (t, x))) (ht : t < 4) (kk : lc_V l own cc nL ret ini R G E k z n (pc + 1) lv (.int (lc_i (x.1 : Int)) :: stk) σ) : lc_V l own cc nL ret ini R G E k z n pc lv (.ref a :: stk) σ := by
  intro b1 b0 D ar p e s m args below meth c H locs ls hC hH hS hl
  have e1 := (hH.2 a _ ha).1
  show W p l e R s m args below meth c H locs k z (G b1 b0 D ar below args s) (F0 m pc ls (.ref (lc_a b1 b0 a) :: stk.map (lc_v b1 b0)))
  rw [lc_a_p e1]
  have hty : ∃ ty, (lc_ty ar)[t]? = some (ar t, ty) := by
    rcases (show t = 0 ∨ t = 1 ∨ t = 2 ∨ t = 3 by omega) with rfl | rfl | rfl | rfl <;> exact ⟨_, rfl⟩
  obtain ⟨ty, hty⟩ := hty
  exact va_alen hC.1 hC.2.1 hC.2.2.2.2.2.2.1 (lc_H_one hH ha) 0 t rfl hty (by rw [lc_i_nat]; cases x with | mk q w => cases w with | inl w => rfl | inr w => cases w with | inl w => rfl | inr w => cases w with | inl w => rfl | inr w => cases w <;> rfl) hd (kk b1 b0 D ar p e s m args below meth c H locs ls hC hH hS hl)

theorem lc_new {idx ci : Nat} {C : String} {T : u_T} {N : Nat} {t0 : Nat → FieldType} {fs : List Value} (hd : decode cc pc = .ok (.new idx, 3)) (hcl : Cond.classLink own idx C ∈ lc_WS) (hni : Cond.instantiable C N ∈ lc_WS ∧ Cond.initialized C ∈ lc_WS) (hci : vwCl[ci]? = some (C, T, N)) (hkX : ∀ w ∈ u_ws C T N, w ∈ lc_WS) (hty : ∀ j, j < N → parseFieldDescriptor (T j).2.2.1 = some (t0 j)) (hfs : ∀ j, j < N → defaultValue (t0 j) = vp_V fs j) (hfs0 : fs.all lc_noref = true) (hn0 : 0 < n) (hc : k + 1 ≤ R.cells) (hs : z + N ≤ R.slots) (kk : lc_V l own cc nL ret ini R G E (k + 1) (z + N) (n + 1) (pc + 3) lv (.ref n :: stk) (lc_up σ n (.inr (ci, fs)))) : lc_V l own cc nL ret ini R G E k z n pc lv stk σ := by
  intro b1 b0 D ar p e s m args below meth c H locs ls hC hH hS hl
  have hK := hC.2.2.2.2.2.2.1
  have hts := hC.2.2.2.2.2.1
  have hKn := hK.1 ci _ hci
  refine W.newcK hC.1 hC.2.1 hC.2.2.2.2.1 (hts _ hcl) (hts _ hni.1) (hts _ hni.2) rfl hd hc hs hKn.2.1 rfl fun H1 kC hkC e1 z1 o1 => ?_
  have e2 : lc_a b1 b0 n = H.size := by rw [lc_a_p hn0, hH.1]
  have e3 : fs.map (lc_v b1 b0) = fs := lc_fs hfs0
  have h := kk b1 b0 D ar p e s m args below meth c H1 locs ls hC (lc_H_new hH _ hn0 (by
    refine ⟨_, hci, ?_⟩
    show t_OB (b0 + n) _ _ _ H1 (vp_V (fs.map (lc_v b1 b0)))
    rw [e3, ← hH.1]
    exact (u_born t0 hts hkX hKn hkC e1 hty).to hfs) z1 o1) ⟨Nat.le_trans hS.1 (by omega), fun x h1 h2 => (o1 x (Nat.lt_of_lt_of_le h1 hS.1)).trans (hS.2.1 x h1 h2), hS.2.2⟩ hl
  have h2 : W p l e R s m args below meth c H1 locs (k + 1) (z + N) (G b1 b0 D ar below args s) (F0 m (pc + 3) ls (.ref (lc_a b1 b0 n) :: stk.map (lc_v b1 b0))) := h
  rw [e2] at h2
  exact h2

theorem lc_newI {v : Int} (N : Nat) (hd : decode cc pc = .ok (.newarray .int, 2)) (hac : Cond.arrayClass .int ∈ lc_WS) (hv : v = N) (hN : N < 65536) (hn0 : 0 < n) (hc : k + 1 ≤ R.cells) (hs : z + N ≤ R.slots) (kk : lc_V l own cc nL ret ini R G E (k + 1) (z + N) (n + 1) (pc + 2) lv (.ref n :: stk) (lc_up σ n (lc_aI N (fun _ => 0)))) : lc_V l own cc nL ret ini R G E k z n pc lv (.int (lc_i v) :: stk) σ := by
  intro b1 b0 D ar p e s m args below meth c H locs ls hC hH hS hl
  have hK := hC.2.2.2.2.2.2.1
  have hts := hC.2.2.2.2.2.1
  subst hv
  have e2 : lc_a b1 b0 n = H.size := by rw [lc_a_p hn0, hH.1]
  show W p l e R s m args below meth c H locs k z (G b1 b0 D ar below args s) (F0 m pc ls (.int (lc_i N) :: stk.map (lc_v b1 b0)))
  refine va_newaK (atype := .int) (N := N) hC.1 hC.2.1 (hts _ hac) rfl hd rfl (fun q => by rw [← lc_i_0] at q; have := (lc_i_lt (by omega)).mp q; omega) (by rw [lc_i_cl (by omega)]; omega) (by show N * 4 ≤ 536870912; omega) hc hs rfl fun H1 cA e1 z1 o1 hAr hNm => ?_
  have ecA : cA = ar 0 := Option.some.inj (hNm.symm.trans (hK.2 0 _ rfl).2)
  subst ecA
  have h := kk b1 b0 D ar p e s m args below meth c H1 locs ls hC (lc_H_new hH _ hn0 (by
    show H1[b0 + n]? = some _
    rw [← hH.1]
    exact e1) z1 o1) ⟨Nat.le_trans hS.1 (by omega), fun x h1 h2 => (o1 x (Nat.lt_of_lt_of_le h1 hS.1)).trans (hS.2.1 x h1 h2), hS.2.2⟩ hl
  have h2 : W p l e R s m args below meth c H1 locs (k + 1) (z + N) (G b1 b0 D ar below args s) (F0 m (pc + 2) ls (.ref (lc_a b1 b0 n) :: stk.map (lc_v b1 b0))) := h
  rw [e2] at h2
  exact h2

theorem lc_newJ {v : Int} (N : Nat) (hd : decode cc pc = .ok (.newarray .long, 2)) (hac : Cond.arrayClass .long ∈ lc_WS) (hv : v = N) (hN : N < 65536) (hn0 : 0 < n) (hc : k + 1 ≤ R.cells) (hs : z + N ≤ R.slots) (kk : lc_V l own cc nL ret ini R G E (k + 1) (z + N) (n + 1) (pc + 2) lv (.ref n :: stk) (lc_up σ n (lc_aJ N (fun _ => 0)))) : lc_V l own cc nL ret ini R G E k z n pc lv (.int (lc_i v) :: stk) σ := by
  intro b1 b0 D ar p e s m args below meth c H locs ls hC hH hS hl
  have hK := hC.2.2.2.2.2.2.1
  have hts := hC.2.2.2.2.2.1
  subst hv
  have e2 : lc_a b1 b0 n = H.size := by rw [lc_a_p hn0, hH.1]
  show W p l e R s m args below meth c H locs k z (G b1 b0 D ar below args s) (F0 m pc ls (.int (lc_i N) :: stk.map (lc_v b1 b0)))
  refine va_newaK (atype := .long) (N := N) hC.1 hC.2.1 (hts _ hac) rfl hd rfl (fun q => by rw [← lc_i_0] at q; have := (lc_i_lt (by omega)).mp q; omega) (by rw [lc_i_cl (by omega)]; omega) (by show N * 8 ≤ 536870912; omega) hc hs rfl fun H1 cA e1 z1 o1 hAr hNm => ?_
  have ecA : cA = ar 1 := Option.some.inj (hNm.symm.trans (hK.2 1 _ rfl).2)
  subst ecA
  have h := kk b1 b0 D ar p e s m args below meth c H1 locs ls hC (lc_H_new hH _ hn0 (by
    show H1[b0 + n]? = some _
    rw [← hH.1]
    exact e1) z1 o1) ⟨Nat.le_trans hS.1 (by omega), fun x h1 h2 => (o1 x (Nat.lt_of_lt_of_le h1 hS.1)).trans (hS.2.1 x h1 h2), hS.2.2⟩ hl
  have h2 : W p l e R s m args below meth c H1 locs (k + 1) (z + N) (G b1 b0 D ar below args s) (F0 m (pc + 2) ls (.ref (lc_a b1 b0 n) :: stk.map (lc_v b1 b0))) := h
  rw [e2] at h2
  exact h2

theorem lc_newC {v : Int} (N : Nat) (hd : decode cc pc = .ok (.newarray .char, 2)) (hac : Cond.arrayClass .char ∈ lc_WS) (hv : v = N) (hN : N < 65536) (hn0 : 0 < n) (hc : k + 1 ≤ R.cells) (hs : z + N ≤ R.slots) (kk : lc_V l own cc nL ret ini R G E (k + 1) (z + N) (n + 1) (pc + 2) lv (.ref n :: stk) (lc_up σ n (lc_aC N (fun _ => 0)))) : lc_V l own cc nL ret ini R G E k z n pc lv (.int (lc_i v) :: stk) σ := by
  intro b1 b0 D ar p e s m args below meth c H locs ls hC hH hS hl
  have hK := hC.2.2.2.2.2.2.1
  have hts := hC.2.2.2.2.2.1
  subst hv
  have e2 : lc_a b1 b0 n = H.size := by rw [lc_a_p hn0, hH.1]
  show W p l e R s m args below meth c H locs k z (G b1 b0 D ar below args s) (F0 m pc ls (.int (lc_i N) :: stk.map (lc_v b1 b0)))
  refine va_newaK (atype := .char) (N := N) hC.1 hC.2.1 (hts _ hac) rfl hd rfl (fun q => by rw [← lc_i_0] at q; have := (lc_i_lt (by omega)).mp q; omega) (by rw [lc_i_cl (by omega)]; omega) (by show N * 2 ≤ 536870912; omega) hc hs rfl fun H1 cA e1 z1 o1 hAr hNm => ?_
  have ecA : cA = ar 2 := Option.some.inj (hNm.symm.trans (hK.2 2 _ rfl).2)
  subst ecA
  have h := kk b1 b0 D ar p e s m args below meth c H1 locs ls hC (lc_H_new hH _ hn0 (by
    show H1[b0 + n]? = some _
    rw [← hH.1]
    exact e1) z1 o1) ⟨Nat.le_trans hS.1 (by omega), fun x h1 h2 => (o1 x (Nat.lt_of_lt_of_le h1 hS.1)).trans (hS.2.1 x h1 h2), hS.2.2⟩ hl
  have h2 : W p l e R s m args below meth c H1 locs (k + 1) (z + N) (G b1 b0 D ar below args s) (F0 m (pc + 2) ls (.ref (lc_a b1 b0 n) :: stk.map (lc_v b1 b0))) := h
  rw [e2] at h2
  exact h2

theorem lc_newS {v : Int} {idx : Nat} (N : Nat) (hd : decode cc pc = .ok (.anewarray idx, 3)) (hcl : Cond.classLink own idx RX7 ∈ lc_WS) (hv : v = N) (hN : N < 65536) (hn0 : 0 < n) (hc : k + 1 ≤ R.cells) (hs : z + N ≤ R.slots) (kk : lc_V l own cc nL ret ini R G E (k + 1) (z + N) (n + 1) (pc + 3) lv (.ref n :: stk) (lc_up σ n (lc_aS N (fun _ => none)))) : lc_V l own cc nL ret ini R G E k z n pc lv (.int (lc_i v) :: stk) σ := by
  intro b1 b0 D ar p e s m args below meth c H locs ls hC hH hS hl
  have hK := hC.2.2.2.2.2.2.1
  have hts := hC.2.2.2.2.2.1
  have hX := hC.2.2.2.2.2.2.2.2.2.2.1
  subst hv
  have e2 : lc_a b1 b0 n = H.size := by rw [lc_a_p hn0, hH.1]
  have eN : (lc_i (N : Int)).toNatClampNeg = N := by rw [lc_i_cl (by omega)]; omega
  show W p l e R s m args below meth c H locs k z (G b1 b0 D ar below args s) (F0 m pc ls (.int (lc_i N) :: stk.map (lc_v b1 b0)))
  refine W.anew hC.1 hC.2.1 hC.2.2.2.2.1 (hts _ hcl) (va_AO.use hX.2.2.2) rfl hd rfl (fun q => by rw [← lc_i_0] at q; have := (lc_i_lt (by omega)).mp q; omega) (by rw [eN]; omega) hc (by rw [eN]; exact hs) fun cA kA comp f1 f2 f3 f4 => ?_
  have ecA : cA = ar 3 := by
    obtain ⟨_, _, _, _, _, g⟩ := (hK.2 3 _ rfl).2
    exact Option.some.inj (f1.symm.trans g)
  subst ecA
  rw [eN]
  generalize hH1 : H.push ({ cls := ar 3, slots := Array.replicate N .null, vm := .none } : Cell) = H1
  have z1 : H1.size = H.size + 1 := by rw [← hH1, Array.size_push]
  have e1 : H1[H.size]? = some (arrV (ar 3) N (fun _ => .null)) := by rw [← hH1, Array.getElem?_push_size, ← arrV_new]
  have o1 : ∀ q : Nat, q < H.size → H1[q]? = H[q]? := fun q hq => by rw [← hH1, Array.getElem?_push, if_neg (Nat.ne_of_lt hq)]
  have h := kk b1 b0 D ar p e s m args below meth c H1 locs ls hC (lc_H_new hH _ hn0 (by
    show H1[b0 + n]? = some _
    rw [← hH.1]
    exact e1) z1 o1) ⟨Nat.le_trans hS.1 (by omega), fun x h1 h2 => (o1 x (Nat.lt_of_lt_of_le h1 hS.1)).trans (hS.2.1 x h1 h2), hS.2.2⟩ hl
  have h2 : W p l e R s m args below meth c H1 locs (k + 1) (z + N) (G b1 b0 D ar below args s) (F0 m (pc + 3) ls (.ref (lc_a b1 b0 n) :: stk.map (lc_v b1 b0))) := h
  rw [e2] at h2
  exact h2

theorem lc_objInit {b idx : Nat} (hd : decode cc pc = .ok (.invokespecial idx, 3)) (hm : Cond.methodLink own idx objectInit ∈ lc_WS) (hb : 0 < b) (hR : 1 ≤ R.frames ∧ (stk.map (fun v => v.category)).sum + 12 ≤ R.locals) (kk : lc_V l own cc nL ret ini R G E k z n (pc + 3) lv stk σ) : lc_V l own cc nL ret ini R G E k z n pc lv (.ref b :: stk) σ := by
  intro b1 b0 D ar p e s m args below meth c H locs ls hC hH hS hl
  have hts := hC.2.2.2.2.2.1
  show W p l e R s m args below meth c H locs k z (G b1 b0 D ar below args s) (F0 m pc ls (.ref (lc_a b1 b0 b) :: stk.map (lc_v b1 b0)))
  refine W.objInit hC.1 hC.2.1 hC.2.2.2.2.1 (hts _ hm) (hts _ lc_obj.1) (hts _ lc_obj.2) rfl (by rw [hC.2.2.2.1]; exact hl.1) rfl hd hR.1 (by rw [lc_cats]; show 2 * 0 + _ + 12 ≤ _; omega) ?_
  exact kk b1 b0 D ar p e s m args below meth c H locs ls hC hH hS hl

theorem lc_after {p : Program} {e : Env} {s : State} {m : MethodId} {args : Array Value} {below : List Frame} {meth : Method} {c : Code} {H : Heap} {locs : List Loc} {ls : Array Slot} {mc ms b1 b0 : Nat} {D : va_G} {ar : Nat → ClassId} {Q' : lc_QT} {a : Array Value} {free : Addr → Prop} {rest st0 : List Value} {Qw : State → Prop} (hr : va_Run p l e R s m args below meth c H locs k z mc ms (F0 m pc ls st0) rest (lc_Q b1 b0 D ar Q' a) free) (hS : va_S (fun q => b0 < q) s.heap H locs) (hf : ∀ q, free q → b0 < q)
    (kk : ∀ (v : Option Value) (n' : Nat) (σ' : lc_S) (H1 : Heap) (locs1 : List Loc), Q' v n' σ' → lc_H b1 b0 n' D ar σ' H1 → va_S (fun q => b0 < q) s.heap H1 locs1 → W p l e R s m args below meth c H1 locs1 (k + mc) (z + ms) Qw (F0 m (pc + 3) ls ((v.map (lc_v b1 b0)).toList ++ rest))) : W p l e R s m args below meth c H locs k z Qw (F0 m pc ls st0) := by
  intro T hT X
  obtain ⟨v, st₀, t, T', L, h0, X', hL, e1, e2, ⟨⟨v', n', σ', hv, hq, hH'⟩, hz, hk⟩, st⟩ := hr T hT X
  cases hv
  rw [h0] at hz hk
  obtain ⟨t2, a1, b1'⟩ := kk v' n' σ' T'.heap (locs ++ L) hq (by rw [e1]; exact hH')
    ⟨Nat.le_trans hS.1 (by rw [e1]; exact hz), fun q h1 h2 => by rw [e1, hk q (Nat.lt_of_lt_of_le h1 hS.1) h2]; exact hS.2.1 q h1 h2, fun q hq => by
      rcases List.mem_append.mp hq with h | h
      · exact hS.2.2 q h
      · exact hf _ (hL q h)⟩ T' rfl X'
  exact ⟨t2, st t2 a1, b1'⟩

theorem lc_callV {y : MethodName} {cc' : ByteArray} {nL' : Nat} {ret' : Option FieldType} {R' : Room} {idx na : Nat} {As : List Value} {Q' : lc_QT} {b ci : Nat} {vs : List Value} (hd : decode cc pc = .ok (.invokevirtual idx, 3)) (hm : Cond.methodLink own idx y ∈ lc_WS) (hY : lc_YV y cc' nL' ret' na) (hb : σ b = some (.inr (ci, vs))) (hci : (vwCl[ci]?).map (fun q => q.1) = some y.cls) (hcon : lc_Con l y cc' nL' ret' R' (.ref b :: As) n σ Q') (hn : As.length = na) (hR : R'.frames + 1 ≤ R.frames ∧ 8 + (nL' + 11) + R'.locals ≤ R.locals) (hal : k + R'.cells ≤ R.cells ∧ z + R'.slots ≤ R.slots) {stk0 : List Value} (hst : stk0 = As.reverse ++ .ref b :: stk) (hcat : (stk.map (fun v => v.category)).sum ≤ 8) (kk : ∀ (v : Option Value) (n' : Nat) (σ' : lc_S), Q' v n' σ' → lc_V l own cc nL ret ini R G E (k + R'.cells) (z + R'.slots) n' (pc + 3) lv (v.toList ++ stk) σ') : lc_V l own cc nL ret ini R G E k z n pc lv stk0 σ := by
  subst hst
  intro b1 b0 D ar p e s m args below meth c H locs ls hC hH hS hl
  have hts := hC.2.2.2.2.2.1
  have e1 := (hH.2 b _ hb).1
  have ea := lc_a_p (b := b1) (b0 := b0) e1
  obtain ⟨r, hr1, cell, g1, g2, g3, -⟩ := (hH.2 b _ hb).2
  have hcls : s.vm.findClass y.cls = some cell.cls := by
    rw [hr1] at hci
    have e2 : r.1 = y.cls := Option.some.inj hci
    rw [g2, ← e2]
    exact (hC.2.2.2.2.2.2.1.1 ci r hr1).2.1
  have hM := hcon b1 b0 D ar
  have eav : (Value.ref b :: As).map (lc_v b1 b0) = .ref (b0 + b) :: As.map (lc_v b1 b0) := by
    show Value.ref (lc_a b1 b0 b) :: _ = _
    rw [ea]
  rw [eav] at hM
  refine lc_after (va_runV (C := y.cls) (As := As.map (lc_v b1 b0)) (rest := stk.map (lc_v b1 b0)) (b := b0 + b) ⟨hC.1, hC.2.1, hC.2.2.2.1, hC.2.2.2.2.1, hts⟩ hM (cwV na hts (lc_goodV hm hY) rfl rfl rfl ⟨rfl, hY.2.2.2.2⟩ hR) ⟨fun a U g mk q => by obtain ⟨q0, q1, q2, q3, q4⟩ := q; exact ⟨q0, q1, q2, va_K.moved (u := U) (U := U.calling g mk a) (Vm.Alike.refl U.vm) q3, lc_X_same (u := U) (U := U.calling g mk a) rfl q4⟩, ⟨cell, g1, by rw [g3]; rfl, hcls⟩, fun U hU hW => ⟨rfl, by rw [hU]; exact Nat.lt_of_lt_of_le hC.2.2.2.2.2.2.2.2.1 hS.1, by rw [hU]; exact hH, va_K.moved hW.alike hC.2.2.2.2.2.2.1, lc_X_warm hW hC.2.2.2.2.2.2.2.2.2.2.1⟩⟩ rfl ((List.length_map _).trans hn) hl.1 (by
    show (As.reverse ++ .ref b :: stk).map (lc_v b1 b0) = _
    rw [List.map_append, List.map_reverse, List.map_cons]
    show _ ++ Value.ref (lc_a b1 b0 b) :: _ = _
    rw [ea]) (by rw [lc_cats]; show 2 * 0 + _ ≤ 8; omega) hd hal) hS (fun q h => h) (fun v n' σ' H1 locs1 hq hH1 hS1 => ?_)
  have h := kk v n' σ' hq b1 b0 D ar p e s m args below meth c H1 locs1 ls hC hH1 hS1 hl
  have e9 : (v.toList ++ stk).map (lc_v b1 b0) = (v.map (lc_v b1 b0)).toList ++ stk.map (lc_v b1 b0) := by cases v <;> rfl
  rw [e9] at h
  exact h

theorem lc_callS {y : MethodName} {cc' : ByteArray} {nL' : Nat} {ret' : Option FieldType} {R' : Room} {idx na : Nat} {As : List Value} {Q' : lc_QT} (hd : decode cc pc = .ok (.invokestatic idx, 3)) (hm : Cond.methodLink own idx y ∈ lc_WS) (hY : lc_YS y cc' nL' ret' na) (hcon : lc_Con l y cc' nL' ret' R' As n σ Q') (hn : As.length = na) (hR : R'.frames + 1 ≤ R.frames ∧ 8 + (nL' + 11) + R'.locals ≤ R.locals) (hal : k + R'.cells ≤ R.cells ∧ z + R'.slots ≤ R.slots) {stk0 : List Value} (hst : stk0 = As.reverse ++ stk) (hcat : (stk.map (fun v => v.category)).sum ≤ 8) (kk : ∀ (v : Option Value) (n' : Nat) (σ' : lc_S), Q' v n' σ' → lc_V l own cc nL ret ini R G E (k + R'.cells) (z + R'.slots) n' (pc + 3) lv (v.toList ++ stk) σ') : lc_V l own cc nL ret ini R G E k z n pc lv stk0 σ := by
  subst hst
  intro b1 b0 D ar p e s m args below meth c H locs ls hC hH hS hl
  have hts := hC.2.2.2.2.2.1
  have hM := hcon b1 b0 D ar
  refine lc_after (va_runS (As := As.map (lc_v b1 b0)) (rest := stk.map (lc_v b1 b0)) ⟨hC.1, hC.2.1, hC.2.2.2.1, hC.2.2.2.2.1, hts⟩ hM (va_cwS na hts (lc_goodS hm hY) rfl rfl rfl hY.2.2.2 hR) ⟨fun a U g mk q => by obtain ⟨q0, q1, q2, q3, q4⟩ := q; exact ⟨q0, q1, q2, va_K.moved (u := U) (U := U.calling g mk a) (Vm.Alike.refl U.vm) q3, lc_X_same (u := U) (U := U.calling g mk a) rfl q4⟩, fun U hU hW => ⟨rfl, by rw [hU]; exact Nat.lt_of_lt_of_le hC.2.2.2.2.2.2.2.2.1 hS.1, by rw [hU]; exact hH, va_K.moved hW.alike hC.2.2.2.2.2.2.1, lc_X_warm hW hC.2.2.2.2.2.2.2.2.2.2.1⟩⟩ rfl ((List.length_map _).trans hn) hl.1 (by
    show (As.reverse ++ stk).map (lc_v b1 b0) = _
    rw [List.map_append, List.map_reverse]) (by rw [lc_cats]; show 2 * 0 + _ ≤ 8; omega) hd hal) hS (fun q h => h) (fun v n' σ' H1 locs1 hq hH1 hS1 => ?_)
  have h := kk v n' σ' hq b1 b0 D ar p e s m args below meth c H1 locs1 ls hC hH1 hS1 hl
  have e9 : (v.toList ++ stk).map (lc_v b1 b0) = (v.map (lc_v b1 b0)).toList ++ stk.map (lc_v b1 b0) := by cases v <;> rfl
  rw [e9] at h
  exact h

theorem lc_callI {y : MethodName} {cc' : ByteArray} {nL' : Nat} {R' : Room} {idx na : Nat} {As : List Value} {Q' : lc_QT} {b : Nat} (hd : decode cc pc = .ok (.invokespecial idx, 3)) (hm : Cond.methodLink own idx y ∈ lc_WS) (hY : lc_YI y cc' nL' na) (hb : 0 < b) (hcon : lc_Con l y cc' nL' none R' (.ref b :: As) n σ Q') (hn : As.length = na) (hR : R'.frames + 1 ≤ R.frames ∧ 8 + (nL' + 11) + R'.locals ≤ R.locals) (hal : k + R'.cells ≤ R.cells ∧ z + R'.slots ≤ R.slots) {stk0 : List Value} (hst : stk0 = As.reverse ++ .ref b :: stk) (hcat : (stk.map (fun v => v.category)).sum ≤ 8) (kk : ∀ (v : Option Value) (n' : Nat) (σ' : lc_S), Q' v n' σ' → lc_V l own cc nL ret ini R G E (k + R'.cells) (z + R'.slots) n' (pc + 3) lv (v.toList ++ stk) σ') : lc_V l own cc nL ret ini R G E k z n pc lv stk0 σ := by
  subst hst
  intro b1 b0 D ar p e s m args below meth c H locs ls hC hH hS hl
  have hts := hC.2.2.2.2.2.1
  have ea := lc_a_p (b := b1) (b0 := b0) hb
  have hM := hcon b1 b0 D ar
  have eav : (Value.ref b :: As).map (lc_v b1 b0) = .ref (b0 + b) :: As.map (lc_v b1 b0) := by
    show Value.ref (lc_a b1 b0 b) :: _ = _
    rw [ea]
  rw [eav] at hM
  refine lc_after (va_runI (As := As.map (lc_v b1 b0)) (rest := stk.map (lc_v b1 b0)) (b := b0 + b) ⟨hC.1, hC.2.1, hC.2.2.2.1, hC.2.2.2.2.1, hts⟩ hM (cwI na hts (lc_goodI hY) rfl rfl rfl (hts _ hY.2.2.1) (hts _ hm) (hts _ hY.2.1) hY.1 hY.2.2.2.2 hR) ⟨fun a U g mk q => by obtain ⟨q0, q1, q2, q3, q4⟩ := q; exact ⟨q0, q1, q2, va_K.moved (u := U) (U := U.calling g mk a) (Vm.Alike.refl U.vm) q3, lc_X_same (u := U) (U := U.calling g mk a) rfl q4⟩, fun U hU hW => ⟨rfl, by rw [hU]; exact Nat.lt_of_lt_of_le hC.2.2.2.2.2.2.2.2.1 hS.1, by rw [hU]; exact hH, va_K.moved hW.alike hC.2.2.2.2.2.2.1, lc_X_warm hW hC.2.2.2.2.2.2.2.2.2.2.1⟩⟩ rfl ((List.length_map _).trans hn) hl.1 (by
    show (As.reverse ++ .ref b :: stk).map (lc_v b1 b0) = _
    rw [List.map_append, List.map_reverse, List.map_cons]
    show _ ++ Value.ref (lc_a b1 b0 b) :: _ = _
    rw [ea]) (by rw [lc_cats]; show 2 * 0 + _ ≤ 8; omega) hd hal) hS (fun q h => h) (fun v n' σ' H1 locs1 hq hH1 hS1 => ?_)
  have h := kk v n' σ' hq b1 b0 D ar p e s m args below meth c H1 locs1 ls hC hH1 hS1 hl
  have e9 : (v.toList ++ stk).map (lc_v b1 b0) = (v.map (lc_v b1 b0)).toList ++ stk.map (lc_v b1 b0) := by cases v <;> rfl
  rw [e9] at h
  exact h

theorem lc_callIN {y : MethodName} {cc' : ByteArray} {nL' : Nat} {R' : Room} {idx na : Nat} {As : List Value} {Q' : lc_QT} {b : Nat} (hd : decode cc pc = .ok (.invokespecial idx, 3)) {host : String} (hm : ∀ U : State, lc_X U → va_Nw (.methodLinkNest own idx y host) U) (hY : lc_YI y cc' nL' na) (hb : 0 < b) (hcon : lc_Con l y cc' nL' none R' (.ref b :: As) n σ Q') (hn : As.length = na) (hR : R'.frames + 1 ≤ R.frames ∧ 8 + (nL' + 11) + R'.locals ≤ R.locals) (hal : k + R'.cells ≤ R.cells ∧ z + R'.slots ≤ R.slots) {stk0 : List Value} (hst : stk0 = As.reverse ++ .ref b :: stk) (hcat : (stk.map (fun v => v.category)).sum ≤ 8) (kk : ∀ (v : Option Value) (n' : Nat) (σ' : lc_S), Q' v n' σ' → lc_V l own cc nL ret ini R G E (k + R'.cells) (z + R'.slots) n' (pc + 3) lv (v.toList ++ stk) σ') : lc_V l own cc nL ret ini R G E k z n pc lv stk0 σ := by
  subst hst
  intro b1 b0 D ar p e s m args below meth c H locs ls hC hH hS hl
  have hts := hC.2.2.2.2.2.1
  have ea := lc_a_p (b := b1) (b0 := b0) hb
  have hM := hcon b1 b0 D ar
  have eav : (Value.ref b :: As).map (lc_v b1 b0) = .ref (b0 + b) :: As.map (lc_v b1 b0) := by
    show Value.ref (lc_a b1 b0 b) :: _ = _
    rw [ea]
  rw [eav] at hM
  refine lc_after (va_runIN (As := As.map (lc_v b1 b0)) (rest := stk.map (lc_v b1 b0)) (b := b0 + b) ⟨hC.1, hC.2.1, hC.2.2.2.1, hC.2.2.2.2.1, hts⟩ hM ⟨va_cnB na hts (lc_goodI hY) rfl rfl rfl (hm s hC.2.2.2.2.2.2.2.2.2.2.1) (hts _ hY.2.2.1) hY.2.2.2.2 hR, hY.1, hts _ hY.2.1⟩ ⟨fun a U g mk q => by obtain ⟨q0, q1, q2, q3, q4⟩ := q; exact ⟨q0, q1, q2, va_K.moved (u := U) (U := U.calling g mk a) (Vm.Alike.refl U.vm) q3, lc_X_same (u := U) (U := U.calling g mk a) rfl q4⟩, fun U hU hW => ⟨rfl, by rw [hU]; exact Nat.lt_of_lt_of_le hC.2.2.2.2.2.2.2.2.1 hS.1, by rw [hU]; exact hH, va_K.moved hW.alike hC.2.2.2.2.2.2.1, lc_X_warm hW hC.2.2.2.2.2.2.2.2.2.2.1⟩⟩ rfl ((List.length_map _).trans hn) hl.1 (by
    show (As.reverse ++ .ref b :: stk).map (lc_v b1 b0) = _
    rw [List.map_append, List.map_reverse, List.map_cons]
    show _ ++ Value.ref (lc_a b1 b0 b) :: _ = _
    rw [ea]) (by rw [lc_cats]; show 2 * 0 + _ ≤ 8; omega) hd hal) hS (fun q h => h) (fun v n' σ' H1 locs1 hq hH1 hS1 => ?_)
  have h := kk v n' σ' hq b1 b0 D ar p e s m args below meth c H1 locs1 ls hC hH1 hS1 hl
  have e9 : (v.toList ++ stk).map (lc_v b1 b0) = (v.map (lc_v b1 b0)).toList ++ stk.map (lc_v b1 b0) := by cases v <;> rfl
  rw [e9] at h
  exact h

theorem lc_mmax {x y : Int} {idx : Nat} (hd : decode cc pc = .ok (.invokestatic idx, 3)) (hm : Cond.methodLink own idx Lib.Math.max.name ∈ lc_WS) (hr : -2147483648 ≤ x ∧ x < 2147483648 ∧ -2147483648 ≤ y ∧ y < 2147483648) (hR : 1 ≤ R.frames ∧ (stk.map (fun v => v.category)).sum + 13 ≤ R.locals ∧ k ≤ R.cells ∧ z ≤ R.slots) (kk : lc_V l own cc nL ret ini R G E k z n (pc + 3) lv (.int (lc_i (if x < y then y else x)) :: stk) σ) : lc_V l own cc nL ret ini R G E k z n pc lv (.int (lc_i y) :: .int (lc_i x) :: stk) σ := by
  intro b1 b0 D ar p e s m args below meth c H locs ls hC hH hS hl
  show W p l e R s m args below meth c H locs k z (G b1 b0 D ar below args s) (F0 m pc ls (.int (lc_i y) :: .int (lc_i x) :: stk.map (lc_v b1 b0)))
  have hts := hC.2.2.2.2.2.1
  refine va_mmax hC.1 hC.2.1 (hC.2.2.2.1.trans hl.1.symm) hC.2.2.2.2.1 (hts _ hm) (hts _ lc_math_max.1) (hts _ lc_math_max.2.1) (hts _ lc_math_max.2.2) hR.1 (by rw [lc_cats]; exact hR.2.1) hR.2.2.1 hR.2.2.2 hd ?_
  have e8 : (if lc_i x < lc_i y then lc_i y else lc_i x) = lc_i (if x < y then y else x) := by
    by_cases h : x < y
    · rw [if_pos ((lc_i_lt hr).mpr h), if_pos h]
    · rw [if_neg (fun q => h ((lc_i_lt hr).mp q)), if_neg h]
  rw [e8]
  exact kk b1 b0 D ar p e s m args below meth c H locs ls hC hH hS hl

theorem lc_mmin {x y : Int} {idx : Nat} (hd : decode cc pc = .ok (.invokestatic idx, 3)) (hm : Cond.methodLink own idx Lib.Math.min.name ∈ lc_WS) (hr : -2147483648 ≤ x ∧ x < 2147483648 ∧ -2147483648 ≤ y ∧ y < 2147483648) (hR : 1 ≤ R.frames ∧ (stk.map (fun v => v.category)).sum + 13 ≤ R.locals ∧ k ≤ R.cells ∧ z ≤ R.slots) (kk : lc_V l own cc nL ret ini R G E k z n (pc + 3) lv (.int (lc_i (if y < x then y else x)) :: stk) σ) : lc_V l own cc nL ret ini R G E k z n pc lv (.int (lc_i y) :: .int (lc_i x) :: stk) σ := by
  intro b1 b0 D ar p e s m args below meth c H locs ls hC hH hS hl
  show W p l e R s m args below meth c H locs k z (G b1 b0 D ar below args s) (F0 m pc ls (.int (lc_i y) :: .int (lc_i x) :: stk.map (lc_v b1 b0)))
  have hts := hC.2.2.2.2.2.1
  refine va_mmin hC.1 hC.2.1 (hC.2.2.2.1.trans hl.1.symm) hC.2.2.2.2.1 (hts _ hm) (hts _ lc_math_min.1) (hts _ lc_math_min.2.1) (hts _ lc_math_min.2.2) hR.1 (by rw [lc_cats]; exact hR.2.1) hR.2.2.1 hR.2.2.2 hd ?_
  have e8 : (if lc_i y < lc_i x then lc_i y else lc_i x) = lc_i (if y < x then y else x) := by
    by_cases h : y < x
    · rw [if_pos ((lc_i_lt (lc_sw hr)).mpr h), if_pos h]
    · rw [if_neg (fun q => h ((lc_i_lt (lc_sw hr)).mp q)), if_neg h]
  rw [e8]
  exact kk b1 b0 D ar p e s m args below meth c H locs ls hC hH hS hl

theorem lc_mabs {x : Int} {idx : Nat} (hd : decode cc pc = .ok (.invokestatic idx, 3)) (hm : Cond.methodLink own idx Lib.Math.abs.name ∈ lc_WS) (hr : -2147483648 ≤ x ∧ x < 2147483648) (hR : 1 ≤ R.frames ∧ (stk.map (fun v => v.category)).sum + 13 ≤ R.locals ∧ k ≤ R.cells ∧ z ≤ R.slots) (kk : lc_V l own cc nL ret ini R G E k z n (pc + 3) lv (.int (lc_i (if 0 ≤ x then x else 0 - x)) :: stk) σ) : lc_V l own cc nL ret ini R G E k z n pc lv (.int (lc_i x) :: stk) σ := by
  intro b1 b0 D ar p e s m args below meth c H locs ls hC hH hS hl
  show W p l e R s m args below meth c H locs k z (G b1 b0 D ar below args s) (F0 m pc ls (.int (lc_i x) :: stk.map (lc_v b1 b0)))
  have hts := hC.2.2.2.2.2.1
  refine va_mabs hC.1 hC.2.1 (hC.2.2.2.1.trans hl.1.symm) hC.2.2.2.2.1 (hts _ hm) (hts _ lc_math_abs.1) (hts _ lc_math_abs.2.1) (hts _ lc_math_abs.2.2) hR.1 (by rw [lc_cats]; exact hR.2.1) hR.2.2.1 hR.2.2.2 hd ?_
  have e8 : (if 0 ≤ lc_i x then lc_i x else 0 - lc_i x) = lc_i (if 0 ≤ x then x else 0 - x) := by
    rw [← lc_i_0]
    by_cases h : 0 ≤ x
    · rw [if_pos ((lc_i_le (lc_sw (lc_r0 hr))).mpr h), if_pos h]
    · rw [if_neg (fun q => h ((lc_i_le (lc_sw (lc_r0 hr))).mp q)), if_neg h, ← lc_i_sub]
  rw [e8]
  exact kk b1 b0 D ar p e s m args below meth c H locs ls hC hH hS hl

end LcRows
end
section
/-! rows that name the store behind them by facts (written by wip/whole/gen/kit2.py) -/
def lc_Rd (d : Nat) : Room := { frames := d, cells := 0, slots := 0, locals := 60 * d }
def lc_Ra (d c s : Nat) : Room := { frames := d, cells := c, slots := s, locals := 60 * d }
theorem lc_some {a b : Int} (h : a = b) : some (Value.int (lc_i a)) = some (Value.int (lc_i b)) := by rw [h]
theorem lc_b1 : narrow .boolean (.int (lc_i 1)) = .int (lc_i 1) := rfl
theorem lc_b0 : narrow .boolean (.int (lc_i 0)) = .int (lc_i 0) := rfl
theorem lc_bite {P : Prop} [Decidable P] : narrow .boolean (.int (lc_i (if P then 1 else 0))) = .int (lc_i (if P then 1 else 0)) := by
  by_cases h : P
  · rw [if_pos h]; rfl
  · rw [if_neg h]; rfl
theorem lc_refArr {t : FieldType} (y : Nat) : narrow (.array t) (.ref y) = .ref y ∧ fits (.array t) (.ref y) = true := ⟨rfl, rfl⟩
theorem lc_refObj {t : String} (y : Nat) : narrow (.object t) (.ref y) = .ref y ∧ fits (.object t) (.ref y) = true := ⟨rfl, rfl⟩

section LcRows2
variable {l : Launch} {own : String} {cc : ByteArray} {nL : Nat} {ret : Option FieldType} {ini : Bool} {R : Room} {G : lc_GT} {E : lc_ET} {k z n pc : Nat} {lv : List (Nat × Value)} {stk : List Value} {σ : lc_S}

theorem lc_wI {b idx ci q : Nat} {ty : FieldType} {vs vs' : List Value} {x : Int32} (hd : decode cc pc = .ok (.putfield idx, 3)) (hF : lc_FL own idx ci q false ty) (hb : σ b = some (.inr (ci, vs))) (hq : q < vs.length) (hx : narrow ty (.int x) = .int x) (hf : fits ty (.int x) = true) (hv : vs.set q (.int x) = vs') (kk : ∀ σ1 : lc_S, σ1 b = some ((.inr (ci, vs') : lc_Cel)) → (∀ i : Nat, i ≠ b → σ1 i = σ i) → lc_V l own cc nL ret ini R G E k z n (pc + 3) lv stk σ1) : lc_V l own cc nL ret ini R G E k z n pc lv (.int x :: .ref b :: stk) σ := by
  subst hv
  exact lc_putI hd hF hb hq hx hf (kk _ (lc_up_s _ _ _) (fun i h => lc_up_n _ _ h))

theorem lc_wR {b idx ci q : Nat} {ty : FieldType} {vs vs' : List Value} {x : Nat} (hd : decode cc pc = .ok (.putfield idx, 3)) (hF : lc_FL own idx ci q false ty) (hb : σ b = some (.inr (ci, vs))) (hq : q < vs.length) (hx : ∀ y : Nat, narrow ty (.ref y) = .ref y ∧ fits ty (.ref y) = true) (hv : vs.set q (.ref x) = vs') (kk : ∀ σ1 : lc_S, σ1 b = some ((.inr (ci, vs') : lc_Cel)) → (∀ i : Nat, i ≠ b → σ1 i = σ i) → lc_V l own cc nL ret ini R G E k z n (pc + 3) lv stk σ1) : lc_V l own cc nL ret ini R G E k z n pc lv (.ref x :: .ref b :: stk) σ := by
  subst hv
  exact lc_putR hd hF hb hq hx (kk _ (lc_up_s _ _ _) (fun i h => lc_up_n _ _ h))

theorem lc_wF {b idx ci q : Nat} {ty : FieldType} {vs vs' : List Value} {x : Nat} (hd : decode cc pc = .ok (.putfield idx, 3)) (hF : lc_FL own idx ci q true ty) (hb : σ b = some (.inr (ci, vs))) (hq : q < vs.length) (hini : ini = true) (hown : (vwCl[ci]?).map (fun q => q.1) = some own) (hx : ∀ y : Nat, narrow ty (.ref y) = .ref y ∧ fits ty (.ref y) = true) (hv : vs.set q (.ref x) = vs') (kk : ∀ σ1 : lc_S, σ1 b = some ((.inr (ci, vs') : lc_Cel)) → (∀ i : Nat, i ≠ b → σ1 i = σ i) → lc_V l own cc nL ret ini R G E k z n (pc + 3) lv stk σ1) : lc_V l own cc nL ret ini R G E k z n pc lv (.ref x :: .ref b :: stk) σ := by
  subst hv
  exact lc_putF hd hF hb hq hini hown hx (kk _ (lc_up_s _ _ _) (fun i h => lc_up_n _ _ h))

theorem lc_sI {a m : Nat} {f : Int → Int} {j : Int} {x : Int} (hd : decode cc pc = .ok (.iastore, 1)) (ha : σ a = some (lc_aI m f)) (hj : 0 ≤ j ∧ j < m) (hm : m < 2147483648) (kk : ∀ σ1 : lc_S, σ1 a = some (lc_aI m (lc_u f j x)) → (∀ i : Nat, i ≠ a → σ1 i = σ i) → lc_V l own cc nL ret ini R G E k z n (pc + 1) lv stk σ1) : lc_V l own cc nL ret ini R G E k z n pc lv (.int (lc_i x) :: .int (lc_i j) :: .ref a :: stk) σ := lc_iast hd ha hj hm (kk _ (lc_up_s _ _ _) (fun i h => lc_up_n _ _ h))

theorem lc_sJ {a m : Nat} {f : Int → Int64} {j : Int} {x : Int64} (hd : decode cc pc = .ok (.lastore, 1)) (ha : σ a = some (lc_aJ m f)) (hj : 0 ≤ j ∧ j < m) (hm : m < 2147483648) (kk : ∀ σ1 : lc_S, σ1 a = some (lc_aJ m (lc_u f j x)) → (∀ i : Nat, i ≠ a → σ1 i = σ i) → lc_V l own cc nL ret ini R G E k z n (pc + 1) lv stk σ1) : lc_V l own cc nL ret ini R G E k z n pc lv (.long x :: .int (lc_i j) :: .ref a :: stk) σ := lc_last hd ha hj hm (kk _ (lc_up_s _ _ _) (fun i h => lc_up_n _ _ h))

theorem lc_sC {a m : Nat} {f : Int → Int} {j : Int} {x : Int} (hd : decode cc pc = .ok (.castore, 1)) (ha : σ a = some (lc_aC m f)) (hj : 0 ≤ j ∧ j < m) (hm : m < 2147483648) (hx : narrow .char (.int (lc_i x)) = .int (lc_i x)) (kk : ∀ σ1 : lc_S, σ1 a = some (lc_aC m (lc_u f j x)) → (∀ i : Nat, i ≠ a → σ1 i = σ i) → lc_V l own cc nL ret ini R G E k z n (pc + 1) lv stk σ1) : lc_V l own cc nL ret ini R G E k z n pc lv (.int (lc_i x) :: .int (lc_i j) :: .ref a :: stk) σ := lc_cast hd ha hj hm hx (kk _ (lc_up_s _ _ _) (fun i h => lc_up_n _ _ h))

theorem lc_sS {a m x : Nat} {f : Int → Option Nat} {j : Int} {vs : List Value} (hd : decode cc pc = .ok (.aastore, 1)) (ha : σ a = some (lc_aS m f)) (hj : 0 ≤ j ∧ j < m) (hm : m < 2147483648) (hx : σ x = some (.inr (7, vs))) (kk : ∀ σ1 : lc_S, σ1 a = some (lc_aS m (lc_u f j (some x))) → (∀ i : Nat, i ≠ a → σ1 i = σ i) → lc_V l own cc nL ret ini R G E k z n (pc + 1) lv stk σ1) : lc_V l own cc nL ret ini R G E k z n pc lv (.ref x :: .int (lc_i j) :: .ref a :: stk) σ := lc_aast hd ha hj hm hx (kk _ (lc_up_s _ _ _) (fun i h => lc_up_n _ _ h))

theorem lc_extI {a m : Nat} {f g : Int → Int} (ha : σ a = some (lc_aI m f)) (h : ∀ i : Int, 0 ≤ i → i < m → f i = g i) (kk : ∀ σ1 : lc_S, σ1 a = some (lc_aI m g) → (∀ i : Nat, i ≠ a → σ1 i = σ i) → lc_V l own cc nL ret ini R G E k z n pc lv stk σ1) : lc_V l own cc nL ret ini R G E k z n pc lv stk σ := by
  intro b1 b0 D ar p e s mm args below meth c H locs ls hC hH hS hl
  refine kk _ (lc_up_s σ a (lc_aI m g)) (fun i h => lc_up_n _ _ h) b1 b0 D ar p e s mm args below meth c H locs ls hC (lc_H_put hH _ (hH.2 a _ ha).1 ?_ rfl (fun _ _ => rfl)) hS hl
  refine ((hH.2 a _ ha).2 : H[b0 + a]? = _).trans (congrArg some ?_)
  show arrV (ar 0) m (fun i => Value.int (lc_i (f i))) = arrV (ar 0) m (fun i => Value.int (lc_i (g i)))
  refine lc_arr_ext _ _ _ _ fun i hi => ?_
  show Value.int (lc_i (f i)) = Value.int (lc_i (g i))
  rw [h i (by omega) (by omega)]

theorem lc_extJ {a m : Nat} {f g : Int → Int64} (ha : σ a = some (lc_aJ m f)) (h : ∀ i : Int, 0 ≤ i → i < m → f i = g i) (kk : ∀ σ1 : lc_S, σ1 a = some (lc_aJ m g) → (∀ i : Nat, i ≠ a → σ1 i = σ i) → lc_V l own cc nL ret ini R G E k z n pc lv stk σ1) : lc_V l own cc nL ret ini R G E k z n pc lv stk σ := by
  intro b1 b0 D ar p e s mm args below meth c H locs ls hC hH hS hl
  refine kk _ (lc_up_s σ a (lc_aJ m g)) (fun i h => lc_up_n _ _ h) b1 b0 D ar p e s mm args below meth c H locs ls hC (lc_H_put hH _ (hH.2 a _ ha).1 ?_ rfl (fun _ _ => rfl)) hS hl
  refine ((hH.2 a _ ha).2 : H[b0 + a]? = _).trans (congrArg some ?_)
  show arrV (ar 1) m (fun i => Value.long (f i)) = arrV (ar 1) m (fun i => Value.long (g i))
  refine lc_arr_ext _ _ _ _ fun i hi => ?_
  show Value.long (f i) = Value.long (g i)
  rw [h i (by omega) (by omega)]

theorem lc_extC {a m : Nat} {f g : Int → Int} (ha : σ a = some (lc_aC m f)) (h : ∀ i : Int, 0 ≤ i → i < m → f i = g i) (kk : ∀ σ1 : lc_S, σ1 a = some (lc_aC m g) → (∀ i : Nat, i ≠ a → σ1 i = σ i) → lc_V l own cc nL ret ini R G E k z n pc lv stk σ1) : lc_V l own cc nL ret ini R G E k z n pc lv stk σ := by
  intro b1 b0 D ar p e s mm args below meth c H locs ls hC hH hS hl
  refine kk _ (lc_up_s σ a (lc_aC m g)) (fun i h => lc_up_n _ _ h) b1 b0 D ar p e s mm args below meth c H locs ls hC (lc_H_put hH _ (hH.2 a _ ha).1 ?_ rfl (fun _ _ => rfl)) hS hl
  refine ((hH.2 a _ ha).2 : H[b0 + a]? = _).trans (congrArg some ?_)
  show arrV (ar 2) m (fun i => Value.int (lc_i (f i))) = arrV (ar 2) m (fun i => Value.int (lc_i (g i)))
  refine lc_arr_ext _ _ _ _ fun i hi => ?_
  show Value.int (lc_i (f i)) = Value.int (lc_i (g i))
  rw [h i (by omega) (by omega)]

theorem lc_extS {a m : Nat} {f g : Int → Option Nat} (ha : σ a = some (lc_aS m f)) (h : ∀ i : Int, 0 ≤ i → i < m → f i = g i) (kk : ∀ σ1 : lc_S, σ1 a = some (lc_aS m g) → (∀ i : Nat, i ≠ a → σ1 i = σ i) → lc_V l own cc nL ret ini R G E k z n pc lv stk σ1) : lc_V l own cc nL ret ini R G E k z n pc lv stk σ := by
  intro b1 b0 D ar p e s mm args below meth c H locs ls hC hH hS hl
  refine kk _ (lc_up_s σ a (lc_aS m g)) (fun i h => lc_up_n _ _ h) b1 b0 D ar p e s mm args below meth c H locs ls hC (lc_H_put hH _ (hH.2 a _ ha).1 ?_ rfl (fun _ _ => rfl)) hS hl
  refine ((hH.2 a _ ha).2 : H[b0 + a]? = _).trans (congrArg some ?_)
  show arrV (ar 3) m (fun i => va_rf ((f i).map (lc_a b1 b0))) = arrV (ar 3) m (fun i => va_rf ((g i).map (lc_a b1 b0)))
  refine lc_arr_ext _ _ _ _ fun i hi => ?_
  show va_rf ((f i).map (lc_a b1 b0)) = va_rf ((g i).map (lc_a b1 b0))
  rw [h i (by omega) (by omega)]

theorem lc_pick {lv' : List (Nat × Value)} (ks : List Nat) (h : lv_pick lv ks = lv') (kk : lc_V l own cc nL ret ini R G E k z n pc lv' stk σ) : lc_V l own cc nL ret ini R G E k z n pc lv stk σ := by
  refine lc_locs (lv' := lv') (fun q hq => ?_) kk
  rw [← h] at hq
  obtain ⟨i, -, hi⟩ := List.mem_filterMap.mp hq
  exact List.mem_of_getElem? hi

theorem lc_lveq {lv' : List (Nat × Value)} (h : lv = lv') (kk : lc_V l own cc nL ret ini R G E k z n pc lv' stk σ) : lc_V l own cc nL ret ini R G E k z n pc lv stk σ := by
  rw [h]
  exact kk

theorem lc_if_eqB {P : Prop} [Decidable P] {off : Int} {tgt : Nat} (hd : decode cc pc = .ok (.ifCond .eq off, 3)) (ht : (pc : Int) + off = (tgt : Int)) (kt : ¬ P → lc_V l own cc nL ret ini R G E k z n tgt lv stk σ) (kf : P → lc_V l own cc nL ret ini R G E k z n (pc + 3) lv stk σ) : lc_V l own cc nL ret ini R G E k z n pc lv (.int (lc_i (if P then 1 else 0)) :: stk) σ := by
  refine lc_if_eq hd ht ?_ (fun h => kt ?_) (fun h => kf ?_)
  · by_cases h : P
    · rw [if_pos h]; omega
    · rw [if_neg h]; omega
  · intro q
    rw [if_pos q] at h
    exact absurd h (by decide)
  · by_cases q : P
    · exact q
    · rw [if_neg q] at h
      exact absurd rfl h

theorem lc_if_neB {P : Prop} [Decidable P] {off : Int} {tgt : Nat} (hd : decode cc pc = .ok (.ifCond .ne off, 3)) (ht : (pc : Int) + off = (tgt : Int)) (kt : P → lc_V l own cc nL ret ini R G E k z n tgt lv stk σ) (kf : ¬ P → lc_V l own cc nL ret ini R G E k z n (pc + 3) lv stk σ) : lc_V l own cc nL ret ini R G E k z n pc lv (.int (lc_i (if P then 1 else 0)) :: stk) σ := by
  refine lc_if_ne hd ht ?_ (fun h => kt ?_) (fun h => kf ?_)
  · by_cases h : P
    · rw [if_pos h]; omega
    · rw [if_neg h]; omega
  · by_cases q : P
    · exact q
    · rw [if_neg q] at h
      exact absurd rfl h
  · intro q
    rw [if_pos q] at h
    exact absurd h (by decide)

theorem lc_swC {dflt lo hi : Int} {offs : Array Int} {len : Nat} {a v : Int} {off : Int} {tgt : Nat} (hd : decode cc pc = .ok (.tableswitch dflt lo hi offs, len)) (ha : a = v) (h1 : lo ≤ v ∧ v ≤ hi ∧ -2147483648 ≤ v ∧ v < 2147483648) (ho : offs[(v - lo).toNat]? = some off) (ht : (pc : Int) + off = (tgt : Int)) (kk : lc_V l own cc nL ret ini R G E k z n tgt lv stk σ) : lc_V l own cc nL ret ini R G E k z n pc lv (.int (lc_i a) :: stk) σ := by
  subst ha
  have e : (lc_i a).toInt = a := lc_i_toInt h1.2.2.1 h1.2.2.2
  exact lc_swIn hd (by rw [e]; omega) (by rw [e]; omega) (by rw [e]; exact ho) ht kk

theorem lc_swD {dflt lo hi : Int} {offs : Array Int} {len : Nat} {a : Int} {tgt : Nat} (hd : decode cc pc = .ok (.tableswitch dflt lo hi offs, len)) (hr : -2147483648 ≤ a ∧ a < 2147483648) (h : a < lo ∨ hi < a) (ht : (pc : Int) + dflt = (tgt : Int)) (kk : lc_V l own cc nL ret ini R G E k z n tgt lv stk σ) : lc_V l own cc nL ret ini R G E k z n pc lv (.int (lc_i a) :: stk) σ := by
  have e : (lc_i a).toInt = a := lc_i_toInt hr.1 hr.2
  exact lc_swOut hd (by rw [e]; exact h) ht kk

end LcRows2
end
section
/-! LoopCaptures$Board -/
def lc_d (x k : Int) : Int := if x = k then 1 else 0
def lc_cnt (f : Int → Int) (k : Int) : Nat → Int
  | 0 => 0
  | n + 1 => lc_cnt f k n + lc_d (f n) k
theorem lc_cnt_ext {f g : Int → Int} {k : Int} : ∀ (N : Nat), (∀ i : Int, 0 ≤ i → i < N → f i = g i) → lc_cnt f k N = lc_cnt g k N
  | 0, _ => rfl
  | N + 1, h => by
    unfold lc_cnt
    rw [lc_cnt_ext N (fun i h1 h2 => h i h1 (by omega)), h N (by omega) (by omega)]
theorem lc_cnt_u {f : Int → Int} {k p w : Int} : ∀ (N : Nat), 0 ≤ p → p < N → lc_cnt (lc_u f p w) k N = lc_cnt f k N - lc_d (f p) k + lc_d w k
  | 0, h1, h2 => absurd h2 (by omega)
  | N + 1, h1, h2 => by
    unfold lc_cnt
    by_cases h : p = N
    · subst h
      rw [lc_u_s, lc_cnt_ext (g := f) N (fun i h3 h4 => lc_u_n _ _ (by omega))]
      omega
    · rw [lc_u_n _ _ (by omega), lc_cnt_u N h1 (by omega)]
      omega
theorem lc_d_r (x k : Int) : 0 ≤ lc_d x k ∧ lc_d x k ≤ 1 := by
  unfold lc_d
  split <;> omega
theorem lc_cnt_r (f : Int → Int) (k : Int) : ∀ (N : Nat), 0 ≤ lc_cnt f k N ∧ lc_cnt f k N ≤ N
  | 0 => by unfold lc_cnt; omega
  | N + 1 => by
    have h1 := lc_cnt_r f k N
    have h2 := lc_d_r (f N) k
    unfold lc_cnt
    omega
def lc_f0 (p : Int) : Int := if p < 12 then 1 else if p < 24 then 0 else 2
def lc_res (o t q m : Int) : Int := if o = 0 ∧ t = 0 then 3 else if t = 0 then 1 else if o = 0 then 2 else if m ≤ q then 3 else 0
def lc_key (f : Int → Int) (s : Int) : Nat → Int
  | 0 => s
  | k + 1 => lc_key f s k * 3 + f k
def lc_j (z : Int) : Int64 := Int64.ofInt z
theorem lc_j_add (a b : Int) : lc_j a + lc_j b = lc_j (a + b) := (Int64.ofInt_add a b).symm
theorem lc_j_mul (a b : Int) : lc_j a * lc_j b = lc_j (a * b) := (Int64.ofInt_mul a b).symm
theorem lc_j_i {z : Int} (h : -2147483648 ≤ z ∧ z < 2147483648) : (lc_i z).toInt64 = lc_j z := by
  unfold lc_i lc_j
  exact Int32.toInt64_ofInt (by have : Int32.minValue.toInt = -2147483648 := by decide
                                omega) (by have : Int32.maxValue.toInt = 2147483647 := by decide
                                           omega)
theorem lc_j_3 : (3 : Int64) = lc_j 3 := by decide
theorem lc_ub {α : Type} {fi g : Int → α} {i : Int} (h : ∀ j : Int, 0 ≤ j → j < i → fi j = g j) : ∀ j : Int, 0 ≤ j → j < i + 1 → lc_u fi i (g i) j = g j := by
  intro j h1 h2
  by_cases e : j = i
  · rw [e, lc_u_s]
  · rw [lc_u_n _ _ e]
    exact h j h1 (by omega)
theorem lc_ua {α : Type} {fi f : Int → α} {i N : Int} {w : α} (h : ∀ j : Int, i ≤ j → j < N → fi j = f j) : ∀ j : Int, i + 1 ≤ j → j < N → lc_u fi i w j = f j := by
  intro j h1 h2
  rw [lc_u_n _ _ (by omega)]
  exact h j (by omega) h2
theorem lc_f0_r (p : Int) : -2147483648 ≤ lc_f0 p ∧ lc_f0 p < 2147483648 := by unfold lc_f0; (repeat' split) <;> omega
theorem lc_f0_1 : lc_cnt lc_f0 1 36 = 12 := by decide
theorem lc_f0_2 : lc_cnt lc_f0 2 36 = 12 := by decide
theorem lc_rng2 {x : Int} (h : 0 ≤ x ∧ x ≤ 2) : -2147483648 ≤ x ∧ x < 2147483648 := by omega

set_option maxRecDepth 100000 in
set_option maxHeartbeats 4000000 in
theorem lc_cX0_firstSideAt (l : Launch) (n : Nat) (p : Int) (σ : lc_S)  (hp : 0 ≤ p ∧ p < 36) : lc_Con l yX0_firstSideAt cX0_firstSideAt 1 (some .int) (lc_Rd 0) [.int (lc_i (p))] n σ (fun v n2 σ2 => v = some (.int (lc_i (lc_f0 p))) ∧ n = n2 ∧ σ = σ2) := by
  refine lc_con RX0 false (by decide) rfl (fun h => absurd h (by decide)) (Nat.le_of_ble_eq_true rfl) ?_
  suffices H : ∀ Q : lc_QT, (∀ v n2 σ2, (fun v n2 σ2 => v = some (.int (lc_i (lc_f0 p))) ∧ n = n2 ∧ σ = σ2 : lc_QT) v n2 σ2 → Q v n2 σ2) → lc_V l RX0 cX0_firstSideAt 1 (some .int) false (lc_Rd 0) (lc_G Q 0 0) lc_E0 0 0 n 0 [(0, .int (lc_i (p)))] [] σ from H _ (fun _ _ _ h => h)
  intro Q hQ
  refine lc_iload_n dX0_firstSideAt_0 rfl 0 rfl ?_
  refine lc_bipush dX0_firstSideAt_1 (by decide) ?_
  refine lc_icmp_ge (tgt := 8) dX0_firstSideAt_3 (by decide) (by omega) (fun h_3_0 => ?_) (fun h_3_0 => ?_)
  · skip
    refine lc_iload_n dX0_firstSideAt_8 rfl 0 rfl ?_
    refine lc_bipush dX0_firstSideAt_9 (by decide) ?_
    refine lc_icmp_ge (tgt := 18) dX0_firstSideAt_11 (by decide) (by omega) (fun h_11_1 => ?_) (fun h_11_1 => ?_)
    · skip
      refine lc_iconst dX0_firstSideAt_18 ?_
      exact lc_iret dX0_firstSideAt_19 rfl (Nat.le_of_ble_eq_true rfl) (Nat.le_of_ble_eq_true rfl) (hQ _ _ _ ⟨lc_some (by unfold lc_f0; (repeat' split) <;> omega), rfl, rfl⟩)
    · skip
      refine lc_iconst dX0_firstSideAt_14 ?_
      refine lc_goto (tgt := 19) dX0_firstSideAt_15 (by decide) ?_
      exact lc_iret dX0_firstSideAt_19 rfl (Nat.le_of_ble_eq_true rfl) (Nat.le_of_ble_eq_true rfl) (hQ _ _ _ ⟨lc_some (by unfold lc_f0; (repeat' split) <;> omega), rfl, rfl⟩)
  · skip
    refine lc_iconst dX0_firstSideAt_6 ?_
    exact lc_iret dX0_firstSideAt_7 rfl (Nat.le_of_ble_eq_true rfl) (Nat.le_of_ble_eq_true rfl) (hQ _ _ _ ⟨lc_some (by unfold lc_f0; (repeat' split) <;> omega), rfl, rfl⟩)

set_option maxRecDepth 100000 in
set_option maxHeartbeats 4000000 in
/-- Board.at: what stands at a point -/
theorem lc_cX0_at (l : Launch) (n : Nat) (b : Nat) (f : Int → Int) (o t s q m : Int) (p : Int) (σ : lc_S) (h0_0 : σ (b) = some (.inr (0, [.ref (b + 1), .int (lc_i (o)), .int (lc_i (t)), .int (lc_i (s)), .int (lc_i (q)), .int (lc_i (m))]) : lc_Cel)) (h0_1 : σ (b + 1) = some (lc_aI 36 (f))) (hp : -2147483648 ≤ p ∧ p < 2147483648) : lc_Con l yX0_at cX0_at 2 (some .int) (lc_Rd 0) [.ref (b), .int (lc_i (p))] n σ (fun v n2 σ2 => v = some (.int (lc_i (if 0 ≤ p ∧ p < 36 then f p else 0))) ∧ n = n2 ∧ σ = σ2) := by
  refine lc_con RX0 false (by decide) rfl (fun h => absurd h (by decide)) (Nat.le_of_ble_eq_true rfl) ?_
  suffices H : ∀ Q : lc_QT, (∀ v n2 σ2, (fun v n2 σ2 => v = some (.int (lc_i (if 0 ≤ p ∧ p < 36 then f p else 0))) ∧ n = n2 ∧ σ = σ2 : lc_QT) v n2 σ2 → Q v n2 σ2) → lc_V l RX0 cX0_at 2 (some .int) false (lc_Rd 0) (lc_G Q 0 0) lc_E0 0 0 n 0 [(0, .ref (b)), (1, .int (lc_i (p)))] [] σ from H _ (fun _ _ _ h => h)
  intro Q hQ
  refine lc_iload_n dX0_at_0 rfl 1 rfl ?_
  refine lc_if_lt (tgt := 22) dX0_at_1 (by decide) (by omega) (fun h_1_0 => ?_) (fun h_1_0 => ?_)
  · skip
    refine lc_iconst dX0_at_22 ?_
    exact lc_iret dX0_at_23 rfl (Nat.le_of_ble_eq_true rfl) (Nat.le_of_ble_eq_true rfl) (hQ _ _ _ ⟨lc_some (by (repeat' split) <;> omega), rfl, rfl⟩)
  · skip
    refine lc_iload_n dX0_at_4 rfl 1 rfl ?_
    refine lc_aload_n dX0_at_5 rfl 0 rfl ?_
    refine lc_get dX0_at_6 lc_fX0_9 h0_0 rfl ?_
    refine lc_alen dX0_at_9 h0_1 (by decide) ?_
    refine lc_icmp_ge (tgt := 22) dX0_at_10 (by decide) (by omega) (fun h_10_1 => ?_) (fun h_10_1 => ?_)
    · skip
      refine lc_iconst dX0_at_22 ?_
      exact lc_iret dX0_at_23 rfl (Nat.le_of_ble_eq_true rfl) (Nat.le_of_ble_eq_true rfl) (hQ _ _ _ ⟨lc_some (by (repeat' split) <;> omega), rfl, rfl⟩)
    · skip
      refine lc_aload_n dX0_at_13 rfl 0 rfl ?_
      refine lc_get dX0_at_14 lc_fX0_9 h0_0 rfl ?_
      refine lc_iload_n dX0_at_17 rfl 1 rfl ?_
      refine lc_iald dX0_at_18 h0_1 (by omega) (by decide) ?_
      refine lc_goto (tgt := 23) dX0_at_19 (by decide) ?_
      exact lc_iret dX0_at_23 rfl (Nat.le_of_ble_eq_true rfl) (Nat.le_of_ble_eq_true rfl) (hQ _ _ _ ⟨lc_some (by (repeat' split) <;> omega), rfl, rfl⟩)

set_option maxRecDepth 100000 in
set_option maxHeartbeats 4000000 in
/-- Board.tally -/
theorem lc_cX0_tally (l : Launch) (n : Nat) (b : Nat) (f : Int → Int) (o t s q m : Int) (w c : Int) (σ : lc_S) (h0_0 : σ (b) = some (.inr (0, [.ref (b + 1), .int (lc_i (o)), .int (lc_i (t)), .int (lc_i (s)), .int (lc_i (q)), .int (lc_i (m))]) : lc_Cel)) (hw : -2147483648 ≤ w ∧ w < 2147483648) : lc_Con l yX0_tally cX0_tally 3 none (lc_Rd 0) [.ref (b), .int (lc_i (w)), .int (lc_i (c))] n σ (fun v n2 σ2 => v = none ∧ n = n2 ∧ σ2 (b) = some (.inr (0, [.ref (b + 1), .int (lc_i (if w = 1 then o + c else o)), .int (lc_i (if w = 2 then t + c else t)), .int (lc_i (s)), .int (lc_i (q)), .int (lc_i (m))]) : lc_Cel) ∧ ∀ i : Nat, i ≠ b → σ2 i = σ i) := by
  refine lc_con RX0 false (by decide) rfl (fun h => absurd h (by decide)) (Nat.le_of_ble_eq_true rfl) ?_
  suffices H : ∀ Q : lc_QT, (∀ v n2 σ2, (fun v n2 σ2 => v = none ∧ n = n2 ∧ σ2 (b) = some (.inr (0, [.ref (b + 1), .int (lc_i (if w = 1 then o + c else o)), .int (lc_i (if w = 2 then t + c else t)), .int (lc_i (s)), .int (lc_i (q)), .int (lc_i (m))]) : lc_Cel) ∧ ∀ i : Nat, i ≠ b → σ2 i = σ i : lc_QT) v n2 σ2 → Q v n2 σ2) → lc_V l RX0 cX0_tally 3 none false (lc_Rd 0) (lc_G Q 0 0) lc_E0 0 0 n 0 [(0, .ref (b)), (1, .int (lc_i (w))), (2, .int (lc_i (c)))] [] σ from H _ (fun _ _ _ h => h)
  intro Q hQ
  refine lc_iload_n dX0_tally_0 rfl 1 rfl ?_
  refine lc_iconst dX0_tally_1 ?_
  refine lc_icmp_ne (tgt := 18) dX0_tally_2 (by decide) (by omega) (fun h_2_0 => ?_) (fun h_2_0 => ?_)
  · skip
    refine lc_iload_n dX0_tally_18 rfl 1 rfl ?_
    refine lc_iconst dX0_tally_19 ?_
    refine lc_icmp_ne (tgt := 33) dX0_tally_20 (by decide) (by omega) (fun h_20_1 => ?_) (fun h_20_1 => ?_)
    · skip
      exact lc_vret dX0_tally_33 rfl (Nat.le_of_ble_eq_true rfl) (Nat.le_of_ble_eq_true rfl) (hQ _ _ _ ⟨rfl, rfl, (by rw [h0_0, show (if w = 1 then o + c else o : Int) = o from (by (repeat' split) <;> omega), show (if w = 2 then t + c else t : Int) = t from (by (repeat' split) <;> omega)]), (fun i _ => rfl)⟩)
    · skip
      refine lc_aload_n dX0_tally_23 rfl 0 rfl ?_
      refine lc_dup dX0_tally_24 rfl ?_
      refine lc_get dX0_tally_25 lc_fX0_39 h0_0 rfl ?_
      refine lc_iload_n dX0_tally_28 rfl 2 rfl ?_
      refine lc_iadd dX0_tally_29 ?_
      refine lc_wI (vs' := [.ref (b + 1), .int (lc_i (o)), .int (lc_i ((t) + (c))), .int (lc_i (s)), .int (lc_i (q)), .int (lc_i (m))]) dX0_tally_30 lc_fX0_39 h0_0 (Nat.le_of_ble_eq_true rfl) rfl rfl rfl (fun σ3 h4 fr5 => ?_)
      exact lc_vret dX0_tally_33 rfl (Nat.le_of_ble_eq_true rfl) (Nat.le_of_ble_eq_true rfl) (hQ _ _ _ ⟨rfl, rfl, (by rw [h4, show (if w = 1 then o + c else o : Int) = o from (by (repeat' split) <;> omega), show (if w = 2 then t + c else t : Int) = (t) + (c) from (by (repeat' split) <;> omega)]), (fun i _ => (fr5 i (by omega)))⟩)
  · skip
    refine lc_aload_n dX0_tally_5 rfl 0 rfl ?_
    refine lc_dup dX0_tally_6 rfl ?_
    refine lc_get dX0_tally_7 lc_fX0_36 h0_0 rfl ?_
    refine lc_iload_n dX0_tally_10 rfl 2 rfl ?_
    refine lc_iadd dX0_tally_11 ?_
    refine lc_wI (vs' := [.ref (b + 1), .int (lc_i ((o) + (c))), .int (lc_i (t)), .int (lc_i (s)), .int (lc_i (q)), .int (lc_i (m))]) dX0_tally_12 lc_fX0_36 h0_0 (Nat.le_of_ble_eq_true rfl) rfl rfl rfl (fun σ6 h7 fr8 => ?_)
    refine lc_goto (tgt := 33) dX0_tally_15 (by decide) ?_
    exact lc_vret dX0_tally_33 rfl (Nat.le_of_ble_eq_true rfl) (Nat.le_of_ble_eq_true rfl) (hQ _ _ _ ⟨rfl, rfl, (by rw [h7, show (if w = 1 then o + c else o : Int) = (o) + (c) from (by (repeat' split) <;> omega), show (if w = 2 then t + c else t : Int) = t from (by (repeat' split) <;> omega)]), (fun i _ => (fr8 i (by omega)))⟩)

set_option maxRecDepth 100000 in
set_option maxHeartbeats 4000000 in
/-- Board.put: the counts stay right -/
theorem lc_cX0_put (l : Launch) (n : Nat) (b : Nat) (f : Int → Int) (s q m : Int) (p w : Int) (σ : lc_S) (h0_0 : σ (b) = some (.inr (0, [.ref (b + 1), .int (lc_i (lc_cnt (f) 1 36)), .int (lc_i (lc_cnt (f) 2 36)), .int (lc_i (s)), .int (lc_i (q)), .int (lc_i (m))]) : lc_Cel)) (h0_1 : σ (b + 1) = some (lc_aI 36 (f))) (hp : 0 ≤ p ∧ p < 36) (hv : -2147483648 ≤ f p ∧ f p < 2147483648) (hw : -2147483648 ≤ w ∧ w < 2147483648) : lc_Con l yX0_put cX0_put 3 none (lc_Rd 1) [.ref (b), .int (lc_i (p)), .int (lc_i (w))] n σ (fun v n2 σ2 => v = none ∧ n = n2 ∧ σ2 (b) = some (.inr (0, [.ref (b + 1), .int (lc_i (lc_cnt (lc_u f p w) 1 36)), .int (lc_i (lc_cnt (lc_u f p w) 2 36)), .int (lc_i (s)), .int (lc_i (q)), .int (lc_i (m))]) : lc_Cel) ∧ σ2 (b + 1) = some (lc_aI 36 (lc_u f p w)) ∧ ∀ i : Nat, i ≠ b → i ≠ b + 1 → σ2 i = σ i) := by
  refine lc_con RX0 false (by decide) rfl (fun h => absurd h (by decide)) (Nat.le_of_ble_eq_true rfl) ?_
  suffices H : ∀ Q : lc_QT, (∀ v n2 σ2, (fun v n2 σ2 => v = none ∧ n = n2 ∧ σ2 (b) = some (.inr (0, [.ref (b + 1), .int (lc_i (lc_cnt (lc_u f p w) 1 36)), .int (lc_i (lc_cnt (lc_u f p w) 2 36)), .int (lc_i (s)), .int (lc_i (q)), .int (lc_i (m))]) : lc_Cel) ∧ σ2 (b + 1) = some (lc_aI 36 (lc_u f p w)) ∧ ∀ i : Nat, i ≠ b → i ≠ b + 1 → σ2 i = σ i : lc_QT) v n2 σ2 → Q v n2 σ2) → lc_V l RX0 cX0_put 3 none false (lc_Rd 1) (lc_G Q 0 0) lc_E0 0 0 n 0 [(0, .ref (b)), (1, .int (lc_i (p))), (2, .int (lc_i (w)))] [] σ from H _ (fun _ _ _ h => h)
  intro Q hQ
  refine lc_iload_n dX0_put_0 rfl 1 rfl ?_
  refine lc_if_lt (tgt := 13) dX0_put_1 (by decide) (by omega) (fun h_1_0 => ?_) (fun h_1_0 => ?_)
  · omega
  · skip
    refine lc_iload_n dX0_put_4 rfl 1 rfl ?_
    refine lc_aload_n dX0_put_5 rfl 0 rfl ?_
    refine lc_get dX0_put_6 lc_fX0_9 h0_0 rfl ?_
    refine lc_alen dX0_put_9 h0_1 (by decide) ?_
    refine lc_icmp_lt (tgt := 14) dX0_put_10 (by decide) (by omega) (fun h_10_1 => ?_) (fun h_10_1 => ?_)
    · skip
      refine lc_aload_n dX0_put_14 rfl 0 rfl ?_
      refine lc_aload_n dX0_put_15 rfl 0 rfl ?_
      refine lc_get dX0_put_16 lc_fX0_9 h0_0 rfl ?_
      refine lc_iload_n dX0_put_19 rfl 1 rfl ?_
      refine lc_iald dX0_put_20 h0_1 (by omega) (by decide) ?_
      refine lc_iconst dX0_put_21 ?_
      refine lc_callV (As := [.int (lc_i ((f) (p))), .int (lc_i ((-1)))]) (stk := []) (b := b) dX0_put_22 lc_mX0_42 lc_yX0_tally h0_0 rfl (lc_cX0_tally l n (b) (f) (lc_cnt (f) 1 36) (lc_cnt (f) 2 36) (s) (q) (m) ((f) (p)) ((-1)) σ h0_0 (by omega)) rfl ⟨Nat.le_of_ble_eq_true rfl, Nat.le_of_ble_eq_true rfl⟩ ⟨Nat.le_of_ble_eq_true rfl, Nat.le_of_ble_eq_true rfl⟩ rfl (Nat.le_of_ble_eq_true rfl) (fun v5 n6 σ7 q8 => ?_)
      obtain ⟨rfl, rfl, h4, fr3⟩ := q8
      have h9 : σ7 (b + 1) = some (lc_aI 36 (f)) := (fr3 _ (by omega)).trans h0_1
      refine lc_aload_n dX0_put_25 rfl 0 rfl ?_
      refine lc_iload_n dX0_put_26 rfl 2 rfl ?_
      refine lc_iconst dX0_put_27 ?_
      refine lc_callV (As := [.int (lc_i (w)), .int (lc_i (1))]) (stk := []) (b := b) dX0_put_28 lc_mX0_42 lc_yX0_tally h4 rfl (lc_cX0_tally l n (b) (f) (if ((f) (p)) = 1 then (lc_cnt (f) 1 36) + ((-1)) else (lc_cnt (f) 1 36)) (if ((f) (p)) = 2 then (lc_cnt (f) 2 36) + ((-1)) else (lc_cnt (f) 2 36)) (s) (q) (m) (w) (1) σ7 h4 (by omega)) rfl ⟨Nat.le_of_ble_eq_true rfl, Nat.le_of_ble_eq_true rfl⟩ ⟨Nat.le_of_ble_eq_true rfl, Nat.le_of_ble_eq_true rfl⟩ rfl (Nat.le_of_ble_eq_true rfl) (fun v12 n13 σ14 q15 => ?_)
      obtain ⟨rfl, rfl, h11, fr10⟩ := q15
      have h16 : σ14 (b + 1) = some (lc_aI 36 (f)) := (fr10 _ (by omega)).trans h9
      refine lc_aload_n dX0_put_31 rfl 0 rfl ?_
      refine lc_get dX0_put_32 lc_fX0_9 h11 rfl ?_
      refine lc_iload_n dX0_put_35 rfl 1 rfl ?_
      refine lc_iload_n dX0_put_36 rfl 2 rfl ?_
      refine lc_sI dX0_put_37 h16 (by omega) (by decide) (fun σ17 h18 fr19 => ?_)
      have h20 : σ17 (b) = some (.inr (0, [.ref (b + 1), .int (lc_i (if (w) = 1 then (if ((f) (p)) = 1 then (lc_cnt (f) 1 36) + ((-1)) else (lc_cnt (f) 1 36)) + (1) else (if ((f) (p)) = 1 then (lc_cnt (f) 1 36) + ((-1)) else (lc_cnt (f) 1 36)))), .int (lc_i (if (w) = 2 then (if ((f) (p)) = 2 then (lc_cnt (f) 2 36) + ((-1)) else (lc_cnt (f) 2 36)) + (1) else (if ((f) (p)) = 2 then (lc_cnt (f) 2 36) + ((-1)) else (lc_cnt (f) 2 36)))), .int (lc_i (s)), .int (lc_i (q)), .int (lc_i (m))]) : lc_Cel) := (fr19 _ (by omega)).trans h11
      exact lc_vret dX0_put_38 rfl (Nat.le_of_ble_eq_true rfl) (Nat.le_of_ble_eq_true rfl) (hQ _ _ _ ⟨rfl, rfl, (by rw [h20, show (lc_cnt (lc_u f p w) 1 36 : Int) = if (w) = 1 then (if ((f) (p)) = 1 then (lc_cnt (f) 1 36) + ((-1)) else (lc_cnt (f) 1 36)) + (1) else (if ((f) (p)) = 1 then (lc_cnt (f) 1 36) + ((-1)) else (lc_cnt (f) 1 36)) from (by rw [lc_cnt_u (f := f) 36 hp.1 hp.2]; unfold lc_d; (repeat' split) <;> omega), show (lc_cnt (lc_u f p w) 2 36 : Int) = if (w) = 2 then (if ((f) (p)) = 2 then (lc_cnt (f) 2 36) + ((-1)) else (lc_cnt (f) 2 36)) + (1) else (if ((f) (p)) = 2 then (lc_cnt (f) 2 36) + ((-1)) else (lc_cnt (f) 2 36)) from (by rw [lc_cnt_u (f := f) 36 hp.1 hp.2]; unfold lc_d; (repeat' split) <;> omega)]), h18, (fun i _ _ => ((fr19 i (by omega)).trans ((fr10 i (by omega)).trans (fr3 i (by omega)))))⟩)
    · omega

set_option maxRecDepth 100000 in
set_option maxHeartbeats 4000000 in
theorem lc_cX0_piecesOf (l : Launch) (n : Nat) (b : Nat) (f : Int → Int) (o t s q m : Int) (k : Int) (σ : lc_S) (h0_0 : σ (b) = some (.inr (0, [.ref (b + 1), .int (lc_i (o)), .int (lc_i (t)), .int (lc_i (s)), .int (lc_i (q)), .int (lc_i (m))]) : lc_Cel)) (hk : -2147483648 ≤ k ∧ k < 2147483648) : lc_Con l yX0_piecesOf cX0_piecesOf 2 (some .int) (lc_Rd 0) [.ref (b), .int (lc_i (k))] n σ (fun v n2 σ2 => v = some (.int (lc_i (if k = 1 then o else t))) ∧ n = n2 ∧ σ = σ2) := by
  refine lc_con RX0 false (by decide) rfl (fun h => absurd h (by decide)) (Nat.le_of_ble_eq_true rfl) ?_
  suffices H : ∀ Q : lc_QT, (∀ v n2 σ2, (fun v n2 σ2 => v = some (.int (lc_i (if k = 1 then o else t))) ∧ n = n2 ∧ σ = σ2 : lc_QT) v n2 σ2 → Q v n2 σ2) → lc_V l RX0 cX0_piecesOf 2 (some .int) false (lc_Rd 0) (lc_G Q 0 0) lc_E0 0 0 n 0 [(0, .ref (b)), (1, .int (lc_i (k)))] [] σ from H _ (fun _ _ _ h => h)
  intro Q hQ
  refine lc_iload_n dX0_piecesOf_0 rfl 1 rfl ?_
  refine lc_iconst dX0_piecesOf_1 ?_
  refine lc_icmp_ne (tgt := 12) dX0_piecesOf_2 (by decide) (by omega) (fun h_2_0 => ?_) (fun h_2_0 => ?_)
  · skip
    refine lc_aload_n dX0_piecesOf_12 rfl 0 rfl ?_
    refine lc_get dX0_piecesOf_13 lc_fX0_39 h0_0 rfl ?_
    exact lc_iret dX0_piecesOf_16 rfl (Nat.le_of_ble_eq_true rfl) (Nat.le_of_ble_eq_true rfl) (hQ _ _ _ ⟨lc_some (by (repeat' split) <;> omega), rfl, rfl⟩)
  · skip
    refine lc_aload_n dX0_piecesOf_5 rfl 0 rfl ?_
    refine lc_get dX0_piecesOf_6 lc_fX0_36 h0_0 rfl ?_
    refine lc_goto (tgt := 16) dX0_piecesOf_9 (by decide) ?_
    exact lc_iret dX0_piecesOf_16 rfl (Nat.le_of_ble_eq_true rfl) (Nat.le_of_ble_eq_true rfl) (hQ _ _ _ ⟨lc_some (by (repeat' split) <;> omega), rfl, rfl⟩)

set_option maxRecDepth 100000 in
set_option maxHeartbeats 4000000 in
theorem lc_cX0_allPieces (l : Launch) (n : Nat) (b : Nat) (f : Int → Int) (o t s q m : Int) (σ : lc_S) (h0_0 : σ (b) = some (.inr (0, [.ref (b + 1), .int (lc_i (o)), .int (lc_i (t)), .int (lc_i (s)), .int (lc_i (q)), .int (lc_i (m))]) : lc_Cel))  : lc_Con l yX0_allPieces cX0_allPieces 1 (some .int) (lc_Rd 0) [.ref (b)] n σ (fun v n2 σ2 => v = some (.int (lc_i (o + t))) ∧ n = n2 ∧ σ = σ2) := by
  refine lc_con RX0 false (by decide) rfl (fun h => absurd h (by decide)) (Nat.le_of_ble_eq_true rfl) ?_
  suffices H : ∀ Q : lc_QT, (∀ v n2 σ2, (fun v n2 σ2 => v = some (.int (lc_i (o + t))) ∧ n = n2 ∧ σ = σ2 : lc_QT) v n2 σ2 → Q v n2 σ2) → lc_V l RX0 cX0_allPieces 1 (some .int) false (lc_Rd 0) (lc_G Q 0 0) lc_E0 0 0 n 0 [(0, .ref (b))] [] σ from H _ (fun _ _ _ h => h)
  intro Q hQ
  refine lc_aload_n dX0_allPieces_0 rfl 0 rfl ?_
  refine lc_get dX0_allPieces_1 lc_fX0_36 h0_0 rfl ?_
  refine lc_aload_n dX0_allPieces_4 rfl 0 rfl ?_
  refine lc_get dX0_allPieces_5 lc_fX0_39 h0_0 rfl ?_
  refine lc_iadd dX0_allPieces_8 ?_
  exact lc_iret dX0_allPieces_9 rfl (Nat.le_of_ble_eq_true rfl) (Nat.le_of_ble_eq_true rfl) (hQ _ _ _ ⟨rfl, rfl, rfl⟩)

set_option maxRecDepth 100000 in
set_option maxHeartbeats 4000000 in
theorem lc_cX0_sideToMove (l : Launch) (n : Nat) (b : Nat) (f : Int → Int) (o t s q m : Int) (σ : lc_S) (h0_0 : σ (b) = some (.inr (0, [.ref (b + 1), .int (lc_i (o)), .int (lc_i (t)), .int (lc_i (s)), .int (lc_i (q)), .int (lc_i (m))]) : lc_Cel))  : lc_Con l yX0_sideToMove cX0_sideToMove 1 (some .int) (lc_Rd 0) [.ref (b)] n σ (fun v n2 σ2 => v = some (.int (lc_i (s))) ∧ n = n2 ∧ σ = σ2) := by
  refine lc_con RX0 false (by decide) rfl (fun h => absurd h (by decide)) (Nat.le_of_ble_eq_true rfl) ?_
  suffices H : ∀ Q : lc_QT, (∀ v n2 σ2, (fun v n2 σ2 => v = some (.int (lc_i (s))) ∧ n = n2 ∧ σ = σ2 : lc_QT) v n2 σ2 → Q v n2 σ2) → lc_V l RX0 cX0_sideToMove 1 (some .int) false (lc_Rd 0) (lc_G Q 0 0) lc_E0 0 0 n 0 [(0, .ref (b))] [] σ from H _ (fun _ _ _ h => h)
  intro Q hQ
  refine lc_aload_n dX0_sideToMove_0 rfl 0 rfl ?_
  refine lc_get dX0_sideToMove_1 lc_fX0_30 h0_0 rfl ?_
  exact lc_iret dX0_sideToMove_4 rfl (Nat.le_of_ble_eq_true rfl) (Nat.le_of_ble_eq_true rfl) (hQ _ _ _ ⟨rfl, rfl, rfl⟩)

set_option maxRecDepth 100000 in
set_option maxHeartbeats 4000000 in
theorem lc_cX0_quietMoves (l : Launch) (n : Nat) (b : Nat) (f : Int → Int) (o t s q m : Int) (σ : lc_S) (h0_0 : σ (b) = some (.inr (0, [.ref (b + 1), .int (lc_i (o)), .int (lc_i (t)), .int (lc_i (s)), .int (lc_i (q)), .int (lc_i (m))]) : lc_Cel))  : lc_Con l yX0_quietMoves cX0_quietMoves 1 (some .int) (lc_Rd 0) [.ref (b)] n σ (fun v n2 σ2 => v = some (.int (lc_i (q))) ∧ n = n2 ∧ σ = σ2) := by
  refine lc_con RX0 false (by decide) rfl (fun h => absurd h (by decide)) (Nat.le_of_ble_eq_true rfl) ?_
  suffices H : ∀ Q : lc_QT, (∀ v n2 σ2, (fun v n2 σ2 => v = some (.int (lc_i (q))) ∧ n = n2 ∧ σ = σ2 : lc_QT) v n2 σ2 → Q v n2 σ2) → lc_V l RX0 cX0_quietMoves 1 (some .int) false (lc_Rd 0) (lc_G Q 0 0) lc_E0 0 0 n 0 [(0, .ref (b))] [] σ from H _ (fun _ _ _ h => h)
  intro Q hQ
  refine lc_aload_n dX0_quietMoves_0 rfl 0 rfl ?_
  refine lc_get dX0_quietMoves_1 lc_fX0_33 h0_0 rfl ?_
  exact lc_iret dX0_quietMoves_4 rfl (Nat.le_of_ble_eq_true rfl) (Nat.le_of_ble_eq_true rfl) (hQ _ _ _ ⟨rfl, rfl, rfl⟩)

set_option maxRecDepth 100000 in
set_option maxHeartbeats 4000000 in
theorem lc_cX0_limit (l : Launch) (n : Nat) (b : Nat) (f : Int → Int) (o t s q m : Int) (σ : lc_S) (h0_0 : σ (b) = some (.inr (0, [.ref (b + 1), .int (lc_i (o)), .int (lc_i (t)), .int (lc_i (s)), .int (lc_i (q)), .int (lc_i (m))]) : lc_Cel))  : lc_Con l yX0_limit cX0_limit 1 (some .int) (lc_Rd 0) [.ref (b)] n σ (fun v n2 σ2 => v = some (.int (lc_i (m))) ∧ n = n2 ∧ σ = σ2) := by
  refine lc_con RX0 false (by decide) rfl (fun h => absurd h (by decide)) (Nat.le_of_ble_eq_true rfl) ?_
  suffices H : ∀ Q : lc_QT, (∀ v n2 σ2, (fun v n2 σ2 => v = some (.int (lc_i (m))) ∧ n = n2 ∧ σ = σ2 : lc_QT) v n2 σ2 → Q v n2 σ2) → lc_V l RX0 cX0_limit 1 (some .int) false (lc_Rd 0) (lc_G Q 0 0) lc_E0 0 0 n 0 [(0, .ref (b))] [] σ from H _ (fun _ _ _ h => h)
  intro Q hQ
  refine lc_aload_n dX0_limit_0 rfl 0 rfl ?_
  refine lc_get dX0_limit_1 lc_fX0_15 h0_0 rfl ?_
  exact lc_iret dX0_limit_4 rfl (Nat.le_of_ble_eq_true rfl) (Nat.le_of_ble_eq_true rfl) (hQ _ _ _ ⟨rfl, rfl, rfl⟩)

set_option maxRecDepth 100000 in
set_option maxHeartbeats 4000000 in
theorem lc_cX0_result (l : Launch) (n : Nat) (b : Nat) (f : Int → Int) (o t s q m : Int) (σ : lc_S) (h0_0 : σ (b) = some (.inr (0, [.ref (b + 1), .int (lc_i (o)), .int (lc_i (t)), .int (lc_i (s)), .int (lc_i (q)), .int (lc_i (m))]) : lc_Cel)) (ho : 0 ≤ o ∧ o ≤ 36) (ht : 0 ≤ t ∧ t ≤ 36) (hq : -2147483648 ≤ q ∧ q < 2147483648) (hm : -2147483648 ≤ m ∧ m < 2147483648) : lc_Con l yX0_result cX0_result 1 (some .int) (lc_Rd 0) [.ref (b)] n σ (fun v n2 σ2 => v = some (.int (lc_i (lc_res o t q m))) ∧ n = n2 ∧ σ = σ2) := by
  refine lc_con RX0 false (by decide) rfl (fun h => absurd h (by decide)) (Nat.le_of_ble_eq_true rfl) ?_
  suffices H : ∀ Q : lc_QT, (∀ v n2 σ2, (fun v n2 σ2 => v = some (.int (lc_i (lc_res o t q m))) ∧ n = n2 ∧ σ = σ2 : lc_QT) v n2 σ2 → Q v n2 σ2) → lc_V l RX0 cX0_result 1 (some .int) false (lc_Rd 0) (lc_G Q 0 0) lc_E0 0 0 n 0 [(0, .ref (b))] [] σ from H _ (fun _ _ _ h => h)
  intro Q hQ
  refine lc_aload_n dX0_result_0 rfl 0 rfl ?_
  refine lc_get dX0_result_1 lc_fX0_36 h0_0 rfl ?_
  refine lc_if_ne (tgt := 16) dX0_result_4 (by decide) (by omega) (fun h_4_0 => ?_) (fun h_4_0 => ?_)
  · skip
    refine lc_aload_n dX0_result_16 rfl 0 rfl ?_
    refine lc_get dX0_result_17 lc_fX0_39 h0_0 rfl ?_
    refine lc_if_ne (tgt := 25) dX0_result_20 (by decide) (by omega) (fun h_20_1 => ?_) (fun h_20_1 => ?_)
    · skip
      refine lc_aload_n dX0_result_25 rfl 0 rfl ?_
      refine lc_get dX0_result_26 lc_fX0_36 h0_0 rfl ?_
      refine lc_if_ne (tgt := 34) dX0_result_29 (by decide) (by omega) (fun h_29_2 => ?_) (fun h_29_2 => ?_)
      · skip
        refine lc_aload_n dX0_result_34 rfl 0 rfl ?_
        refine lc_get dX0_result_35 lc_fX0_33 h0_0 rfl ?_
        refine lc_aload_n dX0_result_38 rfl 0 rfl ?_
        refine lc_get dX0_result_39 lc_fX0_15 h0_0 rfl ?_
        refine lc_icmp_lt (tgt := 49) dX0_result_42 (by decide) (by omega) (fun h_42_3 => ?_) (fun h_42_3 => ?_)
        · skip
          refine lc_iconst dX0_result_49 ?_
          exact lc_iret dX0_result_50 rfl (Nat.le_of_ble_eq_true rfl) (Nat.le_of_ble_eq_true rfl) (hQ _ _ _ ⟨lc_some (by unfold lc_res; (repeat' split) <;> omega), rfl, rfl⟩)
        · skip
          refine lc_iconst dX0_result_45 ?_
          refine lc_goto (tgt := 50) dX0_result_46 (by decide) ?_
          exact lc_iret dX0_result_50 rfl (Nat.le_of_ble_eq_true rfl) (Nat.le_of_ble_eq_true rfl) (hQ _ _ _ ⟨lc_some (by unfold lc_res; (repeat' split) <;> omega), rfl, rfl⟩)
      · skip
        refine lc_iconst dX0_result_32 ?_
        exact lc_iret dX0_result_33 rfl (Nat.le_of_ble_eq_true rfl) (Nat.le_of_ble_eq_true rfl) (hQ _ _ _ ⟨lc_some (by unfold lc_res; (repeat' split) <;> omega), rfl, rfl⟩)
    · skip
      refine lc_iconst dX0_result_23 ?_
      exact lc_iret dX0_result_24 rfl (Nat.le_of_ble_eq_true rfl) (Nat.le_of_ble_eq_true rfl) (hQ _ _ _ ⟨lc_some (by unfold lc_res; (repeat' split) <;> omega), rfl, rfl⟩)
  · skip
    refine lc_aload_n dX0_result_7 rfl 0 rfl ?_
    refine lc_get dX0_result_8 lc_fX0_39 h0_0 rfl ?_
    refine lc_if_ne (tgt := 16) dX0_result_11 (by decide) (by omega) (fun h_11_4 => ?_) (fun h_11_4 => ?_)
    · skip
      refine lc_aload_n dX0_result_16 rfl 0 rfl ?_
      refine lc_get dX0_result_17 lc_fX0_39 h0_0 rfl ?_
      refine lc_if_ne (tgt := 25) dX0_result_20 (by decide) (by omega) (fun h_20_5 => ?_) (fun h_20_5 => ?_)
      · skip
        refine lc_aload_n dX0_result_25 rfl 0 rfl ?_
        refine lc_get dX0_result_26 lc_fX0_36 h0_0 rfl ?_
        refine lc_if_ne (tgt := 34) dX0_result_29 (by decide) (by omega) (fun h_29_6 => ?_) (fun h_29_6 => ?_)
        · skip
          refine lc_aload_n dX0_result_34 rfl 0 rfl ?_
          refine lc_get dX0_result_35 lc_fX0_33 h0_0 rfl ?_
          refine lc_aload_n dX0_result_38 rfl 0 rfl ?_
          refine lc_get dX0_result_39 lc_fX0_15 h0_0 rfl ?_
          refine lc_icmp_lt (tgt := 49) dX0_result_42 (by decide) (by omega) (fun h_42_7 => ?_) (fun h_42_7 => ?_)
          · skip
            refine lc_iconst dX0_result_49 ?_
            exact lc_iret dX0_result_50 rfl (Nat.le_of_ble_eq_true rfl) (Nat.le_of_ble_eq_true rfl) (hQ _ _ _ ⟨lc_some (by unfold lc_res; (repeat' split) <;> omega), rfl, rfl⟩)
          · skip
            refine lc_iconst dX0_result_45 ?_
            refine lc_goto (tgt := 50) dX0_result_46 (by decide) ?_
            exact lc_iret dX0_result_50 rfl (Nat.le_of_ble_eq_true rfl) (Nat.le_of_ble_eq_true rfl) (hQ _ _ _ ⟨lc_some (by unfold lc_res; (repeat' split) <;> omega), rfl, rfl⟩)
        · skip
          refine lc_iconst dX0_result_32 ?_
          exact lc_iret dX0_result_33 rfl (Nat.le_of_ble_eq_true rfl) (Nat.le_of_ble_eq_true rfl) (hQ _ _ _ ⟨lc_some (by unfold lc_res; (repeat' split) <;> omega), rfl, rfl⟩)
      · skip
        refine lc_iconst dX0_result_23 ?_
        exact lc_iret dX0_result_24 rfl (Nat.le_of_ble_eq_true rfl) (Nat.le_of_ble_eq_true rfl) (hQ _ _ _ ⟨lc_some (by unfold lc_res; (repeat' split) <;> omega), rfl, rfl⟩)
    · skip
      refine lc_iconst dX0_result_14 ?_
      exact lc_iret dX0_result_15 rfl (Nat.le_of_ble_eq_true rfl) (Nat.le_of_ble_eq_true rfl) (hQ _ _ _ ⟨lc_some (by unfold lc_res; (repeat' split) <;> omega), rfl, rfl⟩)

set_option maxRecDepth 100000 in
set_option maxHeartbeats 4000000 in
theorem lc_cX0_worth (l : Launch) (n : Nat) (b : Nat) (f : Int → Int) (o t s q m : Int) (σ : lc_S) (h0_0 : σ (b) = some (.inr (0, [.ref (b + 1), .int (lc_i (o)), .int (lc_i (t)), .int (lc_i (s)), .int (lc_i (q)), .int (lc_i (m))]) : lc_Cel)) (hs : -2147483648 ≤ s ∧ s < 2147483648) : lc_Con l yX0_worth cX0_worth 1 (some .int) (lc_Rd 0) [.ref (b)] n σ (fun v n2 σ2 => v = some (.int (lc_i (if s = 1 then o - t else t - o))) ∧ n = n2 ∧ σ = σ2) := by
  refine lc_con RX0 false (by decide) rfl (fun h => absurd h (by decide)) (Nat.le_of_ble_eq_true rfl) ?_
  suffices H : ∀ Q : lc_QT, (∀ v n2 σ2, (fun v n2 σ2 => v = some (.int (lc_i (if s = 1 then o - t else t - o))) ∧ n = n2 ∧ σ = σ2 : lc_QT) v n2 σ2 → Q v n2 σ2) → lc_V l RX0 cX0_worth 1 (some .int) false (lc_Rd 0) (lc_G Q 0 0) lc_E0 0 0 n 0 [(0, .ref (b))] [] σ from H _ (fun _ _ _ h => h)
  intro Q hQ
  refine lc_aload_n dX0_worth_0 rfl 0 rfl ?_
  refine lc_get dX0_worth_1 lc_fX0_30 h0_0 rfl ?_
  refine lc_iconst dX0_worth_4 ?_
  refine lc_icmp_ne (tgt := 20) dX0_worth_5 (by decide) (by omega) (fun h_5_0 => ?_) (fun h_5_0 => ?_)
  · skip
    refine lc_aload_n dX0_worth_20 rfl 0 rfl ?_
    refine lc_get dX0_worth_21 lc_fX0_39 h0_0 rfl ?_
    refine lc_aload_n dX0_worth_24 rfl 0 rfl ?_
    refine lc_get dX0_worth_25 lc_fX0_36 h0_0 rfl ?_
    refine lc_isub dX0_worth_28 ?_
    exact lc_iret dX0_worth_29 rfl (Nat.le_of_ble_eq_true rfl) (Nat.le_of_ble_eq_true rfl) (hQ _ _ _ ⟨lc_some (by (repeat' split) <;> omega), rfl, rfl⟩)
  · skip
    refine lc_aload_n dX0_worth_8 rfl 0 rfl ?_
    refine lc_get dX0_worth_9 lc_fX0_36 h0_0 rfl ?_
    refine lc_aload_n dX0_worth_12 rfl 0 rfl ?_
    refine lc_get dX0_worth_13 lc_fX0_39 h0_0 rfl ?_
    refine lc_isub dX0_worth_16 ?_
    refine lc_goto (tgt := 29) dX0_worth_17 (by decide) ?_
    exact lc_iret dX0_worth_29 rfl (Nat.le_of_ble_eq_true rfl) (Nat.le_of_ble_eq_true rfl) (hQ _ _ _ ⟨lc_some (by (repeat' split) <;> omega), rfl, rfl⟩)

set_option maxRecDepth 100000 in
set_option maxHeartbeats 4000000 in
theorem lc_cX0_changeLimit (l : Launch) (n : Nat) (b : Nat) (f : Int → Int) (o t s q m : Int) (x : Int) (σ : lc_S) (h0_0 : σ (b) = some (.inr (0, [.ref (b + 1), .int (lc_i (o)), .int (lc_i (t)), .int (lc_i (s)), .int (lc_i (q)), .int (lc_i (m))]) : lc_Cel))  : lc_Con l yX0_changeLimit cX0_changeLimit 2 none (lc_Rd 0) [.ref (b), .int (lc_i (x))] n σ (fun v n2 σ2 => v = none ∧ n = n2 ∧ σ2 (b) = some (.inr (0, [.ref (b + 1), .int (lc_i (o)), .int (lc_i (t)), .int (lc_i (s)), .int (lc_i (q)), .int (lc_i (x))]) : lc_Cel) ∧ ∀ i : Nat, i ≠ b → σ2 i = σ i) := by
  refine lc_con RX0 false (by decide) rfl (fun h => absurd h (by decide)) (Nat.le_of_ble_eq_true rfl) ?_
  suffices H : ∀ Q : lc_QT, (∀ v n2 σ2, (fun v n2 σ2 => v = none ∧ n = n2 ∧ σ2 (b) = some (.inr (0, [.ref (b + 1), .int (lc_i (o)), .int (lc_i (t)), .int (lc_i (s)), .int (lc_i (q)), .int (lc_i (x))]) : lc_Cel) ∧ ∀ i : Nat, i ≠ b → σ2 i = σ i : lc_QT) v n2 σ2 → Q v n2 σ2) → lc_V l RX0 cX0_changeLimit 2 none false (lc_Rd 0) (lc_G Q 0 0) lc_E0 0 0 n 0 [(0, .ref (b)), (1, .int (lc_i (x)))] [] σ from H _ (fun _ _ _ h => h)
  intro Q hQ
  refine lc_aload_n dX0_changeLimit_0 rfl 0 rfl ?_
  refine lc_iload_n dX0_changeLimit_1 rfl 1 rfl ?_
  refine lc_wI (vs' := [.ref (b + 1), .int (lc_i (o)), .int (lc_i (t)), .int (lc_i (s)), .int (lc_i (q)), .int (lc_i (x))]) dX0_changeLimit_2 lc_fX0_15 h0_0 (Nat.le_of_ble_eq_true rfl) rfl rfl rfl (fun σ1 h2 fr3 => ?_)
  exact lc_vret dX0_changeLimit_5 rfl (Nat.le_of_ble_eq_true rfl) (Nat.le_of_ble_eq_true rfl) (hQ _ _ _ ⟨rfl, rfl, h2, (fun i _ => (fr3 i (by omega)))⟩)

set_option maxRecDepth 100000 in
set_option maxHeartbeats 4000000 in
theorem lc_cX0_forgetQuietMoves (l : Launch) (n : Nat) (b : Nat) (f : Int → Int) (o t s q m : Int) (σ : lc_S) (h0_0 : σ (b) = some (.inr (0, [.ref (b + 1), .int (lc_i (o)), .int (lc_i (t)), .int (lc_i (s)), .int (lc_i (q)), .int (lc_i (m))]) : lc_Cel))  : lc_Con l yX0_forgetQuietMoves cX0_forgetQuietMoves 1 none (lc_Rd 0) [.ref (b)] n σ (fun v n2 σ2 => v = none ∧ n = n2 ∧ σ2 (b) = some (.inr (0, [.ref (b + 1), .int (lc_i (o)), .int (lc_i (t)), .int (lc_i (s)), .int (lc_i (0)), .int (lc_i (m))]) : lc_Cel) ∧ ∀ i : Nat, i ≠ b → σ2 i = σ i) := by
  refine lc_con RX0 false (by decide) rfl (fun h => absurd h (by decide)) (Nat.le_of_ble_eq_true rfl) ?_
  suffices H : ∀ Q : lc_QT, (∀ v n2 σ2, (fun v n2 σ2 => v = none ∧ n = n2 ∧ σ2 (b) = some (.inr (0, [.ref (b + 1), .int (lc_i (o)), .int (lc_i (t)), .int (lc_i (s)), .int (lc_i (0)), .int (lc_i (m))]) : lc_Cel) ∧ ∀ i : Nat, i ≠ b → σ2 i = σ i : lc_QT) v n2 σ2 → Q v n2 σ2) → lc_V l RX0 cX0_forgetQuietMoves 1 none false (lc_Rd 0) (lc_G Q 0 0) lc_E0 0 0 n 0 [(0, .ref (b))] [] σ from H _ (fun _ _ _ h => h)
  intro Q hQ
  refine lc_aload_n dX0_forgetQuietMoves_0 rfl 0 rfl ?_
  refine lc_iconst dX0_forgetQuietMoves_1 ?_
  refine lc_wI (vs' := [.ref (b + 1), .int (lc_i (o)), .int (lc_i (t)), .int (lc_i (s)), .int (lc_i (0)), .int (lc_i (m))]) dX0_forgetQuietMoves_2 lc_fX0_33 h0_0 (Nat.le_of_ble_eq_true rfl) rfl rfl rfl (fun σ1 h2 fr3 => ?_)
  exact lc_vret dX0_forgetQuietMoves_5 rfl (Nat.le_of_ble_eq_true rfl) (Nat.le_of_ble_eq_true rfl) (hQ _ _ _ ⟨rfl, rfl, h2, (fun i _ => (fr3 i (by omega)))⟩)

set_option maxRecDepth 100000 in
set_option maxHeartbeats 4000000 in
theorem lc_cX0_changeSide (l : Launch) (n : Nat) (b : Nat) (f : Int → Int) (o t s q m : Int) (σ : lc_S) (h0_0 : σ (b) = some (.inr (0, [.ref (b + 1), .int (lc_i (o)), .int (lc_i (t)), .int (lc_i (s)), .int (lc_i (q)), .int (lc_i (m))]) : lc_Cel))  : lc_Con l yX0_changeSide cX0_changeSide 1 none (lc_Rd 0) [.ref (b)] n σ (fun v n2 σ2 => v = none ∧ n = n2 ∧ σ2 (b) = some (.inr (0, [.ref (b + 1), .int (lc_i (o)), .int (lc_i (t)), .int (lc_i (3 - s)), .int (lc_i (q)), .int (lc_i (m))]) : lc_Cel) ∧ ∀ i : Nat, i ≠ b → σ2 i = σ i) := by
  refine lc_con RX0 false (by decide) rfl (fun h => absurd h (by decide)) (Nat.le_of_ble_eq_true rfl) ?_
  suffices H : ∀ Q : lc_QT, (∀ v n2 σ2, (fun v n2 σ2 => v = none ∧ n = n2 ∧ σ2 (b) = some (.inr (0, [.ref (b + 1), .int (lc_i (o)), .int (lc_i (t)), .int (lc_i (3 - s)), .int (lc_i (q)), .int (lc_i (m))]) : lc_Cel) ∧ ∀ i : Nat, i ≠ b → σ2 i = σ i : lc_QT) v n2 σ2 → Q v n2 σ2) → lc_V l RX0 cX0_changeSide 1 none false (lc_Rd 0) (lc_G Q 0 0) lc_E0 0 0 n 0 [(0, .ref (b))] [] σ from H _ (fun _ _ _ h => h)
  intro Q hQ
  refine lc_aload_n dX0_changeSide_0 rfl 0 rfl ?_
  refine lc_iconst dX0_changeSide_1 ?_
  refine lc_aload_n dX0_changeSide_2 rfl 0 rfl ?_
  refine lc_get dX0_changeSide_3 lc_fX0_30 h0_0 rfl ?_
  refine lc_isub dX0_changeSide_6 ?_
  refine lc_wI (vs' := [.ref (b + 1), .int (lc_i (o)), .int (lc_i (t)), .int (lc_i ((3) - (s))), .int (lc_i (q)), .int (lc_i (m))]) dX0_changeSide_7 lc_fX0_30 h0_0 (Nat.le_of_ble_eq_true rfl) rfl rfl rfl (fun σ1 h2 fr3 => ?_)
  exact lc_vret dX0_changeSide_10 rfl (Nat.le_of_ble_eq_true rfl) (Nat.le_of_ble_eq_true rfl) (hQ _ _ _ ⟨rfl, rfl, (by rw [h2, show (3 - s : Int) = (3) - (s) from (by (repeat' split) <;> omega)]), (fun i _ => (fr3 i (by omega)))⟩)

set_option maxRecDepth 100000 in
set_option maxHeartbeats 4000000 in
/-- Board.copyFrom -/
theorem lc_cX0_copyFrom (l : Launch) (n : Nat) (b : Nat) (f : Int → Int) (s q m : Int) (c : Nat) (g : Int → Int) (s2 q2 m2 : Int) (σ : lc_S) (h0_0 : σ (b) = some (.inr (0, [.ref (b + 1), .int (lc_i (lc_cnt (f) 1 36)), .int (lc_i (lc_cnt (f) 2 36)), .int (lc_i (s)), .int (lc_i (q)), .int (lc_i (m))]) : lc_Cel)) (h0_1 : σ (b + 1) = some (lc_aI 36 (f))) (h0_2 : σ (c) = some (.inr (0, [.ref (c + 1), .int (lc_i (lc_cnt (g) 1 36)), .int (lc_i (lc_cnt (g) 2 36)), .int (lc_i (s2)), .int (lc_i (q2)), .int (lc_i (m2))]) : lc_Cel)) (h0_3 : σ (c + 1) = some (lc_aI 36 (g))) (hd : b ≠ c ∧ b ≠ c + 1 ∧ b + 1 ≠ c) : lc_Con l yX0_copyFrom cX0_copyFrom 3 none (lc_Rd 0) [.ref (b), .ref (c)] n σ (fun v n2 σ2 => v = none ∧ n = n2 ∧ σ2 (b) = some (.inr (0, [.ref (b + 1), .int (lc_i (lc_cnt (g) 1 36)), .int (lc_i (lc_cnt (g) 2 36)), .int (lc_i (s2)), .int (lc_i (q2)), .int (lc_i (m2))]) : lc_Cel) ∧ σ2 (b + 1) = some (lc_aI 36 (g)) ∧ ∀ i : Nat, i ≠ b → i ≠ b + 1 → σ2 i = σ i) := by
  refine lc_con RX0 false (by decide) rfl (fun h => absurd h (by decide)) (Nat.le_of_ble_eq_true rfl) ?_
  suffices H : ∀ Q : lc_QT, (∀ v n2 σ2, (fun v n2 σ2 => v = none ∧ n = n2 ∧ σ2 (b) = some (.inr (0, [.ref (b + 1), .int (lc_i (lc_cnt (g) 1 36)), .int (lc_i (lc_cnt (g) 2 36)), .int (lc_i (s2)), .int (lc_i (q2)), .int (lc_i (m2))]) : lc_Cel) ∧ σ2 (b + 1) = some (lc_aI 36 (g)) ∧ ∀ i : Nat, i ≠ b → i ≠ b + 1 → σ2 i = σ i : lc_QT) v n2 σ2 → Q v n2 σ2) → lc_V l RX0 cX0_copyFrom 3 none false (lc_Rd 0) (lc_G Q 0 0) lc_E0 0 0 n 0 [(0, .ref (b)), (1, .ref (c))] [] σ from H _ (fun _ _ _ h => h)
  intro Q hQ
  refine lc_iconst dX0_copyFrom_0 ?_
  refine lc_istore_n (lv' := [(0, .ref (b)), (1, .ref (c)), (2, .int (lc_i (0)))]) dX0_copyFrom_1 rfl (by decide) rfl ?_
  have loop2 : ∀ (N1 : Nat) (i : Int) (fi : Int → Int) (σ4 : lc_S), (σ4 (b + 1) = some (lc_aI 36 (fi))) → (∀ i : Nat, i ≠ b + 1 → σ4 i = σ i) → (0 ≤ i ∧ i ≤ 36) → (∀ j : Int, 0 ≤ j → j < i → fi j = g j) → 36 - i < (N1 : Int) → lc_V l RX0 cX0_copyFrom 3 none false (lc_Rd 0) (lc_G Q 0 0) lc_E0 0 0 n 2 [(0, .ref (b)), (1, .ref (c)), (2, .int (lc_i (i)))] [] σ4 := by
    intro N1
    induction N1 with
    | zero =>
      intro i fi σ4 h5 fr6 hi hf hm7
      exact absurd hm7 (by omega)
    | succ N1 ih3 =>
      intro i fi σ4 h5 fr6 hi hf hm7
      have h8 : σ4 (b) = some (.inr (0, [.ref (b + 1), .int (lc_i (lc_cnt (f) 1 36)), .int (lc_i (lc_cnt (f) 2 36)), .int (lc_i (s)), .int (lc_i (q)), .int (lc_i (m))]) : lc_Cel) := (fr6 _ (by omega)).trans h0_0
      have h9 : σ4 (c) = some (.inr (0, [.ref (c + 1), .int (lc_i (lc_cnt (g) 1 36)), .int (lc_i (lc_cnt (g) 2 36)), .int (lc_i (s2)), .int (lc_i (q2)), .int (lc_i (m2))]) : lc_Cel) := (fr6 _ (by omega)).trans h0_2
      have h10 : σ4 (c + 1) = some (lc_aI 36 (g)) := (fr6 _ (by omega)).trans h0_3
      refine lc_iload_n dX0_copyFrom_2 rfl 2 rfl ?_
      refine lc_bipush dX0_copyFrom_3 (by decide) ?_
      refine lc_icmp_ge (tgt := 26) dX0_copyFrom_5 (by decide) (by omega) (fun h_5_10 => ?_) (fun h_5_10 => ?_)
      · skip
        refine lc_extI (g := g) h5 (fun j h1 h2 => hf j h1 (by omega)) (fun σ12 h13 fr14 => ?_)
        have h15 : σ12 (b) = some (.inr (0, [.ref (b + 1), .int (lc_i (lc_cnt (f) 1 36)), .int (lc_i (lc_cnt (f) 2 36)), .int (lc_i (s)), .int (lc_i (q)), .int (lc_i (m))]) : lc_Cel) := (fr14 _ (by omega)).trans h8
        have h16 : σ12 (c) = some (.inr (0, [.ref (c + 1), .int (lc_i (lc_cnt (g) 1 36)), .int (lc_i (lc_cnt (g) 2 36)), .int (lc_i (s2)), .int (lc_i (q2)), .int (lc_i (m2))]) : lc_Cel) := (fr14 _ (by omega)).trans h9
        have h17 : σ12 (c + 1) = some (lc_aI 36 (g)) := (fr14 _ (by omega)).trans h10
        refine lc_aload_n dX0_copyFrom_26 rfl 0 rfl ?_
        refine lc_aload_n dX0_copyFrom_27 rfl 1 rfl ?_
        refine lc_get dX0_copyFrom_28 lc_fX0_36 h16 rfl ?_
        refine lc_wI (vs' := [.ref (b + 1), .int (lc_i (lc_cnt (g) 1 36)), .int (lc_i (lc_cnt (f) 2 36)), .int (lc_i (s)), .int (lc_i (q)), .int (lc_i (m))]) dX0_copyFrom_31 lc_fX0_36 h15 (Nat.le_of_ble_eq_true rfl) rfl rfl rfl (fun σ18 h19 fr20 => ?_)
        have h21 : σ18 (c) = some (.inr (0, [.ref (c + 1), .int (lc_i (lc_cnt (g) 1 36)), .int (lc_i (lc_cnt (g) 2 36)), .int (lc_i (s2)), .int (lc_i (q2)), .int (lc_i (m2))]) : lc_Cel) := (fr20 _ (by omega)).trans h16
        have h22 : σ18 (c + 1) = some (lc_aI 36 (g)) := (fr20 _ (by omega)).trans h17
        have h23 : σ18 (b + 1) = some (lc_aI 36 (g)) := (fr20 _ (by omega)).trans h13
        refine lc_aload_n dX0_copyFrom_34 rfl 0 rfl ?_
        refine lc_aload_n dX0_copyFrom_35 rfl 1 rfl ?_
        refine lc_get dX0_copyFrom_36 lc_fX0_39 h21 rfl ?_
        refine lc_wI (vs' := [.ref (b + 1), .int (lc_i (lc_cnt (g) 1 36)), .int (lc_i (lc_cnt (g) 2 36)), .int (lc_i (s)), .int (lc_i (q)), .int (lc_i (m))]) dX0_copyFrom_39 lc_fX0_39 h19 (Nat.le_of_ble_eq_true rfl) rfl rfl rfl (fun σ24 h25 fr26 => ?_)
        have h27 : σ24 (c) = some (.inr (0, [.ref (c + 1), .int (lc_i (lc_cnt (g) 1 36)), .int (lc_i (lc_cnt (g) 2 36)), .int (lc_i (s2)), .int (lc_i (q2)), .int (lc_i (m2))]) : lc_Cel) := (fr26 _ (by omega)).trans h21
        have h28 : σ24 (c + 1) = some (lc_aI 36 (g)) := (fr26 _ (by omega)).trans h22
        have h29 : σ24 (b + 1) = some (lc_aI 36 (g)) := (fr26 _ (by omega)).trans h23
        refine lc_aload_n dX0_copyFrom_42 rfl 0 rfl ?_
        refine lc_aload_n dX0_copyFrom_43 rfl 1 rfl ?_
        refine lc_get dX0_copyFrom_44 lc_fX0_30 h27 rfl ?_
        refine lc_wI (vs' := [.ref (b + 1), .int (lc_i (lc_cnt (g) 1 36)), .int (lc_i (lc_cnt (g) 2 36)), .int (lc_i (s2)), .int (lc_i (q)), .int (lc_i (m))]) dX0_copyFrom_47 lc_fX0_30 h25 (Nat.le_of_ble_eq_true rfl) rfl rfl rfl (fun σ30 h31 fr32 => ?_)
        have h33 : σ30 (c) = some (.inr (0, [.ref (c + 1), .int (lc_i (lc_cnt (g) 1 36)), .int (lc_i (lc_cnt (g) 2 36)), .int (lc_i (s2)), .int (lc_i (q2)), .int (lc_i (m2))]) : lc_Cel) := (fr32 _ (by omega)).trans h27
        have h34 : σ30 (c + 1) = some (lc_aI 36 (g)) := (fr32 _ (by omega)).trans h28
        have h35 : σ30 (b + 1) = some (lc_aI 36 (g)) := (fr32 _ (by omega)).trans h29
        refine lc_aload_n dX0_copyFrom_50 rfl 0 rfl ?_
        refine lc_aload_n dX0_copyFrom_51 rfl 1 rfl ?_
        refine lc_get dX0_copyFrom_52 lc_fX0_33 h33 rfl ?_
        refine lc_wI (vs' := [.ref (b + 1), .int (lc_i (lc_cnt (g) 1 36)), .int (lc_i (lc_cnt (g) 2 36)), .int (lc_i (s2)), .int (lc_i (q2)), .int (lc_i (m))]) dX0_copyFrom_55 lc_fX0_33 h31 (Nat.le_of_ble_eq_true rfl) rfl rfl rfl (fun σ36 h37 fr38 => ?_)
        have h39 : σ36 (c) = some (.inr (0, [.ref (c + 1), .int (lc_i (lc_cnt (g) 1 36)), .int (lc_i (lc_cnt (g) 2 36)), .int (lc_i (s2)), .int (lc_i (q2)), .int (lc_i (m2))]) : lc_Cel) := (fr38 _ (by omega)).trans h33
        have h40 : σ36 (c + 1) = some (lc_aI 36 (g)) := (fr38 _ (by omega)).trans h34
        have h41 : σ36 (b + 1) = some (lc_aI 36 (g)) := (fr38 _ (by omega)).trans h35
        refine lc_aload_n dX0_copyFrom_58 rfl 0 rfl ?_
        refine lc_aload_n dX0_copyFrom_59 rfl 1 rfl ?_
        refine lc_get dX0_copyFrom_60 lc_fX0_15 h39 rfl ?_
        refine lc_wI (vs' := [.ref (b + 1), .int (lc_i (lc_cnt (g) 1 36)), .int (lc_i (lc_cnt (g) 2 36)), .int (lc_i (s2)), .int (lc_i (q2)), .int (lc_i (m2))]) dX0_copyFrom_63 lc_fX0_15 h37 (Nat.le_of_ble_eq_true rfl) rfl rfl rfl (fun σ42 h43 fr44 => ?_)
        have h45 : σ42 (c) = some (.inr (0, [.ref (c + 1), .int (lc_i (lc_cnt (g) 1 36)), .int (lc_i (lc_cnt (g) 2 36)), .int (lc_i (s2)), .int (lc_i (q2)), .int (lc_i (m2))]) : lc_Cel) := (fr44 _ (by omega)).trans h39
        have h46 : σ42 (c + 1) = some (lc_aI 36 (g)) := (fr44 _ (by omega)).trans h40
        have h47 : σ42 (b + 1) = some (lc_aI 36 (g)) := (fr44 _ (by omega)).trans h41
        exact lc_vret dX0_copyFrom_66 rfl (Nat.le_of_ble_eq_true rfl) (Nat.le_of_ble_eq_true rfl) (hQ _ _ _ ⟨rfl, rfl, h43, h47, (fun i _ _ => ((fr44 i (by omega)).trans ((fr38 i (by omega)).trans ((fr32 i (by omega)).trans ((fr26 i (by omega)).trans ((fr20 i (by omega)).trans ((fr14 i (by omega)).trans (fr6 i (by omega)))))))))⟩)
      · skip
        refine lc_aload_n dX0_copyFrom_8 rfl 0 rfl ?_
        refine lc_get dX0_copyFrom_9 lc_fX0_9 h8 rfl ?_
        refine lc_iload_n dX0_copyFrom_12 rfl 2 rfl ?_
        refine lc_aload_n dX0_copyFrom_13 rfl 1 rfl ?_
        refine lc_get dX0_copyFrom_14 lc_fX0_9 h9 rfl ?_
        refine lc_iload_n dX0_copyFrom_17 rfl 2 rfl ?_
        refine lc_iald dX0_copyFrom_18 h10 (by omega) (by decide) ?_
        refine lc_sI dX0_copyFrom_19 h5 (by omega) (by decide) (fun σ48 h49 fr50 => ?_)
        have h51 : σ48 (b) = some (.inr (0, [.ref (b + 1), .int (lc_i (lc_cnt (f) 1 36)), .int (lc_i (lc_cnt (f) 2 36)), .int (lc_i (s)), .int (lc_i (q)), .int (lc_i (m))]) : lc_Cel) := (fr50 _ (by omega)).trans h8
        have h52 : σ48 (c) = some (.inr (0, [.ref (c + 1), .int (lc_i (lc_cnt (g) 1 36)), .int (lc_i (lc_cnt (g) 2 36)), .int (lc_i (s2)), .int (lc_i (q2)), .int (lc_i (m2))]) : lc_Cel) := (fr50 _ (by omega)).trans h9
        have h53 : σ48 (c + 1) = some (lc_aI 36 (g)) := (fr50 _ (by omega)).trans h10
        refine lc_iinc (lv' := [(0, .ref (b)), (1, .ref (c)), (2, .int (lc_i (i + 1)))]) dX0_copyFrom_20 2 rfl (by decide) rfl ?_
        refine lc_goto (tgt := 2) dX0_copyFrom_23 (by decide) ?_
        exact ih3 (i + 1) (lc_u (fi) (i) ((g) (i))) σ48 h49 (fun i _ => ((fr50 i (by omega)).trans (fr6 i (by omega)))) (by omega) (lc_ub hf) (by omega)
  exact loop2 1000 (0) (f) σ h0_1 (fun _ _ => rfl) (by omega) (fun j h1 h2 => absurd h2 (by omega)) (by omega)

set_option maxRecDepth 100000 in
set_option maxHeartbeats 4000000 in
/-- Board.startAnew -/
theorem lc_cX0_startAnew (l : Launch) (n : Nat) (b : Nat) (f : Int → Int) (s q m : Int) (σ : lc_S) (h0_0 : σ (b) = some (.inr (0, [.ref (b + 1), .int (lc_i (lc_cnt (f) 1 36)), .int (lc_i (lc_cnt (f) 2 36)), .int (lc_i (s)), .int (lc_i (q)), .int (lc_i (m))]) : lc_Cel)) (h0_1 : σ (b + 1) = some (lc_aI 36 (f))) (hv : ∀ j : Int, 0 ≤ j → j < 36 → -2147483648 ≤ f j ∧ f j < 2147483648) : lc_Con l yX0_startAnew cX0_startAnew 2 none (lc_Rd 2) [.ref (b)] n σ (fun v n2 σ2 => v = none ∧ n = n2 ∧ σ2 (b) = some (.inr (0, [.ref (b + 1), .int (lc_i (lc_cnt (lc_f0) 1 36)), .int (lc_i (lc_cnt (lc_f0) 2 36)), .int (lc_i (1)), .int (lc_i (0)), .int (lc_i (m))]) : lc_Cel) ∧ σ2 (b + 1) = some (lc_aI 36 (lc_f0)) ∧ ∀ i : Nat, i ≠ b → i ≠ b + 1 → σ2 i = σ i) := by
  refine lc_con RX0 false (by decide) rfl (fun h => absurd h (by decide)) (Nat.le_of_ble_eq_true rfl) ?_
  suffices H : ∀ Q : lc_QT, (∀ v n2 σ2, (fun v n2 σ2 => v = none ∧ n = n2 ∧ σ2 (b) = some (.inr (0, [.ref (b + 1), .int (lc_i (lc_cnt (lc_f0) 1 36)), .int (lc_i (lc_cnt (lc_f0) 2 36)), .int (lc_i (1)), .int (lc_i (0)), .int (lc_i (m))]) : lc_Cel) ∧ σ2 (b + 1) = some (lc_aI 36 (lc_f0)) ∧ ∀ i : Nat, i ≠ b → i ≠ b + 1 → σ2 i = σ i : lc_QT) v n2 σ2 → Q v n2 σ2) → lc_V l RX0 cX0_startAnew 2 none false (lc_Rd 2) (lc_G Q 0 0) lc_E0 0 0 n 0 [(0, .ref (b))] [] σ from H _ (fun _ _ _ h => h)
  intro Q hQ
  refine lc_iconst dX0_startAnew_0 ?_
  refine lc_istore_n (lv' := [(0, .ref (b)), (1, .int (lc_i (0)))]) dX0_startAnew_1 rfl (by decide) rfl ?_
  have loop2 : ∀ (N1 : Nat) (i : Int) (fi : Int → Int) (σ4 : lc_S), (σ4 (b) = some (.inr (0, [.ref (b + 1), .int (lc_i (lc_cnt (fi) 1 36)), .int (lc_i (lc_cnt (fi) 2 36)), .int (lc_i (s)), .int (lc_i (q)), .int (lc_i (m))]) : lc_Cel)) → (σ4 (b + 1) = some (lc_aI 36 (fi))) → (∀ i : Nat, i ≠ b → i ≠ b + 1 → σ4 i = σ i) → (0 ≤ i ∧ i ≤ 36) → (∀ j : Int, 0 ≤ j → j < i → fi j = lc_f0 j) → (∀ j : Int, i ≤ j → j < 36 → fi j = f j) → 36 - i < (N1 : Int) → lc_V l RX0 cX0_startAnew 2 none false (lc_Rd 2) (lc_G Q 0 0) lc_E0 0 0 n 2 [(0, .ref (b)), (1, .int (lc_i (i)))] [] σ4 := by
    intro N1
    induction N1 with
    | zero =>
      intro i fi σ4 h5 h6 fr7 hi hf hg hm8
      exact absurd hm8 (by omega)
    | succ N1 ih3 =>
      intro i fi σ4 h5 h6 fr7 hi hf hg hm8
      refine lc_iload_n dX0_startAnew_2 rfl 1 rfl ?_
      refine lc_bipush dX0_startAnew_3 (by decide) ?_
      refine lc_icmp_ge (tgt := 23) dX0_startAnew_5 (by decide) (by omega) (fun h_5_8 => ?_) (fun h_5_8 => ?_)
      · skip
        refine lc_extI (g := lc_f0) h6 (fun j h1 h2 => hf j h1 (by omega)) (fun σ10 h11 fr12 => ?_)
        have h13 : σ10 (b) = some (.inr (0, [.ref (b + 1), .int (lc_i (lc_cnt (fi) 1 36)), .int (lc_i (lc_cnt (fi) 2 36)), .int (lc_i (s)), .int (lc_i (q)), .int (lc_i (m))]) : lc_Cel) := (fr12 _ (by omega)).trans h5
        refine lc_aload_n dX0_startAnew_23 rfl 0 rfl ?_
        refine lc_iconst dX0_startAnew_24 ?_
        refine lc_wI (vs' := [.ref (b + 1), .int (lc_i (lc_cnt (fi) 1 36)), .int (lc_i (lc_cnt (fi) 2 36)), .int (lc_i (1)), .int (lc_i (q)), .int (lc_i (m))]) dX0_startAnew_25 lc_fX0_30 h13 (Nat.le_of_ble_eq_true rfl) rfl rfl rfl (fun σ14 h15 fr16 => ?_)
        have h17 : σ14 (b + 1) = some (lc_aI 36 (lc_f0)) := (fr16 _ (by omega)).trans h11
        refine lc_aload_n dX0_startAnew_28 rfl 0 rfl ?_
        refine lc_iconst dX0_startAnew_29 ?_
        refine lc_wI (vs' := [.ref (b + 1), .int (lc_i (lc_cnt (fi) 1 36)), .int (lc_i (lc_cnt (fi) 2 36)), .int (lc_i (1)), .int (lc_i (0)), .int (lc_i (m))]) dX0_startAnew_30 lc_fX0_33 h15 (Nat.le_of_ble_eq_true rfl) rfl rfl rfl (fun σ18 h19 fr20 => ?_)
        have h21 : σ18 (b + 1) = some (lc_aI 36 (lc_f0)) := (fr20 _ (by omega)).trans h17
        exact lc_vret dX0_startAnew_33 rfl (Nat.le_of_ble_eq_true rfl) (Nat.le_of_ble_eq_true rfl) (hQ _ _ _ ⟨rfl, rfl, (by rw [h19, show (lc_cnt (lc_f0) 1 36 : Int) = lc_cnt (fi) 1 36 from (lc_cnt_ext 36 (fun j h1 h2 => (hf j h1 (by omega)).symm)), show (lc_cnt (lc_f0) 2 36 : Int) = lc_cnt (fi) 2 36 from (lc_cnt_ext 36 (fun j h1 h2 => (hf j h1 (by omega)).symm))]), h21, (fun i _ _ => ((fr20 i (by omega)).trans ((fr16 i (by omega)).trans ((fr12 i (by omega)).trans (fr7 i (by omega) (by omega))))))⟩)
      · skip
        refine lc_aload_n dX0_startAnew_8 rfl 0 rfl ?_
        refine lc_iload_n dX0_startAnew_9 rfl 1 rfl ?_
        refine lc_iload_n dX0_startAnew_10 rfl 1 rfl ?_
        refine lc_callS (As := [.int (lc_i (i))]) (stk := [.int (lc_i (i)), .ref (b)]) dX0_startAnew_11 lc_mX0_22 lc_yX0_firstSideAt (lc_cX0_firstSideAt l n (i) σ4 (by omega)) rfl ⟨Nat.le_of_ble_eq_true rfl, Nat.le_of_ble_eq_true rfl⟩ ⟨Nat.le_of_ble_eq_true rfl, Nat.le_of_ble_eq_true rfl⟩ rfl (Nat.le_of_ble_eq_true rfl) (fun v22 n23 σ24 q25 => ?_)
        obtain ⟨rfl, rfl, rfl⟩ := q25
        refine lc_callV (As := [.int (lc_i (i)), .int (lc_i (lc_f0 (i)))]) (stk := []) (b := b) dX0_startAnew_14 lc_mX0_26 lc_yX0_put h5 rfl (lc_cX0_put l n (b) (fi) (s) (q) (m) (i) (lc_f0 (i)) σ4 h5 h6 (by omega) (by rw [hg _ (by omega) (by omega)]; exact hv _ (by omega) (by omega)) (lc_f0_r _)) rfl ⟨Nat.le_of_ble_eq_true rfl, Nat.le_of_ble_eq_true rfl⟩ ⟨Nat.le_of_ble_eq_true rfl, Nat.le_of_ble_eq_true rfl⟩ rfl (Nat.le_of_ble_eq_true rfl) (fun v29 n30 σ31 q32 => ?_)
        obtain ⟨rfl, rfl, h27, h28, fr26⟩ := q32
        refine lc_iinc (lv' := [(0, .ref (b)), (1, .int (lc_i (i + 1)))]) dX0_startAnew_17 1 rfl (by decide) rfl ?_
        refine lc_goto (tgt := 2) dX0_startAnew_20 (by decide) ?_
        exact ih3 (i + 1) (lc_u (fi) (i) (lc_f0 (i))) σ31 h27 h28 (fun i _ _ => ((fr26 i (by omega) (by omega)).trans (fr7 i (by omega) (by omega)))) (by omega) (lc_ub hf) (lc_ua hg) (by omega)
  exact loop2 1000 (0) (f) σ h0_0 h0_1 (fun _ _ _ => rfl) (by omega) (fun j h1 h2 => absurd h2 (by omega)) (fun j _ _ => rfl) (by omega)

set_option maxRecDepth 100000 in
set_option maxHeartbeats 4000000 in
/-- Board.make -/
theorem lc_cX0_make (l : Launch) (n : Nat) (b : Nat) (f : Int → Int) (s q m : Int) (x y : Int) (σ : lc_S) (h0_0 : σ (b) = some (.inr (0, [.ref (b + 1), .int (lc_i (lc_cnt (f) 1 36)), .int (lc_i (lc_cnt (f) 2 36)), .int (lc_i (s)), .int (lc_i (q)), .int (lc_i (m))]) : lc_Cel)) (h0_1 : σ (b + 1) = some (lc_aI 36 (f))) (hf : ∀ j : Int, 0 ≤ j → j < 36 → 0 ≤ f j ∧ f j ≤ 2) (hs : 1 ≤ s ∧ s ≤ 2) (hp : 0 ≤ x ∧ x < 36 ∧ 0 ≤ y ∧ y < 36) : lc_Con l yX0_make cX0_make 4 (some .int) (lc_Rd 2) [.ref (b), .int (lc_i (x)), .int (lc_i (y))] n σ (fun v n2 σ2 => v = some (.int (lc_i (f y))) ∧ n = n2 ∧ σ2 (b) = some (.inr (0, [.ref (b + 1), .int (lc_i (lc_cnt (lc_u (lc_u f y s) x 0) 1 36)), .int (lc_i (lc_cnt (lc_u (lc_u f y s) x 0) 2 36)), .int (lc_i (3 - s)), .int (lc_i (if f y = 0 then q + 1 else 0)), .int (lc_i (m))]) : lc_Cel) ∧ σ2 (b + 1) = some (lc_aI 36 (lc_u (lc_u f y s) x 0)) ∧ ∀ i : Nat, i ≠ b → i ≠ b + 1 → σ2 i = σ i) := by
  refine lc_con RX0 false (by decide) rfl (fun h => absurd h (by decide)) (Nat.le_of_ble_eq_true rfl) ?_
  suffices H : ∀ Q : lc_QT, (∀ v n2 σ2, (fun v n2 σ2 => v = some (.int (lc_i (f y))) ∧ n = n2 ∧ σ2 (b) = some (.inr (0, [.ref (b + 1), .int (lc_i (lc_cnt (lc_u (lc_u f y s) x 0) 1 36)), .int (lc_i (lc_cnt (lc_u (lc_u f y s) x 0) 2 36)), .int (lc_i (3 - s)), .int (lc_i (if f y = 0 then q + 1 else 0)), .int (lc_i (m))]) : lc_Cel) ∧ σ2 (b + 1) = some (lc_aI 36 (lc_u (lc_u f y s) x 0)) ∧ ∀ i : Nat, i ≠ b → i ≠ b + 1 → σ2 i = σ i : lc_QT) v n2 σ2 → Q v n2 σ2) → lc_V l RX0 cX0_make 4 (some .int) false (lc_Rd 2) (lc_G Q 0 0) lc_E0 0 0 n 0 [(0, .ref (b)), (1, .int (lc_i (x))), (2, .int (lc_i (y)))] [] σ from H _ (fun _ _ _ h => h)
  intro Q hQ
  refine lc_aload_n dX0_make_0 rfl 0 rfl ?_
  refine lc_iload_n dX0_make_1 rfl 2 rfl ?_
  refine lc_callV (As := [.int (lc_i (y))]) (stk := []) (b := b) dX0_make_2 lc_mX0_45 lc_yX0_at h0_0 rfl (lc_cX0_at l n (b) (f) (lc_cnt (f) 1 36) (lc_cnt (f) 2 36) (s) (q) (m) (y) σ h0_0 h0_1 (by omega)) rfl ⟨Nat.le_of_ble_eq_true rfl, Nat.le_of_ble_eq_true rfl⟩ ⟨Nat.le_of_ble_eq_true rfl, Nat.le_of_ble_eq_true rfl⟩ rfl (Nat.le_of_ble_eq_true rfl) (fun v1 n2 σ3 q4 => ?_)
  obtain ⟨rfl, rfl, rfl⟩ := q4
  refine lc_top (congrArg (fun z => Value.int (lc_i z)) (show (if 0 ≤ (y) ∧ (y) < 36 then (f) (y) else 0 : Int) = f y from by rw [if_pos (by omega)])) ?_
  refine lc_istore_n (lv' := [(0, .ref (b)), (1, .int (lc_i (x))), (2, .int (lc_i (y))), (3, .int (lc_i (f y)))]) dX0_make_5 rfl (by decide) rfl ?_
  refine lc_aload_n dX0_make_6 rfl 0 rfl ?_
  refine lc_iload_n dX0_make_7 rfl 2 rfl ?_
  refine lc_aload_n dX0_make_8 rfl 0 rfl ?_
  refine lc_get dX0_make_9 lc_fX0_30 h0_0 rfl ?_
  refine lc_callV (As := [.int (lc_i (y)), .int (lc_i (s))]) (stk := []) (b := b) dX0_make_12 lc_mX0_26 lc_yX0_put h0_0 rfl (lc_cX0_put l n (b) (f) (s) (q) (m) (y) (s) σ h0_0 h0_1 (by omega) (by first | exact lc_rng2 (hf _ (by omega) (by omega)) | (unfold lc_u; (repeat' split) <;> first | omega | exact lc_rng2 (hf _ (by omega) (by omega)))) (by omega)) rfl ⟨Nat.le_of_ble_eq_true rfl, Nat.le_of_ble_eq_true rfl⟩ ⟨Nat.le_of_ble_eq_true rfl, Nat.le_of_ble_eq_true rfl⟩ rfl (Nat.le_of_ble_eq_true rfl) (fun v8 n9 σ10 q11 => ?_)
  obtain ⟨rfl, rfl, h6, h7, fr5⟩ := q11
  refine lc_aload_n dX0_make_15 rfl 0 rfl ?_
  refine lc_iload_n dX0_make_16 rfl 1 rfl ?_
  refine lc_iconst dX0_make_17 ?_
  refine lc_callV (As := [.int (lc_i (x)), .int (lc_i (0))]) (stk := []) (b := b) dX0_make_18 lc_mX0_26 lc_yX0_put h6 rfl (lc_cX0_put l n (b) (lc_u (f) (y) (s)) (s) (q) (m) (x) (0) σ10 h6 h7 (by omega) (by first | exact lc_rng2 (hf _ (by omega) (by omega)) | (unfold lc_u; (repeat' split) <;> first | omega | exact lc_rng2 (hf _ (by omega) (by omega)))) (by omega)) rfl ⟨Nat.le_of_ble_eq_true rfl, Nat.le_of_ble_eq_true rfl⟩ ⟨Nat.le_of_ble_eq_true rfl, Nat.le_of_ble_eq_true rfl⟩ rfl (Nat.le_of_ble_eq_true rfl) (fun v15 n16 σ17 q18 => ?_)
  obtain ⟨rfl, rfl, h13, h14, fr12⟩ := q18
  refine lc_aload_n dX0_make_21 rfl 0 rfl ?_
  refine lc_iload_n dX0_make_22 rfl 3 rfl ?_
  refine lc_if_ne (tgt := 35) dX0_make_23 (by decide) (lc_rng2 (hf _ (by omega) (by omega))) (fun h_23_18 => ?_) (fun h_23_18 => ?_)
  · skip
    refine lc_iconst dX0_make_35 ?_
    refine lc_wI (vs' := [.ref (b + 1), .int (lc_i (lc_cnt (lc_u (lc_u (f) (y) (s)) (x) (0)) 1 36)), .int (lc_i (lc_cnt (lc_u (lc_u (f) (y) (s)) (x) (0)) 2 36)), .int (lc_i (s)), .int (lc_i (0)), .int (lc_i (m))]) dX0_make_36 lc_fX0_33 h13 (Nat.le_of_ble_eq_true rfl) rfl rfl rfl (fun σ20 h21 fr22 => ?_)
    have h23 : σ20 (b + 1) = some (lc_aI 36 (lc_u (lc_u (f) (y) (s)) (x) (0))) := (fr22 _ (by omega)).trans h14
    refine lc_aload_n dX0_make_39 rfl 0 rfl ?_
    refine lc_callV (As := []) (stk := []) (b := b) dX0_make_40 lc_mX0_48 lc_yX0_changeSide h21 rfl (lc_cX0_changeSide l n (b) (lc_u (lc_u (f) (y) (s)) (x) (0)) (lc_cnt (lc_u (lc_u (f) (y) (s)) (x) (0)) 1 36) (lc_cnt (lc_u (lc_u (f) (y) (s)) (x) (0)) 2 36) (s) (0) (m) σ20 h21) rfl ⟨Nat.le_of_ble_eq_true rfl, Nat.le_of_ble_eq_true rfl⟩ ⟨Nat.le_of_ble_eq_true rfl, Nat.le_of_ble_eq_true rfl⟩ rfl (Nat.le_of_ble_eq_true rfl) (fun v26 n27 σ28 q29 => ?_)
    obtain ⟨rfl, rfl, h25, fr24⟩ := q29
    have h30 : σ28 (b + 1) = some (lc_aI 36 (lc_u (lc_u (f) (y) (s)) (x) (0))) := (fr24 _ (by omega)).trans h23
    refine lc_iload_n dX0_make_43 rfl 3 rfl ?_
    exact lc_iret dX0_make_44 rfl (Nat.le_of_ble_eq_true rfl) (Nat.le_of_ble_eq_true rfl) (hQ _ _ _ ⟨rfl, rfl, (by rw [h25, show (lc_cnt (lc_u (lc_u f y s) x 0) 1 36 : Int) = lc_cnt (lc_u (lc_u (f) (y) (s)) (x) (0)) 1 36 from (by (repeat' split) <;> omega), show (lc_cnt (lc_u (lc_u f y s) x 0) 2 36 : Int) = lc_cnt (lc_u (lc_u (f) (y) (s)) (x) (0)) 2 36 from (by (repeat' split) <;> omega), show (3 - s : Int) = 3 - (s) from (by (repeat' split) <;> omega), show (if f y = 0 then q + 1 else 0 : Int) = 0 from (by (repeat' split) <;> omega)]), h30, (fun i _ _ => ((fr24 i (by omega)).trans ((fr22 i (by omega)).trans ((fr12 i (by omega) (by omega)).trans (fr5 i (by omega) (by omega))))))⟩)
  · skip
    refine lc_aload_n dX0_make_26 rfl 0 rfl ?_
    refine lc_get dX0_make_27 lc_fX0_33 h13 rfl ?_
    refine lc_iconst dX0_make_30 ?_
    refine lc_iadd dX0_make_31 ?_
    refine lc_goto (tgt := 36) dX0_make_32 (by decide) ?_
    refine lc_wI (vs' := [.ref (b + 1), .int (lc_i (lc_cnt (lc_u (lc_u (f) (y) (s)) (x) (0)) 1 36)), .int (lc_i (lc_cnt (lc_u (lc_u (f) (y) (s)) (x) (0)) 2 36)), .int (lc_i (s)), .int (lc_i ((q) + (1))), .int (lc_i (m))]) dX0_make_36 lc_fX0_33 h13 (Nat.le_of_ble_eq_true rfl) rfl rfl rfl (fun σ31 h32 fr33 => ?_)
    have h34 : σ31 (b + 1) = some (lc_aI 36 (lc_u (lc_u (f) (y) (s)) (x) (0))) := (fr33 _ (by omega)).trans h14
    refine lc_aload_n dX0_make_39 rfl 0 rfl ?_
    refine lc_callV (As := []) (stk := []) (b := b) dX0_make_40 lc_mX0_48 lc_yX0_changeSide h32 rfl (lc_cX0_changeSide l n (b) (lc_u (lc_u (f) (y) (s)) (x) (0)) (lc_cnt (lc_u (lc_u (f) (y) (s)) (x) (0)) 1 36) (lc_cnt (lc_u (lc_u (f) (y) (s)) (x) (0)) 2 36) (s) ((q) + (1)) (m) σ31 h32) rfl ⟨Nat.le_of_ble_eq_true rfl, Nat.le_of_ble_eq_true rfl⟩ ⟨Nat.le_of_ble_eq_true rfl, Nat.le_of_ble_eq_true rfl⟩ rfl (Nat.le_of_ble_eq_true rfl) (fun v37 n38 σ39 q40 => ?_)
    obtain ⟨rfl, rfl, h36, fr35⟩ := q40
    have h41 : σ39 (b + 1) = some (lc_aI 36 (lc_u (lc_u (f) (y) (s)) (x) (0))) := (fr35 _ (by omega)).trans h34
    refine lc_iload_n dX0_make_43 rfl 3 rfl ?_
    exact lc_iret dX0_make_44 rfl (Nat.le_of_ble_eq_true rfl) (Nat.le_of_ble_eq_true rfl) (hQ _ _ _ ⟨rfl, rfl, (by rw [h36, show (lc_cnt (lc_u (lc_u f y s) x 0) 1 36 : Int) = lc_cnt (lc_u (lc_u (f) (y) (s)) (x) (0)) 1 36 from (by (repeat' split) <;> omega), show (lc_cnt (lc_u (lc_u f y s) x 0) 2 36 : Int) = lc_cnt (lc_u (lc_u (f) (y) (s)) (x) (0)) 2 36 from (by (repeat' split) <;> omega), show (3 - s : Int) = 3 - (s) from (by (repeat' split) <;> omega), show (if f y = 0 then q + 1 else 0 : Int) = (q) + (1) from (by (repeat' split) <;> omega)]), h41, (fun i _ _ => ((fr35 i (by omega)).trans ((fr33 i (by omega)).trans ((fr12 i (by omega) (by omega)).trans (fr5 i (by omega) (by omega))))))⟩)

set_option maxRecDepth 100000 in
set_option maxHeartbeats 4000000 in
/-- Board.takeBack -/
theorem lc_cX0_takeBack (l : Launch) (n : Nat) (b : Nat) (f : Int → Int) (s q m : Int) (x y k q2 : Int) (σ : lc_S) (h0_0 : σ (b) = some (.inr (0, [.ref (b + 1), .int (lc_i (lc_cnt (f) 1 36)), .int (lc_i (lc_cnt (f) 2 36)), .int (lc_i (s)), .int (lc_i (q)), .int (lc_i (m))]) : lc_Cel)) (h0_1 : σ (b + 1) = some (lc_aI 36 (f))) (hf : ∀ j : Int, 0 ≤ j → j < 36 → 0 ≤ f j ∧ f j ≤ 2) (hs : 1 ≤ s ∧ s ≤ 2) (hp : 0 ≤ x ∧ x < 36 ∧ 0 ≤ y ∧ y < 36) (hk : 0 ≤ k ∧ k ≤ 2) : lc_Con l yX0_takeBack cX0_takeBack 5 none (lc_Rd 2) [.ref (b), .int (lc_i (x)), .int (lc_i (y)), .int (lc_i (k)), .int (lc_i (q2))] n σ (fun v n2 σ2 => v = none ∧ n = n2 ∧ σ2 (b) = some (.inr (0, [.ref (b + 1), .int (lc_i (lc_cnt (lc_u (lc_u f x (3 - s)) y k) 1 36)), .int (lc_i (lc_cnt (lc_u (lc_u f x (3 - s)) y k) 2 36)), .int (lc_i (3 - s)), .int (lc_i (q2)), .int (lc_i (m))]) : lc_Cel) ∧ σ2 (b + 1) = some (lc_aI 36 (lc_u (lc_u f x (3 - s)) y k)) ∧ ∀ i : Nat, i ≠ b → i ≠ b + 1 → σ2 i = σ i) := by
  refine lc_con RX0 false (by decide) rfl (fun h => absurd h (by decide)) (Nat.le_of_ble_eq_true rfl) ?_
  suffices H : ∀ Q : lc_QT, (∀ v n2 σ2, (fun v n2 σ2 => v = none ∧ n = n2 ∧ σ2 (b) = some (.inr (0, [.ref (b + 1), .int (lc_i (lc_cnt (lc_u (lc_u f x (3 - s)) y k) 1 36)), .int (lc_i (lc_cnt (lc_u (lc_u f x (3 - s)) y k) 2 36)), .int (lc_i (3 - s)), .int (lc_i (q2)), .int (lc_i (m))]) : lc_Cel) ∧ σ2 (b + 1) = some (lc_aI 36 (lc_u (lc_u f x (3 - s)) y k)) ∧ ∀ i : Nat, i ≠ b → i ≠ b + 1 → σ2 i = σ i : lc_QT) v n2 σ2 → Q v n2 σ2) → lc_V l RX0 cX0_takeBack 5 none false (lc_Rd 2) (lc_G Q 0 0) lc_E0 0 0 n 0 [(0, .ref (b)), (1, .int (lc_i (x))), (2, .int (lc_i (y))), (3, .int (lc_i (k))), (4, .int (lc_i (q2)))] [] σ from H _ (fun _ _ _ h => h)
  intro Q hQ
  refine lc_aload_n dX0_takeBack_0 rfl 0 rfl ?_
  refine lc_callV (As := []) (stk := []) (b := b) dX0_takeBack_1 lc_mX0_48 lc_yX0_changeSide h0_0 rfl (lc_cX0_changeSide l n (b) (f) (lc_cnt (f) 1 36) (lc_cnt (f) 2 36) (s) (q) (m) σ h0_0) rfl ⟨Nat.le_of_ble_eq_true rfl, Nat.le_of_ble_eq_true rfl⟩ ⟨Nat.le_of_ble_eq_true rfl, Nat.le_of_ble_eq_true rfl⟩ rfl (Nat.le_of_ble_eq_true rfl) (fun v3 n4 σ5 q6 => ?_)
  obtain ⟨rfl, rfl, h2, fr1⟩ := q6
  have h7 : σ5 (b + 1) = some (lc_aI 36 (f)) := (fr1 _ (by omega)).trans h0_1
  refine lc_aload_n dX0_takeBack_4 rfl 0 rfl ?_
  refine lc_iload_n dX0_takeBack_5 rfl 1 rfl ?_
  refine lc_aload_n dX0_takeBack_6 rfl 0 rfl ?_
  refine lc_get dX0_takeBack_7 lc_fX0_30 h2 rfl ?_
  refine lc_callV (As := [.int (lc_i (x)), .int (lc_i (3 - (s)))]) (stk := []) (b := b) dX0_takeBack_10 lc_mX0_26 lc_yX0_put h2 rfl (lc_cX0_put l n (b) (f) (3 - (s)) (q) (m) (x) (3 - (s)) σ5 h2 h7 (by omega) (by first | exact lc_rng2 (hf _ (by omega) (by omega)) | (unfold lc_u; (repeat' split) <;> first | omega | exact lc_rng2 (hf _ (by omega) (by omega)))) (by omega)) rfl ⟨Nat.le_of_ble_eq_true rfl, Nat.le_of_ble_eq_true rfl⟩ ⟨Nat.le_of_ble_eq_true rfl, Nat.le_of_ble_eq_true rfl⟩ rfl (Nat.le_of_ble_eq_true rfl) (fun v11 n12 σ13 q14 => ?_)
  obtain ⟨rfl, rfl, h9, h10, fr8⟩ := q14
  refine lc_aload_n dX0_takeBack_13 rfl 0 rfl ?_
  refine lc_iload_n dX0_takeBack_14 rfl 2 rfl ?_
  refine lc_iload_n dX0_takeBack_15 rfl 3 rfl ?_
  refine lc_callV (As := [.int (lc_i (y)), .int (lc_i (k))]) (stk := []) (b := b) dX0_takeBack_16 lc_mX0_26 lc_yX0_put h9 rfl (lc_cX0_put l n (b) (lc_u (f) (x) (3 - (s))) (3 - (s)) (q) (m) (y) (k) σ13 h9 h10 (by omega) (by first | exact lc_rng2 (hf _ (by omega) (by omega)) | (unfold lc_u; (repeat' split) <;> first | omega | exact lc_rng2 (hf _ (by omega) (by omega)))) (by omega)) rfl ⟨Nat.le_of_ble_eq_true rfl, Nat.le_of_ble_eq_true rfl⟩ ⟨Nat.le_of_ble_eq_true rfl, Nat.le_of_ble_eq_true rfl⟩ rfl (Nat.le_of_ble_eq_true rfl) (fun v18 n19 σ20 q21 => ?_)
  obtain ⟨rfl, rfl, h16, h17, fr15⟩ := q21
  refine lc_aload_n dX0_takeBack_19 rfl 0 rfl ?_
  refine lc_iload dX0_takeBack_20 4 rfl ?_
  refine lc_wI (vs' := [.ref (b + 1), .int (lc_i (lc_cnt (lc_u (lc_u (f) (x) (3 - (s))) (y) (k)) 1 36)), .int (lc_i (lc_cnt (lc_u (lc_u (f) (x) (3 - (s))) (y) (k)) 2 36)), .int (lc_i (3 - (s))), .int (lc_i (q2)), .int (lc_i (m))]) dX0_takeBack_22 lc_fX0_33 h16 (Nat.le_of_ble_eq_true rfl) rfl rfl rfl (fun σ22 h23 fr24 => ?_)
  have h25 : σ22 (b + 1) = some (lc_aI 36 (lc_u (lc_u (f) (x) (3 - (s))) (y) (k))) := (fr24 _ (by omega)).trans h17
  exact lc_vret dX0_takeBack_25 rfl (Nat.le_of_ble_eq_true rfl) (Nat.le_of_ble_eq_true rfl) (hQ _ _ _ ⟨rfl, rfl, (by rw [h23, show (lc_cnt (lc_u (lc_u f x (3 - s)) y k) 1 36 : Int) = lc_cnt (lc_u (lc_u (f) (x) (3 - (s))) (y) (k)) 1 36 from (by (repeat' split) <;> omega), show (lc_cnt (lc_u (lc_u f x (3 - s)) y k) 2 36 : Int) = lc_cnt (lc_u (lc_u (f) (x) (3 - (s))) (y) (k)) 2 36 from (by (repeat' split) <;> omega), show (3 - s : Int) = 3 - (s) from (by (repeat' split) <;> omega)]), h25, (fun i _ _ => ((fr24 i (by omega)).trans ((fr15 i (by omega) (by omega)).trans ((fr8 i (by omega) (by omega)).trans (fr1 i (by omega))))))⟩)

set_option maxRecDepth 100000 in
set_option maxHeartbeats 4000000 in
/-- Board.key -/
theorem lc_cX0_key (l : Launch) (n : Nat) (b : Nat) (f : Int → Int) (o t s q m : Int) (σ : lc_S) (h0_0 : σ (b) = some (.inr (0, [.ref (b + 1), .int (lc_i (o)), .int (lc_i (t)), .int (lc_i (s)), .int (lc_i (q)), .int (lc_i (m))]) : lc_Cel)) (h0_1 : σ (b + 1) = some (lc_aI 36 (f))) (hf : ∀ j : Int, 0 ≤ j → j < 36 → 0 ≤ f j ∧ f j ≤ 2) (hs : 1 ≤ s ∧ s ≤ 2) : lc_Con l yX0_key cX0_key 4 (some .long) (lc_Rd 0) [.ref (b)] n σ (fun v n2 σ2 => v = some (.long (lc_j (lc_key f s 36))) ∧ n = n2 ∧ σ = σ2) := by
  refine lc_con RX0 false (by decide) rfl (fun h => absurd h (by decide)) (Nat.le_of_ble_eq_true rfl) ?_
  suffices H : ∀ Q : lc_QT, (∀ v n2 σ2, (fun v n2 σ2 => v = some (.long (lc_j (lc_key f s 36))) ∧ n = n2 ∧ σ = σ2 : lc_QT) v n2 σ2 → Q v n2 σ2) → lc_V l RX0 cX0_key 4 (some .long) false (lc_Rd 0) (lc_G Q 0 0) lc_E0 0 0 n 0 [(0, .ref (b))] [] σ from H _ (fun _ _ _ h => h)
  intro Q hQ
  refine lc_aload_n dX0_key_0 rfl 0 rfl ?_
  refine lc_get dX0_key_1 lc_fX0_30 h0_0 rfl ?_
  refine lc_i2l dX0_key_4 rfl ?_
  refine lc_top (congrArg Value.long (show ((lc_i (s)).toInt64 : Int64) = lc_j (lc_key f s (0 : Int).toNat) from by rw [lc_j_i (by omega)]; rfl)) ?_
  refine lc_lstore_n (lv' := [(0, .ref (b)), (1, .long (lc_j (lc_key f s (0 : Int).toNat)))]) dX0_key_5 rfl (by decide) rfl ?_
  refine lc_iconst dX0_key_6 ?_
  refine lc_istore_n (lv' := [(0, .ref (b)), (1, .long (lc_j (lc_key f s (0 : Int).toNat))), (3, .int (lc_i (0)))]) dX0_key_7 rfl (by decide) rfl ?_
  have loop2 : ∀ (N1 : Nat) (i : Int), (0 ≤ i ∧ i ≤ 36) → 36 - i < (N1 : Int) → lc_V l RX0 cX0_key 4 (some .long) false (lc_Rd 0) (lc_G Q 0 0) lc_E0 0 0 n 8 [(0, .ref (b)), (1, .long (lc_j (lc_key f s (i).toNat))), (3, .int (lc_i (i)))] [] σ := by
    intro N1
    induction N1 with
    | zero =>
      intro i hi hm4
      exact absurd hm4 (by omega)
    | succ N1 ih3 =>
      intro i hi hm4
      refine lc_iload_n dX0_key_8 rfl 2 rfl ?_
      refine lc_bipush dX0_key_9 (by decide) ?_
      refine lc_icmp_ge (tgt := 34) dX0_key_11 (by decide) (by omega) (fun h_11_4 => ?_) (fun h_11_4 => ?_)
      · skip
        refine lc_lload_n dX0_key_34 rfl 1 rfl ?_
        exact lc_lret dX0_key_35 rfl (Nat.le_of_ble_eq_true rfl) (Nat.le_of_ble_eq_true rfl) (hQ _ _ _ ⟨by rw [show (i).toNat = 36 from by omega], rfl, rfl⟩)
      · skip
        refine lc_lload_n dX0_key_14 rfl 1 rfl ?_
        refine lc_ldc2 (x := 3) dX0_key_15 lc_cl3 ?_
        refine lc_lmul dX0_key_18 ?_
        refine lc_aload_n dX0_key_19 rfl 0 rfl ?_
        refine lc_get dX0_key_20 lc_fX0_9 h0_0 rfl ?_
        refine lc_iload_n dX0_key_23 rfl 2 rfl ?_
        refine lc_iald dX0_key_24 h0_1 (by omega) (by decide) ?_
        refine lc_i2l dX0_key_25 rfl ?_
        refine lc_ladd dX0_key_26 ?_
        refine lc_top (congrArg Value.long (show (((lc_j (lc_key f s (i).toNat)) * (3)) + ((lc_i ((f) (i))).toInt64) : Int64) = lc_j (lc_key f s (i + 1).toNat) from by rw [lc_j_3, lc_j_mul, lc_j_i (lc_rng2 (hf i (by omega) (by omega))), lc_j_add, show (i + 1).toNat = i.toNat + 1 from by omega, lc_key, show ((i.toNat : Nat) : Int) = i from by omega])) ?_
        refine lc_lstore_n (lv' := [(0, .ref (b)), (1, .long (lc_j (lc_key f s (i + 1).toNat))), (3, .int (lc_i (i)))]) dX0_key_27 rfl (by decide) rfl ?_
        refine lc_iinc (lv' := [(0, .ref (b)), (1, .long (lc_j (lc_key f s (i + 1).toNat))), (3, .int (lc_i (i + 1)))]) dX0_key_28 2 rfl (by decide) rfl ?_
        refine lc_goto (tgt := 8) dX0_key_31 (by decide) ?_
        exact ih3 (i + 1) (by omega) (by omega)
  exact loop2 1000 (0) (by omega) (by omega)
end
section
/-! the circuits, a going along them, and ways -/
def lc_pa (c p : Int) : Int := if p / 6 = 0 then 6 * (1 + c) + p % 6 else if p / 6 = 1 then 6 * (p % 6) + (4 - c) else if p / 6 = 2 then 6 * (4 - c) + 5 - p % 6 else 6 * (5 - p % 6) + (1 + c)
def lc_pt (x : Int) : Int := lc_pa (x / 24) (x % 24)
def lc_spL : List Int := [-1, -1, 23, -1, 47, -1, 30, -1, 6, -1, -1, -1, 0, -1, 1, 22, 2, 46, 3, 31, 4, 7, 5, -1, 24, -1, 21, 25, 26, 45, 27, 32, 8, 28, 29, -1, 41, -1, 20, 40, 39, 44, 33, 38, 9, 37, 36, -1, 17, -1, 16, 19, 15, 43, 14, 34, 10, 13, 12, -1, -1, -1, 18, -1, 42, -1, 35, -1, 11, -1, -1, -1]
def lc_sp (i : Int) : Int := lc_spL.getD i.toNat (-1)
theorem lc_pt_r {x : Int} (h : 0 ≤ x ∧ x < 48) : 0 ≤ lc_pt x ∧ lc_pt x < 36 := by
  unfold lc_pt lc_pa
  (repeat' split) <;> omega
theorem lc_all_dec {N : Nat} {P : Nat → Prop} [DecidablePred P] (h : ∀ i, i < N → P i) {x : Int} (hx : 0 ≤ x ∧ x < N) : P x.toNat := h x.toNat (by omega)
theorem lc_sp_r0 : ∀ i : Nat, i < 72 → -1 ≤ lc_sp i ∧ lc_sp i < 48 := by decide
theorem lc_sp_r {x : Int} (h : 0 ≤ x ∧ x < 72) : -1 ≤ lc_sp x ∧ lc_sp x < 48 := by
  have := lc_sp_r0 x.toNat (by omega)
  rwa [show ((x.toNat : Nat) : Int) = x by omega] at this
def lc_el (d : Int) : Int := if 0 < d then 5 else 0
theorem lc_el_r (d : Int) : 0 ≤ lc_el d ∧ lc_el d ≤ 5 := by unfold lc_el; split <;> omega
def lc_pl (x d : Int) : Nat → Int
  | 0 => x % 24
  | k + 1 => (lc_pl x d k + d + 24) % 24
def lc_lo (x d : Int) : Nat → Int
  | 0 => 0
  | k + 1 => lc_lo x d k + (if lc_pl x d k % 6 = lc_el d then 1 else 0)
def lc_wp (x d : Int) (k : Nat) : Int := lc_pt (x - x % 24 + lc_pl x d k)
def lc_oc (f : Int → Int) (x d : Int) (k : Nat) : Bool := decide (lc_wp x d k ≠ lc_pt x) && decide (f (lc_wp x d k) ≠ 0)
def lc_Kf (f : Int → Int) (x d : Int) : Nat → Nat → Nat
  | 0, k => k
  | n + 1, k => bif lc_oc f x d k then k else lc_Kf f x d n (k + 1)
def lc_K (f : Int → Int) (x d : Int) : Nat := lc_Kf f x d 23 1
def lc_M (f : Int → Int) (x d : Int) : Int := if lc_K f x d = 24 then -1 else lc_wp x d (lc_K f x d)
def lc_Lo (f : Int → Int) (x d : Int) : Int := if lc_K f x d = 24 then lc_lo x d 23 else lc_lo x d (lc_K f x d)
theorem lc_pl_r (x d : Int) : ∀ k : Nat, 0 ≤ lc_pl x d k ∧ lc_pl x d k < 24
  | 0 => by unfold lc_pl; omega
  | k + 1 => by unfold lc_pl; omega
theorem lc_lo_s1 {x d : Int} {j : Nat} (h : lc_pl x d j % 6 = lc_el d) : lc_lo x d (j + 1) = (lc_lo x d j) + (1) := by
  show lc_lo x d j + (if lc_pl x d j % 6 = lc_el d then 1 else 0) = _
  rw [if_pos h]
theorem lc_lo_s0 {x d : Int} {j : Nat} (h : lc_pl x d j % 6 ≠ lc_el d) : lc_lo x d (j + 1) = lc_lo x d j := by
  show lc_lo x d j + (if lc_pl x d j % 6 = lc_el d then 1 else 0) = _
  rw [if_neg h, Int.add_zero]
theorem lc_lo_r (x d : Int) : ∀ k : Nat, 0 ≤ lc_lo x d k ∧ lc_lo x d k ≤ k
  | 0 => by unfold lc_lo; omega
  | k + 1 => by
    have := lc_lo_r x d k
    unfold lc_lo
    split <;> omega
theorem lc_wp_r {x : Int} (d : Int) (h : 0 ≤ x ∧ x < 48) (k : Nat) : 0 ≤ lc_wp x d k ∧ lc_wp x d k < 36 := by
  have := lc_pl_r x d k
  exact lc_pt_r (by omega)
theorem lc_Kf_r (f : Int → Int) (x d : Int) : ∀ (n k : Nat), k ≤ lc_Kf f x d n k ∧ lc_Kf f x d n k ≤ k + n
  | 0, k => by unfold lc_Kf; omega
  | n + 1, k => by
    have := lc_Kf_r f x d n (k + 1)
    unfold lc_Kf
    cases lc_oc f x d k
    · simp only [cond_false]; omega
    · simp only [cond_true]; omega
theorem lc_K_r (f : Int → Int) (x d : Int) : 1 ≤ lc_K f x d ∧ lc_K f x d ≤ 24 := lc_Kf_r f x d 23 1
theorem lc_M_r (f : Int → Int) {x : Int} (d : Int) (h : 0 ≤ x ∧ x < 48) : -1 ≤ lc_M f x d ∧ lc_M f x d < 36 := by
  have := lc_wp_r d h (lc_K f x d)
  unfold lc_M
  split <;> omega
theorem lc_Lo_r (f : Int → Int) (x d : Int) : 0 ≤ lc_Lo f x d ∧ lc_Lo f x d ≤ 24 := by
  have h1 := lc_lo_r x d 23
  have h2 := lc_lo_r x d (lc_K f x d)
  have h3 := lc_K_r f x d
  unfold lc_Lo
  split <;> omega
/-- one step of the search for the first piece -/
theorem lc_Kf_s {f : Int → Int} {x d : Int} {n k : Nat} (h : lc_oc f x d k = false) : lc_Kf f x d (n + 1) k = lc_Kf f x d n (k + 1) := by
  show (bif lc_oc f x d k then k else lc_Kf f x d n (k + 1)) = _
  rw [h]; rfl
theorem lc_Kf_t {f : Int → Int} {x d : Int} {n k : Nat} (h : lc_oc f x d k = true) : lc_Kf f x d (n + 1) k = k := by
  show (bif lc_oc f x d k then k else lc_Kf f x d n (k + 1)) = _
  rw [h]; rfl
theorem lc_oc_n1 {f : Int → Int} {x d : Int} {k : Nat} (h : lc_wp x d k = lc_pt x) : lc_oc f x d k = false := by simp [lc_oc, h]
theorem lc_oc_n2 {f : Int → Int} {x d : Int} {k : Nat} (h : f (lc_wp x d k) = 0) : lc_oc f x d k = false := by simp [lc_oc, h]
theorem lc_oc_y {f : Int → Int} {x d : Int} {k : Nat} (h1 : lc_wp x d k ≠ lc_pt x) (h2 : f (lc_wp x d k) ≠ 0) : lc_oc f x d k = true := by simp [lc_oc, h1, h2]
theorem lc_Kf_b {f : Int → Int} {x d : Int} {j : Nat} (hK : lc_K f x d = lc_Kf f x d (23 - j) (j + 1)) (hj : j < 23) (h : lc_oc f x d (j + 1) = false) : lc_K f x d = lc_Kf f x d (23 - (j + 1)) (j + 1 + 1) := by
  rw [hK, show 23 - j = (22 - j) + 1 by omega, lc_Kf_s h, show 23 - (j + 1) = 22 - j by omega]
theorem lc_Kf_e {f : Int → Int} {x d : Int} {j : Nat} (hK : lc_K f x d = lc_Kf f x d (23 - j) (j + 1)) (hj : j < 23) (h : lc_oc f x d (j + 1) = true) : lc_K f x d = j + 1 := by
  rw [hK, show 23 - j = (22 - j) + 1 by omega, lc_Kf_t h]
theorem lc_Kf_n {f : Int → Int} {x d : Int} {j : Nat} (hK : lc_K f x d = lc_Kf f x d (23 - j) (j + 1)) (hj : ¬ j < 23) (h : j ≤ 23) : lc_K f x d = 24 := by
  rw [hK, show j = 23 by omega]
  rfl
theorem lc_M_1 {f : Int → Int} {x d : Int} {j : Nat} (h : lc_K f x d = j + 1) (hj : j < 23) : lc_M f x d = lc_wp x d (j + 1) := by
  unfold lc_M
  rw [h, if_neg (by omega)]
theorem lc_Lo_1 {f : Int → Int} {x d : Int} {j : Nat} (h : lc_K f x d = j + 1) (hj : j < 23) : lc_Lo f x d = lc_lo x d (j + 1) := by
  unfold lc_Lo
  rw [h, if_neg (by omega)]
theorem lc_M_0 {f : Int → Int} {x d : Int} (h : lc_K f x d = 24) : lc_M f x d = -1 := by
  unfold lc_M
  rw [if_pos h]
theorem lc_Lo_0 {f : Int → Int} {x d : Int} (h : lc_K f x d = 24) : lc_Lo f x d = lc_lo x d 23 := by
  unfold lc_Lo
  rw [if_pos h]
/-- the way that matters, of those that were tried: loops, places, where it begins, its direction -/
def lc_try (f : Int → Int) (to : Int) (w : Int × Int × Int × Int) (x d : Int) : Int × Int × Int × Int := if (0 < lc_Lo f x d ∧ lc_M f x d = to) ∧ (w.1 = 0 ∨ (lc_Lo f x d < w.1 ∨ (lc_Lo f x d = w.1 ∧ (lc_K f x d : Int) < w.2.1))) then (lc_Lo f x d, (lc_K f x d : Int), x, d) else w
def lc_two (f : Int → Int) (to : Int) (w : Int × Int × Int × Int) (x : Int) : Int × Int × Int × Int := if x = -1 then w else lc_try f to (lc_try f to w x 1) x (-1)
def lc_find (f : Int → Int) (fr to : Int) (w : Int × Int × Int × Int) : Int × Int × Int × Int := lc_two f to (lc_two f to (0, w.2) (lc_sp (fr * 2))) (lc_sp (fr * 2 + 1))
def lc_wok (w : Int × Int × Int × Int) : Prop := (0 ≤ w.1 ∧ w.1 ≤ 24) ∧ (w.1 ≠ 0 → (1 ≤ w.2.1 ∧ w.2.1 ≤ 24) ∧ (0 ≤ w.2.2.1 ∧ w.2.2.1 < 48) ∧ (w.2.2.2 = 1 ∨ w.2.2.2 = -1))
theorem lc_try_ok {f : Int → Int} {to x d : Int} {w : Int × Int × Int × Int} (h : lc_wok w) (hx : 0 ≤ x ∧ x < 48) (hd : d = 1 ∨ d = -1) : lc_wok (lc_try f to w x d) := by
  have h1 := lc_Lo_r f x d
  have h2 := lc_K_r f x d
  unfold lc_try
  split
  · exact ⟨h1, fun _ => ⟨by show 1 ≤ (lc_K f x d : Int) ∧ (lc_K f x d : Int) ≤ 24; omega, hx, hd⟩⟩
  · exact h
theorem lc_two_ok {f : Int → Int} {to x : Int} {w : Int × Int × Int × Int} (h : lc_wok w) (hx : -1 ≤ x ∧ x < 48) : lc_wok (lc_two f to w x) := by
  unfold lc_two
  split
  · exact h
  · exact lc_try_ok (lc_try_ok h (by omega) (Or.inl rfl)) (by omega) (Or.inr rfl)
theorem lc_w0 (w : Int × Int × Int) : lc_wok (0, w) := ⟨⟨Int.le_refl 0, show (0 : Int) ≤ 24 by decide⟩, fun h => absurd rfl h⟩

set_option maxRecDepth 100000 in
set_option maxHeartbeats 4000000 in
theorem lc_cX1_pointAt (l : Launch) (n : Nat) (x : Int) (σ : lc_S) (h0_0 : σ (2) = some (.inr (1, [.ref (3), .ref (4)]) : lc_Cel)) (h0_1 : σ (3) = some (lc_aI 48 (lc_pt))) (hx : -2147483648 ≤ x ∧ x < 2147483648) : lc_Con l yX1_pointAt cX1_pointAt 2 (some .int) (lc_Rd 0) [.ref (2), .int (lc_i (x))] n σ (fun v n2 σ2 => v = some (.int (lc_i (if 0 ≤ x ∧ x < 48 then lc_pt x else -1))) ∧ n = n2 ∧ σ = σ2) := by
  refine lc_con RX1 false (by decide) rfl (fun h => absurd h (by decide)) (Nat.le_of_ble_eq_true rfl) ?_
  suffices H : ∀ Q : lc_QT, (∀ v n2 σ2, (fun v n2 σ2 => v = some (.int (lc_i (if 0 ≤ x ∧ x < 48 then lc_pt x else -1))) ∧ n = n2 ∧ σ = σ2 : lc_QT) v n2 σ2 → Q v n2 σ2) → lc_V l RX1 cX1_pointAt 2 (some .int) false (lc_Rd 0) (lc_G Q 0 0) lc_E0 0 0 n 0 [(0, .ref (2)), (1, .int (lc_i (x)))] [] σ from H _ (fun _ _ _ h => h)
  intro Q hQ
  refine lc_iload_n dX1_pointAt_0 rfl 1 rfl ?_
  refine lc_if_lt (tgt := 22) dX1_pointAt_1 (by decide) (by omega) (fun h_1_0 => ?_) (fun h_1_0 => ?_)
  · skip
    refine lc_iconst dX1_pointAt_22 ?_
    exact lc_iret dX1_pointAt_23 rfl (Nat.le_of_ble_eq_true rfl) (Nat.le_of_ble_eq_true rfl) (hQ _ _ _ ⟨lc_some (by (repeat' split) <;> omega), rfl, rfl⟩)
  · skip
    refine lc_iload_n dX1_pointAt_4 rfl 1 rfl ?_
    refine lc_aload_n dX1_pointAt_5 rfl 0 rfl ?_
    refine lc_get dX1_pointAt_6 lc_fX1_11 h0_0 rfl ?_
    refine lc_alen dX1_pointAt_9 h0_1 (by decide) ?_
    refine lc_icmp_ge (tgt := 22) dX1_pointAt_10 (by decide) (by omega) (fun h_10_1 => ?_) (fun h_10_1 => ?_)
    · skip
      refine lc_iconst dX1_pointAt_22 ?_
      exact lc_iret dX1_pointAt_23 rfl (Nat.le_of_ble_eq_true rfl) (Nat.le_of_ble_eq_true rfl) (hQ _ _ _ ⟨lc_some (by (repeat' split) <;> omega), rfl, rfl⟩)
    · skip
      refine lc_aload_n dX1_pointAt_13 rfl 0 rfl ?_
      refine lc_get dX1_pointAt_14 lc_fX1_11 h0_0 rfl ?_
      refine lc_iload_n dX1_pointAt_17 rfl 1 rfl ?_
      refine lc_iald dX1_pointAt_18 h0_1 (by omega) (by decide) ?_
      refine lc_goto (tgt := 23) dX1_pointAt_19 (by decide) ?_
      exact lc_iret dX1_pointAt_23 rfl (Nat.le_of_ble_eq_true rfl) (Nat.le_of_ble_eq_true rfl) (hQ _ _ _ ⟨lc_some (by (repeat' split) <;> omega), rfl, rfl⟩)

set_option maxRecDepth 100000 in
set_option maxHeartbeats 4000000 in
theorem lc_cX1_spotOf (l : Launch) (n : Nat) (x y : Int) (σ : lc_S) (h0_0 : σ (2) = some (.inr (1, [.ref (3), .ref (4)]) : lc_Cel)) (h0_1 : σ (4) = some (lc_aI 72 (lc_sp))) (hx : 0 ≤ x ∧ x < 36) (hy : 0 ≤ y ∧ y < 2) : lc_Con l yX1_spotOf cX1_spotOf 4 (some .int) (lc_Rd 0) [.ref (2), .int (lc_i (x)), .int (lc_i (y))] n σ (fun v n2 σ2 => v = some (.int (lc_i (lc_sp (x * 2 + y)))) ∧ n = n2 ∧ σ = σ2) := by
  refine lc_con RX1 false (by decide) rfl (fun h => absurd h (by decide)) (Nat.le_of_ble_eq_true rfl) ?_
  suffices H : ∀ Q : lc_QT, (∀ v n2 σ2, (fun v n2 σ2 => v = some (.int (lc_i (lc_sp (x * 2 + y)))) ∧ n = n2 ∧ σ = σ2 : lc_QT) v n2 σ2 → Q v n2 σ2) → lc_V l RX1 cX1_spotOf 4 (some .int) false (lc_Rd 0) (lc_G Q 0 0) lc_E0 0 0 n 0 [(0, .ref (2)), (1, .int (lc_i (x))), (2, .int (lc_i (y)))] [] σ from H _ (fun _ _ _ h => h)
  intro Q hQ
  refine lc_iload_n dX1_spotOf_0 rfl 1 rfl ?_
  refine lc_iconst dX1_spotOf_1 ?_
  refine lc_imul dX1_spotOf_2 ?_
  refine lc_top (congrArg (fun z => Value.int (lc_i z)) (show ((x) * (2) : Int) = x * 2 from rfl)) ?_
  refine lc_iload_n dX1_spotOf_3 rfl 2 rfl ?_
  refine lc_iadd dX1_spotOf_4 ?_
  refine lc_top (congrArg (fun z => Value.int (lc_i z)) (show ((x * 2) + (y) : Int) = x * 2 + y from rfl)) ?_
  refine lc_istore_n (lv' := [(0, .ref (2)), (1, .int (lc_i (x))), (2, .int (lc_i (y))), (3, .int (lc_i (x * 2 + y)))]) dX1_spotOf_5 rfl (by decide) rfl ?_
  refine lc_iload_n dX1_spotOf_6 rfl 3 rfl ?_
  refine lc_if_lt (tgt := 28) dX1_spotOf_7 (by decide) (by omega) (fun h_7_0 => ?_) (fun h_7_0 => ?_)
  · omega
  · skip
    refine lc_iload_n dX1_spotOf_10 rfl 3 rfl ?_
    refine lc_aload_n dX1_spotOf_11 rfl 0 rfl ?_
    refine lc_get dX1_spotOf_12 lc_fX1_15 h0_0 rfl ?_
    refine lc_alen dX1_spotOf_15 h0_1 (by decide) ?_
    refine lc_icmp_ge (tgt := 28) dX1_spotOf_16 (by decide) (by omega) (fun h_16_1 => ?_) (fun h_16_1 => ?_)
    · omega
    · skip
      refine lc_aload_n dX1_spotOf_19 rfl 0 rfl ?_
      refine lc_get dX1_spotOf_20 lc_fX1_15 h0_0 rfl ?_
      refine lc_iload_n dX1_spotOf_23 rfl 3 rfl ?_
      refine lc_iald dX1_spotOf_24 h0_1 (by omega) (by decide) ?_
      refine lc_goto (tgt := 29) dX1_spotOf_25 (by decide) ?_
      exact lc_iret dX1_spotOf_29 rfl (Nat.le_of_ble_eq_true rfl) (Nat.le_of_ble_eq_true rfl) (hQ _ _ _ ⟨rfl, rfl, rfl⟩)

set_option maxRecDepth 100000 in
set_option maxHeartbeats 4000000 in
/-- Walk.go: the first piece on the way, its loops and places -/
theorem lc_cX8_go (l : Launch) (n : Nat) (w : Nat) (a1 a2 a3 : Int) (b : Nat) (f : Int → Int) (o t s q m : Int) (x d : Int) (σ : lc_S) (h0_0 : σ (w) = some (.inr (8, [.ref (2), .int (lc_i (a1)), .int (lc_i (a2)), .int (lc_i (a3))]) : lc_Cel)) (h0_1 : σ (2) = some (.inr (1, [.ref (3), .ref (4)]) : lc_Cel)) (h0_2 : σ (3) = some (lc_aI 48 (lc_pt))) (h0_3 : σ (b) = some (.inr (0, [.ref (b + 1), .int (lc_i (o)), .int (lc_i (t)), .int (lc_i (s)), .int (lc_i (q)), .int (lc_i (m))]) : lc_Cel)) (h0_4 : σ (b + 1) = some (lc_aI 36 (f))) (hf : ∀ j : Int, 0 ≤ j → j < 36 → 0 ≤ f j ∧ f j ≤ 2) (hx : 0 ≤ x ∧ x < 48) (hd : d = 1 ∨ d = -1) (hw : w = 6 ∨ w = 8) (hb : 12 ≤ b) : lc_Con l yX8_go cX8_go 9 none (lc_Rd 1) [.ref (w), .ref (b), .int (lc_i (x)), .int (lc_i (d))] n σ (fun v n2 σ2 => v = none ∧ n = n2 ∧ σ2 (w) = some (.inr (8, [.ref (2), .int (lc_i (lc_M f x d)), .int (lc_i (lc_Lo f x d)), .int (lc_i ((lc_K f x d : Int)))]) : lc_Cel) ∧ ∀ i : Nat, i ≠ w → σ2 i = σ i) := by
  have hel := lc_el_r d
  have hpx := lc_pt_r hx
  refine lc_con RX8 false (by decide) rfl (fun h => absurd h (by decide)) (Nat.le_of_ble_eq_true rfl) ?_
  suffices H : ∀ Q : lc_QT, (∀ v n2 σ2, (fun v n2 σ2 => v = none ∧ n = n2 ∧ σ2 (w) = some (.inr (8, [.ref (2), .int (lc_i (lc_M f x d)), .int (lc_i (lc_Lo f x d)), .int (lc_i ((lc_K f x d : Int)))]) : lc_Cel) ∧ ∀ i : Nat, i ≠ w → σ2 i = σ i : lc_QT) v n2 σ2 → Q v n2 σ2) → lc_V l RX8 cX8_go 9 none false (lc_Rd 1) (lc_G Q 0 0) lc_E0 0 0 n 0 [(0, .ref (w)), (1, .ref (b)), (2, .int (lc_i (x))), (3, .int (lc_i (d)))] [] σ from H _ (fun _ _ _ h => h)
  intro Q hQ
  refine lc_aload_n dX8_go_0 rfl 0 rfl ?_
  refine lc_iconst dX8_go_1 ?_
  refine lc_wI (vs' := [.ref (2), .int (lc_i ((-1))), .int (lc_i (a2)), .int (lc_i (a3))]) dX8_go_2 lc_fX8_15 h0_0 (Nat.le_of_ble_eq_true rfl) rfl rfl rfl (fun σ1 h2 fr3 => ?_)
  have h4 : σ1 (2) = some (.inr (1, [.ref (3), .ref (4)]) : lc_Cel) := (fr3 _ (by omega)).trans h0_1
  have h5 : σ1 (3) = some (lc_aI 48 (lc_pt)) := (fr3 _ (by omega)).trans h0_2
  have h6 : σ1 (b) = some (.inr (0, [.ref (b + 1), .int (lc_i (o)), .int (lc_i (t)), .int (lc_i (s)), .int (lc_i (q)), .int (lc_i (m))]) : lc_Cel) := (fr3 _ (by omega)).trans h0_3
  have h7 : σ1 (b + 1) = some (lc_aI 36 (f)) := (fr3 _ (by omega)).trans h0_4
  refine lc_aload_n dX8_go_5 rfl 0 rfl ?_
  refine lc_iconst dX8_go_6 ?_
  refine lc_wI (vs' := [.ref (2), .int (lc_i ((-1))), .int (lc_i (0)), .int (lc_i (a3))]) dX8_go_7 lc_fX8_19 h2 (Nat.le_of_ble_eq_true rfl) rfl rfl rfl (fun σ8 h9 fr10 => ?_)
  have h11 : σ8 (2) = some (.inr (1, [.ref (3), .ref (4)]) : lc_Cel) := (fr10 _ (by omega)).trans h4
  have h12 : σ8 (3) = some (lc_aI 48 (lc_pt)) := (fr10 _ (by omega)).trans h5
  have h13 : σ8 (b) = some (.inr (0, [.ref (b + 1), .int (lc_i (o)), .int (lc_i (t)), .int (lc_i (s)), .int (lc_i (q)), .int (lc_i (m))]) : lc_Cel) := (fr10 _ (by omega)).trans h6
  have h14 : σ8 (b + 1) = some (lc_aI 36 (f)) := (fr10 _ (by omega)).trans h7
  refine lc_aload_n dX8_go_10 rfl 0 rfl ?_
  refine lc_get dX8_go_11 lc_fX8_9 h9 rfl ?_
  refine lc_iload_n dX8_go_14 rfl 2 rfl ?_
  refine lc_callV (As := [.int (lc_i (x))]) (stk := []) (b := 2) dX8_go_15 lc_mX8_22 lc_yX1_pointAt h11 rfl (lc_cX1_pointAt l n (x) σ8 h11 h12 (by omega)) rfl ⟨Nat.le_of_ble_eq_true rfl, Nat.le_of_ble_eq_true rfl⟩ ⟨Nat.le_of_ble_eq_true rfl, Nat.le_of_ble_eq_true rfl⟩ rfl (Nat.le_of_ble_eq_true rfl) (fun v15 n16 σ17 q18 => ?_)
  obtain ⟨rfl, rfl, rfl⟩ := q18
  refine lc_top (congrArg (fun z => Value.int (lc_i z)) (show (if 0 ≤ (x) ∧ (x) < 48 then lc_pt (x) else -1 : Int) = lc_pt x from by rw [if_pos (by omega)])) ?_
  refine lc_istore (lv' := [(0, .ref (w)), (1, .ref (b)), (2, .int (lc_i (x))), (3, .int (lc_i (d))), (4, .int (lc_i (lc_pt x)))]) dX8_go_18 (by decide) rfl ?_
  refine lc_iload_n dX8_go_20 rfl 2 rfl ?_
  refine lc_bipush dX8_go_21 (by decide) ?_
  refine lc_irem dX8_go_23 (by omega) ?_
  refine lc_top (congrArg (fun z => Value.int (lc_i z)) (show ((x) % (24) : Int) = x % 24 from rfl)) ?_
  refine lc_istore (lv' := [(0, .ref (w)), (1, .ref (b)), (2, .int (lc_i (x))), (3, .int (lc_i (d))), (4, .int (lc_i (lc_pt x))), (5, .int (lc_i (x % 24)))]) dX8_go_24 (by decide) rfl ?_
  refine lc_iload_n dX8_go_26 rfl 2 rfl ?_
  refine lc_iload dX8_go_27 5 rfl ?_
  refine lc_isub dX8_go_29 ?_
  refine lc_istore (lv' := [(0, .ref (w)), (1, .ref (b)), (2, .int (lc_i (x))), (3, .int (lc_i (d))), (4, .int (lc_i (lc_pt x))), (5, .int (lc_i (x % 24))), (6, .int (lc_i ((x) - (x % 24))))]) dX8_go_30 (by decide) rfl ?_
  refine lc_iload_n dX8_go_32 rfl 3 rfl ?_
  have loop20 : lc_V l RX8 cX8_go 9 none false (lc_Rd 1) (lc_G Q 0 0) lc_E0 0 0 n 41 [(0, .ref (w)), (1, .ref (b)), (2, .int (lc_i (x))), (3, .int (lc_i (d))), (4, .int (lc_i (lc_pt x))), (5, .int (lc_i (x % 24))), (6, .int (lc_i ((x) - (x % 24))))] [.int (lc_i (lc_el d))] σ8 := by
    refine lc_istore (lv' := [(0, .ref (w)), (1, .ref (b)), (2, .int (lc_i (x))), (3, .int (lc_i (d))), (4, .int (lc_i (lc_pt x))), (5, .int (lc_i (x % 24))), (6, .int (lc_i ((x) - (x % 24)))), (7, .int (lc_i (lc_el d)))]) dX8_go_41 (by decide) rfl ?_
    refine lc_aload_n dX8_go_43 rfl 0 rfl ?_
    refine lc_iconst dX8_go_44 ?_
    refine lc_top (congrArg (fun z => Value.int (lc_i z)) (show (1 : Int) = ((0 : Nat) : Int) + 1 from rfl)) ?_
    refine lc_wI (vs' := [.ref (2), .int (lc_i ((-1))), .int (lc_i (0)), .int (lc_i (((0 : Nat) : Int) + 1))]) dX8_go_45 lc_fX8_28 h9 (Nat.le_of_ble_eq_true rfl) rfl rfl rfl (fun σ22 h23 fr24 => ?_)
    have h25 : σ22 (2) = some (.inr (1, [.ref (3), .ref (4)]) : lc_Cel) := (fr24 _ (by omega)).trans h11
    have h26 : σ22 (3) = some (lc_aI 48 (lc_pt)) := (fr24 _ (by omega)).trans h12
    have h27 : σ22 (b) = some (.inr (0, [.ref (b + 1), .int (lc_i (o)), .int (lc_i (t)), .int (lc_i (s)), .int (lc_i (q)), .int (lc_i (m))]) : lc_Cel) := (fr24 _ (by omega)).trans h13
    have h28 : σ22 (b + 1) = some (lc_aI 36 (f)) := (fr24 _ (by omega)).trans h14
    have loop30 : ∀ (N29 : Nat) (j : Nat) (σ32 : lc_S), (σ32 (w) = some (.inr (8, [.ref (2), .int (lc_i (-1)), .int (lc_i (lc_lo x d j)), .int (lc_i (((j : Nat) : Int) + 1))]) : lc_Cel)) → (∀ i : Nat, i ≠ w → σ32 i = σ22 i) → (j ≤ 23) → (lc_K f x d = lc_Kf f x d (23 - j) (j + 1)) → 23 - (j : Int) < (N29 : Int) → lc_V l RX8 cX8_go 9 none false (lc_Rd 1) (lc_G Q 0 0) lc_E0 0 0 n 48 [(0, .ref (w)), (1, .ref (b)), (2, .int (lc_i (x))), (3, .int (lc_i (d))), (4, .int (lc_i (lc_pt x))), (5, .int (lc_i (lc_pl x d j))), (6, .int (lc_i ((x) - (x % 24)))), (7, .int (lc_i (lc_el d)))] [] σ32 := by
      intro N29
      induction N29 with
      | zero =>
        intro j σ32 h33 fr34 hj hK hm35
        exact absurd hm35 (by omega)
      | succ N29 ih31 =>
        intro j σ32 h33 fr34 hj hK hm35
        have h36 : σ32 (2) = some (.inr (1, [.ref (3), .ref (4)]) : lc_Cel) := (fr34 _ (by omega)).trans h25
        have h37 : σ32 (3) = some (lc_aI 48 (lc_pt)) := (fr34 _ (by omega)).trans h26
        have h38 : σ32 (b) = some (.inr (0, [.ref (b + 1), .int (lc_i (o)), .int (lc_i (t)), .int (lc_i (s)), .int (lc_i (q)), .int (lc_i (m))]) : lc_Cel) := (fr34 _ (by omega)).trans h27
        have h39 : σ32 (b + 1) = some (lc_aI 36 (f)) := (fr34 _ (by omega)).trans h28
        have hpl := lc_pl_r x d j; have hpl1 := lc_pl_r x d (j + 1); have hwp := lc_wp_r d hx (j + 1); have hlo := lc_lo_r x d j; have hfv := hf (lc_wp x d (j + 1)) hwp.1 hwp.2
        refine lc_aload_n dX8_go_48 rfl 0 rfl ?_
        refine lc_get dX8_go_49 lc_fX8_28 h33 rfl ?_
        refine lc_bipush dX8_go_52 (by decide) ?_
        refine lc_icmp_ge (tgt := 139) dX8_go_54 (by decide) (by omega) (fun h_54_39 => ?_) (fun h_54_39 => ?_)
        · skip
          exact lc_vret dX8_go_139 rfl (Nat.le_of_ble_eq_true rfl) (Nat.le_of_ble_eq_true rfl) (hQ _ _ _ ⟨rfl, rfl, (by rw [h33, show (lc_M f x d : Int) = -1 from (lc_M_0 (lc_Kf_n hK (by omega) hj)), show (lc_Lo f x d : Int) = lc_lo x d j from ((lc_Lo_0 (lc_Kf_n hK (by omega) hj)).trans (by rw [show j = 23 by omega])), show ((lc_K f x d : Int) : Int) = ((j : Nat) : Int) + 1 from (by rw [(lc_Kf_n hK (by omega) hj)]; omega)]), (fun i _ => ((fr34 i (by omega)).trans ((fr24 i (by omega)).trans ((fr10 i (by omega)).trans (fr3 i (by omega))))))⟩)
        · skip
          refine lc_iload dX8_go_57 5 rfl ?_
          refine lc_bipush dX8_go_59 (by decide) ?_
          refine lc_irem dX8_go_61 (by omega) ?_
          refine lc_iload dX8_go_62 7 rfl ?_
          have loop42 : ∀  (σ44 : lc_S), (σ44 (w) = some (.inr (8, [.ref (2), .int (lc_i (-1)), .int (lc_i (lc_lo x d (j + 1))), .int (lc_i (((j : Nat) : Int) + 1))]) : lc_Cel)) → (∀ i : Nat, i ≠ w → σ44 i = σ32 i) → lc_V l RX8 cX8_go 9 none false (lc_Rd 1) (lc_G Q 0 0) lc_E0 0 0 n 77 [(0, .ref (w)), (1, .ref (b)), (2, .int (lc_i (x))), (3, .int (lc_i (d))), (4, .int (lc_i (lc_pt x))), (5, .int (lc_i (lc_pl x d j))), (6, .int (lc_i ((x) - (x % 24)))), (7, .int (lc_i (lc_el d)))] [] σ44 := by
            intro  σ44 h45 fr46
            have h47 : σ44 (2) = some (.inr (1, [.ref (3), .ref (4)]) : lc_Cel) := (fr46 _ (by omega)).trans h36
            have h48 : σ44 (3) = some (lc_aI 48 (lc_pt)) := (fr46 _ (by omega)).trans h37
            have h49 : σ44 (b) = some (.inr (0, [.ref (b + 1), .int (lc_i (o)), .int (lc_i (t)), .int (lc_i (s)), .int (lc_i (q)), .int (lc_i (m))]) : lc_Cel) := (fr46 _ (by omega)).trans h38
            have h50 : σ44 (b + 1) = some (lc_aI 36 (f)) := (fr46 _ (by omega)).trans h39
            refine lc_iload dX8_go_77 5 rfl ?_
            refine lc_iload_n dX8_go_79 rfl 3 rfl ?_
            refine lc_iadd dX8_go_80 ?_
            refine lc_bipush dX8_go_81 (by decide) ?_
            refine lc_iadd dX8_go_83 ?_
            refine lc_bipush dX8_go_84 (by decide) ?_
            refine lc_irem dX8_go_86 (by omega) ?_
            refine lc_top (congrArg (fun z => Value.int (lc_i z)) (show ((((lc_pl x d j) + (d)) + (24)) % (24) : Int) = lc_pl x d (j + 1) from rfl)) ?_
            refine lc_istore (lv' := [(0, .ref (w)), (1, .ref (b)), (2, .int (lc_i (x))), (3, .int (lc_i (d))), (4, .int (lc_i (lc_pt x))), (5, .int (lc_i (lc_pl x d (j + 1)))), (6, .int (lc_i ((x) - (x % 24)))), (7, .int (lc_i (lc_el d)))]) dX8_go_87 (by decide) rfl ?_
            refine lc_aload_n dX8_go_89 rfl 0 rfl ?_
            refine lc_get dX8_go_90 lc_fX8_9 h45 rfl ?_
            refine lc_iload dX8_go_93 6 rfl ?_
            refine lc_iload dX8_go_95 5 rfl ?_
            refine lc_iadd dX8_go_97 ?_
            refine lc_callV (As := [.int (lc_i (((x) - (x % 24)) + (lc_pl x d (j + 1))))]) (stk := []) (b := 2) dX8_go_98 lc_mX8_22 lc_yX1_pointAt h47 rfl (lc_cX1_pointAt l n (((x) - (x % 24)) + (lc_pl x d (j + 1))) σ44 h47 h48 (by omega)) rfl ⟨Nat.le_of_ble_eq_true rfl, Nat.le_of_ble_eq_true rfl⟩ ⟨Nat.le_of_ble_eq_true rfl, Nat.le_of_ble_eq_true rfl⟩ rfl (Nat.le_of_ble_eq_true rfl) (fun v51 n52 σ53 q54 => ?_)
            obtain ⟨rfl, rfl, rfl⟩ := q54
            refine lc_top (congrArg (fun z => Value.int (lc_i z)) (show (if 0 ≤ (((x) - (x % 24)) + (lc_pl x d (j + 1))) ∧ (((x) - (x % 24)) + (lc_pl x d (j + 1))) < 48 then lc_pt (((x) - (x % 24)) + (lc_pl x d (j + 1))) else -1 : Int) = lc_wp x d (j + 1) from by rw [if_pos (by omega)]; rfl)) ?_
            refine lc_istore (lv' := [(0, .ref (w)), (1, .ref (b)), (2, .int (lc_i (x))), (3, .int (lc_i (d))), (4, .int (lc_i (lc_pt x))), (5, .int (lc_i (lc_pl x d (j + 1)))), (6, .int (lc_i ((x) - (x % 24)))), (7, .int (lc_i (lc_el d))), (8, .int (lc_i (lc_wp x d (j + 1))))]) dX8_go_101 (by decide) rfl ?_
            refine lc_iload dX8_go_103 8 rfl ?_
            refine lc_iload dX8_go_105 4 rfl ?_
            refine lc_icmp_eq (tgt := 126) dX8_go_107 (by decide) (by omega) (fun h_107_54 => ?_) (fun h_107_54 => ?_)
            · skip
              refine lc_aload_n dX8_go_126 rfl 0 rfl ?_
              refine lc_dup dX8_go_127 rfl ?_
              refine lc_get dX8_go_128 lc_fX8_28 h45 rfl ?_
              refine lc_iconst dX8_go_131 ?_
              refine lc_iadd dX8_go_132 ?_
              refine lc_top (congrArg (fun z => Value.int (lc_i z)) (show ((((j : Nat) : Int) + 1) + (1) : Int) = ((j + 1 : Nat) : Int) + 1 from by omega)) ?_
              refine lc_wI (vs' := [.ref (2), .int (lc_i (-1)), .int (lc_i (lc_lo x d (j + 1))), .int (lc_i (((j + 1 : Nat) : Int) + 1))]) dX8_go_133 lc_fX8_28 h45 (Nat.le_of_ble_eq_true rfl) rfl rfl rfl (fun σ56 h57 fr58 => ?_)
              have h59 : σ56 (2) = some (.inr (1, [.ref (3), .ref (4)]) : lc_Cel) := (fr58 _ (by omega)).trans h47
              have h60 : σ56 (3) = some (lc_aI 48 (lc_pt)) := (fr58 _ (by omega)).trans h48
              have h61 : σ56 (b) = some (.inr (0, [.ref (b + 1), .int (lc_i (o)), .int (lc_i (t)), .int (lc_i (s)), .int (lc_i (q)), .int (lc_i (m))]) : lc_Cel) := (fr58 _ (by omega)).trans h49
              have h62 : σ56 (b + 1) = some (lc_aI 36 (f)) := (fr58 _ (by omega)).trans h50
              refine lc_goto (tgt := 48) dX8_go_136 (by decide) ?_
              refine lc_pick (lv' := [(0, .ref (w)), (1, .ref (b)), (2, .int (lc_i (x))), (3, .int (lc_i (d))), (4, .int (lc_i (lc_pt x))), (5, .int (lc_i (lc_pl x d (j + 1)))), (6, .int (lc_i ((x) - (x % 24)))), (7, .int (lc_i (lc_el d)))]) [0, 1, 2, 3, 4, 5, 6, 7] rfl ?_
              exact ih31 (j + 1) σ56 h57 (fun i _ => ((fr58 i (by omega)).trans ((fr46 i (by omega)).trans (fr34 i (by omega))))) (by omega) (lc_Kf_b hK (by omega) (lc_oc_n1 h_107_54)) (by omega)
            · skip
              refine lc_aload_n dX8_go_110 rfl 1 rfl ?_
              refine lc_iload dX8_go_111 8 rfl ?_
              refine lc_callV (As := [.int (lc_i (lc_wp x d (j + 1)))]) (stk := []) (b := b) dX8_go_113 lc_mX8_31 lc_yX0_at h49 rfl (lc_cX0_at l n (b) (f) (o) (t) (s) (q) (m) (lc_wp x d (j + 1)) σ44 h49 h50 (by omega)) rfl ⟨Nat.le_of_ble_eq_true rfl, Nat.le_of_ble_eq_true rfl⟩ ⟨Nat.le_of_ble_eq_true rfl, Nat.le_of_ble_eq_true rfl⟩ rfl (Nat.le_of_ble_eq_true rfl) (fun v63 n64 σ65 q66 => ?_)
              obtain ⟨rfl, rfl, rfl⟩ := q66
              refine lc_top (congrArg (fun z => Value.int (lc_i z)) (show (if 0 ≤ (lc_wp x d (j + 1)) ∧ (lc_wp x d (j + 1)) < 36 then (f) (lc_wp x d (j + 1)) else 0 : Int) = f (lc_wp x d (j + 1)) from by rw [if_pos (by omega)])) ?_
              refine lc_if_eq (tgt := 126) dX8_go_116 (by decide) (by omega) (fun h_116_66 => ?_) (fun h_116_66 => ?_)
              · skip
                refine lc_aload_n dX8_go_126 rfl 0 rfl ?_
                refine lc_dup dX8_go_127 rfl ?_
                refine lc_get dX8_go_128 lc_fX8_28 h45 rfl ?_
                refine lc_iconst dX8_go_131 ?_
                refine lc_iadd dX8_go_132 ?_
                refine lc_top (congrArg (fun z => Value.int (lc_i z)) (show ((((j : Nat) : Int) + 1) + (1) : Int) = ((j + 1 : Nat) : Int) + 1 from by omega)) ?_
                refine lc_wI (vs' := [.ref (2), .int (lc_i (-1)), .int (lc_i (lc_lo x d (j + 1))), .int (lc_i (((j + 1 : Nat) : Int) + 1))]) dX8_go_133 lc_fX8_28 h45 (Nat.le_of_ble_eq_true rfl) rfl rfl rfl (fun σ68 h69 fr70 => ?_)
                have h71 : σ68 (2) = some (.inr (1, [.ref (3), .ref (4)]) : lc_Cel) := (fr70 _ (by omega)).trans h47
                have h72 : σ68 (3) = some (lc_aI 48 (lc_pt)) := (fr70 _ (by omega)).trans h48
                have h73 : σ68 (b) = some (.inr (0, [.ref (b + 1), .int (lc_i (o)), .int (lc_i (t)), .int (lc_i (s)), .int (lc_i (q)), .int (lc_i (m))]) : lc_Cel) := (fr70 _ (by omega)).trans h49
                have h74 : σ68 (b + 1) = some (lc_aI 36 (f)) := (fr70 _ (by omega)).trans h50
                refine lc_goto (tgt := 48) dX8_go_136 (by decide) ?_
                refine lc_pick (lv' := [(0, .ref (w)), (1, .ref (b)), (2, .int (lc_i (x))), (3, .int (lc_i (d))), (4, .int (lc_i (lc_pt x))), (5, .int (lc_i (lc_pl x d (j + 1)))), (6, .int (lc_i ((x) - (x % 24)))), (7, .int (lc_i (lc_el d)))]) [0, 1, 2, 3, 4, 5, 6, 7] rfl ?_
                exact ih31 (j + 1) σ68 h69 (fun i _ => ((fr70 i (by omega)).trans ((fr46 i (by omega)).trans (fr34 i (by omega))))) (by omega) (lc_Kf_b hK (by omega) (lc_oc_n2 h_116_66)) (by omega)
              · skip
                refine lc_aload_n dX8_go_119 rfl 0 rfl ?_
                refine lc_iload dX8_go_120 8 rfl ?_
                refine lc_wI (vs' := [.ref (2), .int (lc_i (lc_wp x d (j + 1))), .int (lc_i (lc_lo x d (j + 1))), .int (lc_i (((j : Nat) : Int) + 1))]) dX8_go_122 lc_fX8_15 h45 (Nat.le_of_ble_eq_true rfl) rfl rfl rfl (fun σ75 h76 fr77 => ?_)
                have h78 : σ75 (2) = some (.inr (1, [.ref (3), .ref (4)]) : lc_Cel) := (fr77 _ (by omega)).trans h47
                have h79 : σ75 (3) = some (lc_aI 48 (lc_pt)) := (fr77 _ (by omega)).trans h48
                have h80 : σ75 (b) = some (.inr (0, [.ref (b + 1), .int (lc_i (o)), .int (lc_i (t)), .int (lc_i (s)), .int (lc_i (q)), .int (lc_i (m))]) : lc_Cel) := (fr77 _ (by omega)).trans h49
                have h81 : σ75 (b + 1) = some (lc_aI 36 (f)) := (fr77 _ (by omega)).trans h50
                exact lc_vret dX8_go_125 rfl (Nat.le_of_ble_eq_true rfl) (Nat.le_of_ble_eq_true rfl) (hQ _ _ _ ⟨rfl, rfl, (by rw [h76, show (lc_M f x d : Int) = lc_wp x d (j + 1) from (lc_M_1 (lc_Kf_e hK (by omega) (lc_oc_y h_107_54 h_116_66)) (by omega)), show (lc_Lo f x d : Int) = lc_lo x d (j + 1) from (lc_Lo_1 (lc_Kf_e hK (by omega) (lc_oc_y h_107_54 h_116_66)) (by omega)), show ((lc_K f x d : Int) : Int) = ((j : Nat) : Int) + 1 from (by rw [(lc_Kf_e hK (by omega) (lc_oc_y h_107_54 h_116_66))]; omega)]), (fun i _ => ((fr77 i (by omega)).trans ((fr46 i (by omega)).trans ((fr34 i (by omega)).trans ((fr24 i (by omega)).trans ((fr10 i (by omega)).trans (fr3 i (by omega))))))))⟩)
          refine lc_icmp_ne (tgt := 77) dX8_go_64 (by decide) (by omega) (fun h_64_81 => ?_) (fun h_64_81 => ?_)
          · skip
            exact loop42  σ32 (by rw [h33, lc_lo_s0 h_64_81]) (fun i _ => rfl) 
          · skip
            refine lc_aload_n dX8_go_67 rfl 0 rfl ?_
            refine lc_dup dX8_go_68 rfl ?_
            refine lc_get dX8_go_69 lc_fX8_19 h33 rfl ?_
            refine lc_iconst dX8_go_72 ?_
            refine lc_iadd dX8_go_73 ?_
            refine lc_wI (vs' := [.ref (2), .int (lc_i (-1)), .int (lc_i ((lc_lo x d j) + (1))), .int (lc_i (((j : Nat) : Int) + 1))]) dX8_go_74 lc_fX8_19 h33 (Nat.le_of_ble_eq_true rfl) rfl rfl rfl (fun σ83 h84 fr85 => ?_)
            have h86 : σ83 (2) = some (.inr (1, [.ref (3), .ref (4)]) : lc_Cel) := (fr85 _ (by omega)).trans h36
            have h87 : σ83 (3) = some (lc_aI 48 (lc_pt)) := (fr85 _ (by omega)).trans h37
            have h88 : σ83 (b) = some (.inr (0, [.ref (b + 1), .int (lc_i (o)), .int (lc_i (t)), .int (lc_i (s)), .int (lc_i (q)), .int (lc_i (m))]) : lc_Cel) := (fr85 _ (by omega)).trans h38
            have h89 : σ83 (b + 1) = some (lc_aI 36 (f)) := (fr85 _ (by omega)).trans h39
            exact loop42  σ83 (by rw [h84, lc_lo_s1 h_64_81]) (fun i _ => (fr85 i (by omega))) 
    exact loop30 1000 (0) σ22 h23 (fun _ _ => rfl) (by omega) (rfl) (by omega)
  refine lc_if_le (tgt := 40) dX8_go_33 (by decide) (by omega) (fun h_33_89 => ?_) (fun h_33_89 => ?_)
  · skip
    refine lc_iconst dX8_go_40 ?_
    refine lc_top (congrArg (fun z => Value.int (lc_i z)) (show (0 : Int) = lc_el d from by unfold lc_el; rw [if_neg (by omega)])) ?_
    exact loop20   
  · skip
    refine lc_iconst dX8_go_36 ?_
    refine lc_top (congrArg (fun z => Value.int (lc_i z)) (show (5 : Int) = lc_el d from by unfold lc_el; rw [if_pos (by omega)])) ?_
    refine lc_goto (tgt := 41) dX8_go_37 (by decide) ?_
    exact loop20   

set_option maxRecDepth 100000 in
set_option maxHeartbeats 4000000 in
theorem lc_cX8_wentOverLoopTo (l : Launch) (n : Nat) (w : Nat) (a1 a2 a3 p : Int) (σ : lc_S) (h0_0 : σ (w) = some (.inr (8, [.ref (2), .int (lc_i (a1)), .int (lc_i (a2)), .int (lc_i (a3))]) : lc_Cel)) (h1 : -2147483648 ≤ a1 ∧ a1 < 2147483648) (h2 : -2147483648 ≤ a2 ∧ a2 < 2147483648) (hp : -2147483648 ≤ p ∧ p < 2147483648) : lc_Con l yX8_wentOverLoopTo cX8_wentOverLoopTo 2 (some .boolean) (lc_Rd 0) [.ref (w), .int (lc_i (p))] n σ (fun v n2 σ2 => v = some (.int (lc_i (if (0 < a2 ∧ a1 = p) then 1 else 0))) ∧ n = n2 ∧ σ = σ2) := by
  refine lc_con RX8 false (by decide) rfl (fun h => absurd h (by decide)) (Nat.le_of_ble_eq_true rfl) ?_
  suffices H : ∀ Q : lc_QT, (∀ v n2 σ2, (fun v n2 σ2 => v = some (.int (lc_i (if (0 < a2 ∧ a1 = p) then 1 else 0))) ∧ n = n2 ∧ σ = σ2 : lc_QT) v n2 σ2 → Q v n2 σ2) → lc_V l RX8 cX8_wentOverLoopTo 2 (some .boolean) false (lc_Rd 0) (lc_G Q 0 0) lc_E0 0 0 n 0 [(0, .ref (w)), (1, .int (lc_i (p)))] [] σ from H _ (fun _ _ _ h => h)
  intro Q hQ
  refine lc_aload_n dX8_wentOverLoopTo_0 rfl 0 rfl ?_
  refine lc_get dX8_wentOverLoopTo_1 lc_fX8_19 h0_0 rfl ?_
  refine lc_if_le (tgt := 19) dX8_wentOverLoopTo_4 (by decide) (by omega) (fun h_4_0 => ?_) (fun h_4_0 => ?_)
  · skip
    refine lc_iconst dX8_wentOverLoopTo_19 ?_
    exact lc_zret dX8_wentOverLoopTo_20 rfl (rfl) (Nat.le_of_ble_eq_true rfl) (Nat.le_of_ble_eq_true rfl) (hQ _ _ _ ⟨lc_some (by rw [if_neg (fun q => absurd q.1 (by omega))]), rfl, rfl⟩)
  · skip
    refine lc_aload_n dX8_wentOverLoopTo_7 rfl 0 rfl ?_
    refine lc_get dX8_wentOverLoopTo_8 lc_fX8_15 h0_0 rfl ?_
    refine lc_iload_n dX8_wentOverLoopTo_11 rfl 1 rfl ?_
    refine lc_icmp_ne (tgt := 19) dX8_wentOverLoopTo_12 (by decide) (by omega) (fun h_12_1 => ?_) (fun h_12_1 => ?_)
    · skip
      refine lc_iconst dX8_wentOverLoopTo_19 ?_
      exact lc_zret dX8_wentOverLoopTo_20 rfl (rfl) (Nat.le_of_ble_eq_true rfl) (Nat.le_of_ble_eq_true rfl) (hQ _ _ _ ⟨lc_some (by rw [if_neg (fun q => absurd q.2 (by omega))]), rfl, rfl⟩)
    · skip
      refine lc_iconst dX8_wentOverLoopTo_15 ?_
      refine lc_goto (tgt := 20) dX8_wentOverLoopTo_16 (by decide) ?_
      exact lc_zret dX8_wentOverLoopTo_20 rfl (rfl) (Nat.le_of_ble_eq_true rfl) (Nat.le_of_ble_eq_true rfl) (hQ _ _ _ ⟨lc_some (by rw [if_pos ⟨by omega, by omega⟩]), rfl, rfl⟩)

theorem lc_try_t {f : Int → Int} {to x d : Int} {w : Int × Int × Int × Int} (h1 : 0 < lc_Lo f x d ∧ lc_M f x d = to) (h2 : w.1 = 0 ∨ (lc_Lo f x d < w.1 ∨ (lc_Lo f x d = w.1 ∧ (lc_K f x d : Int) < w.2.1))) : lc_try f to w x d = (lc_Lo f x d, (lc_K f x d : Int), x, d) := by
  unfold lc_try
  rw [if_pos ⟨h1, h2⟩]
theorem lc_try_n1 {f : Int → Int} {to x d : Int} {w : Int × Int × Int × Int} (h1 : ¬ (0 < lc_Lo f x d ∧ lc_M f x d = to)) : lc_try f to w x d = w := by
  unfold lc_try
  rw [if_neg (fun q => h1 q.1)]
theorem lc_try_n2 {f : Int → Int} {to x d : Int} {w : Int × Int × Int × Int} (h1 : ¬ (w.1 = 0 ∨ (lc_Lo f x d < w.1 ∨ (lc_Lo f x d = w.1 ∧ (lc_K f x d : Int) < w.2.1)))) : lc_try f to w x d = w := by
  unfold lc_try
  rw [if_neg (fun q => h1 q.2)]

set_option maxRecDepth 100000 in
set_option maxHeartbeats 4000000 in
theorem lc_cX9_walkIsShorter (l : Launch) (n : Nat) (u1 u2 u3 u4 a1 a2 a3 : Int) (σ : lc_S) (h0_0 : σ (5) = some (.inr (9, [.ref (2), .ref (6), .int (lc_i (u1)), .int (lc_i (u2)), .int (lc_i (u3)), .int (lc_i (u4))]) : lc_Cel)) (h0_1 : σ (6) = some (.inr (8, [.ref (2), .int (lc_i (a1)), .int (lc_i (a2)), .int (lc_i (a3))]) : lc_Cel)) (h1 : -2147483648 ≤ u1 ∧ u1 < 2147483648) (h2 : -2147483648 ≤ u2 ∧ u2 < 2147483648) (h3 : -2147483648 ≤ a2 ∧ a2 < 2147483648) (h4 : -2147483648 ≤ a3 ∧ a3 < 2147483648) : lc_Con l yX9_walkIsShorter cX9_walkIsShorter 1 (some .boolean) (lc_Rd 0) [.ref (5)] n σ (fun v n2 σ2 => v = some (.int (lc_i (if (a2 < u1 ∨ (a2 = u1 ∧ a3 < u2)) then 1 else 0))) ∧ n = n2 ∧ σ = σ2) := by
  refine lc_con RX9 false (by decide) rfl (fun h => absurd h (by decide)) (Nat.le_of_ble_eq_true rfl) ?_
  suffices H : ∀ Q : lc_QT, (∀ v n2 σ2, (fun v n2 σ2 => v = some (.int (lc_i (if (a2 < u1 ∨ (a2 = u1 ∧ a3 < u2)) then 1 else 0))) ∧ n = n2 ∧ σ = σ2 : lc_QT) v n2 σ2 → Q v n2 σ2) → lc_V l RX9 cX9_walkIsShorter 1 (some .boolean) false (lc_Rd 0) (lc_G Q 0 0) lc_E0 0 0 n 0 [(0, .ref (5))] [] σ from H _ (fun _ _ _ h => h)
  intro Q hQ
  refine lc_aload_n dX9_walkIsShorter_0 rfl 0 rfl ?_
  refine lc_get dX9_walkIsShorter_1 lc_fX9_20 h0_0 rfl ?_
  refine lc_get dX9_walkIsShorter_4 lc_fX9_50 h0_1 rfl ?_
  refine lc_aload_n dX9_walkIsShorter_7 rfl 0 rfl ?_
  refine lc_get dX9_walkIsShorter_8 lc_fX9_24 h0_0 rfl ?_
  refine lc_icmp_lt (tgt := 42) dX9_walkIsShorter_11 (by decide) (by omega) (fun h_11_0 => ?_) (fun h_11_0 => ?_)
  · skip
    refine lc_iconst dX9_walkIsShorter_42 ?_
    refine lc_goto (tgt := 47) dX9_walkIsShorter_43 (by decide) ?_
    exact lc_zret dX9_walkIsShorter_47 rfl (rfl) (Nat.le_of_ble_eq_true rfl) (Nat.le_of_ble_eq_true rfl) (hQ _ _ _ ⟨lc_some (by rw [if_pos (by omega)]), rfl, rfl⟩)
  · skip
    refine lc_aload_n dX9_walkIsShorter_14 rfl 0 rfl ?_
    refine lc_get dX9_walkIsShorter_15 lc_fX9_20 h0_0 rfl ?_
    refine lc_get dX9_walkIsShorter_18 lc_fX9_50 h0_1 rfl ?_
    refine lc_aload_n dX9_walkIsShorter_21 rfl 0 rfl ?_
    refine lc_get dX9_walkIsShorter_22 lc_fX9_24 h0_0 rfl ?_
    refine lc_icmp_ne (tgt := 46) dX9_walkIsShorter_25 (by decide) (by omega) (fun h_25_1 => ?_) (fun h_25_1 => ?_)
    · skip
      refine lc_iconst dX9_walkIsShorter_46 ?_
      exact lc_zret dX9_walkIsShorter_47 rfl (rfl) (Nat.le_of_ble_eq_true rfl) (Nat.le_of_ble_eq_true rfl) (hQ _ _ _ ⟨lc_some (by rw [if_neg (by omega)]), rfl, rfl⟩)
    · skip
      refine lc_aload_n dX9_walkIsShorter_28 rfl 0 rfl ?_
      refine lc_get dX9_walkIsShorter_29 lc_fX9_20 h0_0 rfl ?_
      refine lc_get dX9_walkIsShorter_32 lc_fX9_51 h0_1 rfl ?_
      refine lc_aload_n dX9_walkIsShorter_35 rfl 0 rfl ?_
      refine lc_get dX9_walkIsShorter_36 lc_fX9_54 h0_0 rfl ?_
      refine lc_icmp_ge (tgt := 46) dX9_walkIsShorter_39 (by decide) (by omega) (fun h_39_2 => ?_) (fun h_39_2 => ?_)
      · skip
        refine lc_iconst dX9_walkIsShorter_46 ?_
        exact lc_zret dX9_walkIsShorter_47 rfl (rfl) (Nat.le_of_ble_eq_true rfl) (Nat.le_of_ble_eq_true rfl) (hQ _ _ _ ⟨lc_some (by rw [if_neg (by omega)]), rfl, rfl⟩)
      · skip
        refine lc_iconst dX9_walkIsShorter_42 ?_
        refine lc_goto (tgt := 47) dX9_walkIsShorter_43 (by decide) ?_
        exact lc_zret dX9_walkIsShorter_47 rfl (rfl) (Nat.le_of_ble_eq_true rfl) (Nat.le_of_ble_eq_true rfl) (hQ _ _ _ ⟨lc_some (by rw [if_pos (by omega)]), rfl, rfl⟩)

set_option maxRecDepth 100000 in
set_option maxHeartbeats 4000000 in
/-- Way.tryFrom -/
theorem lc_cX9_tryFrom (l : Launch) (n : Nat) (a1 a2 a3 : Int) (w : Int × Int × Int × Int) (b : Nat) (f : Int → Int) (o t s q m : Int) (x d to : Int) (σ : lc_S) (h0_0 : σ (5) = some (.inr (9, [.ref (2), .ref (6), .int (lc_i ((w).1)), .int (lc_i ((w).2.1)), .int (lc_i ((w).2.2.1)), .int (lc_i ((w).2.2.2))]) : lc_Cel)) (h0_1 : σ (6) = some (.inr (8, [.ref (2), .int (lc_i (a1)), .int (lc_i (a2)), .int (lc_i (a3))]) : lc_Cel)) (h0_2 : σ (2) = some (.inr (1, [.ref (3), .ref (4)]) : lc_Cel)) (h0_3 : σ (3) = some (lc_aI 48 (lc_pt))) (h0_4 : σ (b) = some (.inr (0, [.ref (b + 1), .int (lc_i (o)), .int (lc_i (t)), .int (lc_i (s)), .int (lc_i (q)), .int (lc_i (m))]) : lc_Cel)) (h0_5 : σ (b + 1) = some (lc_aI 36 (f))) (hf : ∀ j : Int, 0 ≤ j → j < 36 → 0 ≤ f j ∧ f j ≤ 2) (hx : 0 ≤ x ∧ x < 48) (hd : d = 1 ∨ d = -1) (hb : 12 ≤ b) (hto : -2147483648 ≤ to ∧ to < 2147483648) (hw : lc_wok w) : lc_Con l yX9_tryFrom cX9_tryFrom 5 none (lc_Rd 2) [.ref (5), .ref (b), .int (lc_i (x)), .int (lc_i (d)), .int (lc_i (to))] n σ (fun v n2 σ2 => v = none ∧ n = n2 ∧ σ2 (5) = some (.inr (9, [.ref (2), .ref (6), .int (lc_i ((lc_try f to w x d).1)), .int (lc_i ((lc_try f to w x d).2.1)), .int (lc_i ((lc_try f to w x d).2.2.1)), .int (lc_i ((lc_try f to w x d).2.2.2))]) : lc_Cel) ∧ σ2 (6) = some (.inr (8, [.ref (2), .int (lc_i (lc_M f x d)), .int (lc_i (lc_Lo f x d)), .int (lc_i ((lc_K f x d : Int)))]) : lc_Cel) ∧ ∀ i : Nat, i ≠ 5 → i ≠ 6 → σ2 i = σ i) := by
  have hM := lc_M_r f d hx
  have hLo := lc_Lo_r f x d
  have hK := lc_K_r f x d
  have hw1 := hw.1
  refine lc_con RX9 false (by decide) rfl (fun h => absurd h (by decide)) (Nat.le_of_ble_eq_true rfl) ?_
  suffices H : ∀ Q : lc_QT, (∀ v n2 σ2, (fun v n2 σ2 => v = none ∧ n = n2 ∧ σ2 (5) = some (.inr (9, [.ref (2), .ref (6), .int (lc_i ((lc_try f to w x d).1)), .int (lc_i ((lc_try f to w x d).2.1)), .int (lc_i ((lc_try f to w x d).2.2.1)), .int (lc_i ((lc_try f to w x d).2.2.2))]) : lc_Cel) ∧ σ2 (6) = some (.inr (8, [.ref (2), .int (lc_i (lc_M f x d)), .int (lc_i (lc_Lo f x d)), .int (lc_i ((lc_K f x d : Int)))]) : lc_Cel) ∧ ∀ i : Nat, i ≠ 5 → i ≠ 6 → σ2 i = σ i : lc_QT) v n2 σ2 → Q v n2 σ2) → lc_V l RX9 cX9_tryFrom 5 none false (lc_Rd 2) (lc_G Q 0 0) lc_E0 0 0 n 0 [(0, .ref (5)), (1, .ref (b)), (2, .int (lc_i (x))), (3, .int (lc_i (d))), (4, .int (lc_i (to)))] [] σ from H _ (fun _ _ _ h => h)
  intro Q hQ
  refine lc_aload_n dX9_tryFrom_0 rfl 0 rfl ?_
  refine lc_get dX9_tryFrom_1 lc_fX9_20 h0_0 rfl ?_
  refine lc_aload_n dX9_tryFrom_4 rfl 1 rfl ?_
  refine lc_iload_n dX9_tryFrom_5 rfl 2 rfl ?_
  refine lc_iload_n dX9_tryFrom_6 rfl 3 rfl ?_
  refine lc_callV (As := [.ref (b), .int (lc_i (x)), .int (lc_i (d))]) (stk := []) (b := 6) dX9_tryFrom_7 lc_mX9_38 lc_yX8_go h0_1 rfl (lc_cX8_go l n (6) (a1) (a2) (a3) (b) (f) (o) (t) (s) (q) (m) (x) (d) σ h0_1 h0_2 h0_3 h0_4 h0_5 (hf) (hx) (hd) (Or.inl rfl) (hb)) rfl ⟨Nat.le_of_ble_eq_true rfl, Nat.le_of_ble_eq_true rfl⟩ ⟨Nat.le_of_ble_eq_true rfl, Nat.le_of_ble_eq_true rfl⟩ rfl (Nat.le_of_ble_eq_true rfl) (fun v3 n4 σ5 q6 => ?_)
  obtain ⟨rfl, rfl, h2, fr1⟩ := q6
  have h7 : σ5 (5) = some (.inr (9, [.ref (2), .ref (6), .int (lc_i ((w).1)), .int (lc_i ((w).2.1)), .int (lc_i ((w).2.2.1)), .int (lc_i ((w).2.2.2))]) : lc_Cel) := (fr1 _ (by omega)).trans h0_0
  have h8 : σ5 (2) = some (.inr (1, [.ref (3), .ref (4)]) : lc_Cel) := (fr1 _ (by omega)).trans h0_2
  have h9 : σ5 (3) = some (lc_aI 48 (lc_pt)) := (fr1 _ (by omega)).trans h0_3
  have h10 : σ5 (b) = some (.inr (0, [.ref (b + 1), .int (lc_i (o)), .int (lc_i (t)), .int (lc_i (s)), .int (lc_i (q)), .int (lc_i (m))]) : lc_Cel) := (fr1 _ (by omega)).trans h0_4
  have h11 : σ5 (b + 1) = some (lc_aI 36 (f)) := (fr1 _ (by omega)).trans h0_5
  refine lc_aload_n dX9_tryFrom_10 rfl 0 rfl ?_
  refine lc_get dX9_tryFrom_11 lc_fX9_20 h7 rfl ?_
  refine lc_iload dX9_tryFrom_14 4 rfl ?_
  refine lc_callV (As := [.int (lc_i (to))]) (stk := []) (b := 6) dX9_tryFrom_16 lc_mX9_42 lc_yX8_wentOverLoopTo h2 rfl (lc_cX8_wentOverLoopTo l n (6) (lc_M (f) (x) (d)) (lc_Lo (f) (x) (d)) ((lc_K (f) (x) (d) : Int)) (to) σ5 h2 (by omega) (by omega) (by omega)) rfl ⟨Nat.le_of_ble_eq_true rfl, Nat.le_of_ble_eq_true rfl⟩ ⟨Nat.le_of_ble_eq_true rfl, Nat.le_of_ble_eq_true rfl⟩ rfl (Nat.le_of_ble_eq_true rfl) (fun v12 n13 σ14 q15 => ?_)
  obtain ⟨rfl, rfl, rfl⟩ := q15
  refine lc_if_eqB (tgt := 68) dX9_tryFrom_19 (by decide) (fun h_19_15 => ?_) (fun h_19_15 => ?_)
  · skip
    exact lc_vret dX9_tryFrom_68 rfl (Nat.le_of_ble_eq_true rfl) (Nat.le_of_ble_eq_true rfl) (hQ _ _ _ ⟨rfl, rfl, (by rw [h7, show ((lc_try f to w x d).1 : Int) = (w).1 from (by rw [lc_try_n1 h_19_15]), show ((lc_try f to w x d).2.1 : Int) = (w).2.1 from (by rw [lc_try_n1 h_19_15]), show ((lc_try f to w x d).2.2.1 : Int) = (w).2.2.1 from (by rw [lc_try_n1 h_19_15]), show ((lc_try f to w x d).2.2.2 : Int) = (w).2.2.2 from (by rw [lc_try_n1 h_19_15])]), (by rw [h2, show (lc_M f x d : Int) = lc_M (f) (x) (d) from (by (repeat' split) <;> omega), show (lc_Lo f x d : Int) = lc_Lo (f) (x) (d) from (by (repeat' split) <;> omega), show ((lc_K f x d : Int) : Int) = (lc_K (f) (x) (d) : Int) from (by (repeat' split) <;> omega)]), (fun i _ _ => (fr1 i (by omega)))⟩)
  · skip
    refine lc_aload_n dX9_tryFrom_22 rfl 0 rfl ?_
    refine lc_get dX9_tryFrom_23 lc_fX9_24 h7 rfl ?_
    refine lc_if_eq (tgt := 36) dX9_tryFrom_26 (by decide) (by omega) (fun h_26_16 => ?_) (fun h_26_16 => ?_)
    · skip
      refine lc_aload_n dX9_tryFrom_36 rfl 0 rfl ?_
      refine lc_aload_n dX9_tryFrom_37 rfl 0 rfl ?_
      refine lc_get dX9_tryFrom_38 lc_fX9_20 h7 rfl ?_
      refine lc_get dX9_tryFrom_41 lc_fX9_50 h2 rfl ?_
      refine lc_wI (vs' := [.ref (2), .ref (6), .int (lc_i (lc_Lo (f) (x) (d))), .int (lc_i ((w).2.1)), .int (lc_i ((w).2.2.1)), .int (lc_i ((w).2.2.2))]) dX9_tryFrom_44 lc_fX9_24 h7 (Nat.le_of_ble_eq_true rfl) rfl rfl rfl (fun σ18 h19 fr20 => ?_)
      have h21 : σ18 (2) = some (.inr (1, [.ref (3), .ref (4)]) : lc_Cel) := (fr20 _ (by omega)).trans h8
      have h22 : σ18 (3) = some (lc_aI 48 (lc_pt)) := (fr20 _ (by omega)).trans h9
      have h23 : σ18 (b) = some (.inr (0, [.ref (b + 1), .int (lc_i (o)), .int (lc_i (t)), .int (lc_i (s)), .int (lc_i (q)), .int (lc_i (m))]) : lc_Cel) := (fr20 _ (by omega)).trans h10
      have h24 : σ18 (b + 1) = some (lc_aI 36 (f)) := (fr20 _ (by omega)).trans h11
      have h25 : σ18 (6) = some (.inr (8, [.ref (2), .int (lc_i (lc_M (f) (x) (d))), .int (lc_i (lc_Lo (f) (x) (d))), .int (lc_i ((lc_K (f) (x) (d) : Int)))]) : lc_Cel) := (fr20 _ (by omega)).trans h2
      refine lc_aload_n dX9_tryFrom_47 rfl 0 rfl ?_
      refine lc_aload_n dX9_tryFrom_48 rfl 0 rfl ?_
      refine lc_get dX9_tryFrom_49 lc_fX9_20 h19 rfl ?_
      refine lc_get dX9_tryFrom_52 lc_fX9_51 h25 rfl ?_
      refine lc_wI (vs' := [.ref (2), .ref (6), .int (lc_i (lc_Lo (f) (x) (d))), .int (lc_i ((lc_K (f) (x) (d) : Int))), .int (lc_i ((w).2.2.1)), .int (lc_i ((w).2.2.2))]) dX9_tryFrom_55 lc_fX9_54 h19 (Nat.le_of_ble_eq_true rfl) rfl rfl rfl (fun σ26 h27 fr28 => ?_)
      have h29 : σ26 (2) = some (.inr (1, [.ref (3), .ref (4)]) : lc_Cel) := (fr28 _ (by omega)).trans h21
      have h30 : σ26 (3) = some (lc_aI 48 (lc_pt)) := (fr28 _ (by omega)).trans h22
      have h31 : σ26 (b) = some (.inr (0, [.ref (b + 1), .int (lc_i (o)), .int (lc_i (t)), .int (lc_i (s)), .int (lc_i (q)), .int (lc_i (m))]) : lc_Cel) := (fr28 _ (by omega)).trans h23
      have h32 : σ26 (b + 1) = some (lc_aI 36 (f)) := (fr28 _ (by omega)).trans h24
      have h33 : σ26 (6) = some (.inr (8, [.ref (2), .int (lc_i (lc_M (f) (x) (d))), .int (lc_i (lc_Lo (f) (x) (d))), .int (lc_i ((lc_K (f) (x) (d) : Int)))]) : lc_Cel) := (fr28 _ (by omega)).trans h25
      refine lc_aload_n dX9_tryFrom_58 rfl 0 rfl ?_
      refine lc_iload_n dX9_tryFrom_59 rfl 2 rfl ?_
      refine lc_wI (vs' := [.ref (2), .ref (6), .int (lc_i (lc_Lo (f) (x) (d))), .int (lc_i ((lc_K (f) (x) (d) : Int))), .int (lc_i (x)), .int (lc_i ((w).2.2.2))]) dX9_tryFrom_60 lc_fX9_55 h27 (Nat.le_of_ble_eq_true rfl) rfl rfl rfl (fun σ34 h35 fr36 => ?_)
      have h37 : σ34 (2) = some (.inr (1, [.ref (3), .ref (4)]) : lc_Cel) := (fr36 _ (by omega)).trans h29
      have h38 : σ34 (3) = some (lc_aI 48 (lc_pt)) := (fr36 _ (by omega)).trans h30
      have h39 : σ34 (b) = some (.inr (0, [.ref (b + 1), .int (lc_i (o)), .int (lc_i (t)), .int (lc_i (s)), .int (lc_i (q)), .int (lc_i (m))]) : lc_Cel) := (fr36 _ (by omega)).trans h31
      have h40 : σ34 (b + 1) = some (lc_aI 36 (f)) := (fr36 _ (by omega)).trans h32
      have h41 : σ34 (6) = some (.inr (8, [.ref (2), .int (lc_i (lc_M (f) (x) (d))), .int (lc_i (lc_Lo (f) (x) (d))), .int (lc_i ((lc_K (f) (x) (d) : Int)))]) : lc_Cel) := (fr36 _ (by omega)).trans h33
      refine lc_aload_n dX9_tryFrom_63 rfl 0 rfl ?_
      refine lc_iload_n dX9_tryFrom_64 rfl 3 rfl ?_
      refine lc_wI (vs' := [.ref (2), .ref (6), .int (lc_i (lc_Lo (f) (x) (d))), .int (lc_i ((lc_K (f) (x) (d) : Int))), .int (lc_i (x)), .int (lc_i (d))]) dX9_tryFrom_65 lc_fX9_58 h35 (Nat.le_of_ble_eq_true rfl) rfl rfl rfl (fun σ42 h43 fr44 => ?_)
      have h45 : σ42 (2) = some (.inr (1, [.ref (3), .ref (4)]) : lc_Cel) := (fr44 _ (by omega)).trans h37
      have h46 : σ42 (3) = some (lc_aI 48 (lc_pt)) := (fr44 _ (by omega)).trans h38
      have h47 : σ42 (b) = some (.inr (0, [.ref (b + 1), .int (lc_i (o)), .int (lc_i (t)), .int (lc_i (s)), .int (lc_i (q)), .int (lc_i (m))]) : lc_Cel) := (fr44 _ (by omega)).trans h39
      have h48 : σ42 (b + 1) = some (lc_aI 36 (f)) := (fr44 _ (by omega)).trans h40
      have h49 : σ42 (6) = some (.inr (8, [.ref (2), .int (lc_i (lc_M (f) (x) (d))), .int (lc_i (lc_Lo (f) (x) (d))), .int (lc_i ((lc_K (f) (x) (d) : Int)))]) : lc_Cel) := (fr44 _ (by omega)).trans h41
      exact lc_vret dX9_tryFrom_68 rfl (Nat.le_of_ble_eq_true rfl) (Nat.le_of_ble_eq_true rfl) (hQ _ _ _ ⟨rfl, rfl, (by rw [h43, show ((lc_try f to w x d).1 : Int) = lc_Lo (f) (x) (d) from (by rw [lc_try_t h_19_15 (Or.inl h_26_16)]), show ((lc_try f to w x d).2.1 : Int) = (lc_K (f) (x) (d) : Int) from (by rw [lc_try_t h_19_15 (Or.inl h_26_16)]), show ((lc_try f to w x d).2.2.1 : Int) = x from (by rw [lc_try_t h_19_15 (Or.inl h_26_16)]), show ((lc_try f to w x d).2.2.2 : Int) = d from (by rw [lc_try_t h_19_15 (Or.inl h_26_16)])]), (by rw [h49, show (lc_M f x d : Int) = lc_M (f) (x) (d) from (by (repeat' split) <;> omega), show (lc_Lo f x d : Int) = lc_Lo (f) (x) (d) from (by (repeat' split) <;> omega), show ((lc_K f x d : Int) : Int) = (lc_K (f) (x) (d) : Int) from (by (repeat' split) <;> omega)]), (fun i _ _ => ((fr44 i (by omega)).trans ((fr36 i (by omega)).trans ((fr28 i (by omega)).trans ((fr20 i (by omega)).trans (fr1 i (by omega)))))))⟩)
    · skip
      refine lc_aload_n dX9_tryFrom_29 rfl 0 rfl ?_
      have hw2 := (hw.2 (by omega)).1
      refine lc_callV (As := []) (stk := []) (b := 5) dX9_tryFrom_30 lc_mX9_46 lc_yX9_walkIsShorter h7 rfl (lc_cX9_walkIsShorter l n ((w).1) ((w).2.1) ((w).2.2.1) ((w).2.2.2) (lc_M (f) (x) (d)) (lc_Lo (f) (x) (d)) ((lc_K (f) (x) (d) : Int)) σ5 h7 h2 (by omega) (by omega) (by omega) (by omega)) rfl ⟨Nat.le_of_ble_eq_true rfl, Nat.le_of_ble_eq_true rfl⟩ ⟨Nat.le_of_ble_eq_true rfl, Nat.le_of_ble_eq_true rfl⟩ rfl (Nat.le_of_ble_eq_true rfl) (fun v50 n51 σ52 q53 => ?_)
      obtain ⟨rfl, rfl, rfl⟩ := q53
      refine lc_if_eqB (tgt := 68) dX9_tryFrom_33 (by decide) (fun h_33_53 => ?_) (fun h_33_53 => ?_)
      · skip
        exact lc_vret dX9_tryFrom_68 rfl (Nat.le_of_ble_eq_true rfl) (Nat.le_of_ble_eq_true rfl) (hQ _ _ _ ⟨rfl, rfl, (by rw [h7, show ((lc_try f to w x d).1 : Int) = (w).1 from (by rw [lc_try_n2 (fun q => q.elim h_26_16 h_33_53)]), show ((lc_try f to w x d).2.1 : Int) = (w).2.1 from (by rw [lc_try_n2 (fun q => q.elim h_26_16 h_33_53)]), show ((lc_try f to w x d).2.2.1 : Int) = (w).2.2.1 from (by rw [lc_try_n2 (fun q => q.elim h_26_16 h_33_53)]), show ((lc_try f to w x d).2.2.2 : Int) = (w).2.2.2 from (by rw [lc_try_n2 (fun q => q.elim h_26_16 h_33_53)])]), (by rw [h2, show (lc_M f x d : Int) = lc_M (f) (x) (d) from (by (repeat' split) <;> omega), show (lc_Lo f x d : Int) = lc_Lo (f) (x) (d) from (by (repeat' split) <;> omega), show ((lc_K f x d : Int) : Int) = (lc_K (f) (x) (d) : Int) from (by (repeat' split) <;> omega)]), (fun i _ _ => (fr1 i (by omega)))⟩)
      · skip
        refine lc_aload_n dX9_tryFrom_36 rfl 0 rfl ?_
        refine lc_aload_n dX9_tryFrom_37 rfl 0 rfl ?_
        refine lc_get dX9_tryFrom_38 lc_fX9_20 h7 rfl ?_
        refine lc_get dX9_tryFrom_41 lc_fX9_50 h2 rfl ?_
        refine lc_wI (vs' := [.ref (2), .ref (6), .int (lc_i (lc_Lo (f) (x) (d))), .int (lc_i ((w).2.1)), .int (lc_i ((w).2.2.1)), .int (lc_i ((w).2.2.2))]) dX9_tryFrom_44 lc_fX9_24 h7 (Nat.le_of_ble_eq_true rfl) rfl rfl rfl (fun σ55 h56 fr57 => ?_)
        have h58 : σ55 (2) = some (.inr (1, [.ref (3), .ref (4)]) : lc_Cel) := (fr57 _ (by omega)).trans h8
        have h59 : σ55 (3) = some (lc_aI 48 (lc_pt)) := (fr57 _ (by omega)).trans h9
        have h60 : σ55 (b) = some (.inr (0, [.ref (b + 1), .int (lc_i (o)), .int (lc_i (t)), .int (lc_i (s)), .int (lc_i (q)), .int (lc_i (m))]) : lc_Cel) := (fr57 _ (by omega)).trans h10
        have h61 : σ55 (b + 1) = some (lc_aI 36 (f)) := (fr57 _ (by omega)).trans h11
        have h62 : σ55 (6) = some (.inr (8, [.ref (2), .int (lc_i (lc_M (f) (x) (d))), .int (lc_i (lc_Lo (f) (x) (d))), .int (lc_i ((lc_K (f) (x) (d) : Int)))]) : lc_Cel) := (fr57 _ (by omega)).trans h2
        refine lc_aload_n dX9_tryFrom_47 rfl 0 rfl ?_
        refine lc_aload_n dX9_tryFrom_48 rfl 0 rfl ?_
        refine lc_get dX9_tryFrom_49 lc_fX9_20 h56 rfl ?_
        refine lc_get dX9_tryFrom_52 lc_fX9_51 h62 rfl ?_
        refine lc_wI (vs' := [.ref (2), .ref (6), .int (lc_i (lc_Lo (f) (x) (d))), .int (lc_i ((lc_K (f) (x) (d) : Int))), .int (lc_i ((w).2.2.1)), .int (lc_i ((w).2.2.2))]) dX9_tryFrom_55 lc_fX9_54 h56 (Nat.le_of_ble_eq_true rfl) rfl rfl rfl (fun σ63 h64 fr65 => ?_)
        have h66 : σ63 (2) = some (.inr (1, [.ref (3), .ref (4)]) : lc_Cel) := (fr65 _ (by omega)).trans h58
        have h67 : σ63 (3) = some (lc_aI 48 (lc_pt)) := (fr65 _ (by omega)).trans h59
        have h68 : σ63 (b) = some (.inr (0, [.ref (b + 1), .int (lc_i (o)), .int (lc_i (t)), .int (lc_i (s)), .int (lc_i (q)), .int (lc_i (m))]) : lc_Cel) := (fr65 _ (by omega)).trans h60
        have h69 : σ63 (b + 1) = some (lc_aI 36 (f)) := (fr65 _ (by omega)).trans h61
        have h70 : σ63 (6) = some (.inr (8, [.ref (2), .int (lc_i (lc_M (f) (x) (d))), .int (lc_i (lc_Lo (f) (x) (d))), .int (lc_i ((lc_K (f) (x) (d) : Int)))]) : lc_Cel) := (fr65 _ (by omega)).trans h62
        refine lc_aload_n dX9_tryFrom_58 rfl 0 rfl ?_
        refine lc_iload_n dX9_tryFrom_59 rfl 2 rfl ?_
        refine lc_wI (vs' := [.ref (2), .ref (6), .int (lc_i (lc_Lo (f) (x) (d))), .int (lc_i ((lc_K (f) (x) (d) : Int))), .int (lc_i (x)), .int (lc_i ((w).2.2.2))]) dX9_tryFrom_60 lc_fX9_55 h64 (Nat.le_of_ble_eq_true rfl) rfl rfl rfl (fun σ71 h72 fr73 => ?_)
        have h74 : σ71 (2) = some (.inr (1, [.ref (3), .ref (4)]) : lc_Cel) := (fr73 _ (by omega)).trans h66
        have h75 : σ71 (3) = some (lc_aI 48 (lc_pt)) := (fr73 _ (by omega)).trans h67
        have h76 : σ71 (b) = some (.inr (0, [.ref (b + 1), .int (lc_i (o)), .int (lc_i (t)), .int (lc_i (s)), .int (lc_i (q)), .int (lc_i (m))]) : lc_Cel) := (fr73 _ (by omega)).trans h68
        have h77 : σ71 (b + 1) = some (lc_aI 36 (f)) := (fr73 _ (by omega)).trans h69
        have h78 : σ71 (6) = some (.inr (8, [.ref (2), .int (lc_i (lc_M (f) (x) (d))), .int (lc_i (lc_Lo (f) (x) (d))), .int (lc_i ((lc_K (f) (x) (d) : Int)))]) : lc_Cel) := (fr73 _ (by omega)).trans h70
        refine lc_aload_n dX9_tryFrom_63 rfl 0 rfl ?_
        refine lc_iload_n dX9_tryFrom_64 rfl 3 rfl ?_
        refine lc_wI (vs' := [.ref (2), .ref (6), .int (lc_i (lc_Lo (f) (x) (d))), .int (lc_i ((lc_K (f) (x) (d) : Int))), .int (lc_i (x)), .int (lc_i (d))]) dX9_tryFrom_65 lc_fX9_58 h72 (Nat.le_of_ble_eq_true rfl) rfl rfl rfl (fun σ79 h80 fr81 => ?_)
        have h82 : σ79 (2) = some (.inr (1, [.ref (3), .ref (4)]) : lc_Cel) := (fr81 _ (by omega)).trans h74
        have h83 : σ79 (3) = some (lc_aI 48 (lc_pt)) := (fr81 _ (by omega)).trans h75
        have h84 : σ79 (b) = some (.inr (0, [.ref (b + 1), .int (lc_i (o)), .int (lc_i (t)), .int (lc_i (s)), .int (lc_i (q)), .int (lc_i (m))]) : lc_Cel) := (fr81 _ (by omega)).trans h76
        have h85 : σ79 (b + 1) = some (lc_aI 36 (f)) := (fr81 _ (by omega)).trans h77
        have h86 : σ79 (6) = some (.inr (8, [.ref (2), .int (lc_i (lc_M (f) (x) (d))), .int (lc_i (lc_Lo (f) (x) (d))), .int (lc_i ((lc_K (f) (x) (d) : Int)))]) : lc_Cel) := (fr81 _ (by omega)).trans h78
        exact lc_vret dX9_tryFrom_68 rfl (Nat.le_of_ble_eq_true rfl) (Nat.le_of_ble_eq_true rfl) (hQ _ _ _ ⟨rfl, rfl, (by rw [h80, show ((lc_try f to w x d).1 : Int) = lc_Lo (f) (x) (d) from (by rw [lc_try_t h_19_15 (Or.inr h_33_53)]), show ((lc_try f to w x d).2.1 : Int) = (lc_K (f) (x) (d) : Int) from (by rw [lc_try_t h_19_15 (Or.inr h_33_53)]), show ((lc_try f to w x d).2.2.1 : Int) = x from (by rw [lc_try_t h_19_15 (Or.inr h_33_53)]), show ((lc_try f to w x d).2.2.2 : Int) = d from (by rw [lc_try_t h_19_15 (Or.inr h_33_53)])]), (by rw [h86, show (lc_M f x d : Int) = lc_M (f) (x) (d) from (by (repeat' split) <;> omega), show (lc_Lo f x d : Int) = lc_Lo (f) (x) (d) from (by (repeat' split) <;> omega), show ((lc_K f x d : Int) : Int) = (lc_K (f) (x) (d) : Int) from (by (repeat' split) <;> omega)]), (fun i _ _ => ((fr81 i (by omega)).trans ((fr73 i (by omega)).trans ((fr65 i (by omega)).trans ((fr57 i (by omega)).trans (fr1 i (by omega)))))))⟩)

set_option maxRecDepth 100000 in
set_option maxHeartbeats 4000000 in
/-- Way.find: the way that matters -/
theorem lc_cX9_find (l : Launch) (n : Nat) (a1 a2 a3 : Int) (w : Int × Int × Int × Int) (b : Nat) (f : Int → Int) (o t s q m : Int) (fr to : Int) (σ : lc_S) (h0_0 : σ (5) = some (.inr (9, [.ref (2), .ref (6), .int (lc_i ((w).1)), .int (lc_i ((w).2.1)), .int (lc_i ((w).2.2.1)), .int (lc_i ((w).2.2.2))]) : lc_Cel)) (h0_1 : σ (6) = some (.inr (8, [.ref (2), .int (lc_i (a1)), .int (lc_i (a2)), .int (lc_i (a3))]) : lc_Cel)) (h0_2 : σ (2) = some (.inr (1, [.ref (3), .ref (4)]) : lc_Cel)) (h0_3 : σ (3) = some (lc_aI 48 (lc_pt))) (h0_4 : σ (4) = some (lc_aI 72 (lc_sp))) (h0_5 : σ (b) = some (.inr (0, [.ref (b + 1), .int (lc_i (o)), .int (lc_i (t)), .int (lc_i (s)), .int (lc_i (q)), .int (lc_i (m))]) : lc_Cel)) (h0_6 : σ (b + 1) = some (lc_aI 36 (f))) (hf : ∀ j : Int, 0 ≤ j → j < 36 → 0 ≤ f j ∧ f j ≤ 2) (hb : 12 ≤ b) (hfr : 0 ≤ fr ∧ fr < 36) (hto : -2147483648 ≤ to ∧ to < 2147483648) : lc_Con l yX9_find cX9_find 6 (some .boolean) (lc_Rd 3) [.ref (5), .ref (b), .int (lc_i (fr)), .int (lc_i (to))] n σ (fun v n2 σ2 => ∃ c1 c2 c3 : Int, v = some (.int (lc_i (if (0 < (lc_find f fr to w).1) then 1 else 0))) ∧ n = n2 ∧ σ2 5 = some (.inr (9, [.ref (2), .ref (6), .int (lc_i ((lc_find f fr to w).1)), .int (lc_i ((lc_find f fr to w).2.1)), .int (lc_i ((lc_find f fr to w).2.2.1)), .int (lc_i ((lc_find f fr to w).2.2.2))]) : lc_Cel) ∧ σ2 6 = some (.inr (8, [.ref (2), .int (lc_i (c1)), .int (lc_i (c2)), .int (lc_i (c3))]) : lc_Cel) ∧ ∀ i : Nat, i ≠ 5 → i ≠ 6 → σ2 i = σ i) := by
  have hs0 := lc_sp_r (x := fr * 2) (by omega)
  have hs1 := lc_sp_r (x := fr * 2 + 1) (by omega)
  refine lc_con RX9 false (by decide) rfl (fun h => absurd h (by decide)) (Nat.le_of_ble_eq_true rfl) ?_
  suffices H : ∀ Q : lc_QT, (∀ v n2 σ2, (fun v n2 σ2 => ∃ c1 c2 c3 : Int, v = some (.int (lc_i (if (0 < (lc_find f fr to w).1) then 1 else 0))) ∧ n = n2 ∧ σ2 5 = some (.inr (9, [.ref (2), .ref (6), .int (lc_i ((lc_find f fr to w).1)), .int (lc_i ((lc_find f fr to w).2.1)), .int (lc_i ((lc_find f fr to w).2.2.1)), .int (lc_i ((lc_find f fr to w).2.2.2))]) : lc_Cel) ∧ σ2 6 = some (.inr (8, [.ref (2), .int (lc_i (c1)), .int (lc_i (c2)), .int (lc_i (c3))]) : lc_Cel) ∧ ∀ i : Nat, i ≠ 5 → i ≠ 6 → σ2 i = σ i : lc_QT) v n2 σ2 → Q v n2 σ2) → lc_V l RX9 cX9_find 6 (some .boolean) false (lc_Rd 3) (lc_G Q 0 0) lc_E0 0 0 n 0 [(0, .ref (5)), (1, .ref (b)), (2, .int (lc_i (fr))), (3, .int (lc_i (to)))] [] σ from H _ (fun _ _ _ h => h)
  intro Q hQ
  refine lc_aload_n dX9_find_0 rfl 0 rfl ?_
  refine lc_iconst dX9_find_1 ?_
  refine lc_wI (vs' := [.ref (2), .ref (6), .int (lc_i (0)), .int (lc_i ((w).2.1)), .int (lc_i ((w).2.2.1)), .int (lc_i ((w).2.2.2))]) dX9_find_2 lc_fX9_24 h0_0 (Nat.le_of_ble_eq_true rfl) rfl rfl rfl (fun σ1 h2 fr3 => ?_)
  have h4 : σ1 (6) = some (.inr (8, [.ref (2), .int (lc_i (a1)), .int (lc_i (a2)), .int (lc_i (a3))]) : lc_Cel) := (fr3 _ (by omega)).trans h0_1
  have h5 : σ1 (2) = some (.inr (1, [.ref (3), .ref (4)]) : lc_Cel) := (fr3 _ (by omega)).trans h0_2
  have h6 : σ1 (3) = some (lc_aI 48 (lc_pt)) := (fr3 _ (by omega)).trans h0_3
  have h7 : σ1 (4) = some (lc_aI 72 (lc_sp)) := (fr3 _ (by omega)).trans h0_4
  have h8 : σ1 (b) = some (.inr (0, [.ref (b + 1), .int (lc_i (o)), .int (lc_i (t)), .int (lc_i (s)), .int (lc_i (q)), .int (lc_i (m))]) : lc_Cel) := (fr3 _ (by omega)).trans h0_5
  have h9 : σ1 (b + 1) = some (lc_aI 36 (f)) := (fr3 _ (by omega)).trans h0_6
  refine lc_iconst dX9_find_5 ?_
  refine lc_istore (lv' := [(0, .ref (5)), (1, .ref (b)), (2, .int (lc_i (fr))), (3, .int (lc_i (to))), (4, .int (lc_i (0)))]) dX9_find_6 (by decide) rfl ?_
  refine lc_iload dX9_find_8 4 rfl ?_
  refine lc_iconst dX9_find_10 ?_
  refine lc_icmp_ge (tgt := 56) dX9_find_11 (by decide) (by omega) (fun h_11_9 => ?_) (fun h_11_9 => ?_)
  · exact absurd h_11_9 (by decide)
  · skip
    refine lc_aload_n dX9_find_14 rfl 0 rfl ?_
    refine lc_get dX9_find_15 lc_fX9_9 h2 rfl ?_
    refine lc_iload_n dX9_find_18 rfl 2 rfl ?_
    refine lc_iload dX9_find_19 4 rfl ?_
    refine lc_callV (As := [.int (lc_i (fr)), .int (lc_i (0))]) (stk := []) (b := 2) dX9_find_21 lc_mX9_30 lc_yX1_spotOf h5 rfl (lc_cX1_spotOf l n (fr) (0) σ1 h5 h7 (by omega) (by omega)) rfl ⟨Nat.le_of_ble_eq_true rfl, Nat.le_of_ble_eq_true rfl⟩ ⟨Nat.le_of_ble_eq_true rfl, Nat.le_of_ble_eq_true rfl⟩ rfl (Nat.le_of_ble_eq_true rfl) (fun v11 n12 σ13 q14 => ?_)
    obtain ⟨rfl, rfl, rfl⟩ := q14
    refine lc_top (congrArg (fun z => Value.int (lc_i z)) (show (lc_sp ((fr) * 2 + (0)) : Int) = lc_sp (fr * 2) from congrArg lc_sp (by omega))) ?_
    refine lc_istore (lv' := [(0, .ref (5)), (1, .ref (b)), (2, .int (lc_i (fr))), (3, .int (lc_i (to))), (4, .int (lc_i (0))), (5, .int (lc_i (lc_sp (fr * 2))))]) dX9_find_24 (by decide) rfl ?_
    refine lc_iload dX9_find_26 5 rfl ?_
    refine lc_iconst dX9_find_28 ?_
    refine lc_icmp_eq (tgt := 50) dX9_find_29 (by decide) (by omega) (fun h_29_14 => ?_) (fun h_29_14 => ?_)
    · skip
      refine lc_iinc (lv' := [(0, .ref (5)), (1, .ref (b)), (2, .int (lc_i (fr))), (3, .int (lc_i (to))), (4, .int (lc_i (0 + 1))), (5, .int (lc_i (lc_sp (fr * 2))))]) dX9_find_50 4 rfl (by decide) rfl ?_
      refine lc_goto (tgt := 8) dX9_find_53 (by decide) ?_
      refine lc_iload dX9_find_8 4 rfl ?_
      refine lc_iconst dX9_find_10 ?_
      refine lc_icmp_ge (tgt := 56) dX9_find_11 (by decide) (by omega) (fun h_11_15 => ?_) (fun h_11_15 => ?_)
      · exact absurd h_11_15 (by decide)
      · skip
        refine lc_aload_n dX9_find_14 rfl 0 rfl ?_
        refine lc_get dX9_find_15 lc_fX9_9 h2 rfl ?_
        refine lc_iload_n dX9_find_18 rfl 2 rfl ?_
        refine lc_iload dX9_find_19 4 rfl ?_
        refine lc_callV (As := [.int (lc_i (fr)), .int (lc_i (0 + 1))]) (stk := []) (b := 2) dX9_find_21 lc_mX9_30 lc_yX1_spotOf h5 rfl (lc_cX1_spotOf l n (fr) (0 + 1) σ1 h5 h7 (by omega) (by omega)) rfl ⟨Nat.le_of_ble_eq_true rfl, Nat.le_of_ble_eq_true rfl⟩ ⟨Nat.le_of_ble_eq_true rfl, Nat.le_of_ble_eq_true rfl⟩ rfl (Nat.le_of_ble_eq_true rfl) (fun v17 n18 σ19 q20 => ?_)
        obtain ⟨rfl, rfl, rfl⟩ := q20
        refine lc_top (congrArg (fun z => Value.int (lc_i z)) (show (lc_sp ((fr) * 2 + (0 + 1)) : Int) = lc_sp (fr * 2 + 1) from congrArg lc_sp (by omega))) ?_
        refine lc_istore (lv' := [(0, .ref (5)), (1, .ref (b)), (2, .int (lc_i (fr))), (3, .int (lc_i (to))), (4, .int (lc_i (0 + 1))), (5, .int (lc_i (lc_sp (fr * 2 + 1))))]) dX9_find_24 (by decide) rfl ?_
        refine lc_iload dX9_find_26 5 rfl ?_
        refine lc_iconst dX9_find_28 ?_
        refine lc_icmp_eq (tgt := 50) dX9_find_29 (by decide) (by omega) (fun h_29_20 => ?_) (fun h_29_20 => ?_)
        · skip
          refine lc_iinc (lv' := [(0, .ref (5)), (1, .ref (b)), (2, .int (lc_i (fr))), (3, .int (lc_i (to))), (4, .int (lc_i (0 + 1 + 1))), (5, .int (lc_i (lc_sp (fr * 2 + 1))))]) dX9_find_50 4 rfl (by decide) rfl ?_
          refine lc_goto (tgt := 8) dX9_find_53 (by decide) ?_
          refine lc_iload dX9_find_8 4 rfl ?_
          refine lc_iconst dX9_find_10 ?_
          refine lc_icmp_ge (tgt := 56) dX9_find_11 (by decide) (by omega) (fun h_11_21 => ?_) (fun h_11_21 => ?_)
          · skip
            have hok9 : lc_wok ((0, w.2)) := lc_w0 w.2; have hok8 := hok9.1
            refine lc_aload_n dX9_find_56 rfl 0 rfl ?_
            refine lc_get dX9_find_57 lc_fX9_24 h2 rfl ?_
            refine lc_if_le (tgt := 67) dX9_find_60 (by decide) (by omega) (fun h_60_22 => ?_) (fun h_60_22 => ?_)
            · skip
              refine lc_iconst dX9_find_67 ?_
              have E9 : lc_find f fr to w = (0, w.2) := by show lc_two f to (lc_two f to (0, w.2) (lc_sp (fr * 2))) (lc_sp (fr * 2 + 1)) = _; unfold lc_two; rw [if_pos h_29_14, if_pos h_29_20]
              exact lc_zret dX9_find_68 rfl (rfl) (Nat.le_of_ble_eq_true rfl) (Nat.le_of_ble_eq_true rfl) (hQ _ _ _ ⟨a1, a2, a3, lc_some (by rw [E9, if_neg (by omega)]), rfl, by rw [E9]; exact h2, h4, (fun i _ _ => (fr3 i (by omega)))⟩)
            · skip
              refine lc_iconst dX9_find_63 ?_
              refine lc_goto (tgt := 68) dX9_find_64 (by decide) ?_
              have E9 : lc_find f fr to w = (0, w.2) := by show lc_two f to (lc_two f to (0, w.2) (lc_sp (fr * 2))) (lc_sp (fr * 2 + 1)) = _; unfold lc_two; rw [if_pos h_29_14, if_pos h_29_20]
              exact lc_zret dX9_find_68 rfl (rfl) (Nat.le_of_ble_eq_true rfl) (Nat.le_of_ble_eq_true rfl) (hQ _ _ _ ⟨a1, a2, a3, lc_some (by rw [E9, if_pos h_60_22]), rfl, by rw [E9]; exact h2, h4, (fun i _ _ => (fr3 i (by omega)))⟩)
          · exact absurd h_11_21 (by decide)
        · skip
          refine lc_aload_n dX9_find_32 rfl 0 rfl ?_
          refine lc_aload_n dX9_find_33 rfl 1 rfl ?_
          refine lc_iload dX9_find_34 5 rfl ?_
          refine lc_iconst dX9_find_36 ?_
          refine lc_iload_n dX9_find_37 rfl 3 rfl ?_
          have hok26 : lc_wok ((0, w.2)) := lc_w0 w.2
          refine lc_callV (As := [.ref (b), .int (lc_i (lc_sp (fr * 2 + 1))), .int (lc_i (1)), .int (lc_i (to))]) (stk := []) (b := 5) dX9_find_38 lc_mX9_34 lc_yX9_tryFrom h2 rfl (lc_cX9_tryFrom l n (a1) (a2) (a3) ((0, w.2)) (b) (f) (o) (t) (s) (q) (m) (lc_sp (fr * 2 + 1)) (1) (to) σ1 h2 h4 h5 h6 h8 h9 (hf) (by omega) (by omega) (hb) (by omega) (hok26)) rfl ⟨Nat.le_of_ble_eq_true rfl, Nat.le_of_ble_eq_true rfl⟩ ⟨Nat.le_of_ble_eq_true rfl, Nat.le_of_ble_eq_true rfl⟩ rfl (Nat.le_of_ble_eq_true rfl) (fun v27 n28 σ29 q30 => ?_)
          obtain ⟨rfl, rfl, h25, h26, fr24⟩ := q30
          have h31 : σ29 (2) = some (.inr (1, [.ref (3), .ref (4)]) : lc_Cel) := (fr24 _ (by omega) (by omega)).trans h5
          have h32 : σ29 (3) = some (lc_aI 48 (lc_pt)) := (fr24 _ (by omega) (by omega)).trans h6
          have h33 : σ29 (4) = some (lc_aI 72 (lc_sp)) := (fr24 _ (by omega) (by omega)).trans h7
          have h34 : σ29 (b) = some (.inr (0, [.ref (b + 1), .int (lc_i (o)), .int (lc_i (t)), .int (lc_i (s)), .int (lc_i (q)), .int (lc_i (m))]) : lc_Cel) := (fr24 _ (by omega) (by omega)).trans h8
          have h35 : σ29 (b + 1) = some (lc_aI 36 (f)) := (fr24 _ (by omega) (by omega)).trans h9
          refine lc_aload_n dX9_find_41 rfl 0 rfl ?_
          refine lc_aload_n dX9_find_42 rfl 1 rfl ?_
          refine lc_iload dX9_find_43 5 rfl ?_
          refine lc_iconst dX9_find_45 ?_
          refine lc_iload_n dX9_find_46 rfl 3 rfl ?_
          have hok38 : lc_wok (lc_try (f) (to) ((0, w.2)) (lc_sp (fr * 2 + 1)) (1)) := lc_try_ok (lc_w0 w.2) (by omega) (Or.inl rfl)
          refine lc_callV (As := [.ref (b), .int (lc_i (lc_sp (fr * 2 + 1))), .int (lc_i ((-1))), .int (lc_i (to))]) (stk := []) (b := 5) dX9_find_47 lc_mX9_34 lc_yX9_tryFrom h25 rfl (lc_cX9_tryFrom l n (lc_M (f) (lc_sp (fr * 2 + 1)) (1)) (lc_Lo (f) (lc_sp (fr * 2 + 1)) (1)) ((lc_K (f) (lc_sp (fr * 2 + 1)) (1) : Int)) (lc_try (f) (to) ((0, w.2)) (lc_sp (fr * 2 + 1)) (1)) (b) (f) (o) (t) (s) (q) (m) (lc_sp (fr * 2 + 1)) ((-1)) (to) σ29 h25 h26 h31 h32 h34 h35 (hf) (by omega) (by omega) (hb) (by omega) (hok38)) rfl ⟨Nat.le_of_ble_eq_true rfl, Nat.le_of_ble_eq_true rfl⟩ ⟨Nat.le_of_ble_eq_true rfl, Nat.le_of_ble_eq_true rfl⟩ rfl (Nat.le_of_ble_eq_true rfl) (fun v39 n40 σ41 q42 => ?_)
          obtain ⟨rfl, rfl, h37, h38, fr36⟩ := q42
          have h43 : σ41 (2) = some (.inr (1, [.ref (3), .ref (4)]) : lc_Cel) := (fr36 _ (by omega) (by omega)).trans h31
          have h44 : σ41 (3) = some (lc_aI 48 (lc_pt)) := (fr36 _ (by omega) (by omega)).trans h32
          have h45 : σ41 (4) = some (lc_aI 72 (lc_sp)) := (fr36 _ (by omega) (by omega)).trans h33
          have h46 : σ41 (b) = some (.inr (0, [.ref (b + 1), .int (lc_i (o)), .int (lc_i (t)), .int (lc_i (s)), .int (lc_i (q)), .int (lc_i (m))]) : lc_Cel) := (fr36 _ (by omega) (by omega)).trans h34
          have h47 : σ41 (b + 1) = some (lc_aI 36 (f)) := (fr36 _ (by omega) (by omega)).trans h35
          refine lc_iinc (lv' := [(0, .ref (5)), (1, .ref (b)), (2, .int (lc_i (fr))), (3, .int (lc_i (to))), (4, .int (lc_i (0 + 1 + 1))), (5, .int (lc_i (lc_sp (fr * 2 + 1))))]) dX9_find_50 4 rfl (by decide) rfl ?_
          refine lc_goto (tgt := 8) dX9_find_53 (by decide) ?_
          refine lc_iload dX9_find_8 4 rfl ?_
          refine lc_iconst dX9_find_10 ?_
          refine lc_icmp_ge (tgt := 56) dX9_find_11 (by decide) (by omega) (fun h_11_47 => ?_) (fun h_11_47 => ?_)
          · skip
            have hok9 : lc_wok (lc_try (f) (to) (lc_try (f) (to) ((0, w.2)) (lc_sp (fr * 2 + 1)) (1)) (lc_sp (fr * 2 + 1)) ((-1))) := lc_try_ok (lc_try_ok (lc_w0 w.2) (by omega) (Or.inl rfl)) (by omega) (Or.inr rfl); have hok8 := hok9.1
            refine lc_aload_n dX9_find_56 rfl 0 rfl ?_
            refine lc_get dX9_find_57 lc_fX9_24 h37 rfl ?_
            refine lc_if_le (tgt := 67) dX9_find_60 (by decide) (by omega) (fun h_60_48 => ?_) (fun h_60_48 => ?_)
            · skip
              refine lc_iconst dX9_find_67 ?_
              have E9 : lc_find f fr to w = lc_try (f) (to) (lc_try (f) (to) ((0, w.2)) (lc_sp (fr * 2 + 1)) (1)) (lc_sp (fr * 2 + 1)) ((-1)) := by show lc_two f to (lc_two f to (0, w.2) (lc_sp (fr * 2))) (lc_sp (fr * 2 + 1)) = _; unfold lc_two; rw [if_pos h_29_14, if_neg h_29_20]
              exact lc_zret dX9_find_68 rfl (rfl) (Nat.le_of_ble_eq_true rfl) (Nat.le_of_ble_eq_true rfl) (hQ _ _ _ ⟨lc_M (f) (lc_sp (fr * 2 + 1)) ((-1)), lc_Lo (f) (lc_sp (fr * 2 + 1)) ((-1)), (lc_K (f) (lc_sp (fr * 2 + 1)) ((-1)) : Int), lc_some (by rw [E9, if_neg (by omega)]), rfl, by rw [E9]; exact h37, h38, (fun i _ _ => ((fr36 i (by omega) (by omega)).trans ((fr24 i (by omega) (by omega)).trans (fr3 i (by omega)))))⟩)
            · skip
              refine lc_iconst dX9_find_63 ?_
              refine lc_goto (tgt := 68) dX9_find_64 (by decide) ?_
              have E9 : lc_find f fr to w = lc_try (f) (to) (lc_try (f) (to) ((0, w.2)) (lc_sp (fr * 2 + 1)) (1)) (lc_sp (fr * 2 + 1)) ((-1)) := by show lc_two f to (lc_two f to (0, w.2) (lc_sp (fr * 2))) (lc_sp (fr * 2 + 1)) = _; unfold lc_two; rw [if_pos h_29_14, if_neg h_29_20]
              exact lc_zret dX9_find_68 rfl (rfl) (Nat.le_of_ble_eq_true rfl) (Nat.le_of_ble_eq_true rfl) (hQ _ _ _ ⟨lc_M (f) (lc_sp (fr * 2 + 1)) ((-1)), lc_Lo (f) (lc_sp (fr * 2 + 1)) ((-1)), (lc_K (f) (lc_sp (fr * 2 + 1)) ((-1)) : Int), lc_some (by rw [E9, if_pos h_60_48]), rfl, by rw [E9]; exact h37, h38, (fun i _ _ => ((fr36 i (by omega) (by omega)).trans ((fr24 i (by omega) (by omega)).trans (fr3 i (by omega)))))⟩)
          · exact absurd h_11_47 (by decide)
    · skip
      refine lc_aload_n dX9_find_32 rfl 0 rfl ?_
      refine lc_aload_n dX9_find_33 rfl 1 rfl ?_
      refine lc_iload dX9_find_34 5 rfl ?_
      refine lc_iconst dX9_find_36 ?_
      refine lc_iload_n dX9_find_37 rfl 3 rfl ?_
      have hok52 : lc_wok ((0, w.2)) := lc_w0 w.2
      refine lc_callV (As := [.ref (b), .int (lc_i (lc_sp (fr * 2))), .int (lc_i (1)), .int (lc_i (to))]) (stk := []) (b := 5) dX9_find_38 lc_mX9_34 lc_yX9_tryFrom h2 rfl (lc_cX9_tryFrom l n (a1) (a2) (a3) ((0, w.2)) (b) (f) (o) (t) (s) (q) (m) (lc_sp (fr * 2)) (1) (to) σ1 h2 h4 h5 h6 h8 h9 (hf) (by omega) (by omega) (hb) (by omega) (hok52)) rfl ⟨Nat.le_of_ble_eq_true rfl, Nat.le_of_ble_eq_true rfl⟩ ⟨Nat.le_of_ble_eq_true rfl, Nat.le_of_ble_eq_true rfl⟩ rfl (Nat.le_of_ble_eq_true rfl) (fun v53 n54 σ55 q56 => ?_)
      obtain ⟨rfl, rfl, h51, h52, fr50⟩ := q56
      have h57 : σ55 (2) = some (.inr (1, [.ref (3), .ref (4)]) : lc_Cel) := (fr50 _ (by omega) (by omega)).trans h5
      have h58 : σ55 (3) = some (lc_aI 48 (lc_pt)) := (fr50 _ (by omega) (by omega)).trans h6
      have h59 : σ55 (4) = some (lc_aI 72 (lc_sp)) := (fr50 _ (by omega) (by omega)).trans h7
      have h60 : σ55 (b) = some (.inr (0, [.ref (b + 1), .int (lc_i (o)), .int (lc_i (t)), .int (lc_i (s)), .int (lc_i (q)), .int (lc_i (m))]) : lc_Cel) := (fr50 _ (by omega) (by omega)).trans h8
      have h61 : σ55 (b + 1) = some (lc_aI 36 (f)) := (fr50 _ (by omega) (by omega)).trans h9
      refine lc_aload_n dX9_find_41 rfl 0 rfl ?_
      refine lc_aload_n dX9_find_42 rfl 1 rfl ?_
      refine lc_iload dX9_find_43 5 rfl ?_
      refine lc_iconst dX9_find_45 ?_
      refine lc_iload_n dX9_find_46 rfl 3 rfl ?_
      have hok64 : lc_wok (lc_try (f) (to) ((0, w.2)) (lc_sp (fr * 2)) (1)) := lc_try_ok (lc_w0 w.2) (by omega) (Or.inl rfl)
      refine lc_callV (As := [.ref (b), .int (lc_i (lc_sp (fr * 2))), .int (lc_i ((-1))), .int (lc_i (to))]) (stk := []) (b := 5) dX9_find_47 lc_mX9_34 lc_yX9_tryFrom h51 rfl (lc_cX9_tryFrom l n (lc_M (f) (lc_sp (fr * 2)) (1)) (lc_Lo (f) (lc_sp (fr * 2)) (1)) ((lc_K (f) (lc_sp (fr * 2)) (1) : Int)) (lc_try (f) (to) ((0, w.2)) (lc_sp (fr * 2)) (1)) (b) (f) (o) (t) (s) (q) (m) (lc_sp (fr * 2)) ((-1)) (to) σ55 h51 h52 h57 h58 h60 h61 (hf) (by omega) (by omega) (hb) (by omega) (hok64)) rfl ⟨Nat.le_of_ble_eq_true rfl, Nat.le_of_ble_eq_true rfl⟩ ⟨Nat.le_of_ble_eq_true rfl, Nat.le_of_ble_eq_true rfl⟩ rfl (Nat.le_of_ble_eq_true rfl) (fun v65 n66 σ67 q68 => ?_)
      obtain ⟨rfl, rfl, h63, h64, fr62⟩ := q68
      have h69 : σ67 (2) = some (.inr (1, [.ref (3), .ref (4)]) : lc_Cel) := (fr62 _ (by omega) (by omega)).trans h57
      have h70 : σ67 (3) = some (lc_aI 48 (lc_pt)) := (fr62 _ (by omega) (by omega)).trans h58
      have h71 : σ67 (4) = some (lc_aI 72 (lc_sp)) := (fr62 _ (by omega) (by omega)).trans h59
      have h72 : σ67 (b) = some (.inr (0, [.ref (b + 1), .int (lc_i (o)), .int (lc_i (t)), .int (lc_i (s)), .int (lc_i (q)), .int (lc_i (m))]) : lc_Cel) := (fr62 _ (by omega) (by omega)).trans h60
      have h73 : σ67 (b + 1) = some (lc_aI 36 (f)) := (fr62 _ (by omega) (by omega)).trans h61
      refine lc_iinc (lv' := [(0, .ref (5)), (1, .ref (b)), (2, .int (lc_i (fr))), (3, .int (lc_i (to))), (4, .int (lc_i (0 + 1))), (5, .int (lc_i (lc_sp (fr * 2))))]) dX9_find_50 4 rfl (by decide) rfl ?_
      refine lc_goto (tgt := 8) dX9_find_53 (by decide) ?_
      refine lc_iload dX9_find_8 4 rfl ?_
      refine lc_iconst dX9_find_10 ?_
      refine lc_icmp_ge (tgt := 56) dX9_find_11 (by decide) (by omega) (fun h_11_73 => ?_) (fun h_11_73 => ?_)
      · exact absurd h_11_73 (by decide)
      · skip
        refine lc_aload_n dX9_find_14 rfl 0 rfl ?_
        refine lc_get dX9_find_15 lc_fX9_9 h63 rfl ?_
        refine lc_iload_n dX9_find_18 rfl 2 rfl ?_
        refine lc_iload dX9_find_19 4 rfl ?_
        refine lc_callV (As := [.int (lc_i (fr)), .int (lc_i (0 + 1))]) (stk := []) (b := 2) dX9_find_21 lc_mX9_30 lc_yX1_spotOf h69 rfl (lc_cX1_spotOf l n (fr) (0 + 1) σ67 h69 h71 (by omega) (by omega)) rfl ⟨Nat.le_of_ble_eq_true rfl, Nat.le_of_ble_eq_true rfl⟩ ⟨Nat.le_of_ble_eq_true rfl, Nat.le_of_ble_eq_true rfl⟩ rfl (Nat.le_of_ble_eq_true rfl) (fun v75 n76 σ77 q78 => ?_)
        obtain ⟨rfl, rfl, rfl⟩ := q78
        refine lc_top (congrArg (fun z => Value.int (lc_i z)) (show (lc_sp ((fr) * 2 + (0 + 1)) : Int) = lc_sp (fr * 2 + 1) from congrArg lc_sp (by omega))) ?_
        refine lc_istore (lv' := [(0, .ref (5)), (1, .ref (b)), (2, .int (lc_i (fr))), (3, .int (lc_i (to))), (4, .int (lc_i (0 + 1))), (5, .int (lc_i (lc_sp (fr * 2 + 1))))]) dX9_find_24 (by decide) rfl ?_
        refine lc_iload dX9_find_26 5 rfl ?_
        refine lc_iconst dX9_find_28 ?_
        refine lc_icmp_eq (tgt := 50) dX9_find_29 (by decide) (by omega) (fun h_29_78 => ?_) (fun h_29_78 => ?_)
        · skip
          refine lc_iinc (lv' := [(0, .ref (5)), (1, .ref (b)), (2, .int (lc_i (fr))), (3, .int (lc_i (to))), (4, .int (lc_i (0 + 1 + 1))), (5, .int (lc_i (lc_sp (fr * 2 + 1))))]) dX9_find_50 4 rfl (by decide) rfl ?_
          refine lc_goto (tgt := 8) dX9_find_53 (by decide) ?_
          refine lc_iload dX9_find_8 4 rfl ?_
          refine lc_iconst dX9_find_10 ?_
          refine lc_icmp_ge (tgt := 56) dX9_find_11 (by decide) (by omega) (fun h_11_79 => ?_) (fun h_11_79 => ?_)
          · skip
            have hok9 : lc_wok (lc_try (f) (to) (lc_try (f) (to) ((0, w.2)) (lc_sp (fr * 2)) (1)) (lc_sp (fr * 2)) ((-1))) := lc_try_ok (lc_try_ok (lc_w0 w.2) (by omega) (Or.inl rfl)) (by omega) (Or.inr rfl); have hok8 := hok9.1
            refine lc_aload_n dX9_find_56 rfl 0 rfl ?_
            refine lc_get dX9_find_57 lc_fX9_24 h63 rfl ?_
            refine lc_if_le (tgt := 67) dX9_find_60 (by decide) (by omega) (fun h_60_80 => ?_) (fun h_60_80 => ?_)
            · skip
              refine lc_iconst dX9_find_67 ?_
              have E9 : lc_find f fr to w = lc_try (f) (to) (lc_try (f) (to) ((0, w.2)) (lc_sp (fr * 2)) (1)) (lc_sp (fr * 2)) ((-1)) := by show lc_two f to (lc_two f to (0, w.2) (lc_sp (fr * 2))) (lc_sp (fr * 2 + 1)) = _; unfold lc_two; rw [if_neg h_29_14, if_pos h_29_78]
              exact lc_zret dX9_find_68 rfl (rfl) (Nat.le_of_ble_eq_true rfl) (Nat.le_of_ble_eq_true rfl) (hQ _ _ _ ⟨lc_M (f) (lc_sp (fr * 2)) ((-1)), lc_Lo (f) (lc_sp (fr * 2)) ((-1)), (lc_K (f) (lc_sp (fr * 2)) ((-1)) : Int), lc_some (by rw [E9, if_neg (by omega)]), rfl, by rw [E9]; exact h63, h64, (fun i _ _ => ((fr62 i (by omega) (by omega)).trans ((fr50 i (by omega) (by omega)).trans (fr3 i (by omega)))))⟩)
            · skip
              refine lc_iconst dX9_find_63 ?_
              refine lc_goto (tgt := 68) dX9_find_64 (by decide) ?_
              have E9 : lc_find f fr to w = lc_try (f) (to) (lc_try (f) (to) ((0, w.2)) (lc_sp (fr * 2)) (1)) (lc_sp (fr * 2)) ((-1)) := by show lc_two f to (lc_two f to (0, w.2) (lc_sp (fr * 2))) (lc_sp (fr * 2 + 1)) = _; unfold lc_two; rw [if_neg h_29_14, if_pos h_29_78]
              exact lc_zret dX9_find_68 rfl (rfl) (Nat.le_of_ble_eq_true rfl) (Nat.le_of_ble_eq_true rfl) (hQ _ _ _ ⟨lc_M (f) (lc_sp (fr * 2)) ((-1)), lc_Lo (f) (lc_sp (fr * 2)) ((-1)), (lc_K (f) (lc_sp (fr * 2)) ((-1)) : Int), lc_some (by rw [E9, if_pos h_60_80]), rfl, by rw [E9]; exact h63, h64, (fun i _ _ => ((fr62 i (by omega) (by omega)).trans ((fr50 i (by omega) (by omega)).trans (fr3 i (by omega)))))⟩)
          · exact absurd h_11_79 (by decide)
        · skip
          refine lc_aload_n dX9_find_32 rfl 0 rfl ?_
          refine lc_aload_n dX9_find_33 rfl 1 rfl ?_
          refine lc_iload dX9_find_34 5 rfl ?_
          refine lc_iconst dX9_find_36 ?_
          refine lc_iload_n dX9_find_37 rfl 3 rfl ?_
          have hok84 : lc_wok (lc_try (f) (to) (lc_try (f) (to) ((0, w.2)) (lc_sp (fr * 2)) (1)) (lc_sp (fr * 2)) ((-1))) := lc_try_ok (lc_try_ok (lc_w0 w.2) (by omega) (Or.inl rfl)) (by omega) (Or.inr rfl)
          refine lc_callV (As := [.ref (b), .int (lc_i (lc_sp (fr * 2 + 1))), .int (lc_i (1)), .int (lc_i (to))]) (stk := []) (b := 5) dX9_find_38 lc_mX9_34 lc_yX9_tryFrom h63 rfl (lc_cX9_tryFrom l n (lc_M (f) (lc_sp (fr * 2)) ((-1))) (lc_Lo (f) (lc_sp (fr * 2)) ((-1))) ((lc_K (f) (lc_sp (fr * 2)) ((-1)) : Int)) (lc_try (f) (to) (lc_try (f) (to) ((0, w.2)) (lc_sp (fr * 2)) (1)) (lc_sp (fr * 2)) ((-1))) (b) (f) (o) (t) (s) (q) (m) (lc_sp (fr * 2 + 1)) (1) (to) σ67 h63 h64 h69 h70 h72 h73 (hf) (by omega) (by omega) (hb) (by omega) (hok84)) rfl ⟨Nat.le_of_ble_eq_true rfl, Nat.le_of_ble_eq_true rfl⟩ ⟨Nat.le_of_ble_eq_true rfl, Nat.le_of_ble_eq_true rfl⟩ rfl (Nat.le_of_ble_eq_true rfl) (fun v85 n86 σ87 q88 => ?_)
          obtain ⟨rfl, rfl, h83, h84, fr82⟩ := q88
          have h89 : σ87 (2) = some (.inr (1, [.ref (3), .ref (4)]) : lc_Cel) := (fr82 _ (by omega) (by omega)).trans h69
          have h90 : σ87 (3) = some (lc_aI 48 (lc_pt)) := (fr82 _ (by omega) (by omega)).trans h70
          have h91 : σ87 (4) = some (lc_aI 72 (lc_sp)) := (fr82 _ (by omega) (by omega)).trans h71
          have h92 : σ87 (b) = some (.inr (0, [.ref (b + 1), .int (lc_i (o)), .int (lc_i (t)), .int (lc_i (s)), .int (lc_i (q)), .int (lc_i (m))]) : lc_Cel) := (fr82 _ (by omega) (by omega)).trans h72
          have h93 : σ87 (b + 1) = some (lc_aI 36 (f)) := (fr82 _ (by omega) (by omega)).trans h73
          refine lc_aload_n dX9_find_41 rfl 0 rfl ?_
          refine lc_aload_n dX9_find_42 rfl 1 rfl ?_
          refine lc_iload dX9_find_43 5 rfl ?_
          refine lc_iconst dX9_find_45 ?_
          refine lc_iload_n dX9_find_46 rfl 3 rfl ?_
          have hok96 : lc_wok (lc_try (f) (to) (lc_try (f) (to) (lc_try (f) (to) ((0, w.2)) (lc_sp (fr * 2)) (1)) (lc_sp (fr * 2)) ((-1))) (lc_sp (fr * 2 + 1)) (1)) := lc_try_ok (lc_try_ok (lc_try_ok (lc_w0 w.2) (by omega) (Or.inl rfl)) (by omega) (Or.inr rfl)) (by omega) (Or.inl rfl)
          refine lc_callV (As := [.ref (b), .int (lc_i (lc_sp (fr * 2 + 1))), .int (lc_i ((-1))), .int (lc_i (to))]) (stk := []) (b := 5) dX9_find_47 lc_mX9_34 lc_yX9_tryFrom h83 rfl (lc_cX9_tryFrom l n (lc_M (f) (lc_sp (fr * 2 + 1)) (1)) (lc_Lo (f) (lc_sp (fr * 2 + 1)) (1)) ((lc_K (f) (lc_sp (fr * 2 + 1)) (1) : Int)) (lc_try (f) (to) (lc_try (f) (to) (lc_try (f) (to) ((0, w.2)) (lc_sp (fr * 2)) (1)) (lc_sp (fr * 2)) ((-1))) (lc_sp (fr * 2 + 1)) (1)) (b) (f) (o) (t) (s) (q) (m) (lc_sp (fr * 2 + 1)) ((-1)) (to) σ87 h83 h84 h89 h90 h92 h93 (hf) (by omega) (by omega) (hb) (by omega) (hok96)) rfl ⟨Nat.le_of_ble_eq_true rfl, Nat.le_of_ble_eq_true rfl⟩ ⟨Nat.le_of_ble_eq_true rfl, Nat.le_of_ble_eq_true rfl⟩ rfl (Nat.le_of_ble_eq_true rfl) (fun v97 n98 σ99 q100 => ?_)
          obtain ⟨rfl, rfl, h95, h96, fr94⟩ := q100
          have h101 : σ99 (2) = some (.inr (1, [.ref (3), .ref (4)]) : lc_Cel) := (fr94 _ (by omega) (by omega)).trans h89
          have h102 : σ99 (3) = some (lc_aI 48 (lc_pt)) := (fr94 _ (by omega) (by omega)).trans h90
          have h103 : σ99 (4) = some (lc_aI 72 (lc_sp)) := (fr94 _ (by omega) (by omega)).trans h91
          have h104 : σ99 (b) = some (.inr (0, [.ref (b + 1), .int (lc_i (o)), .int (lc_i (t)), .int (lc_i (s)), .int (lc_i (q)), .int (lc_i (m))]) : lc_Cel) := (fr94 _ (by omega) (by omega)).trans h92
          have h105 : σ99 (b + 1) = some (lc_aI 36 (f)) := (fr94 _ (by omega) (by omega)).trans h93
          refine lc_iinc (lv' := [(0, .ref (5)), (1, .ref (b)), (2, .int (lc_i (fr))), (3, .int (lc_i (to))), (4, .int (lc_i (0 + 1 + 1))), (5, .int (lc_i (lc_sp (fr * 2 + 1))))]) dX9_find_50 4 rfl (by decide) rfl ?_
          refine lc_goto (tgt := 8) dX9_find_53 (by decide) ?_
          refine lc_iload dX9_find_8 4 rfl ?_
          refine lc_iconst dX9_find_10 ?_
          refine lc_icmp_ge (tgt := 56) dX9_find_11 (by decide) (by omega) (fun h_11_105 => ?_) (fun h_11_105 => ?_)
          · skip
            have hok9 : lc_wok (lc_try (f) (to) (lc_try (f) (to) (lc_try (f) (to) (lc_try (f) (to) ((0, w.2)) (lc_sp (fr * 2)) (1)) (lc_sp (fr * 2)) ((-1))) (lc_sp (fr * 2 + 1)) (1)) (lc_sp (fr * 2 + 1)) ((-1))) := lc_try_ok (lc_try_ok (lc_try_ok (lc_try_ok (lc_w0 w.2) (by omega) (Or.inl rfl)) (by omega) (Or.inr rfl)) (by omega) (Or.inl rfl)) (by omega) (Or.inr rfl); have hok8 := hok9.1
            refine lc_aload_n dX9_find_56 rfl 0 rfl ?_
            refine lc_get dX9_find_57 lc_fX9_24 h95 rfl ?_
            refine lc_if_le (tgt := 67) dX9_find_60 (by decide) (by omega) (fun h_60_106 => ?_) (fun h_60_106 => ?_)
            · skip
              refine lc_iconst dX9_find_67 ?_
              have E9 : lc_find f fr to w = lc_try (f) (to) (lc_try (f) (to) (lc_try (f) (to) (lc_try (f) (to) ((0, w.2)) (lc_sp (fr * 2)) (1)) (lc_sp (fr * 2)) ((-1))) (lc_sp (fr * 2 + 1)) (1)) (lc_sp (fr * 2 + 1)) ((-1)) := by show lc_two f to (lc_two f to (0, w.2) (lc_sp (fr * 2))) (lc_sp (fr * 2 + 1)) = _; unfold lc_two; rw [if_neg h_29_14, if_neg h_29_78]
              exact lc_zret dX9_find_68 rfl (rfl) (Nat.le_of_ble_eq_true rfl) (Nat.le_of_ble_eq_true rfl) (hQ _ _ _ ⟨lc_M (f) (lc_sp (fr * 2 + 1)) ((-1)), lc_Lo (f) (lc_sp (fr * 2 + 1)) ((-1)), (lc_K (f) (lc_sp (fr * 2 + 1)) ((-1)) : Int), lc_some (by rw [E9, if_neg (by omega)]), rfl, by rw [E9]; exact h95, h96, (fun i _ _ => ((fr94 i (by omega) (by omega)).trans ((fr82 i (by omega) (by omega)).trans ((fr62 i (by omega) (by omega)).trans ((fr50 i (by omega) (by omega)).trans (fr3 i (by omega)))))))⟩)
            · skip
              refine lc_iconst dX9_find_63 ?_
              refine lc_goto (tgt := 68) dX9_find_64 (by decide) ?_
              have E9 : lc_find f fr to w = lc_try (f) (to) (lc_try (f) (to) (lc_try (f) (to) (lc_try (f) (to) ((0, w.2)) (lc_sp (fr * 2)) (1)) (lc_sp (fr * 2)) ((-1))) (lc_sp (fr * 2 + 1)) (1)) (lc_sp (fr * 2 + 1)) ((-1)) := by show lc_two f to (lc_two f to (0, w.2) (lc_sp (fr * 2))) (lc_sp (fr * 2 + 1)) = _; unfold lc_two; rw [if_neg h_29_14, if_neg h_29_78]
              exact lc_zret dX9_find_68 rfl (rfl) (Nat.le_of_ble_eq_true rfl) (Nat.le_of_ble_eq_true rfl) (hQ _ _ _ ⟨lc_M (f) (lc_sp (fr * 2 + 1)) ((-1)), lc_Lo (f) (lc_sp (fr * 2 + 1)) ((-1)), (lc_K (f) (lc_sp (fr * 2 + 1)) ((-1)) : Int), lc_some (by rw [E9, if_pos h_60_106]), rfl, by rw [E9]; exact h95, h96, (fun i _ _ => ((fr94 i (by omega) (by omega)).trans ((fr82 i (by omega) (by omega)).trans ((fr62 i (by omega) (by omega)).trans ((fr50 i (by omega) (by omega)).trans (fr3 i (by omega)))))))⟩)
          · exact absurd h_11_105 (by decide)
end
section
/-! Rules: what is possible on a board -/
def lc_step (f : Int → Int) (fr to : Int) : Bool := decide (f to = 0 ∧ (-1 ≤ fr / 6 - to / 6 ∧ fr / 6 - to / 6 ≤ 1) ∧ (-1 ≤ fr % 6 - to % 6 ∧ fr % 6 - to % 6 ≤ 1))
theorem lc_step_iff {f : Int → Int} {fr to : Int} : lc_step f fr to = true ↔ (f to = 0 ∧ (-1 ≤ fr / 6 - to / 6 ∧ fr / 6 - to / 6 ≤ 1) ∧ (-1 ≤ fr % 6 - to % 6 ∧ fr % 6 - to % 6 ≤ 1)) := decide_eq_true_iff
def lc_wy (f : Int → Int) (fr to : Int) : Int × Int × Int × Int := lc_find f fr to (0, 0, 0, 0)
def lc_cap (f : Int → Int) (fr to : Int) : Bool := decide (((f fr ≠ 0 ∧ f to ≠ 0) ∧ f fr ≠ f to) ∧ 0 < (lc_wy f fr to).1)
theorem lc_cap_iff {f : Int → Int} {fr to : Int} : lc_cap f fr to = true ↔ (((f fr ≠ 0 ∧ f to ≠ 0) ∧ f fr ≠ f to) ∧ 0 < (lc_wy f fr to).1) := decide_eq_true_iff
def lc_like (w w' : Int × Int × Int × Int) : Prop := w = w' ∨ (w.1 = 0 ∧ w'.1 = 0)
theorem lc_try_like {f : Int → Int} {to x d : Int} {w w' : Int × Int × Int × Int} (h : lc_like w w') : lc_like (lc_try f to w x d) (lc_try f to w' x d) := by
  rcases h with h | ⟨h1, h2⟩
  · exact Or.inl (by rw [h])
  · by_cases h3 : 0 < lc_Lo f x d ∧ lc_M f x d = to
    · exact Or.inl (by rw [lc_try_t h3 (Or.inl h1), lc_try_t h3 (Or.inl h2)])
    · exact Or.inr (by rw [lc_try_n1 h3, lc_try_n1 h3]; exact ⟨h1, h2⟩)
theorem lc_two_like {f : Int → Int} {to x : Int} {w w' : Int × Int × Int × Int} (h : lc_like w w') : lc_like (lc_two f to w x) (lc_two f to w' x) := by
  unfold lc_two
  split
  · exact h
  · exact lc_try_like (lc_try_like h)
theorem lc_find_like (f : Int → Int) (fr to : Int) (w w' : Int × Int × Int × Int) : lc_like (lc_find f fr to w) (lc_find f fr to w') := lc_two_like (lc_two_like (Or.inr ⟨rfl, rfl⟩))
theorem lc_find_1 (f : Int → Int) (fr to : Int) (w : Int × Int × Int × Int) : (lc_find f fr to w).1 = (lc_wy f fr to).1 := by
  rcases lc_find_like f fr to w (0, 0, 0, 0) with h | ⟨h1, h2⟩
  · rw [h]; rfl
  · rw [h1]; exact h2.symm
theorem lc_find_2 {f : Int → Int} {fr to : Int} {w : Int × Int × Int × Int} (h0 : 0 < (lc_wy f fr to).1) : lc_find f fr to w = lc_wy f fr to := by
  rcases lc_find_like f fr to w (0, 0, 0, 0) with h | ⟨h1, h2⟩
  · exact h
  · have : (lc_wy f fr to).1 = 0 := h2
    omega
def lc_num (P : Int → Bool) : Nat → Int
  | 0 => 0
  | n + 1 => lc_num P n + (if P n = true then 1 else 0)
theorem lc_num_r (P : Int → Bool) : ∀ N : Nat, 0 ≤ lc_num P N ∧ lc_num P N ≤ N
  | 0 => by unfold lc_num; omega
  | N + 1 => by
    have := lc_num_r P N
    unfold lc_num
    split <;> omega
theorem lc_num_1 {P : Int → Bool} {i : Int} (hi : 0 ≤ i) (h : P i = true) : lc_num P (i + 1).toNat = lc_num P i.toNat + 1 := by
  rw [show (i + 1).toNat = i.toNat + 1 by omega]
  show lc_num P i.toNat + (if P (i.toNat : Nat) = true then 1 else 0) = _
  rw [show ((i.toNat : Nat) : Int) = i by omega, if_pos h]
theorem lc_num_0 {P : Int → Bool} {i : Int} (hi : 0 ≤ i) (h : ¬ P i = true) : lc_num P (i + 1).toNat = lc_num P i.toNat := by
  rw [show (i + 1).toNat = i.toNat + 1 by omega]
  show lc_num P i.toNat + (if P (i.toNat : Nat) = true then 1 else 0) = _
  rw [show ((i.toNat : Nat) : Int) = i by omega, if_neg h, Int.add_zero]
theorem lc_num_z {P : Int → Bool} : ∀ N : Nat, (∀ i : Int, 0 ≤ i → i < N → ¬ P i = true) → lc_num P N = 0
  | 0, _ => rfl
  | N + 1, h => by
    show lc_num P N + (if P N = true then 1 else 0) = 0
    rw [lc_num_z N (fun i h1 h2 => h i h1 (by omega)), if_neg (h N (by omega) (by omega))]
    rfl
/-- why a move is not possible -/
def lc_why (f : Int → Int) (s q m fr to : Int) (c : Bool) : Int := if lc_res (lc_cnt f 1 36) (lc_cnt f 2 36) q m ≠ 0 then 1 else if f fr ≠ s then 2 else if f to = s then 3 else if (bif c then lc_cap f fr to else lc_step f fr to) = true then 0 else 4
theorem lc_res_r (o t q m : Int) : 0 ≤ lc_res o t q m ∧ lc_res o t q m ≤ 3 := by unfold lc_res; (repeat' split) <;> omega
theorem lc_spike (x y : Int) : ((if 0 ≤ x - y then x - y else 0 - (x - y)) ≤ 1 ↔ (-1 ≤ x - y ∧ x - y ≤ 1)) ∧ (0 ≤ x → x < 36 → 0 ≤ y → y < 36 → 0 ≤ (if 0 ≤ x - y then x - y else 0 - (x - y)) ∧ (if 0 ≤ x - y then x - y else 0 - (x - y)) < 36) := by
  constructor
  · split <;> omega
  · intro h1 h2 h3 h4
    split <;> omega

set_option maxRecDepth 100000 in
set_option maxHeartbeats 4000000 in
theorem lc_cX6_areOfTwoSides (l : Launch) (n : Nat) (x y : Int) (σ : lc_S)  (hx : -2147483648 ≤ x ∧ x < 2147483648) (hy : -2147483648 ≤ y ∧ y < 2147483648) : lc_Con l yX6_areOfTwoSides cX6_areOfTwoSides 2 (some .boolean) (lc_Rd 0) [.int (lc_i (x)), .int (lc_i (y))] n σ (fun v n2 σ2 => v = some (.int (lc_i (if ((x ≠ 0 ∧ y ≠ 0) ∧ x ≠ y) then 1 else 0))) ∧ n = n2 ∧ σ = σ2) := by
  refine lc_con RX6 false (by decide) rfl (fun h => absurd h (by decide)) (Nat.le_of_ble_eq_true rfl) ?_
  suffices H : ∀ Q : lc_QT, (∀ v n2 σ2, (fun v n2 σ2 => v = some (.int (lc_i (if ((x ≠ 0 ∧ y ≠ 0) ∧ x ≠ y) then 1 else 0))) ∧ n = n2 ∧ σ = σ2 : lc_QT) v n2 σ2 → Q v n2 σ2) → lc_V l RX6 cX6_areOfTwoSides 2 (some .boolean) false (lc_Rd 0) (lc_G Q 0 0) lc_E0 0 0 n 0 [(0, .int (lc_i (x))), (1, .int (lc_i (y)))] [] σ from H _ (fun _ _ _ h => h)
  intro Q hQ
  refine lc_iload_n dX6_areOfTwoSides_0 rfl 0 rfl ?_
  refine lc_if_eq (tgt := 17) dX6_areOfTwoSides_1 (by decide) (by omega) (fun h_1_0 => ?_) (fun h_1_0 => ?_)
  · skip
    refine lc_iconst dX6_areOfTwoSides_17 ?_
    exact lc_zret dX6_areOfTwoSides_18 rfl (rfl) (Nat.le_of_ble_eq_true rfl) (Nat.le_of_ble_eq_true rfl) (hQ _ _ _ ⟨lc_some (by rw [if_neg (by omega)]), rfl, rfl⟩)
  · skip
    refine lc_iload_n dX6_areOfTwoSides_4 rfl 1 rfl ?_
    refine lc_if_eq (tgt := 17) dX6_areOfTwoSides_5 (by decide) (by omega) (fun h_5_1 => ?_) (fun h_5_1 => ?_)
    · skip
      refine lc_iconst dX6_areOfTwoSides_17 ?_
      exact lc_zret dX6_areOfTwoSides_18 rfl (rfl) (Nat.le_of_ble_eq_true rfl) (Nat.le_of_ble_eq_true rfl) (hQ _ _ _ ⟨lc_some (by rw [if_neg (by omega)]), rfl, rfl⟩)
    · skip
      refine lc_iload_n dX6_areOfTwoSides_8 rfl 0 rfl ?_
      refine lc_iload_n dX6_areOfTwoSides_9 rfl 1 rfl ?_
      refine lc_icmp_eq (tgt := 17) dX6_areOfTwoSides_10 (by decide) (by omega) (fun h_10_2 => ?_) (fun h_10_2 => ?_)
      · skip
        refine lc_iconst dX6_areOfTwoSides_17 ?_
        exact lc_zret dX6_areOfTwoSides_18 rfl (rfl) (Nat.le_of_ble_eq_true rfl) (Nat.le_of_ble_eq_true rfl) (hQ _ _ _ ⟨lc_some (by rw [if_neg (by omega)]), rfl, rfl⟩)
      · skip
        refine lc_iconst dX6_areOfTwoSides_13 ?_
        refine lc_goto (tgt := 18) dX6_areOfTwoSides_14 (by decide) ?_
        exact lc_zret dX6_areOfTwoSides_18 rfl (rfl) (Nat.le_of_ble_eq_true rfl) (Nat.le_of_ble_eq_true rfl) (hQ _ _ _ ⟨lc_some (by rw [if_pos (by omega)]), rfl, rfl⟩)

set_option maxRecDepth 100000 in
set_option maxHeartbeats 4000000 in
theorem lc_cX6_couldStep (l : Launch) (n : Nat) (b : Nat) (f : Int → Int) (o t s q m : Int) (fr to : Int) (σ : lc_S) (h0_0 : σ (b) = some (.inr (0, [.ref (b + 1), .int (lc_i (o)), .int (lc_i (t)), .int (lc_i (s)), .int (lc_i (q)), .int (lc_i (m))]) : lc_Cel)) (h0_1 : σ (b + 1) = some (lc_aI 36 (f))) (hf : ∀ j : Int, 0 ≤ j → j < 36 → 0 ≤ f j ∧ f j ≤ 2) (hfr : 0 ≤ fr ∧ fr < 36) (hto : 0 ≤ to ∧ to < 36) : lc_Con l yX6_couldStep cX6_couldStep 3 (some .boolean) (lc_Rd 1) [.ref (b), .int (lc_i (fr)), .int (lc_i (to))] n σ (fun v n2 σ2 => v = some (.int (lc_i (if (lc_step f fr to = true) then 1 else 0))) ∧ n = n2 ∧ σ = σ2) := by
  have hk1 := lc_spike (fr / 6) (to / 6)
  have hk2 := lc_spike (fr % 6) (to % 6)
  have hk3 := hk1.2 (by omega) (by omega) (by omega) (by omega)
  have hk4 := hk2.2 (by omega) (by omega) (by omega) (by omega)
  have hk5 := hk1.1
  have hk6 := hk2.1
  have hf1 := hf to hto.1 hto.2
  refine lc_con RX6 false (by decide) rfl (fun h => absurd h (by decide)) (Nat.le_of_ble_eq_true rfl) ?_
  suffices H : ∀ Q : lc_QT, (∀ v n2 σ2, (fun v n2 σ2 => v = some (.int (lc_i (if (lc_step f fr to = true) then 1 else 0))) ∧ n = n2 ∧ σ = σ2 : lc_QT) v n2 σ2 → Q v n2 σ2) → lc_V l RX6 cX6_couldStep 3 (some .boolean) false (lc_Rd 1) (lc_G Q 0 0) lc_E0 0 0 n 0 [(0, .ref (b)), (1, .int (lc_i (fr))), (2, .int (lc_i (to)))] [] σ from H _ (fun _ _ _ h => h)
  intro Q hQ
  refine lc_aload_n dX6_couldStep_0 rfl 0 rfl ?_
  refine lc_iload_n dX6_couldStep_1 rfl 2 rfl ?_
  refine lc_callV (As := [.int (lc_i (to))]) (stk := []) (b := b) dX6_couldStep_2 lc_mX6_37 lc_yX0_at h0_0 rfl (lc_cX0_at l n (b) (f) (o) (t) (s) (q) (m) (to) σ h0_0 h0_1 (by omega)) rfl ⟨Nat.le_of_ble_eq_true rfl, Nat.le_of_ble_eq_true rfl⟩ ⟨Nat.le_of_ble_eq_true rfl, Nat.le_of_ble_eq_true rfl⟩ rfl (Nat.le_of_ble_eq_true rfl) (fun v1 n2 σ3 q4 => ?_)
  obtain ⟨rfl, rfl, rfl⟩ := q4
  refine lc_top (congrArg (fun z => Value.int (lc_i z)) (show (if 0 ≤ (to) ∧ (to) < 36 then (f) (to) else 0 : Int) = f to from by rw [if_pos (by omega)])) ?_
  refine lc_if_ne (tgt := 44) dX6_couldStep_5 (by decide) (by omega) (fun h_5_4 => ?_) (fun h_5_4 => ?_)
  · skip
    refine lc_iconst dX6_couldStep_44 ?_
    exact lc_zret dX6_couldStep_45 rfl (rfl) (Nat.le_of_ble_eq_true rfl) (Nat.le_of_ble_eq_true rfl) (hQ _ _ _ ⟨lc_some (by rw [if_neg (fun q9 => by have q8 := lc_step_iff.mp q9; omega)]), rfl, rfl⟩)
  · skip
    refine lc_iload_n dX6_couldStep_8 rfl 1 rfl ?_
    refine lc_bipush dX6_couldStep_9 (by decide) ?_
    refine lc_idiv dX6_couldStep_11 (by omega) ?_
    refine lc_iload_n dX6_couldStep_12 rfl 2 rfl ?_
    refine lc_bipush dX6_couldStep_13 (by decide) ?_
    refine lc_idiv dX6_couldStep_15 (by omega) ?_
    refine lc_isub dX6_couldStep_16 ?_
    refine lc_mabs dX6_couldStep_17 lc_mX6_57 (by omega) ⟨Nat.le_of_ble_eq_true rfl, Nat.le_of_ble_eq_true rfl, Nat.le_of_ble_eq_true rfl, Nat.le_of_ble_eq_true rfl⟩ ?_
    refine lc_iconst dX6_couldStep_20 ?_
    refine lc_icmp_gt (tgt := 44) dX6_couldStep_21 (by decide) (by omega) (fun h_21_5 => ?_) (fun h_21_5 => ?_)
    · skip
      refine lc_iconst dX6_couldStep_44 ?_
      exact lc_zret dX6_couldStep_45 rfl (rfl) (Nat.le_of_ble_eq_true rfl) (Nat.le_of_ble_eq_true rfl) (hQ _ _ _ ⟨lc_some (by rw [if_neg (fun q9 => by have q8 := lc_step_iff.mp q9; omega)]), rfl, rfl⟩)
    · skip
      refine lc_iload_n dX6_couldStep_24 rfl 1 rfl ?_
      refine lc_bipush dX6_couldStep_25 (by decide) ?_
      refine lc_irem dX6_couldStep_27 (by omega) ?_
      refine lc_iload_n dX6_couldStep_28 rfl 2 rfl ?_
      refine lc_bipush dX6_couldStep_29 (by decide) ?_
      refine lc_irem dX6_couldStep_31 (by omega) ?_
      refine lc_isub dX6_couldStep_32 ?_
      refine lc_mabs dX6_couldStep_33 lc_mX6_57 (by omega) ⟨Nat.le_of_ble_eq_true rfl, Nat.le_of_ble_eq_true rfl, Nat.le_of_ble_eq_true rfl, Nat.le_of_ble_eq_true rfl⟩ ?_
      refine lc_iconst dX6_couldStep_36 ?_
      refine lc_icmp_gt (tgt := 44) dX6_couldStep_37 (by decide) (by omega) (fun h_37_6 => ?_) (fun h_37_6 => ?_)
      · skip
        refine lc_iconst dX6_couldStep_44 ?_
        exact lc_zret dX6_couldStep_45 rfl (rfl) (Nat.le_of_ble_eq_true rfl) (Nat.le_of_ble_eq_true rfl) (hQ _ _ _ ⟨lc_some (by rw [if_neg (fun q9 => by have q8 := lc_step_iff.mp q9; omega)]), rfl, rfl⟩)
      · skip
        refine lc_iconst dX6_couldStep_40 ?_
        refine lc_goto (tgt := 45) dX6_couldStep_41 (by decide) ?_
        exact lc_zret dX6_couldStep_45 rfl (rfl) (Nat.le_of_ble_eq_true rfl) (Nat.le_of_ble_eq_true rfl) (hQ _ _ _ ⟨lc_some (by rw [if_pos (lc_step_iff.mpr (by omega))]), rfl, rfl⟩)

set_option maxRecDepth 100000 in
set_option maxHeartbeats 4000000 in
/-- Rules.couldCapture -/
theorem lc_cX6_couldCapture (l : Launch) (n : Nat) (a1 a2 a3 : Int) (w : Int × Int × Int × Int) (b : Nat) (f : Int → Int) (o t s q m : Int) (fr to : Int) (σ : lc_S) (h0_0 : σ (7) = some (.inr (6, [.ref (2), .ref (8), .ref (5)]) : lc_Cel)) (h0_1 : σ (5) = some (.inr (9, [.ref (2), .ref (6), .int (lc_i ((w).1)), .int (lc_i ((w).2.1)), .int (lc_i ((w).2.2.1)), .int (lc_i ((w).2.2.2))]) : lc_Cel)) (h0_2 : σ (6) = some (.inr (8, [.ref (2), .int (lc_i (a1)), .int (lc_i (a2)), .int (lc_i (a3))]) : lc_Cel)) (h0_3 : σ (2) = some (.inr (1, [.ref (3), .ref (4)]) : lc_Cel)) (h0_4 : σ (3) = some (lc_aI 48 (lc_pt))) (h0_5 : σ (4) = some (lc_aI 72 (lc_sp))) (h0_6 : σ (b) = some (.inr (0, [.ref (b + 1), .int (lc_i (o)), .int (lc_i (t)), .int (lc_i (s)), .int (lc_i (q)), .int (lc_i (m))]) : lc_Cel)) (h0_7 : σ (b + 1) = some (lc_aI 36 (f))) (hf : ∀ j : Int, 0 ≤ j → j < 36 → 0 ≤ f j ∧ f j ≤ 2) (hb : 12 ≤ b) (hfr : 0 ≤ fr ∧ fr < 36) (hto : 0 ≤ to ∧ to < 36) : lc_Con l yX6_couldCapture cX6_couldCapture 4 (some .boolean) (lc_Rd 4) [.ref (7), .ref (b), .int (lc_i (fr)), .int (lc_i (to))] n σ (fun v n2 σ2 => ∃ (wk : Int × Int × Int × Int) (c1 c2 c3 : Int), v = some (.int (lc_i (if (lc_cap f fr to = true) then 1 else 0))) ∧ n = n2 ∧ σ2 5 = some (.inr (9, [.ref (2), .ref (6), .int (lc_i ((wk).1)), .int (lc_i ((wk).2.1)), .int (lc_i ((wk).2.2.1)), .int (lc_i ((wk).2.2.2))]) : lc_Cel) ∧ σ2 6 = some (.inr (8, [.ref (2), .int (lc_i (c1)), .int (lc_i (c2)), .int (lc_i (c3))]) : lc_Cel) ∧ (lc_cap f fr to = true → wk = lc_wy f fr to) ∧ ∀ i : Nat, i ≠ 5 → i ≠ 6 → σ2 i = σ i) := by
  refine lc_con RX6 false (by decide) rfl (fun h => absurd h (by decide)) (Nat.le_of_ble_eq_true rfl) ?_
  suffices H : ∀ Q : lc_QT, (∀ v n2 σ2, (fun v n2 σ2 => ∃ (wk : Int × Int × Int × Int) (c1 c2 c3 : Int), v = some (.int (lc_i (if (lc_cap f fr to = true) then 1 else 0))) ∧ n = n2 ∧ σ2 5 = some (.inr (9, [.ref (2), .ref (6), .int (lc_i ((wk).1)), .int (lc_i ((wk).2.1)), .int (lc_i ((wk).2.2.1)), .int (lc_i ((wk).2.2.2))]) : lc_Cel) ∧ σ2 6 = some (.inr (8, [.ref (2), .int (lc_i (c1)), .int (lc_i (c2)), .int (lc_i (c3))]) : lc_Cel) ∧ (lc_cap f fr to = true → wk = lc_wy f fr to) ∧ ∀ i : Nat, i ≠ 5 → i ≠ 6 → σ2 i = σ i : lc_QT) v n2 σ2 → Q v n2 σ2) → lc_V l RX6 cX6_couldCapture 4 (some .boolean) false (lc_Rd 4) (lc_G Q 0 0) lc_E0 0 0 n 0 [(0, .ref (7)), (1, .ref (b)), (2, .int (lc_i (fr))), (3, .int (lc_i (to)))] [] σ from H _ (fun _ _ _ h => h)
  intro Q hQ
  refine lc_aload_n dX6_couldCapture_0 rfl 1 rfl ?_
  refine lc_iload_n dX6_couldCapture_1 rfl 2 rfl ?_
  refine lc_callV (As := [.int (lc_i (fr))]) (stk := []) (b := b) dX6_couldCapture_2 lc_mX6_37 lc_yX0_at h0_6 rfl (lc_cX0_at l n (b) (f) (o) (t) (s) (q) (m) (fr) σ h0_6 h0_7 (by omega)) rfl ⟨Nat.le_of_ble_eq_true rfl, Nat.le_of_ble_eq_true rfl⟩ ⟨Nat.le_of_ble_eq_true rfl, Nat.le_of_ble_eq_true rfl⟩ rfl (Nat.le_of_ble_eq_true rfl) (fun v1 n2 σ3 q4 => ?_)
  obtain ⟨rfl, rfl, rfl⟩ := q4
  refine lc_top (congrArg (fun z => Value.int (lc_i z)) (show (if 0 ≤ (fr) ∧ (fr) < 36 then (f) (fr) else 0 : Int) = f fr from by rw [if_pos (by omega)])) ?_
  refine lc_aload_n dX6_couldCapture_5 rfl 1 rfl ?_
  refine lc_iload_n dX6_couldCapture_6 rfl 3 rfl ?_
  refine lc_callV (As := [.int (lc_i (to))]) (stk := [.int (lc_i (f fr))]) (b := b) dX6_couldCapture_7 lc_mX6_37 lc_yX0_at h0_6 rfl (lc_cX0_at l n (b) (f) (o) (t) (s) (q) (m) (to) σ h0_6 h0_7 (by omega)) rfl ⟨Nat.le_of_ble_eq_true rfl, Nat.le_of_ble_eq_true rfl⟩ ⟨Nat.le_of_ble_eq_true rfl, Nat.le_of_ble_eq_true rfl⟩ rfl (Nat.le_of_ble_eq_true rfl) (fun v5 n6 σ7 q8 => ?_)
  obtain ⟨rfl, rfl, rfl⟩ := q8
  refine lc_top (congrArg (fun z => Value.int (lc_i z)) (show (if 0 ≤ (to) ∧ (to) < 36 then (f) (to) else 0 : Int) = f to from by rw [if_pos (by omega)])) ?_
  refine lc_callS (As := [.int (lc_i (f fr)), .int (lc_i (f to))]) (stk := []) dX6_couldCapture_10 lc_mX6_48 lc_yX6_areOfTwoSides (lc_cX6_areOfTwoSides l n (f fr) (f to) σ (lc_rng2 (hf _ (by omega) (by omega))) (lc_rng2 (hf _ (by omega) (by omega)))) rfl ⟨Nat.le_of_ble_eq_true rfl, Nat.le_of_ble_eq_true rfl⟩ ⟨Nat.le_of_ble_eq_true rfl, Nat.le_of_ble_eq_true rfl⟩ rfl (Nat.le_of_ble_eq_true rfl) (fun v9 n10 σ11 q12 => ?_)
  obtain ⟨rfl, rfl, rfl⟩ := q12
  refine lc_if_eqB (tgt := 33) dX6_couldCapture_13 (by decide) (fun h_13_12 => ?_) (fun h_13_12 => ?_)
  · skip
    refine lc_iconst dX6_couldCapture_33 ?_
    exact lc_zret dX6_couldCapture_34 rfl (rfl) (Nat.le_of_ble_eq_true rfl) (Nat.le_of_ble_eq_true rfl) (hQ _ _ _ ⟨(w), (a1), (a2), (a3), lc_some (by rw [if_neg (fun q9 => h_13_12 (lc_cap_iff.mp q9).1)]), rfl, h0_1, h0_2, fun q9 => absurd (lc_cap_iff.mp q9).1 h_13_12, (fun i _ _ => rfl)⟩)
  · skip
    refine lc_aload_n dX6_couldCapture_16 rfl 0 rfl ?_
    refine lc_get dX6_couldCapture_17 lc_fX6_24 h0_0 rfl ?_
    refine lc_aload_n dX6_couldCapture_20 rfl 1 rfl ?_
    refine lc_iload_n dX6_couldCapture_21 rfl 2 rfl ?_
    refine lc_iload_n dX6_couldCapture_22 rfl 3 rfl ?_
    refine lc_callV (As := [.ref (b), .int (lc_i (fr)), .int (lc_i (to))]) (stk := []) (b := 5) dX6_couldCapture_23 lc_mX6_52 lc_yX9_find h0_1 rfl (lc_cX9_find l n (a1) (a2) (a3) (w) (b) (f) (o) (t) (s) (q) (m) (fr) (to) σ h0_1 h0_2 h0_3 h0_4 h0_5 h0_6 h0_7 (hf) (hb) (by omega) (by omega)) rfl ⟨Nat.le_of_ble_eq_true rfl, Nat.le_of_ble_eq_true rfl⟩ ⟨Nat.le_of_ble_eq_true rfl, Nat.le_of_ble_eq_true rfl⟩ rfl (Nat.le_of_ble_eq_true rfl) (fun v20 n21 σ22 q23 => ?_)
    obtain ⟨c17, c18, c19, rfl, rfl, h15, h16, fr14⟩ := q23
    have h24 : σ22 (7) = some (.inr (6, [.ref (2), .ref (8), .ref (5)]) : lc_Cel) := (fr14 _ (by omega) (by omega)).trans h0_0
    have h25 : σ22 (2) = some (.inr (1, [.ref (3), .ref (4)]) : lc_Cel) := (fr14 _ (by omega) (by omega)).trans h0_3
    have h26 : σ22 (3) = some (lc_aI 48 (lc_pt)) := (fr14 _ (by omega) (by omega)).trans h0_4
    have h27 : σ22 (4) = some (lc_aI 72 (lc_sp)) := (fr14 _ (by omega) (by omega)).trans h0_5
    have h28 : σ22 (b) = some (.inr (0, [.ref (b + 1), .int (lc_i (o)), .int (lc_i (t)), .int (lc_i (s)), .int (lc_i (q)), .int (lc_i (m))]) : lc_Cel) := (fr14 _ (by omega) (by omega)).trans h0_6
    have h29 : σ22 (b + 1) = some (lc_aI 36 (f)) := (fr14 _ (by omega) (by omega)).trans h0_7
    refine lc_if_eqB (tgt := 33) dX6_couldCapture_26 (by decide) (fun h_26_29 => ?_) (fun h_26_29 => ?_)
    · skip
      refine lc_iconst dX6_couldCapture_33 ?_
      exact lc_zret dX6_couldCapture_34 rfl (rfl) (Nat.le_of_ble_eq_true rfl) (Nat.le_of_ble_eq_true rfl) (hQ _ _ _ ⟨(lc_find (f) (fr) (to) (w)), (c17), (c18), (c19), lc_some (by rw [if_neg (fun q9 => h_26_29 (by rw [lc_find_1 f fr to w]; exact (lc_cap_iff.mp q9).2))]), rfl, h15, h16, fun q9 => lc_find_2 (lc_cap_iff.mp q9).2, (fun i _ _ => (fr14 i (by omega) (by omega)))⟩)
    · skip
      refine lc_iconst dX6_couldCapture_29 ?_
      refine lc_goto (tgt := 34) dX6_couldCapture_30 (by decide) ?_
      exact lc_zret dX6_couldCapture_34 rfl (rfl) (Nat.le_of_ble_eq_true rfl) (Nat.le_of_ble_eq_true rfl) (hQ _ _ _ ⟨(lc_find (f) (fr) (to) (w)), (c17), (c18), (c19), lc_some (by rw [if_pos (lc_cap_iff.mpr ⟨h_13_12, by rw [← lc_find_1 f fr to w]; exact h_26_29⟩)]), rfl, h15, h16, fun q9 => lc_find_2 (lc_cap_iff.mp q9).2, (fun i _ _ => (fr14 i (by omega) (by omega)))⟩)

set_option maxRecDepth 100000 in
set_option maxHeartbeats 4000000 in
/-- Rules.threatsTo -/
theorem lc_cX6_threatsTo (l : Launch) (n : Nat) (a1 a2 a3 : Int) (w : Int × Int × Int × Int) (b : Nat) (f : Int → Int) (o t s q m : Int) (p : Int) (σ : lc_S) (h0_0 : σ (7) = some (.inr (6, [.ref (2), .ref (8), .ref (5)]) : lc_Cel)) (h0_1 : σ (5) = some (.inr (9, [.ref (2), .ref (6), .int (lc_i ((w).1)), .int (lc_i ((w).2.1)), .int (lc_i ((w).2.2.1)), .int (lc_i ((w).2.2.2))]) : lc_Cel)) (h0_2 : σ (6) = some (.inr (8, [.ref (2), .int (lc_i (a1)), .int (lc_i (a2)), .int (lc_i (a3))]) : lc_Cel)) (h0_3 : σ (2) = some (.inr (1, [.ref (3), .ref (4)]) : lc_Cel)) (h0_4 : σ (3) = some (lc_aI 48 (lc_pt))) (h0_5 : σ (4) = some (lc_aI 72 (lc_sp))) (h0_6 : σ (b) = some (.inr (0, [.ref (b + 1), .int (lc_i (o)), .int (lc_i (t)), .int (lc_i (s)), .int (lc_i (q)), .int (lc_i (m))]) : lc_Cel)) (h0_7 : σ (b + 1) = some (lc_aI 36 (f))) (hf : ∀ j : Int, 0 ≤ j → j < 36 → 0 ≤ f j ∧ f j ≤ 2) (hb : 12 ≤ b) (hp : 0 ≤ p ∧ p < 36) : lc_Con l yX6_threatsTo cX6_threatsTo 5 (some .int) (lc_Rd 5) [.ref (7), .ref (b), .int (lc_i (p))] n σ (fun v n2 σ2 => ∃ (wk : Int × Int × Int × Int) (c1 c2 c3 : Int), v = some (.int (lc_i (lc_num (fun j : Int => lc_cap f j p) 36))) ∧ n = n2 ∧ σ2 5 = some (.inr (9, [.ref (2), .ref (6), .int (lc_i ((wk).1)), .int (lc_i ((wk).2.1)), .int (lc_i ((wk).2.2.1)), .int (lc_i ((wk).2.2.2))]) : lc_Cel) ∧ σ2 6 = some (.inr (8, [.ref (2), .int (lc_i (c1)), .int (lc_i (c2)), .int (lc_i (c3))]) : lc_Cel) ∧ ∀ i : Nat, i ≠ 5 → i ≠ 6 → σ2 i = σ i) := by
  refine lc_con RX6 false (by decide) rfl (fun h => absurd h (by decide)) (Nat.le_of_ble_eq_true rfl) ?_
  suffices H : ∀ Q : lc_QT, (∀ v n2 σ2, (fun v n2 σ2 => ∃ (wk : Int × Int × Int × Int) (c1 c2 c3 : Int), v = some (.int (lc_i (lc_num (fun j : Int => lc_cap f j p) 36))) ∧ n = n2 ∧ σ2 5 = some (.inr (9, [.ref (2), .ref (6), .int (lc_i ((wk).1)), .int (lc_i ((wk).2.1)), .int (lc_i ((wk).2.2.1)), .int (lc_i ((wk).2.2.2))]) : lc_Cel) ∧ σ2 6 = some (.inr (8, [.ref (2), .int (lc_i (c1)), .int (lc_i (c2)), .int (lc_i (c3))]) : lc_Cel) ∧ ∀ i : Nat, i ≠ 5 → i ≠ 6 → σ2 i = σ i : lc_QT) v n2 σ2 → Q v n2 σ2) → lc_V l RX6 cX6_threatsTo 5 (some .int) false (lc_Rd 5) (lc_G Q 0 0) lc_E0 0 0 n 0 [(0, .ref (7)), (1, .ref (b)), (2, .int (lc_i (p)))] [] σ from H _ (fun _ _ _ h => h)
  intro Q hQ
  refine lc_iconst dX6_threatsTo_0 ?_
  refine lc_top (congrArg (fun z => Value.int (lc_i z)) (show (0 : Int) = lc_num (fun j : Int => lc_cap f j p) (0 : Int).toNat from rfl)) ?_
  refine lc_istore_n (lv' := [(0, .ref (7)), (1, .ref (b)), (2, .int (lc_i (p))), (3, .int (lc_i (lc_num (fun j : Int => lc_cap f j p) (0 : Int).toNat)))]) dX6_threatsTo_1 rfl (by decide) rfl ?_
  refine lc_iconst dX6_threatsTo_2 ?_
  refine lc_istore (lv' := [(0, .ref (7)), (1, .ref (b)), (2, .int (lc_i (p))), (3, .int (lc_i (lc_num (fun j : Int => lc_cap f j p) (0 : Int).toNat))), (4, .int (lc_i (0)))]) dX6_threatsTo_3 (by decide) rfl ?_
  have loop2 : ∀ (N1 : Nat) (i : Int) (wi : Int × Int × Int × Int) (e1 : Int) (e2 : Int) (e3 : Int) (σ4 : lc_S), (σ4 (5) = some (.inr (9, [.ref (2), .ref (6), .int (lc_i ((wi).1)), .int (lc_i ((wi).2.1)), .int (lc_i ((wi).2.2.1)), .int (lc_i ((wi).2.2.2))]) : lc_Cel)) → (σ4 (6) = some (.inr (8, [.ref (2), .int (lc_i (e1)), .int (lc_i (e2)), .int (lc_i (e3))]) : lc_Cel)) → (∀ i : Nat, i ≠ 5 → i ≠ 6 → σ4 i = σ i) → (0 ≤ i ∧ i ≤ 36) → 36 - i < (N1 : Int) → lc_V l RX6 cX6_threatsTo 5 (some .int) false (lc_Rd 5) (lc_G Q 0 0) lc_E0 0 0 n 5 [(0, .ref (7)), (1, .ref (b)), (2, .int (lc_i (p))), (3, .int (lc_i (lc_num (fun j : Int => lc_cap f j p) (i).toNat))), (4, .int (lc_i (i)))] [] σ4 := by
    intro N1
    induction N1 with
    | zero =>
      intro i wi e1 e2 e3 σ4 h5 h6 fr7 hi hm8
      exact absurd hm8 (by omega)
    | succ N1 ih3 =>
      intro i wi e1 e2 e3 σ4 h5 h6 fr7 hi hm8
      have h9 : σ4 (7) = some (.inr (6, [.ref (2), .ref (8), .ref (5)]) : lc_Cel) := (fr7 _ (by omega) (by omega)).trans h0_0
      have h10 : σ4 (2) = some (.inr (1, [.ref (3), .ref (4)]) : lc_Cel) := (fr7 _ (by omega) (by omega)).trans h0_3
      have h11 : σ4 (3) = some (lc_aI 48 (lc_pt)) := (fr7 _ (by omega) (by omega)).trans h0_4
      have h12 : σ4 (4) = some (lc_aI 72 (lc_sp)) := (fr7 _ (by omega) (by omega)).trans h0_5
      have h13 : σ4 (b) = some (.inr (0, [.ref (b + 1), .int (lc_i (o)), .int (lc_i (t)), .int (lc_i (s)), .int (lc_i (q)), .int (lc_i (m))]) : lc_Cel) := (fr7 _ (by omega) (by omega)).trans h0_6
      have h14 : σ4 (b + 1) = some (lc_aI 36 (f)) := (fr7 _ (by omega) (by omega)).trans h0_7
      refine lc_iload dX6_threatsTo_5 4 rfl ?_
      refine lc_bipush dX6_threatsTo_7 (by decide) ?_
      refine lc_icmp_ge (tgt := 32) dX6_threatsTo_9 (by decide) (by omega) (fun h_9_14 => ?_) (fun h_9_14 => ?_)
      · skip
        refine lc_iload_n dX6_threatsTo_32 rfl 3 rfl ?_
        exact lc_iret dX6_threatsTo_33 rfl (Nat.le_of_ble_eq_true rfl) (Nat.le_of_ble_eq_true rfl) (hQ _ _ _ ⟨(wi), (e1), (e2), (e3), by rw [show (i).toNat = 36 from by omega], rfl, h5, h6, (fun i _ _ => (fr7 i (by omega) (by omega)))⟩)
      · skip
        refine lc_aload_n dX6_threatsTo_12 rfl 0 rfl ?_
        refine lc_aload_n dX6_threatsTo_13 rfl 1 rfl ?_
        refine lc_iload dX6_threatsTo_14 4 rfl ?_
        refine lc_iload_n dX6_threatsTo_16 rfl 2 rfl ?_
        refine lc_callV (As := [.ref (b), .int (lc_i (i)), .int (lc_i (p))]) (stk := []) (b := 7) dX6_threatsTo_17 lc_mX6_41 lc_yX6_couldCapture h9 rfl (lc_cX6_couldCapture l n (e1) (e2) (e3) (wi) (b) (f) (o) (t) (s) (q) (m) (i) (p) σ4 h9 h5 h6 h10 h11 h12 h13 h14 (hf) (hb) (by omega) (by omega)) rfl ⟨Nat.le_of_ble_eq_true rfl, Nat.le_of_ble_eq_true rfl⟩ ⟨Nat.le_of_ble_eq_true rfl, Nat.le_of_ble_eq_true rfl⟩ rfl (Nat.le_of_ble_eq_true rfl) (fun v24 n25 σ26 q27 => ?_)
        obtain ⟨wk19, c20, c21, c22, rfl, rfl, h17, h18, he23, fr16⟩ := q27
        have h28 : σ26 (7) = some (.inr (6, [.ref (2), .ref (8), .ref (5)]) : lc_Cel) := (fr16 _ (by omega) (by omega)).trans h9
        have h29 : σ26 (2) = some (.inr (1, [.ref (3), .ref (4)]) : lc_Cel) := (fr16 _ (by omega) (by omega)).trans h10
        have h30 : σ26 (3) = some (lc_aI 48 (lc_pt)) := (fr16 _ (by omega) (by omega)).trans h11
        have h31 : σ26 (4) = some (lc_aI 72 (lc_sp)) := (fr16 _ (by omega) (by omega)).trans h12
        have h32 : σ26 (b) = some (.inr (0, [.ref (b + 1), .int (lc_i (o)), .int (lc_i (t)), .int (lc_i (s)), .int (lc_i (q)), .int (lc_i (m))]) : lc_Cel) := (fr16 _ (by omega) (by omega)).trans h13
        have h33 : σ26 (b + 1) = some (lc_aI 36 (f)) := (fr16 _ (by omega) (by omega)).trans h14
        refine lc_if_eqB (tgt := 26) dX6_threatsTo_20 (by decide) (fun h_20_33 => ?_) (fun h_20_33 => ?_)
        · skip
          refine lc_iinc (lv' := [(0, .ref (7)), (1, .ref (b)), (2, .int (lc_i (p))), (3, .int (lc_i (lc_num (fun j : Int => lc_cap f j p) (i).toNat))), (4, .int (lc_i (i + 1)))]) dX6_threatsTo_26 4 rfl (by decide) rfl ?_
          refine lc_goto (tgt := 5) dX6_threatsTo_29 (by decide) ?_
          refine lc_lveq (lv' := [(0, .ref (7)), (1, .ref (b)), (2, .int (lc_i (p))), (3, .int (lc_i (lc_num (fun j : Int => lc_cap f j p) (i + 1).toNat))), (4, .int (lc_i (i + 1)))]) (by rw [lc_num_0 (P := (fun j : Int => lc_cap f j p)) (by omega) (h_20_33)]) ?_
          exact ih3 (i + 1) (wk19) (c20) (c21) (c22) σ26 h17 h18 (fun i _ _ => ((fr16 i (by omega) (by omega)).trans (fr7 i (by omega) (by omega)))) (by omega) (by omega)
        · skip
          refine lc_iinc (lv' := [(0, .ref (7)), (1, .ref (b)), (2, .int (lc_i (p))), (3, .int (lc_i (lc_num (fun j : Int => lc_cap f j p) (i).toNat + 1))), (4, .int (lc_i (i)))]) dX6_threatsTo_23 3 rfl (by decide) rfl ?_
          refine lc_iinc (lv' := [(0, .ref (7)), (1, .ref (b)), (2, .int (lc_i (p))), (3, .int (lc_i (lc_num (fun j : Int => lc_cap f j p) (i).toNat + 1))), (4, .int (lc_i (i + 1)))]) dX6_threatsTo_26 4 rfl (by decide) rfl ?_
          refine lc_goto (tgt := 5) dX6_threatsTo_29 (by decide) ?_
          refine lc_lveq (lv' := [(0, .ref (7)), (1, .ref (b)), (2, .int (lc_i (p))), (3, .int (lc_i (lc_num (fun j : Int => lc_cap f j p) (i + 1).toNat))), (4, .int (lc_i (i + 1)))]) (by rw [lc_num_1 (P := (fun j : Int => lc_cap f j p)) (by omega) (h_20_33)]) ?_
          exact ih3 (i + 1) (wk19) (c20) (c21) (c22) σ26 h17 h18 (fun i _ _ => ((fr16 i (by omega) (by omega)).trans (fr7 i (by omega) (by omega)))) (by omega) (by omega)
  exact loop2 1000 (0) (w) (a1) (a2) (a3) σ h0_1 h0_2 (fun _ _ _ => rfl) (by omega) (by omega)

set_option maxRecDepth 100000 in
set_option maxHeartbeats 4000000 in
/-- Rules.capturesFrom -/
theorem lc_cX6_capturesFrom (l : Launch) (n : Nat) (a1 a2 a3 : Int) (w : Int × Int × Int × Int) (b : Nat) (f : Int → Int) (o t s q m : Int) (p : Int) (σ : lc_S) (h0_0 : σ (7) = some (.inr (6, [.ref (2), .ref (8), .ref (5)]) : lc_Cel)) (h0_1 : σ (5) = some (.inr (9, [.ref (2), .ref (6), .int (lc_i ((w).1)), .int (lc_i ((w).2.1)), .int (lc_i ((w).2.2.1)), .int (lc_i ((w).2.2.2))]) : lc_Cel)) (h0_2 : σ (6) = some (.inr (8, [.ref (2), .int (lc_i (a1)), .int (lc_i (a2)), .int (lc_i (a3))]) : lc_Cel)) (h0_3 : σ (2) = some (.inr (1, [.ref (3), .ref (4)]) : lc_Cel)) (h0_4 : σ (3) = some (lc_aI 48 (lc_pt))) (h0_5 : σ (4) = some (lc_aI 72 (lc_sp))) (h0_6 : σ (b) = some (.inr (0, [.ref (b + 1), .int (lc_i (o)), .int (lc_i (t)), .int (lc_i (s)), .int (lc_i (q)), .int (lc_i (m))]) : lc_Cel)) (h0_7 : σ (b + 1) = some (lc_aI 36 (f))) (hf : ∀ j : Int, 0 ≤ j → j < 36 → 0 ≤ f j ∧ f j ≤ 2) (hb : 12 ≤ b) (hp : 0 ≤ p ∧ p < 36) : lc_Con l yX6_capturesFrom cX6_capturesFrom 5 (some .int) (lc_Rd 5) [.ref (7), .ref (b), .int (lc_i (p))] n σ (fun v n2 σ2 => ∃ (wk : Int × Int × Int × Int) (c1 c2 c3 : Int), v = some (.int (lc_i (lc_num (fun j : Int => lc_cap f p j) 36))) ∧ n = n2 ∧ σ2 5 = some (.inr (9, [.ref (2), .ref (6), .int (lc_i ((wk).1)), .int (lc_i ((wk).2.1)), .int (lc_i ((wk).2.2.1)), .int (lc_i ((wk).2.2.2))]) : lc_Cel) ∧ σ2 6 = some (.inr (8, [.ref (2), .int (lc_i (c1)), .int (lc_i (c2)), .int (lc_i (c3))]) : lc_Cel) ∧ ∀ i : Nat, i ≠ 5 → i ≠ 6 → σ2 i = σ i) := by
  refine lc_con RX6 false (by decide) rfl (fun h => absurd h (by decide)) (Nat.le_of_ble_eq_true rfl) ?_
  suffices H : ∀ Q : lc_QT, (∀ v n2 σ2, (fun v n2 σ2 => ∃ (wk : Int × Int × Int × Int) (c1 c2 c3 : Int), v = some (.int (lc_i (lc_num (fun j : Int => lc_cap f p j) 36))) ∧ n = n2 ∧ σ2 5 = some (.inr (9, [.ref (2), .ref (6), .int (lc_i ((wk).1)), .int (lc_i ((wk).2.1)), .int (lc_i ((wk).2.2.1)), .int (lc_i ((wk).2.2.2))]) : lc_Cel) ∧ σ2 6 = some (.inr (8, [.ref (2), .int (lc_i (c1)), .int (lc_i (c2)), .int (lc_i (c3))]) : lc_Cel) ∧ ∀ i : Nat, i ≠ 5 → i ≠ 6 → σ2 i = σ i : lc_QT) v n2 σ2 → Q v n2 σ2) → lc_V l RX6 cX6_capturesFrom 5 (some .int) false (lc_Rd 5) (lc_G Q 0 0) lc_E0 0 0 n 0 [(0, .ref (7)), (1, .ref (b)), (2, .int (lc_i (p)))] [] σ from H _ (fun _ _ _ h => h)
  intro Q hQ
  refine lc_iconst dX6_capturesFrom_0 ?_
  refine lc_top (congrArg (fun z => Value.int (lc_i z)) (show (0 : Int) = lc_num (fun j : Int => lc_cap f p j) (0 : Int).toNat from rfl)) ?_
  refine lc_istore_n (lv' := [(0, .ref (7)), (1, .ref (b)), (2, .int (lc_i (p))), (3, .int (lc_i (lc_num (fun j : Int => lc_cap f p j) (0 : Int).toNat)))]) dX6_capturesFrom_1 rfl (by decide) rfl ?_
  refine lc_iconst dX6_capturesFrom_2 ?_
  refine lc_istore (lv' := [(0, .ref (7)), (1, .ref (b)), (2, .int (lc_i (p))), (3, .int (lc_i (lc_num (fun j : Int => lc_cap f p j) (0 : Int).toNat))), (4, .int (lc_i (0)))]) dX6_capturesFrom_3 (by decide) rfl ?_
  have loop2 : ∀ (N1 : Nat) (i : Int) (wi : Int × Int × Int × Int) (e1 : Int) (e2 : Int) (e3 : Int) (σ4 : lc_S), (σ4 (5) = some (.inr (9, [.ref (2), .ref (6), .int (lc_i ((wi).1)), .int (lc_i ((wi).2.1)), .int (lc_i ((wi).2.2.1)), .int (lc_i ((wi).2.2.2))]) : lc_Cel)) → (σ4 (6) = some (.inr (8, [.ref (2), .int (lc_i (e1)), .int (lc_i (e2)), .int (lc_i (e3))]) : lc_Cel)) → (∀ i : Nat, i ≠ 5 → i ≠ 6 → σ4 i = σ i) → (0 ≤ i ∧ i ≤ 36) → 36 - i < (N1 : Int) → lc_V l RX6 cX6_capturesFrom 5 (some .int) false (lc_Rd 5) (lc_G Q 0 0) lc_E0 0 0 n 5 [(0, .ref (7)), (1, .ref (b)), (2, .int (lc_i (p))), (3, .int (lc_i (lc_num (fun j : Int => lc_cap f p j) (i).toNat))), (4, .int (lc_i (i)))] [] σ4 := by
    intro N1
    induction N1 with
    | zero =>
      intro i wi e1 e2 e3 σ4 h5 h6 fr7 hi hm8
      exact absurd hm8 (by omega)
    | succ N1 ih3 =>
      intro i wi e1 e2 e3 σ4 h5 h6 fr7 hi hm8
      have h9 : σ4 (7) = some (.inr (6, [.ref (2), .ref (8), .ref (5)]) : lc_Cel) := (fr7 _ (by omega) (by omega)).trans h0_0
      have h10 : σ4 (2) = some (.inr (1, [.ref (3), .ref (4)]) : lc_Cel) := (fr7 _ (by omega) (by omega)).trans h0_3
      have h11 : σ4 (3) = some (lc_aI 48 (lc_pt)) := (fr7 _ (by omega) (by omega)).trans h0_4
      have h12 : σ4 (4) = some (lc_aI 72 (lc_sp)) := (fr7 _ (by omega) (by omega)).trans h0_5
      have h13 : σ4 (b) = some (.inr (0, [.ref (b + 1), .int (lc_i (o)), .int (lc_i (t)), .int (lc_i (s)), .int (lc_i (q)), .int (lc_i (m))]) : lc_Cel) := (fr7 _ (by omega) (by omega)).trans h0_6
      have h14 : σ4 (b + 1) = some (lc_aI 36 (f)) := (fr7 _ (by omega) (by omega)).trans h0_7
      refine lc_iload dX6_capturesFrom_5 4 rfl ?_
      refine lc_bipush dX6_capturesFrom_7 (by decide) ?_
      refine lc_icmp_ge (tgt := 32) dX6_capturesFrom_9 (by decide) (by omega) (fun h_9_14 => ?_) (fun h_9_14 => ?_)
      · skip
        refine lc_iload_n dX6_capturesFrom_32 rfl 3 rfl ?_
        exact lc_iret dX6_capturesFrom_33 rfl (Nat.le_of_ble_eq_true rfl) (Nat.le_of_ble_eq_true rfl) (hQ _ _ _ ⟨(wi), (e1), (e2), (e3), by rw [show (i).toNat = 36 from by omega], rfl, h5, h6, (fun i _ _ => (fr7 i (by omega) (by omega)))⟩)
      · skip
        refine lc_aload_n dX6_capturesFrom_12 rfl 0 rfl ?_
        refine lc_aload_n dX6_capturesFrom_13 rfl 1 rfl ?_
        refine lc_iload_n dX6_capturesFrom_14 rfl 2 rfl ?_
        refine lc_iload dX6_capturesFrom_15 4 rfl ?_
        refine lc_callV (As := [.ref (b), .int (lc_i (p)), .int (lc_i (i))]) (stk := []) (b := 7) dX6_capturesFrom_17 lc_mX6_41 lc_yX6_couldCapture h9 rfl (lc_cX6_couldCapture l n (e1) (e2) (e3) (wi) (b) (f) (o) (t) (s) (q) (m) (p) (i) σ4 h9 h5 h6 h10 h11 h12 h13 h14 (hf) (hb) (by omega) (by omega)) rfl ⟨Nat.le_of_ble_eq_true rfl, Nat.le_of_ble_eq_true rfl⟩ ⟨Nat.le_of_ble_eq_true rfl, Nat.le_of_ble_eq_true rfl⟩ rfl (Nat.le_of_ble_eq_true rfl) (fun v24 n25 σ26 q27 => ?_)
        obtain ⟨wk19, c20, c21, c22, rfl, rfl, h17, h18, he23, fr16⟩ := q27
        have h28 : σ26 (7) = some (.inr (6, [.ref (2), .ref (8), .ref (5)]) : lc_Cel) := (fr16 _ (by omega) (by omega)).trans h9
        have h29 : σ26 (2) = some (.inr (1, [.ref (3), .ref (4)]) : lc_Cel) := (fr16 _ (by omega) (by omega)).trans h10
        have h30 : σ26 (3) = some (lc_aI 48 (lc_pt)) := (fr16 _ (by omega) (by omega)).trans h11
        have h31 : σ26 (4) = some (lc_aI 72 (lc_sp)) := (fr16 _ (by omega) (by omega)).trans h12
        have h32 : σ26 (b) = some (.inr (0, [.ref (b + 1), .int (lc_i (o)), .int (lc_i (t)), .int (lc_i (s)), .int (lc_i (q)), .int (lc_i (m))]) : lc_Cel) := (fr16 _ (by omega) (by omega)).trans h13
        have h33 : σ26 (b + 1) = some (lc_aI 36 (f)) := (fr16 _ (by omega) (by omega)).trans h14
        refine lc_if_eqB (tgt := 26) dX6_capturesFrom_20 (by decide) (fun h_20_33 => ?_) (fun h_20_33 => ?_)
        · skip
          refine lc_iinc (lv' := [(0, .ref (7)), (1, .ref (b)), (2, .int (lc_i (p))), (3, .int (lc_i (lc_num (fun j : Int => lc_cap f p j) (i).toNat))), (4, .int (lc_i (i + 1)))]) dX6_capturesFrom_26 4 rfl (by decide) rfl ?_
          refine lc_goto (tgt := 5) dX6_capturesFrom_29 (by decide) ?_
          refine lc_lveq (lv' := [(0, .ref (7)), (1, .ref (b)), (2, .int (lc_i (p))), (3, .int (lc_i (lc_num (fun j : Int => lc_cap f p j) (i + 1).toNat))), (4, .int (lc_i (i + 1)))]) (by rw [lc_num_0 (P := (fun j : Int => lc_cap f p j)) (by omega) (h_20_33)]) ?_
          exact ih3 (i + 1) (wk19) (c20) (c21) (c22) σ26 h17 h18 (fun i _ _ => ((fr16 i (by omega) (by omega)).trans (fr7 i (by omega) (by omega)))) (by omega) (by omega)
        · skip
          refine lc_iinc (lv' := [(0, .ref (7)), (1, .ref (b)), (2, .int (lc_i (p))), (3, .int (lc_i (lc_num (fun j : Int => lc_cap f p j) (i).toNat + 1))), (4, .int (lc_i (i)))]) dX6_capturesFrom_23 3 rfl (by decide) rfl ?_
          refine lc_iinc (lv' := [(0, .ref (7)), (1, .ref (b)), (2, .int (lc_i (p))), (3, .int (lc_i (lc_num (fun j : Int => lc_cap f p j) (i).toNat + 1))), (4, .int (lc_i (i + 1)))]) dX6_capturesFrom_26 4 rfl (by decide) rfl ?_
          refine lc_goto (tgt := 5) dX6_capturesFrom_29 (by decide) ?_
          refine lc_lveq (lv' := [(0, .ref (7)), (1, .ref (b)), (2, .int (lc_i (p))), (3, .int (lc_i (lc_num (fun j : Int => lc_cap f p j) (i + 1).toNat))), (4, .int (lc_i (i + 1)))]) (by rw [lc_num_1 (P := (fun j : Int => lc_cap f p j)) (by omega) (h_20_33)]) ?_
          exact ih3 (i + 1) (wk19) (c20) (c21) (c22) σ26 h17 h18 (fun i _ _ => ((fr16 i (by omega) (by omega)).trans (fr7 i (by omega) (by omega)))) (by omega) (by omega)
  exact loop2 1000 (0) (w) (a1) (a2) (a3) σ h0_1 h0_2 (fun _ _ _ => rfl) (by omega) (by omega)

set_option maxRecDepth 100000 in
set_option maxHeartbeats 4000000 in
theorem lc_cX6_quietMovesFrom (l : Launch) (n : Nat) (b : Nat) (f : Int → Int) (o t s q m : Int) (p : Int) (σ : lc_S) (h0_0 : σ (7) = some (.inr (6, [.ref (2), .ref (8), .ref (5)]) : lc_Cel)) (h0_1 : σ (b) = some (.inr (0, [.ref (b + 1), .int (lc_i (o)), .int (lc_i (t)), .int (lc_i (s)), .int (lc_i (q)), .int (lc_i (m))]) : lc_Cel)) (h0_2 : σ (b + 1) = some (lc_aI 36 (f))) (hf : ∀ j : Int, 0 ≤ j → j < 36 → 0 ≤ f j ∧ f j ≤ 2) (hb : 12 ≤ b) (hp : 0 ≤ p ∧ p < 36) : lc_Con l yX6_quietMovesFrom cX6_quietMovesFrom 5 (some .int) (lc_Rd 2) [.ref (7), .ref (b), .int (lc_i (p))] n σ (fun v n2 σ2 => v = some (.int (lc_i (if f p = 0 then 0 else lc_num (fun j : Int => lc_step f p j) 36))) ∧ n = n2 ∧ σ = σ2) := by
  refine lc_con RX6 false (by decide) rfl (fun h => absurd h (by decide)) (Nat.le_of_ble_eq_true rfl) ?_
  suffices H : ∀ Q : lc_QT, (∀ v n2 σ2, (fun v n2 σ2 => v = some (.int (lc_i (if f p = 0 then 0 else lc_num (fun j : Int => lc_step f p j) 36))) ∧ n = n2 ∧ σ = σ2 : lc_QT) v n2 σ2 → Q v n2 σ2) → lc_V l RX6 cX6_quietMovesFrom 5 (some .int) false (lc_Rd 2) (lc_G Q 0 0) lc_E0 0 0 n 0 [(0, .ref (7)), (1, .ref (b)), (2, .int (lc_i (p)))] [] σ from H _ (fun _ _ _ h => h)
  intro Q hQ
  refine lc_iconst dX6_quietMovesFrom_0 ?_
  refine lc_top (congrArg (fun z => Value.int (lc_i z)) (show (0 : Int) = lc_num (fun j : Int => lc_step f p j) (0 : Int).toNat from rfl)) ?_
  refine lc_istore_n (lv' := [(0, .ref (7)), (1, .ref (b)), (2, .int (lc_i (p))), (3, .int (lc_i (lc_num (fun j : Int => lc_step f p j) (0 : Int).toNat)))]) dX6_quietMovesFrom_1 rfl (by decide) rfl ?_
  refine lc_iconst dX6_quietMovesFrom_2 ?_
  refine lc_istore (lv' := [(0, .ref (7)), (1, .ref (b)), (2, .int (lc_i (p))), (3, .int (lc_i (lc_num (fun j : Int => lc_step f p j) (0 : Int).toNat))), (4, .int (lc_i (0)))]) dX6_quietMovesFrom_3 (by decide) rfl ?_
  have loop2 : ∀ (N1 : Nat) (i : Int), (0 ≤ i ∧ i ≤ 36) → (f p = 0 → lc_num (fun j : Int => lc_step f p j) (i).toNat = 0) → 36 - i < (N1 : Int) → lc_V l RX6 cX6_quietMovesFrom 5 (some .int) false (lc_Rd 2) (lc_G Q 0 0) lc_E0 0 0 n 5 [(0, .ref (7)), (1, .ref (b)), (2, .int (lc_i (p))), (3, .int (lc_i (lc_num (fun j : Int => lc_step f p j) (i).toNat))), (4, .int (lc_i (i)))] [] σ := by
    intro N1
    induction N1 with
    | zero =>
      intro i hi hz hm4
      exact absurd hm4 (by omega)
    | succ N1 ih3 =>
      intro i hi hz hm4
      refine lc_iload dX6_quietMovesFrom_5 4 rfl ?_
      refine lc_bipush dX6_quietMovesFrom_7 (by decide) ?_
      refine lc_icmp_ge (tgt := 39) dX6_quietMovesFrom_9 (by decide) (by omega) (fun h_9_4 => ?_) (fun h_9_4 => ?_)
      · skip
        refine lc_iload_n dX6_quietMovesFrom_39 rfl 3 rfl ?_
        exact lc_iret dX6_quietMovesFrom_40 rfl (Nat.le_of_ble_eq_true rfl) (Nat.le_of_ble_eq_true rfl) (hQ _ _ _ ⟨lc_some (by have e9 := hz; rw [show (i).toNat = 36 from by omega] at e9 ⊢; by_cases q9 : f p = 0; (rw [if_pos q9, e9 q9]); (rw [if_neg q9])), rfl, rfl⟩)
      · skip
        refine lc_aload_n dX6_quietMovesFrom_12 rfl 1 rfl ?_
        refine lc_iload_n dX6_quietMovesFrom_13 rfl 2 rfl ?_
        refine lc_callV (As := [.int (lc_i (p))]) (stk := []) (b := b) dX6_quietMovesFrom_14 lc_mX6_37 lc_yX0_at h0_1 rfl (lc_cX0_at l n (b) (f) (o) (t) (s) (q) (m) (p) σ h0_1 h0_2 (by omega)) rfl ⟨Nat.le_of_ble_eq_true rfl, Nat.le_of_ble_eq_true rfl⟩ ⟨Nat.le_of_ble_eq_true rfl, Nat.le_of_ble_eq_true rfl⟩ rfl (Nat.le_of_ble_eq_true rfl) (fun v6 n7 σ8 q9 => ?_)
        obtain ⟨rfl, rfl, rfl⟩ := q9
        refine lc_top (congrArg (fun z => Value.int (lc_i z)) (show (if 0 ≤ (p) ∧ (p) < 36 then (f) (p) else 0 : Int) = f p from by rw [if_pos (by omega)])) ?_
        have hfp := hf p hp.1 hp.2
        refine lc_if_eq (tgt := 39) dX6_quietMovesFrom_17 (by decide) (by omega) (fun h_17_9 => ?_) (fun h_17_9 => ?_)
        · skip
          refine lc_iload_n dX6_quietMovesFrom_39 rfl 3 rfl ?_
          exact lc_iret dX6_quietMovesFrom_40 rfl (Nat.le_of_ble_eq_true rfl) (Nat.le_of_ble_eq_true rfl) (hQ _ _ _ ⟨lc_some (by rw [if_pos h_17_9, hz h_17_9]), rfl, rfl⟩)
        · skip
          refine lc_aload_n dX6_quietMovesFrom_20 rfl 1 rfl ?_
          refine lc_iload_n dX6_quietMovesFrom_21 rfl 2 rfl ?_
          refine lc_iload dX6_quietMovesFrom_22 4 rfl ?_
          refine lc_callS (As := [.ref (b), .int (lc_i (p)), .int (lc_i (i))]) (stk := []) dX6_quietMovesFrom_24 lc_mX6_45 lc_yX6_couldStep (lc_cX6_couldStep l n (b) (f) (o) (t) (s) (q) (m) (p) (i) σ h0_1 h0_2 (hf) (by omega) (by omega)) rfl ⟨Nat.le_of_ble_eq_true rfl, Nat.le_of_ble_eq_true rfl⟩ ⟨Nat.le_of_ble_eq_true rfl, Nat.le_of_ble_eq_true rfl⟩ rfl (Nat.le_of_ble_eq_true rfl) (fun v11 n12 σ13 q14 => ?_)
          obtain ⟨rfl, rfl, rfl⟩ := q14
          refine lc_if_eqB (tgt := 33) dX6_quietMovesFrom_27 (by decide) (fun h_27_14 => ?_) (fun h_27_14 => ?_)
          · skip
            refine lc_iinc (lv' := [(0, .ref (7)), (1, .ref (b)), (2, .int (lc_i (p))), (3, .int (lc_i (lc_num (fun j : Int => lc_step f p j) (i).toNat))), (4, .int (lc_i (i + 1)))]) dX6_quietMovesFrom_33 4 rfl (by decide) rfl ?_
            refine lc_goto (tgt := 5) dX6_quietMovesFrom_36 (by decide) ?_
            refine lc_lveq (lv' := [(0, .ref (7)), (1, .ref (b)), (2, .int (lc_i (p))), (3, .int (lc_i (lc_num (fun j : Int => lc_step f p j) (i + 1).toNat))), (4, .int (lc_i (i + 1)))]) (by rw [lc_num_0 (P := (fun j : Int => lc_step f p j)) (by omega) (h_27_14)]) ?_
            exact ih3 (i + 1) (by omega) (fun q9 => absurd q9 h_17_9) (by omega)
          · skip
            refine lc_iinc (lv' := [(0, .ref (7)), (1, .ref (b)), (2, .int (lc_i (p))), (3, .int (lc_i (lc_num (fun j : Int => lc_step f p j) (i).toNat + 1))), (4, .int (lc_i (i)))]) dX6_quietMovesFrom_30 3 rfl (by decide) rfl ?_
            refine lc_iinc (lv' := [(0, .ref (7)), (1, .ref (b)), (2, .int (lc_i (p))), (3, .int (lc_i (lc_num (fun j : Int => lc_step f p j) (i).toNat + 1))), (4, .int (lc_i (i + 1)))]) dX6_quietMovesFrom_33 4 rfl (by decide) rfl ?_
            refine lc_goto (tgt := 5) dX6_quietMovesFrom_36 (by decide) ?_
            refine lc_lveq (lv' := [(0, .ref (7)), (1, .ref (b)), (2, .int (lc_i (p))), (3, .int (lc_i (lc_num (fun j : Int => lc_step f p j) (i + 1).toNat))), (4, .int (lc_i (i + 1)))]) (by rw [lc_num_1 (P := (fun j : Int => lc_step f p j)) (by omega) (h_27_14)]) ?_
            exact ih3 (i + 1) (by omega) (fun q9 => absurd q9 h_17_9) (by omega)
  exact loop2 1000 (0) (by omega) (fun _ => rfl) (by omega)

def lc_cov (f : Int → Int) (p j : Int) : Bool := decide ((j ≠ p ∧ f j = f p) ∧ 0 < (lc_wy f j p).1)
theorem lc_cov_iff {f : Int → Int} {p j : Int} : lc_cov f p j = true ↔ ((j ≠ p ∧ f j = f p) ∧ 0 < (lc_wy f j p).1) := decide_eq_true_iff

set_option maxRecDepth 100000 in
set_option maxHeartbeats 4000000 in
/-- Rules.coversOf -/
theorem lc_cX6_coversOf (l : Launch) (n : Nat) (a1 a2 a3 : Int) (w : Int × Int × Int × Int) (b : Nat) (f : Int → Int) (o t s q m : Int) (p : Int) (σ : lc_S) (h0_0 : σ (7) = some (.inr (6, [.ref (2), .ref (8), .ref (5)]) : lc_Cel)) (h0_1 : σ (5) = some (.inr (9, [.ref (2), .ref (6), .int (lc_i ((w).1)), .int (lc_i ((w).2.1)), .int (lc_i ((w).2.2.1)), .int (lc_i ((w).2.2.2))]) : lc_Cel)) (h0_2 : σ (6) = some (.inr (8, [.ref (2), .int (lc_i (a1)), .int (lc_i (a2)), .int (lc_i (a3))]) : lc_Cel)) (h0_3 : σ (2) = some (.inr (1, [.ref (3), .ref (4)]) : lc_Cel)) (h0_4 : σ (3) = some (lc_aI 48 (lc_pt))) (h0_5 : σ (4) = some (lc_aI 72 (lc_sp))) (h0_6 : σ (b) = some (.inr (0, [.ref (b + 1), .int (lc_i (o)), .int (lc_i (t)), .int (lc_i (s)), .int (lc_i (q)), .int (lc_i (m))]) : lc_Cel)) (h0_7 : σ (b + 1) = some (lc_aI 36 (f))) (hf : ∀ j : Int, 0 ≤ j → j < 36 → 0 ≤ f j ∧ f j ≤ 2) (hb : 12 ≤ b) (hp : 0 ≤ p ∧ p < 36) : lc_Con l yX6_coversOf cX6_coversOf 6 (some .int) (lc_Rd 4) [.ref (7), .ref (b), .int (lc_i (p))] n σ (fun v n2 σ2 => ∃ (wk : Int × Int × Int × Int) (c1 c2 c3 : Int), v = some (.int (lc_i (if f p = 0 then 0 else lc_num (fun j : Int => lc_cov f p j) 36))) ∧ n = n2 ∧ σ2 5 = some (.inr (9, [.ref (2), .ref (6), .int (lc_i ((wk).1)), .int (lc_i ((wk).2.1)), .int (lc_i ((wk).2.2.1)), .int (lc_i ((wk).2.2.2))]) : lc_Cel) ∧ σ2 6 = some (.inr (8, [.ref (2), .int (lc_i (c1)), .int (lc_i (c2)), .int (lc_i (c3))]) : lc_Cel) ∧ ∀ i : Nat, i ≠ 5 → i ≠ 6 → σ2 i = σ i) := by
  have hfp := hf p hp.1 hp.2
  refine lc_con RX6 false (by decide) rfl (fun h => absurd h (by decide)) (Nat.le_of_ble_eq_true rfl) ?_
  suffices H : ∀ Q : lc_QT, (∀ v n2 σ2, (fun v n2 σ2 => ∃ (wk : Int × Int × Int × Int) (c1 c2 c3 : Int), v = some (.int (lc_i (if f p = 0 then 0 else lc_num (fun j : Int => lc_cov f p j) 36))) ∧ n = n2 ∧ σ2 5 = some (.inr (9, [.ref (2), .ref (6), .int (lc_i ((wk).1)), .int (lc_i ((wk).2.1)), .int (lc_i ((wk).2.2.1)), .int (lc_i ((wk).2.2.2))]) : lc_Cel) ∧ σ2 6 = some (.inr (8, [.ref (2), .int (lc_i (c1)), .int (lc_i (c2)), .int (lc_i (c3))]) : lc_Cel) ∧ ∀ i : Nat, i ≠ 5 → i ≠ 6 → σ2 i = σ i : lc_QT) v n2 σ2 → Q v n2 σ2) → lc_V l RX6 cX6_coversOf 6 (some .int) false (lc_Rd 4) (lc_G Q 0 0) lc_E0 0 0 n 0 [(0, .ref (7)), (1, .ref (b)), (2, .int (lc_i (p)))] [] σ from H _ (fun _ _ _ h => h)
  intro Q hQ
  refine lc_aload_n dX6_coversOf_0 rfl 1 rfl ?_
  refine lc_iload_n dX6_coversOf_1 rfl 2 rfl ?_
  refine lc_callV (As := [.int (lc_i (p))]) (stk := []) (b := b) dX6_coversOf_2 lc_mX6_37 lc_yX0_at h0_6 rfl (lc_cX0_at l n (b) (f) (o) (t) (s) (q) (m) (p) σ h0_6 h0_7 (by omega)) rfl ⟨Nat.le_of_ble_eq_true rfl, Nat.le_of_ble_eq_true rfl⟩ ⟨Nat.le_of_ble_eq_true rfl, Nat.le_of_ble_eq_true rfl⟩ rfl (Nat.le_of_ble_eq_true rfl) (fun v1 n2 σ3 q4 => ?_)
  obtain ⟨rfl, rfl, rfl⟩ := q4
  refine lc_top (congrArg (fun z => Value.int (lc_i z)) (show (if 0 ≤ (p) ∧ (p) < 36 then (f) (p) else 0 : Int) = f p from by rw [if_pos (by omega)])) ?_
  refine lc_istore_n (lv' := [(0, .ref (7)), (1, .ref (b)), (2, .int (lc_i (p))), (3, .int (lc_i (f p)))]) dX6_coversOf_5 rfl (by decide) rfl ?_
  refine lc_iconst dX6_coversOf_6 ?_
  refine lc_top (congrArg (fun z => Value.int (lc_i z)) (show (0 : Int) = lc_num (fun j : Int => lc_cov f p j) (0 : Int).toNat from rfl)) ?_
  refine lc_istore (lv' := [(0, .ref (7)), (1, .ref (b)), (2, .int (lc_i (p))), (3, .int (lc_i (f p))), (4, .int (lc_i (lc_num (fun j : Int => lc_cov f p j) (0 : Int).toNat)))]) dX6_coversOf_7 (by decide) rfl ?_
  refine lc_iconst dX6_coversOf_9 ?_
  refine lc_istore (lv' := [(0, .ref (7)), (1, .ref (b)), (2, .int (lc_i (p))), (3, .int (lc_i (f p))), (4, .int (lc_i (lc_num (fun j : Int => lc_cov f p j) (0 : Int).toNat))), (5, .int (lc_i (0)))]) dX6_coversOf_10 (by decide) rfl ?_
  have loop6 : ∀ (N5 : Nat) (i : Int) (wi : Int × Int × Int × Int) (e1 : Int) (e2 : Int) (e3 : Int) (σ8 : lc_S), (σ8 (5) = some (.inr (9, [.ref (2), .ref (6), .int (lc_i ((wi).1)), .int (lc_i ((wi).2.1)), .int (lc_i ((wi).2.2.1)), .int (lc_i ((wi).2.2.2))]) : lc_Cel)) → (σ8 (6) = some (.inr (8, [.ref (2), .int (lc_i (e1)), .int (lc_i (e2)), .int (lc_i (e3))]) : lc_Cel)) → (∀ i : Nat, i ≠ 5 → i ≠ 6 → σ8 i = σ i) → (0 ≤ i ∧ i ≤ 36) → (f p = 0 → lc_num (fun j : Int => lc_cov f p j) (i).toNat = 0) → 36 - i < (N5 : Int) → lc_V l RX6 cX6_coversOf 6 (some .int) false (lc_Rd 4) (lc_G Q 0 0) lc_E0 0 0 n 12 [(0, .ref (7)), (1, .ref (b)), (2, .int (lc_i (p))), (3, .int (lc_i (f p))), (4, .int (lc_i (lc_num (fun j : Int => lc_cov f p j) (i).toNat))), (5, .int (lc_i (i)))] [] σ8 := by
    intro N5
    induction N5 with
    | zero =>
      intro i wi e1 e2 e3 σ8 h9 h10 fr11 hi hz hm12
      exact absurd hm12 (by omega)
    | succ N5 ih7 =>
      intro i wi e1 e2 e3 σ8 h9 h10 fr11 hi hz hm12
      have h13 : σ8 (7) = some (.inr (6, [.ref (2), .ref (8), .ref (5)]) : lc_Cel) := (fr11 _ (by omega) (by omega)).trans h0_0
      have h14 : σ8 (2) = some (.inr (1, [.ref (3), .ref (4)]) : lc_Cel) := (fr11 _ (by omega) (by omega)).trans h0_3
      have h15 : σ8 (3) = some (lc_aI 48 (lc_pt)) := (fr11 _ (by omega) (by omega)).trans h0_4
      have h16 : σ8 (4) = some (lc_aI 72 (lc_sp)) := (fr11 _ (by omega) (by omega)).trans h0_5
      have h17 : σ8 (b) = some (.inr (0, [.ref (b + 1), .int (lc_i (o)), .int (lc_i (t)), .int (lc_i (s)), .int (lc_i (q)), .int (lc_i (m))]) : lc_Cel) := (fr11 _ (by omega) (by omega)).trans h0_6
      have h18 : σ8 (b + 1) = some (lc_aI 36 (f)) := (fr11 _ (by omega) (by omega)).trans h0_7
      have hfi : i < 36 → 0 ≤ f i ∧ f i ≤ 2 := fun q9 => hf i hi.1 q9
      refine lc_iload dX6_coversOf_12 5 rfl ?_
      refine lc_bipush dX6_coversOf_14 (by decide) ?_
      refine lc_icmp_ge (tgt := 62) dX6_coversOf_16 (by decide) (by omega) (fun h_16_18 => ?_) (fun h_16_18 => ?_)
      · skip
        refine lc_iload dX6_coversOf_62 4 rfl ?_
        exact lc_iret dX6_coversOf_64 rfl (Nat.le_of_ble_eq_true rfl) (Nat.le_of_ble_eq_true rfl) (hQ _ _ _ ⟨(wi), (e1), (e2), (e3), lc_some (by have e9 := hz; rw [show (i).toNat = 36 from by omega] at e9 ⊢; by_cases q9 : f p = 0; (rw [if_pos q9, e9 q9]); (rw [if_neg q9])), rfl, h9, h10, (fun i _ _ => (fr11 i (by omega) (by omega)))⟩)
      · skip
        refine lc_iload_n dX6_coversOf_19 rfl 3 rfl ?_
        refine lc_if_eq (tgt := 62) dX6_coversOf_20 (by decide) (by omega) (fun h_20_19 => ?_) (fun h_20_19 => ?_)
        · skip
          refine lc_iload dX6_coversOf_62 4 rfl ?_
          exact lc_iret dX6_coversOf_64 rfl (Nat.le_of_ble_eq_true rfl) (Nat.le_of_ble_eq_true rfl) (hQ _ _ _ ⟨(wi), (e1), (e2), (e3), lc_some (by rw [if_pos h_20_19, hz h_20_19]), rfl, h9, h10, (fun i _ _ => (fr11 i (by omega) (by omega)))⟩)
        · skip
          refine lc_iload dX6_coversOf_23 5 rfl ?_
          refine lc_iload_n dX6_coversOf_25 rfl 2 rfl ?_
          refine lc_icmp_eq (tgt := 56) dX6_coversOf_26 (by decide) (by omega) (fun h_26_20 => ?_) (fun h_26_20 => ?_)
          · skip
            refine lc_iinc (lv' := [(0, .ref (7)), (1, .ref (b)), (2, .int (lc_i (p))), (3, .int (lc_i (f p))), (4, .int (lc_i (lc_num (fun j : Int => lc_cov f p j) (i).toNat))), (5, .int (lc_i (i + 1)))]) dX6_coversOf_56 5 rfl (by decide) rfl ?_
            refine lc_goto (tgt := 12) dX6_coversOf_59 (by decide) ?_
            refine lc_lveq (lv' := [(0, .ref (7)), (1, .ref (b)), (2, .int (lc_i (p))), (3, .int (lc_i (f p))), (4, .int (lc_i (lc_num (fun j : Int => lc_cov f p j) (i + 1).toNat))), (5, .int (lc_i (i + 1)))]) (by rw [lc_num_0 (P := (fun j : Int => lc_cov f p j)) (by omega) (fun q9 => (lc_cov_iff.mp q9).1.1 h_26_20)]) ?_
            exact ih7 (i + 1) (wi) (e1) (e2) (e3) σ8 h9 h10 (fun i _ _ => (fr11 i (by omega) (by omega))) (by omega) (fun q9 => absurd q9 h_20_19) (by omega)
          · skip
            refine lc_aload_n dX6_coversOf_29 rfl 1 rfl ?_
            refine lc_iload dX6_coversOf_30 5 rfl ?_
            refine lc_callV (As := [.int (lc_i (i))]) (stk := []) (b := b) dX6_coversOf_32 lc_mX6_37 lc_yX0_at h17 rfl (lc_cX0_at l n (b) (f) (o) (t) (s) (q) (m) (i) σ8 h17 h18 (by omega)) rfl ⟨Nat.le_of_ble_eq_true rfl, Nat.le_of_ble_eq_true rfl⟩ ⟨Nat.le_of_ble_eq_true rfl, Nat.le_of_ble_eq_true rfl⟩ rfl (Nat.le_of_ble_eq_true rfl) (fun v22 n23 σ24 q25 => ?_)
            obtain ⟨rfl, rfl, rfl⟩ := q25
            refine lc_top (congrArg (fun z => Value.int (lc_i z)) (show (if 0 ≤ (i) ∧ (i) < 36 then (f) (i) else 0 : Int) = f i from by rw [if_pos (by omega)])) ?_
            refine lc_iload_n dX6_coversOf_35 rfl 3 rfl ?_
            refine lc_icmp_ne (tgt := 56) dX6_coversOf_36 (by decide) (by omega) (fun h_36_25 => ?_) (fun h_36_25 => ?_)
            · skip
              refine lc_iinc (lv' := [(0, .ref (7)), (1, .ref (b)), (2, .int (lc_i (p))), (3, .int (lc_i (f p))), (4, .int (lc_i (lc_num (fun j : Int => lc_cov f p j) (i).toNat))), (5, .int (lc_i (i + 1)))]) dX6_coversOf_56 5 rfl (by decide) rfl ?_
              refine lc_goto (tgt := 12) dX6_coversOf_59 (by decide) ?_
              refine lc_lveq (lv' := [(0, .ref (7)), (1, .ref (b)), (2, .int (lc_i (p))), (3, .int (lc_i (f p))), (4, .int (lc_i (lc_num (fun j : Int => lc_cov f p j) (i + 1).toNat))), (5, .int (lc_i (i + 1)))]) (by rw [lc_num_0 (P := (fun j : Int => lc_cov f p j)) (by omega) (fun q9 => h_36_25 (lc_cov_iff.mp q9).1.2)]) ?_
              exact ih7 (i + 1) (wi) (e1) (e2) (e3) σ8 h9 h10 (fun i _ _ => (fr11 i (by omega) (by omega))) (by omega) (fun q9 => absurd q9 h_20_19) (by omega)
            · skip
              refine lc_aload_n dX6_coversOf_39 rfl 0 rfl ?_
              refine lc_get dX6_coversOf_40 lc_fX6_24 h13 rfl ?_
              refine lc_aload_n dX6_coversOf_43 rfl 1 rfl ?_
              refine lc_iload dX6_coversOf_44 5 rfl ?_
              refine lc_iload_n dX6_coversOf_46 rfl 2 rfl ?_
              refine lc_callV (As := [.ref (b), .int (lc_i (i)), .int (lc_i (p))]) (stk := []) (b := 5) dX6_coversOf_47 lc_mX6_52 lc_yX9_find h9 rfl (lc_cX9_find l n (e1) (e2) (e3) (wi) (b) (f) (o) (t) (s) (q) (m) (i) (p) σ8 h9 h10 h14 h15 h16 h17 h18 (hf) (hb) (by omega) (by omega)) rfl ⟨Nat.le_of_ble_eq_true rfl, Nat.le_of_ble_eq_true rfl⟩ ⟨Nat.le_of_ble_eq_true rfl, Nat.le_of_ble_eq_true rfl⟩ rfl (Nat.le_of_ble_eq_true rfl) (fun v33 n34 σ35 q36 => ?_)
              obtain ⟨c30, c31, c32, rfl, rfl, h28, h29, fr27⟩ := q36
              have h37 : σ35 (7) = some (.inr (6, [.ref (2), .ref (8), .ref (5)]) : lc_Cel) := (fr27 _ (by omega) (by omega)).trans h13
              have h38 : σ35 (2) = some (.inr (1, [.ref (3), .ref (4)]) : lc_Cel) := (fr27 _ (by omega) (by omega)).trans h14
              have h39 : σ35 (3) = some (lc_aI 48 (lc_pt)) := (fr27 _ (by omega) (by omega)).trans h15
              have h40 : σ35 (4) = some (lc_aI 72 (lc_sp)) := (fr27 _ (by omega) (by omega)).trans h16
              have h41 : σ35 (b) = some (.inr (0, [.ref (b + 1), .int (lc_i (o)), .int (lc_i (t)), .int (lc_i (s)), .int (lc_i (q)), .int (lc_i (m))]) : lc_Cel) := (fr27 _ (by omega) (by omega)).trans h17
              have h42 : σ35 (b + 1) = some (lc_aI 36 (f)) := (fr27 _ (by omega) (by omega)).trans h18
              refine lc_if_eqB (tgt := 56) dX6_coversOf_50 (by decide) (fun h_50_42 => ?_) (fun h_50_42 => ?_)
              · skip
                refine lc_iinc (lv' := [(0, .ref (7)), (1, .ref (b)), (2, .int (lc_i (p))), (3, .int (lc_i (f p))), (4, .int (lc_i (lc_num (fun j : Int => lc_cov f p j) (i).toNat))), (5, .int (lc_i (i + 1)))]) dX6_coversOf_56 5 rfl (by decide) rfl ?_
                refine lc_goto (tgt := 12) dX6_coversOf_59 (by decide) ?_
                refine lc_lveq (lv' := [(0, .ref (7)), (1, .ref (b)), (2, .int (lc_i (p))), (3, .int (lc_i (f p))), (4, .int (lc_i (lc_num (fun j : Int => lc_cov f p j) (i + 1).toNat))), (5, .int (lc_i (i + 1)))]) (by rw [lc_num_0 (P := (fun j : Int => lc_cov f p j)) (by omega) (fun q9 => h_50_42 (by rw [lc_find_1 f i p wi]; exact (lc_cov_iff.mp q9).2))]) ?_
                exact ih7 (i + 1) (lc_find (f) (i) (p) (wi)) (c30) (c31) (c32) σ35 h28 h29 (fun i _ _ => ((fr27 i (by omega) (by omega)).trans (fr11 i (by omega) (by omega)))) (by omega) (fun q9 => absurd q9 h_20_19) (by omega)
              · skip
                refine lc_iinc (lv' := [(0, .ref (7)), (1, .ref (b)), (2, .int (lc_i (p))), (3, .int (lc_i (f p))), (4, .int (lc_i (lc_num (fun j : Int => lc_cov f p j) (i).toNat + 1))), (5, .int (lc_i (i)))]) dX6_coversOf_53 4 rfl (by decide) rfl ?_
                refine lc_iinc (lv' := [(0, .ref (7)), (1, .ref (b)), (2, .int (lc_i (p))), (3, .int (lc_i (f p))), (4, .int (lc_i (lc_num (fun j : Int => lc_cov f p j) (i).toNat + 1))), (5, .int (lc_i (i + 1)))]) dX6_coversOf_56 5 rfl (by decide) rfl ?_
                refine lc_goto (tgt := 12) dX6_coversOf_59 (by decide) ?_
                refine lc_lveq (lv' := [(0, .ref (7)), (1, .ref (b)), (2, .int (lc_i (p))), (3, .int (lc_i (f p))), (4, .int (lc_i (lc_num (fun j : Int => lc_cov f p j) (i + 1).toNat))), (5, .int (lc_i (i + 1)))]) (by rw [lc_num_1 (P := (fun j : Int => lc_cov f p j)) (by omega) (lc_cov_iff.mpr ⟨⟨h_26_20, h_36_25⟩, by rw [← lc_find_1 f i p wi]; exact h_50_42⟩)]) ?_
                exact ih7 (i + 1) (lc_find (f) (i) (p) (wi)) (c30) (c31) (c32) σ35 h28 h29 (fun i _ _ => ((fr27 i (by omega) (by omega)).trans (fr11 i (by omega) (by omega)))) (by omega) (fun q9 => absurd q9 h_20_19) (by omega)
  exact loop6 1000 (0) (w) (a1) (a2) (a3) σ h0_1 h0_2 (fun _ _ _ => rfl) (by omega) (fun _ => rfl) (by omega)

def lc_thr (f : Int → Int) (s p : Int) : Bool := decide (f p = s ∧ 0 < lc_num (fun j : Int => lc_cap f j p) 36)
theorem lc_thr_iff {f : Int → Int} {s p : Int} : lc_thr f s p = true ↔ (f p = s ∧ 0 < lc_num (fun j : Int => lc_cap f j p) 36) := decide_eq_true_iff

set_option maxRecDepth 100000 in
set_option maxHeartbeats 4000000 in
/-- Rules.threatened -/
theorem lc_cX6_threatened (l : Launch) (n : Nat) (a1 a2 a3 : Int) (w : Int × Int × Int × Int) (b : Nat) (f : Int → Int) (o t s q m : Int) (σ : lc_S) (h0_0 : σ (7) = some (.inr (6, [.ref (2), .ref (8), .ref (5)]) : lc_Cel)) (h0_1 : σ (5) = some (.inr (9, [.ref (2), .ref (6), .int (lc_i ((w).1)), .int (lc_i ((w).2.1)), .int (lc_i ((w).2.2.1)), .int (lc_i ((w).2.2.2))]) : lc_Cel)) (h0_2 : σ (6) = some (.inr (8, [.ref (2), .int (lc_i (a1)), .int (lc_i (a2)), .int (lc_i (a3))]) : lc_Cel)) (h0_3 : σ (2) = some (.inr (1, [.ref (3), .ref (4)]) : lc_Cel)) (h0_4 : σ (3) = some (lc_aI 48 (lc_pt))) (h0_5 : σ (4) = some (lc_aI 72 (lc_sp))) (h0_6 : σ (b) = some (.inr (0, [.ref (b + 1), .int (lc_i (o)), .int (lc_i (t)), .int (lc_i (s)), .int (lc_i (q)), .int (lc_i (m))]) : lc_Cel)) (h0_7 : σ (b + 1) = some (lc_aI 36 (f))) (hf : ∀ j : Int, 0 ≤ j → j < 36 → 0 ≤ f j ∧ f j ≤ 2) (hb : 12 ≤ b) (hs : 1 ≤ s ∧ s ≤ 2) : lc_Con l yX6_threatened cX6_threatened 4 (some .int) (lc_Rd 6) [.ref (7), .ref (b)] n σ (fun v n2 σ2 => ∃ (wk : Int × Int × Int × Int) (c1 c2 c3 : Int), v = some (.int (lc_i (lc_num (fun j : Int => lc_thr f s j) 36))) ∧ n = n2 ∧ σ2 5 = some (.inr (9, [.ref (2), .ref (6), .int (lc_i ((wk).1)), .int (lc_i ((wk).2.1)), .int (lc_i ((wk).2.2.1)), .int (lc_i ((wk).2.2.2))]) : lc_Cel) ∧ σ2 6 = some (.inr (8, [.ref (2), .int (lc_i (c1)), .int (lc_i (c2)), .int (lc_i (c3))]) : lc_Cel) ∧ ∀ i : Nat, i ≠ 5 → i ≠ 6 → σ2 i = σ i) := by
  refine lc_con RX6 false (by decide) rfl (fun h => absurd h (by decide)) (Nat.le_of_ble_eq_true rfl) ?_
  suffices H : ∀ Q : lc_QT, (∀ v n2 σ2, (fun v n2 σ2 => ∃ (wk : Int × Int × Int × Int) (c1 c2 c3 : Int), v = some (.int (lc_i (lc_num (fun j : Int => lc_thr f s j) 36))) ∧ n = n2 ∧ σ2 5 = some (.inr (9, [.ref (2), .ref (6), .int (lc_i ((wk).1)), .int (lc_i ((wk).2.1)), .int (lc_i ((wk).2.2.1)), .int (lc_i ((wk).2.2.2))]) : lc_Cel) ∧ σ2 6 = some (.inr (8, [.ref (2), .int (lc_i (c1)), .int (lc_i (c2)), .int (lc_i (c3))]) : lc_Cel) ∧ ∀ i : Nat, i ≠ 5 → i ≠ 6 → σ2 i = σ i : lc_QT) v n2 σ2 → Q v n2 σ2) → lc_V l RX6 cX6_threatened 4 (some .int) false (lc_Rd 6) (lc_G Q 0 0) lc_E0 0 0 n 0 [(0, .ref (7)), (1, .ref (b))] [] σ from H _ (fun _ _ _ h => h)
  intro Q hQ
  refine lc_iconst dX6_threatened_0 ?_
  refine lc_top (congrArg (fun z => Value.int (lc_i z)) (show (0 : Int) = lc_num (fun j : Int => lc_thr f s j) (0 : Int).toNat from rfl)) ?_
  refine lc_istore_n (lv' := [(0, .ref (7)), (1, .ref (b)), (2, .int (lc_i (lc_num (fun j : Int => lc_thr f s j) (0 : Int).toNat)))]) dX6_threatened_1 rfl (by decide) rfl ?_
  refine lc_iconst dX6_threatened_2 ?_
  refine lc_istore_n (lv' := [(0, .ref (7)), (1, .ref (b)), (2, .int (lc_i (lc_num (fun j : Int => lc_thr f s j) (0 : Int).toNat))), (3, .int (lc_i (0)))]) dX6_threatened_3 rfl (by decide) rfl ?_
  have loop2 : ∀ (N1 : Nat) (i : Int) (wi : Int × Int × Int × Int) (e1 : Int) (e2 : Int) (e3 : Int) (σ4 : lc_S), (σ4 (5) = some (.inr (9, [.ref (2), .ref (6), .int (lc_i ((wi).1)), .int (lc_i ((wi).2.1)), .int (lc_i ((wi).2.2.1)), .int (lc_i ((wi).2.2.2))]) : lc_Cel)) → (σ4 (6) = some (.inr (8, [.ref (2), .int (lc_i (e1)), .int (lc_i (e2)), .int (lc_i (e3))]) : lc_Cel)) → (∀ i : Nat, i ≠ 5 → i ≠ 6 → σ4 i = σ i) → (0 ≤ i ∧ i ≤ 36) → 36 - i < (N1 : Int) → lc_V l RX6 cX6_threatened 4 (some .int) false (lc_Rd 6) (lc_G Q 0 0) lc_E0 0 0 n 4 [(0, .ref (7)), (1, .ref (b)), (2, .int (lc_i (lc_num (fun j : Int => lc_thr f s j) (i).toNat))), (3, .int (lc_i (i)))] [] σ4 := by
    intro N1
    induction N1 with
    | zero =>
      intro i wi e1 e2 e3 σ4 h5 h6 fr7 hi hm8
      exact absurd hm8 (by omega)
    | succ N1 ih3 =>
      intro i wi e1 e2 e3 σ4 h5 h6 fr7 hi hm8
      have h9 : σ4 (7) = some (.inr (6, [.ref (2), .ref (8), .ref (5)]) : lc_Cel) := (fr7 _ (by omega) (by omega)).trans h0_0
      have h10 : σ4 (2) = some (.inr (1, [.ref (3), .ref (4)]) : lc_Cel) := (fr7 _ (by omega) (by omega)).trans h0_3
      have h11 : σ4 (3) = some (lc_aI 48 (lc_pt)) := (fr7 _ (by omega) (by omega)).trans h0_4
      have h12 : σ4 (4) = some (lc_aI 72 (lc_sp)) := (fr7 _ (by omega) (by omega)).trans h0_5
      have h13 : σ4 (b) = some (.inr (0, [.ref (b + 1), .int (lc_i (o)), .int (lc_i (t)), .int (lc_i (s)), .int (lc_i (q)), .int (lc_i (m))]) : lc_Cel) := (fr7 _ (by omega) (by omega)).trans h0_6
      have h14 : σ4 (b + 1) = some (lc_aI 36 (f)) := (fr7 _ (by omega) (by omega)).trans h0_7
      have hfi : i < 36 → 0 ≤ f i ∧ f i ≤ 2 := fun q9 => hf i hi.1 q9
      have hnr := lc_num_r (fun j : Int => lc_cap f j i) 36
      refine lc_iload_n dX6_threatened_4 rfl 3 rfl ?_
      refine lc_bipush dX6_threatened_5 (by decide) ?_
      refine lc_icmp_ge (tgt := 40) dX6_threatened_7 (by decide) (by omega) (fun h_7_14 => ?_) (fun h_7_14 => ?_)
      · skip
        refine lc_iload_n dX6_threatened_40 rfl 2 rfl ?_
        exact lc_iret dX6_threatened_41 rfl (Nat.le_of_ble_eq_true rfl) (Nat.le_of_ble_eq_true rfl) (hQ _ _ _ ⟨(wi), (e1), (e2), (e3), by rw [show (i).toNat = 36 from by omega], rfl, h5, h6, (fun i _ _ => (fr7 i (by omega) (by omega)))⟩)
      · skip
        refine lc_aload_n dX6_threatened_10 rfl 1 rfl ?_
        refine lc_iload_n dX6_threatened_11 rfl 3 rfl ?_
        refine lc_callV (As := [.int (lc_i (i))]) (stk := []) (b := b) dX6_threatened_12 lc_mX6_37 lc_yX0_at h13 rfl (lc_cX0_at l n (b) (f) (o) (t) (s) (q) (m) (i) σ4 h13 h14 (by omega)) rfl ⟨Nat.le_of_ble_eq_true rfl, Nat.le_of_ble_eq_true rfl⟩ ⟨Nat.le_of_ble_eq_true rfl, Nat.le_of_ble_eq_true rfl⟩ rfl (Nat.le_of_ble_eq_true rfl) (fun v16 n17 σ18 q19 => ?_)
        obtain ⟨rfl, rfl, rfl⟩ := q19
        refine lc_top (congrArg (fun z => Value.int (lc_i z)) (show (if 0 ≤ (i) ∧ (i) < 36 then (f) (i) else 0 : Int) = f i from by rw [if_pos (by omega)])) ?_
        refine lc_aload_n dX6_threatened_15 rfl 1 rfl ?_
        refine lc_callV (As := []) (stk := [.int (lc_i (f i))]) (b := b) dX6_threatened_16 lc_mX6_34 lc_yX0_sideToMove h13 rfl (lc_cX0_sideToMove l n (b) (f) (o) (t) (s) (q) (m) σ4 h13) rfl ⟨Nat.le_of_ble_eq_true rfl, Nat.le_of_ble_eq_true rfl⟩ ⟨Nat.le_of_ble_eq_true rfl, Nat.le_of_ble_eq_true rfl⟩ rfl (Nat.le_of_ble_eq_true rfl) (fun v20 n21 σ22 q23 => ?_)
        obtain ⟨rfl, rfl, rfl⟩ := q23
        refine lc_icmp_ne (tgt := 34) dX6_threatened_19 (by decide) (by omega) (fun h_19_23 => ?_) (fun h_19_23 => ?_)
        · skip
          refine lc_iinc (lv' := [(0, .ref (7)), (1, .ref (b)), (2, .int (lc_i (lc_num (fun j : Int => lc_thr f s j) (i).toNat))), (3, .int (lc_i (i + 1)))]) dX6_threatened_34 3 rfl (by decide) rfl ?_
          refine lc_goto (tgt := 4) dX6_threatened_37 (by decide) ?_
          refine lc_lveq (lv' := [(0, .ref (7)), (1, .ref (b)), (2, .int (lc_i (lc_num (fun j : Int => lc_thr f s j) (i + 1).toNat))), (3, .int (lc_i (i + 1)))]) (by rw [lc_num_0 (P := (fun j : Int => lc_thr f s j)) (by omega) (fun q9 => h_19_23 (lc_thr_iff.mp q9).1)]) ?_
          exact ih3 (i + 1) (wi) (e1) (e2) (e3) σ4 h5 h6 (fun i _ _ => (fr7 i (by omega) (by omega))) (by omega) (by omega)
        · skip
          refine lc_aload_n dX6_threatened_22 rfl 0 rfl ?_
          refine lc_aload_n dX6_threatened_23 rfl 1 rfl ?_
          refine lc_iload_n dX6_threatened_24 rfl 3 rfl ?_
          refine lc_callV (As := [.ref (b), .int (lc_i (i))]) (stk := []) (b := 7) dX6_threatened_25 lc_mX6_62 lc_yX6_threatsTo h9 rfl (lc_cX6_threatsTo l n (e1) (e2) (e3) (wi) (b) (f) (o) (t) (s) (q) (m) (i) σ4 h9 h5 h6 h10 h11 h12 h13 h14 (hf) (hb) (by omega)) rfl ⟨Nat.le_of_ble_eq_true rfl, Nat.le_of_ble_eq_true rfl⟩ ⟨Nat.le_of_ble_eq_true rfl, Nat.le_of_ble_eq_true rfl⟩ rfl (Nat.le_of_ble_eq_true rfl) (fun v32 n33 σ34 q35 => ?_)
          obtain ⟨wk28, c29, c30, c31, rfl, rfl, h26, h27, fr25⟩ := q35
          have h36 : σ34 (7) = some (.inr (6, [.ref (2), .ref (8), .ref (5)]) : lc_Cel) := (fr25 _ (by omega) (by omega)).trans h9
          have h37 : σ34 (2) = some (.inr (1, [.ref (3), .ref (4)]) : lc_Cel) := (fr25 _ (by omega) (by omega)).trans h10
          have h38 : σ34 (3) = some (lc_aI 48 (lc_pt)) := (fr25 _ (by omega) (by omega)).trans h11
          have h39 : σ34 (4) = some (lc_aI 72 (lc_sp)) := (fr25 _ (by omega) (by omega)).trans h12
          have h40 : σ34 (b) = some (.inr (0, [.ref (b + 1), .int (lc_i (o)), .int (lc_i (t)), .int (lc_i (s)), .int (lc_i (q)), .int (lc_i (m))]) : lc_Cel) := (fr25 _ (by omega) (by omega)).trans h13
          have h41 : σ34 (b + 1) = some (lc_aI 36 (f)) := (fr25 _ (by omega) (by omega)).trans h14
          refine lc_if_le (tgt := 34) dX6_threatened_28 (by decide) (by omega) (fun h_28_41 => ?_) (fun h_28_41 => ?_)
          · skip
            refine lc_iinc (lv' := [(0, .ref (7)), (1, .ref (b)), (2, .int (lc_i (lc_num (fun j : Int => lc_thr f s j) (i).toNat))), (3, .int (lc_i (i + 1)))]) dX6_threatened_34 3 rfl (by decide) rfl ?_
            refine lc_goto (tgt := 4) dX6_threatened_37 (by decide) ?_
            refine lc_lveq (lv' := [(0, .ref (7)), (1, .ref (b)), (2, .int (lc_i (lc_num (fun j : Int => lc_thr f s j) (i + 1).toNat))), (3, .int (lc_i (i + 1)))]) (by rw [lc_num_0 (P := (fun j : Int => lc_thr f s j)) (by omega) (fun q9 => absurd (lc_thr_iff.mp q9).2 (by omega))]) ?_
            exact ih3 (i + 1) (wk28) (c29) (c30) (c31) σ34 h26 h27 (fun i _ _ => ((fr25 i (by omega) (by omega)).trans (fr7 i (by omega) (by omega)))) (by omega) (by omega)
          · skip
            refine lc_iinc (lv' := [(0, .ref (7)), (1, .ref (b)), (2, .int (lc_i (lc_num (fun j : Int => lc_thr f s j) (i).toNat + 1))), (3, .int (lc_i (i)))]) dX6_threatened_31 2 rfl (by decide) rfl ?_
            refine lc_iinc (lv' := [(0, .ref (7)), (1, .ref (b)), (2, .int (lc_i (lc_num (fun j : Int => lc_thr f s j) (i).toNat + 1))), (3, .int (lc_i (i + 1)))]) dX6_threatened_34 3 rfl (by decide) rfl ?_
            refine lc_goto (tgt := 4) dX6_threatened_37 (by decide) ?_
            refine lc_lveq (lv' := [(0, .ref (7)), (1, .ref (b)), (2, .int (lc_i (lc_num (fun j : Int => lc_thr f s j) (i + 1).toNat))), (3, .int (lc_i (i + 1)))]) (by rw [lc_num_1 (P := (fun j : Int => lc_thr f s j)) (by omega) (lc_thr_iff.mpr ⟨h_19_23, by omega⟩)]) ?_
            exact ih3 (i + 1) (wk28) (c29) (c30) (c31) σ34 h26 h27 (fun i _ _ => ((fr25 i (by omega) (by omega)).trans (fr7 i (by omega) (by omega)))) (by omega) (by omega)
  exact loop2 1000 (0) (w) (a1) (a2) (a3) σ h0_1 h0_2 (fun _ _ _ => rfl) (by omega) (by omega)

theorem lc_bif_t {c x y : Bool} (h : c = true) : (bif c then x else y) = x := by rw [h]; rfl
theorem lc_bif_f {c x y : Bool} (h : ¬ c = true) : (bif c then x else y) = y := by
  cases c
  · rfl
  · exact absurd rfl h
theorem lc_cc (f : Int → Int) : (0 ≤ lc_cnt f 1 36 ∧ lc_cnt f 1 36 ≤ 36) ∧ (0 ≤ lc_cnt f 2 36 ∧ lc_cnt f 2 36 ≤ 36) := ⟨lc_cnt_r f 1 36, lc_cnt_r f 2 36⟩

set_option maxRecDepth 100000 in
set_option maxHeartbeats 4000000 in
/-- Rules.whyNot -/
theorem lc_cX6_whyNot (l : Launch) (n : Nat) (a1 a2 a3 : Int) (w : Int × Int × Int × Int) (b : Nat) (f : Int → Int) (s q m : Int) (fr to : Int) (c : Bool) (σ : lc_S) (h0_0 : σ (7) = some (.inr (6, [.ref (2), .ref (8), .ref (5)]) : lc_Cel)) (h0_1 : σ (5) = some (.inr (9, [.ref (2), .ref (6), .int (lc_i ((w).1)), .int (lc_i ((w).2.1)), .int (lc_i ((w).2.2.1)), .int (lc_i ((w).2.2.2))]) : lc_Cel)) (h0_2 : σ (6) = some (.inr (8, [.ref (2), .int (lc_i (a1)), .int (lc_i (a2)), .int (lc_i (a3))]) : lc_Cel)) (h0_3 : σ (2) = some (.inr (1, [.ref (3), .ref (4)]) : lc_Cel)) (h0_4 : σ (3) = some (lc_aI 48 (lc_pt))) (h0_5 : σ (4) = some (lc_aI 72 (lc_sp))) (h0_6 : σ (b) = some (.inr (0, [.ref (b + 1), .int (lc_i (lc_cnt (f) 1 36)), .int (lc_i (lc_cnt (f) 2 36)), .int (lc_i (s)), .int (lc_i (q)), .int (lc_i (m))]) : lc_Cel)) (h0_7 : σ (b + 1) = some (lc_aI 36 (f))) (hf : ∀ j : Int, 0 ≤ j → j < 36 → 0 ≤ f j ∧ f j ≤ 2) (hb : 12 ≤ b) (hs : 1 ≤ s ∧ s ≤ 2) (hq : -2147483648 ≤ q ∧ q < 2147483648) (hm : -2147483648 ≤ m ∧ m < 2147483648) (hfr : 0 ≤ fr ∧ fr < 36) (hto : 0 ≤ to ∧ to < 36) : lc_Con l yX6_whyNot cX6_whyNot 7 (some .int) (lc_Rd 5) [.ref (7), .ref (b), .int (lc_i (fr)), .int (lc_i (to)), .int (lc_i (if c = true then 1 else 0))] n σ (fun v n2 σ2 => ∃ (wk : Int × Int × Int × Int) (c1 c2 c3 : Int), v = some (.int (lc_i (lc_why f s q m fr to c))) ∧ n = n2 ∧ σ2 5 = some (.inr (9, [.ref (2), .ref (6), .int (lc_i ((wk).1)), .int (lc_i ((wk).2.1)), .int (lc_i ((wk).2.2.1)), .int (lc_i ((wk).2.2.2))]) : lc_Cel) ∧ σ2 6 = some (.inr (8, [.ref (2), .int (lc_i (c1)), .int (lc_i (c2)), .int (lc_i (c3))]) : lc_Cel) ∧ ∀ i : Nat, i ≠ 5 → i ≠ 6 → σ2 i = σ i) := by
  have hr1 := lc_res_r (lc_cnt f 1 36) (lc_cnt f 2 36) q m
  have hf1 := hf fr hfr.1 hfr.2
  have hf2 := hf to hto.1 hto.2
  refine lc_con RX6 false (by decide) rfl (fun h => absurd h (by decide)) (Nat.le_of_ble_eq_true rfl) ?_
  suffices H : ∀ Q : lc_QT, (∀ v n2 σ2, (fun v n2 σ2 => ∃ (wk : Int × Int × Int × Int) (c1 c2 c3 : Int), v = some (.int (lc_i (lc_why f s q m fr to c))) ∧ n = n2 ∧ σ2 5 = some (.inr (9, [.ref (2), .ref (6), .int (lc_i ((wk).1)), .int (lc_i ((wk).2.1)), .int (lc_i ((wk).2.2.1)), .int (lc_i ((wk).2.2.2))]) : lc_Cel) ∧ σ2 6 = some (.inr (8, [.ref (2), .int (lc_i (c1)), .int (lc_i (c2)), .int (lc_i (c3))]) : lc_Cel) ∧ ∀ i : Nat, i ≠ 5 → i ≠ 6 → σ2 i = σ i : lc_QT) v n2 σ2 → Q v n2 σ2) → lc_V l RX6 cX6_whyNot 7 (some .int) false (lc_Rd 5) (lc_G Q 0 0) lc_E0 0 0 n 0 [(0, .ref (7)), (1, .ref (b)), (2, .int (lc_i (fr))), (3, .int (lc_i (to))), (4, .int (lc_i (if c = true then 1 else 0)))] [] σ from H _ (fun _ _ _ h => h)
  intro Q hQ
  refine lc_aload_n dX6_whyNot_0 rfl 1 rfl ?_
  refine lc_callV (As := []) (stk := []) (b := b) dX6_whyNot_1 lc_mX6_28 lc_yX0_result h0_6 rfl (lc_cX0_result l n (b) (f) (lc_cnt (f) 1 36) (lc_cnt (f) 2 36) (s) (q) (m) σ h0_6 (lc_cnt_r _ _ 36) (lc_cnt_r _ _ 36) (by omega) (by omega)) rfl ⟨Nat.le_of_ble_eq_true rfl, Nat.le_of_ble_eq_true rfl⟩ ⟨Nat.le_of_ble_eq_true rfl, Nat.le_of_ble_eq_true rfl⟩ rfl (Nat.le_of_ble_eq_true rfl) (fun v1 n2 σ3 q4 => ?_)
  obtain ⟨rfl, rfl, rfl⟩ := q4
  refine lc_if_eq (tgt := 9) dX6_whyNot_4 (by decide) (by omega) (fun h_4_4 => ?_) (fun h_4_4 => ?_)
  · skip
    refine lc_aload_n dX6_whyNot_9 rfl 1 rfl ?_
    refine lc_callV (As := []) (stk := []) (b := b) dX6_whyNot_10 lc_mX6_34 lc_yX0_sideToMove h0_6 rfl (lc_cX0_sideToMove l n (b) (f) (lc_cnt (f) 1 36) (lc_cnt (f) 2 36) (s) (q) (m) σ h0_6) rfl ⟨Nat.le_of_ble_eq_true rfl, Nat.le_of_ble_eq_true rfl⟩ ⟨Nat.le_of_ble_eq_true rfl, Nat.le_of_ble_eq_true rfl⟩ rfl (Nat.le_of_ble_eq_true rfl) (fun v6 n7 σ8 q9 => ?_)
    obtain ⟨rfl, rfl, rfl⟩ := q9
    refine lc_istore (lv' := [(0, .ref (7)), (1, .ref (b)), (2, .int (lc_i (fr))), (3, .int (lc_i (to))), (4, .int (lc_i (if c = true then 1 else 0))), (5, .int (lc_i (s)))]) dX6_whyNot_13 (by decide) rfl ?_
    refine lc_aload_n dX6_whyNot_15 rfl 1 rfl ?_
    refine lc_iload_n dX6_whyNot_16 rfl 2 rfl ?_
    refine lc_callV (As := [.int (lc_i (fr))]) (stk := []) (b := b) dX6_whyNot_17 lc_mX6_37 lc_yX0_at h0_6 rfl (lc_cX0_at l n (b) (f) (lc_cnt (f) 1 36) (lc_cnt (f) 2 36) (s) (q) (m) (fr) σ h0_6 h0_7 (by omega)) rfl ⟨Nat.le_of_ble_eq_true rfl, Nat.le_of_ble_eq_true rfl⟩ ⟨Nat.le_of_ble_eq_true rfl, Nat.le_of_ble_eq_true rfl⟩ rfl (Nat.le_of_ble_eq_true rfl) (fun v10 n11 σ12 q13 => ?_)
    obtain ⟨rfl, rfl, rfl⟩ := q13
    refine lc_top (congrArg (fun z => Value.int (lc_i z)) (show (if 0 ≤ (fr) ∧ (fr) < 36 then (f) (fr) else 0 : Int) = f fr from by rw [if_pos (by omega)])) ?_
    refine lc_iload dX6_whyNot_20 5 rfl ?_
    refine lc_icmp_eq (tgt := 27) dX6_whyNot_22 (by decide) (by omega) (fun h_22_13 => ?_) (fun h_22_13 => ?_)
    · skip
      refine lc_aload_n dX6_whyNot_27 rfl 1 rfl ?_
      refine lc_iload_n dX6_whyNot_28 rfl 3 rfl ?_
      refine lc_callV (As := [.int (lc_i (to))]) (stk := []) (b := b) dX6_whyNot_29 lc_mX6_37 lc_yX0_at h0_6 rfl (lc_cX0_at l n (b) (f) (lc_cnt (f) 1 36) (lc_cnt (f) 2 36) (s) (q) (m) (to) σ h0_6 h0_7 (by omega)) rfl ⟨Nat.le_of_ble_eq_true rfl, Nat.le_of_ble_eq_true rfl⟩ ⟨Nat.le_of_ble_eq_true rfl, Nat.le_of_ble_eq_true rfl⟩ rfl (Nat.le_of_ble_eq_true rfl) (fun v15 n16 σ17 q18 => ?_)
      obtain ⟨rfl, rfl, rfl⟩ := q18
      refine lc_top (congrArg (fun z => Value.int (lc_i z)) (show (if 0 ≤ (to) ∧ (to) < 36 then (f) (to) else 0 : Int) = f to from by rw [if_pos (by omega)])) ?_
      refine lc_iload dX6_whyNot_32 5 rfl ?_
      refine lc_icmp_ne (tgt := 39) dX6_whyNot_34 (by decide) (by omega) (fun h_34_18 => ?_) (fun h_34_18 => ?_)
      · skip
        refine lc_iload dX6_whyNot_39 4 rfl ?_
        refine lc_if_eqB (tgt := 54) dX6_whyNot_41 (by decide) (fun h_41_19 => ?_) (fun h_41_19 => ?_)
        · skip
          refine lc_aload_n dX6_whyNot_54 rfl 1 rfl ?_
          refine lc_iload_n dX6_whyNot_55 rfl 2 rfl ?_
          refine lc_iload_n dX6_whyNot_56 rfl 3 rfl ?_
          refine lc_callS (As := [.ref (b), .int (lc_i (fr)), .int (lc_i (to))]) (stk := []) dX6_whyNot_57 lc_mX6_45 lc_yX6_couldStep (lc_cX6_couldStep l n (b) (f) (lc_cnt (f) 1 36) (lc_cnt (f) 2 36) (s) (q) (m) (fr) (to) σ h0_6 h0_7 (hf) (by omega) (by omega)) rfl ⟨Nat.le_of_ble_eq_true rfl, Nat.le_of_ble_eq_true rfl⟩ ⟨Nat.le_of_ble_eq_true rfl, Nat.le_of_ble_eq_true rfl⟩ rfl (Nat.le_of_ble_eq_true rfl) (fun v21 n22 σ23 q24 => ?_)
          obtain ⟨rfl, rfl, rfl⟩ := q24
          refine lc_istore (lv' := [(0, .ref (7)), (1, .ref (b)), (2, .int (lc_i (fr))), (3, .int (lc_i (to))), (4, .int (lc_i (if c = true then 1 else 0))), (5, .int (lc_i (s))), (6, .int (lc_i (if (lc_step (f) (fr) (to) = true) then 1 else 0)))]) dX6_whyNot_60 (by decide) rfl ?_
          refine lc_iload dX6_whyNot_62 6 rfl ?_
          refine lc_if_eqB (tgt := 71) dX6_whyNot_64 (by decide) (fun h_64_24 => ?_) (fun h_64_24 => ?_)
          · skip
            refine lc_iconst dX6_whyNot_71 ?_
            exact lc_iret dX6_whyNot_72 rfl (Nat.le_of_ble_eq_true rfl) (Nat.le_of_ble_eq_true rfl) (hQ _ _ _ ⟨(w), (a1), (a2), (a3), lc_some (by unfold lc_why; rw [if_neg (fun q9 => q9 h_4_4), if_neg (fun q9 => q9 h_22_13), if_neg h_34_18, lc_bif_f h_41_19, if_neg h_64_24]), rfl, h0_1, h0_2, (fun i _ _ => rfl)⟩)
          · skip
            refine lc_iconst dX6_whyNot_67 ?_
            refine lc_goto (tgt := 72) dX6_whyNot_68 (by decide) ?_
            exact lc_iret dX6_whyNot_72 rfl (Nat.le_of_ble_eq_true rfl) (Nat.le_of_ble_eq_true rfl) (hQ _ _ _ ⟨(w), (a1), (a2), (a3), lc_some (by unfold lc_why; rw [if_neg (fun q9 => q9 h_4_4), if_neg (fun q9 => q9 h_22_13), if_neg h_34_18, lc_bif_f h_41_19, if_pos h_64_24]), rfl, h0_1, h0_2, (fun i _ _ => rfl)⟩)
        · skip
          refine lc_aload_n dX6_whyNot_44 rfl 0 rfl ?_
          refine lc_aload_n dX6_whyNot_45 rfl 1 rfl ?_
          refine lc_iload_n dX6_whyNot_46 rfl 2 rfl ?_
          refine lc_iload_n dX6_whyNot_47 rfl 3 rfl ?_
          refine lc_callV (As := [.ref (b), .int (lc_i (fr)), .int (lc_i (to))]) (stk := []) (b := 7) dX6_whyNot_48 lc_mX6_41 lc_yX6_couldCapture h0_0 rfl (lc_cX6_couldCapture l n (a1) (a2) (a3) (w) (b) (f) (lc_cnt (f) 1 36) (lc_cnt (f) 2 36) (s) (q) (m) (fr) (to) σ h0_0 h0_1 h0_2 h0_3 h0_4 h0_5 h0_6 h0_7 (hf) (hb) (by omega) (by omega)) rfl ⟨Nat.le_of_ble_eq_true rfl, Nat.le_of_ble_eq_true rfl⟩ ⟨Nat.le_of_ble_eq_true rfl, Nat.le_of_ble_eq_true rfl⟩ rfl (Nat.le_of_ble_eq_true rfl) (fun v34 n35 σ36 q37 => ?_)
          obtain ⟨wk29, c30, c31, c32, rfl, rfl, h27, h28, he33, fr26⟩ := q37
          have h38 : σ36 (7) = some (.inr (6, [.ref (2), .ref (8), .ref (5)]) : lc_Cel) := (fr26 _ (by omega) (by omega)).trans h0_0
          have h39 : σ36 (2) = some (.inr (1, [.ref (3), .ref (4)]) : lc_Cel) := (fr26 _ (by omega) (by omega)).trans h0_3
          have h40 : σ36 (3) = some (lc_aI 48 (lc_pt)) := (fr26 _ (by omega) (by omega)).trans h0_4
          have h41 : σ36 (4) = some (lc_aI 72 (lc_sp)) := (fr26 _ (by omega) (by omega)).trans h0_5
          have h42 : σ36 (b) = some (.inr (0, [.ref (b + 1), .int (lc_i (lc_cnt (f) 1 36)), .int (lc_i (lc_cnt (f) 2 36)), .int (lc_i (s)), .int (lc_i (q)), .int (lc_i (m))]) : lc_Cel) := (fr26 _ (by omega) (by omega)).trans h0_6
          have h43 : σ36 (b + 1) = some (lc_aI 36 (f)) := (fr26 _ (by omega) (by omega)).trans h0_7
          refine lc_goto (tgt := 60) dX6_whyNot_51 (by decide) ?_
          refine lc_istore (lv' := [(0, .ref (7)), (1, .ref (b)), (2, .int (lc_i (fr))), (3, .int (lc_i (to))), (4, .int (lc_i (if c = true then 1 else 0))), (5, .int (lc_i (s))), (6, .int (lc_i (if (lc_cap (f) (fr) (to) = true) then 1 else 0)))]) dX6_whyNot_60 (by decide) rfl ?_
          refine lc_iload dX6_whyNot_62 6 rfl ?_
          refine lc_if_eqB (tgt := 71) dX6_whyNot_64 (by decide) (fun h_64_43 => ?_) (fun h_64_43 => ?_)
          · skip
            refine lc_iconst dX6_whyNot_71 ?_
            exact lc_iret dX6_whyNot_72 rfl (Nat.le_of_ble_eq_true rfl) (Nat.le_of_ble_eq_true rfl) (hQ _ _ _ ⟨(wk29), (c30), (c31), (c32), lc_some (by unfold lc_why; rw [if_neg (fun q9 => q9 h_4_4), if_neg (fun q9 => q9 h_22_13), if_neg h_34_18, lc_bif_t h_41_19, if_neg h_64_43]), rfl, h27, h28, (fun i _ _ => (fr26 i (by omega) (by omega)))⟩)
          · skip
            refine lc_iconst dX6_whyNot_67 ?_
            refine lc_goto (tgt := 72) dX6_whyNot_68 (by decide) ?_
            exact lc_iret dX6_whyNot_72 rfl (Nat.le_of_ble_eq_true rfl) (Nat.le_of_ble_eq_true rfl) (hQ _ _ _ ⟨(wk29), (c30), (c31), (c32), lc_some (by unfold lc_why; rw [if_neg (fun q9 => q9 h_4_4), if_neg (fun q9 => q9 h_22_13), if_neg h_34_18, lc_bif_t h_41_19, if_pos h_64_43]), rfl, h27, h28, (fun i _ _ => (fr26 i (by omega) (by omega)))⟩)
      · skip
        refine lc_iconst dX6_whyNot_37 ?_
        exact lc_iret dX6_whyNot_38 rfl (Nat.le_of_ble_eq_true rfl) (Nat.le_of_ble_eq_true rfl) (hQ _ _ _ ⟨(w), (a1), (a2), (a3), lc_some (by unfold lc_why; rw [if_neg (fun q9 => q9 h_4_4), if_neg (fun q9 => q9 h_22_13), if_pos h_34_18]), rfl, h0_1, h0_2, (fun i _ _ => rfl)⟩)
    · skip
      refine lc_iconst dX6_whyNot_25 ?_
      exact lc_iret dX6_whyNot_26 rfl (Nat.le_of_ble_eq_true rfl) (Nat.le_of_ble_eq_true rfl) (hQ _ _ _ ⟨(w), (a1), (a2), (a3), lc_some (by unfold lc_why; rw [if_neg (fun q9 => q9 h_4_4), if_pos h_22_13]), rfl, h0_1, h0_2, (fun i _ _ => rfl)⟩)
  · skip
    refine lc_iconst dX6_whyNot_7 ?_
    exact lc_iret dX6_whyNot_8 rfl (Nat.le_of_ble_eq_true rfl) (Nat.le_of_ble_eq_true rfl) (hQ _ _ _ ⟨(w), (a1), (a2), (a3), lc_some (by unfold lc_why; rw [if_pos h_4_4]), rfl, h0_1, h0_2, (fun i _ _ => rfl)⟩)
end
section
/-! lists of moves: ascending stretches of an array, by their members -/
def lc_asc (g : Int → Int) (lo hi : Int) : Prop := ∀ i j : Int, lo ≤ i → i < j → j < hi → g i < g j
def lc_has (g : Int → Int) (lo hi v : Int) : Prop := ∃ i : Int, (lo ≤ i ∧ i < hi) ∧ g i = v
def lc_insd (g : Int → Int) (z v : Int) (g' : Int → Int) (z' : Int) : Prop := (z ≤ z' ∧ z' ≤ z + 1) ∧ lc_asc g' 0 z' ∧ ∀ x : Int, lc_has g' 0 z' x ↔ (x = v ∨ lc_has g 0 z x)
theorem lc_insd_n {g h : Int → Int} {z v r : Int} (ha : lc_asc g 0 z) (hr : 0 ≤ r ∧ r ≤ z) (h1 : ∀ i : Int, r ≤ i → i < z → v < g i) (h2 : r = 0 ∨ g (r - 1) < v) (hl : ∀ j : Int, j ≤ r → h j = g j) (hh : ∀ j : Int, r < j → j ≤ z → h j = g (j - 1)) : lc_insd g z v (lc_u h r v) (z + 1) := by
  have hlow : ∀ i : Int, 0 ≤ i → i < r → g i < v := by
    intro i h3 h4
    rcases h2 with e | e
    · omega
    · by_cases h5 : i = r - 1
      · rw [h5]; exact e
      · have := ha i (r - 1) h3 (by omega) (by omega)
        omega
  have e1 : ∀ i : Int, i < r → lc_u h r v i = g i := fun i h3 => by rw [lc_u_n _ _ (by omega)]; exact hl i (by omega)
  have e2 : lc_u h r v r = v := lc_u_s _ _ _
  have e3 : ∀ i : Int, r < i → i ≤ z → lc_u h r v i = g (i - 1) := fun i h3 h4 => by rw [lc_u_n _ _ (by omega)]; exact hh i h3 h4
  refine ⟨by omega, fun i j hi hij hj => ?_, fun x => ⟨?_, ?_⟩⟩
  · by_cases h3 : i < r
    · rw [e1 i h3]
      by_cases h4 : j < r
      · rw [e1 j h4]; exact ha i j hi hij (by omega)
      · by_cases h5 : j = r
        · rw [h5, e2]; exact hlow i hi h3
        · rw [e3 j (by omega) (by omega)]
          by_cases h6 : i = j - 1
          · omega
          · exact ha i (j - 1) hi (by omega) (by omega)
    · by_cases h4 : i = r
      · rw [h4, e2, e3 j (by omega) (by omega)]; exact h1 (j - 1) (by omega) (by omega)
      · rw [e3 i (by omega) (by omega), e3 j (by omega) (by omega)]; exact ha (i - 1) (j - 1) (by omega) (by omega) (by omega)
  · rintro ⟨i, hi, rfl⟩
    by_cases h3 : i < r
    · exact Or.inr ⟨i, by omega, (e1 i h3).symm⟩
    · by_cases h4 : i = r
      · exact Or.inl (by rw [h4, e2])
      · exact Or.inr ⟨i - 1, by omega, (e3 i (by omega) (by omega)).symm⟩
  · rintro (rfl | ⟨i, hi, rfl⟩)
    · exact ⟨r, by omega, e2⟩
    · by_cases h3 : i < r
      · exact ⟨i, by omega, e1 i h3⟩
      · exact ⟨i + 1, by omega, by rw [e3 (i + 1) (by omega) (by omega), show i + 1 - 1 = i by omega]⟩
theorem lc_insd_o {g : Int → Int} {z v r : Int} (ha : lc_asc g 0 z) (hr : 0 < r ∧ r ≤ z) (h : g (r - 1) = v) : lc_insd g z v g z := by
  refine ⟨by omega, ha, fun x => ⟨fun h1 => Or.inr h1, ?_⟩⟩
  rintro (rfl | h1)
  · exact ⟨r - 1, by omega, h⟩
  · exact h1
/-- rows of moves -/
def lc_row (P : Int → Int → Bool) (fr : Int) : Nat → List Int
  | 0 => []
  | to + 1 => lc_row P fr to ++ (if P fr to = true then [fr * 100 + (to : Int)] else [])
def lc_aal (P : Int → Int → Bool) (w : Nat) : Nat → List Int
  | 0 => []
  | fr + 1 => lc_aal P w fr ++ lc_row P fr w
theorem lc_aal_s (P : Int → Int → Bool) (w N : Nat) : lc_aal P w (N + 1) = lc_aal P w N ++ lc_row P N w := rfl
theorem lc_row_mem {P : Int → Int → Bool} {fr x : Int} : ∀ {N : Nat}, x ∈ lc_row P fr N ↔ ∃ to : Int, (0 ≤ to ∧ to < N) ∧ P fr to = true ∧ x = fr * 100 + to
  | 0 => by
    constructor
    · intro h; exact absurd h List.not_mem_nil
    · rintro ⟨to, h1, -⟩; omega
  | N + 1 => by
    unfold lc_row
    rw [List.mem_append, lc_row_mem (N := N)]
    constructor
    · rintro (⟨to, h1, h2, h3⟩ | h)
      · exact ⟨to, by omega, h2, h3⟩
      · by_cases hp : P fr N = true
        · rw [if_pos hp] at h
          exact ⟨N, by omega, hp, List.mem_singleton.mp h⟩
        · rw [if_neg hp] at h
          exact absurd h List.not_mem_nil
    · rintro ⟨to, h1, h2, h3⟩
      by_cases ht : to = N
      · subst ht
        exact Or.inr (by rw [if_pos h2, h3]; exact List.mem_singleton.mpr rfl)
      · exact Or.inl ⟨to, by omega, h2, h3⟩
theorem lc_aal_mem {P : Int → Int → Bool} {w : Nat} {x : Int} : ∀ {N : Nat}, x ∈ lc_aal P w N ↔ ∃ fr to : Int, (0 ≤ fr ∧ fr < N) ∧ (0 ≤ to ∧ to < w) ∧ P fr to = true ∧ x = fr * 100 + to
  | 0 => by
    constructor
    · intro h; exact absurd h List.not_mem_nil
    · rintro ⟨fr, to, h1, -⟩; omega
  | N + 1 => by
    rw [lc_aal_s, List.mem_append, lc_aal_mem (N := N), lc_row_mem]
    constructor
    · rintro (⟨fr, to, h1, h2⟩ | ⟨to, h1, h2, h3⟩)
      · exact ⟨fr, to, by omega, h2⟩
      · exact ⟨N, to, by omega, by omega, h2, h3⟩
    · rintro ⟨fr, to, h1, h2, h3, h4⟩
      by_cases hf : fr = N
      · subst hf
        exact Or.inr ⟨to, by omega, h3, h4⟩
      · exact Or.inl ⟨fr, to, by omega, h2, h3, h4⟩
def lc_srt : List Int → Prop
  | [] => True
  | x :: r => (∀ y ∈ r, x < y) ∧ lc_srt r
theorem lc_srt_app : ∀ {a b : List Int}, lc_srt a → lc_srt b → (∀ x ∈ a, ∀ y ∈ b, x < y) → lc_srt (a ++ b)
  | [], _, _, hb, _ => hb
  | x :: r, b, ha, hb, h => ⟨fun y hy => (List.mem_append.mp hy).elim (ha.1 y) (h x List.mem_cons_self y), lc_srt_app ha.2 hb (fun u hu => h u (List.mem_cons_of_mem _ hu))⟩
theorem lc_row_srt {P : Int → Int → Bool} {fr : Int} : ∀ N : Nat, lc_srt (lc_row P fr N)
  | 0 => trivial
  | N + 1 => by
    unfold lc_row
    refine lc_srt_app (lc_row_srt N) ?_ ?_
    · split
      · exact ⟨fun y hy => absurd hy List.not_mem_nil, trivial⟩
      · trivial
    · intro x hx y hy
      obtain ⟨to, h1, -, rfl⟩ := lc_row_mem.mp hx
      by_cases hp : P fr N = true
      · rw [if_pos hp] at hy
        rw [List.mem_singleton.mp hy]
        omega
      · rw [if_neg hp] at hy
        exact absurd hy List.not_mem_nil
theorem lc_aal_srt {P : Int → Int → Bool} {w : Nat} (hw : w ≤ 100) : ∀ N : Nat, lc_srt (lc_aal P w N)
  | 0 => trivial
  | N + 1 => by
    rw [lc_aal_s]
    refine lc_srt_app (lc_aal_srt hw N) (lc_row_srt w) ?_
    intro x hx y hy
    obtain ⟨fr, to, h1, h2, -, rfl⟩ := lc_aal_mem.mp hx
    obtain ⟨t2, h3, -, rfl⟩ := lc_row_mem.mp hy
    omega
/-- an ascending stretch with the members of a sorted list is that list -/
theorem lc_uniq {g : Int → Int} : ∀ (L : List Int) {lo hi : Int}, lo ≤ hi → lc_srt L → lc_asc g lo hi → (∀ x : Int, lc_has g lo hi x ↔ x ∈ L) → hi = lo + L.length ∧ ∀ i : Nat, i < L.length → g (lo + i) = L.getD i 0
  | [], lo, hi, hle, _, _, hm => by
    refine ⟨?_, fun i h => absurd h (Nat.not_lt_zero i)⟩
    by_cases h : lo < hi
    · exact absurd ((hm (g lo)).mp ⟨lo, by omega, rfl⟩) List.not_mem_nil
    · show hi = lo + ((0 : Nat) : Int)
      omega
  | x :: r, lo, hi, hle, hs, ha, hm => by
    obtain ⟨i, hi1, hi2⟩ := (hm x).mpr List.mem_cons_self
    have hlo : lo < hi := by omega
    have hg : g lo = x := by
      rcases List.mem_cons.mp ((hm (g lo)).mp ⟨lo, by omega, rfl⟩) with h | h
      · exact h
      · have h1 := hs.1 _ h
        by_cases h2 : i = lo
        · rw [← hi2, h2]
        · have := ha lo i (by omega) (by omega) hi1.2
          omega
    have hi0 : ∀ j : Int, lo < j → j < hi → x < g j := fun j h1 h2 => by rw [← hg]; exact ha lo j (by omega) h1 h2
    obtain ⟨e1, e2⟩ := lc_uniq (g := g) r (lo := lo + 1) (hi := hi) (by omega) hs.2 (fun a b h1 h2 h3 => ha a b (by omega) h2 h3) (fun y => by
      constructor
      · rintro ⟨j, hj, rfl⟩
        rcases List.mem_cons.mp ((hm (g j)).mp ⟨j, by omega, rfl⟩) with h | h
        · have := hi0 j (by omega) hj.2
          omega
        · exact h
      · intro hy
        obtain ⟨j, hj, hj2⟩ := (hm y).mpr (List.mem_cons_of_mem _ hy)
        refine ⟨j, ⟨?_, hj.2⟩, hj2⟩
        by_cases h : j = lo
        · have h1 := hs.1 y hy
          rw [h, hg] at hj2
          omega
        · omega)
    refine ⟨by rw [e1, List.length_cons]; omega, fun k hk => ?_⟩
    cases k with
    | zero => show g (lo + ((0 : Nat) : Int)) = x; rw [show lo + ((0 : Nat) : Int) = lo by omega]; exact hg
    | succ k =>
      have h := e2 k (by rw [List.length_cons] at hk; omega)
      show g (lo + ((k + 1 : Nat) : Int)) = r.getD k 0
      rw [← h]
      congr 1
      omega
def lc_rep (g : Int → Int) (L : List Int) : Prop := ∀ i : Nat, i < L.length → g i = L.getD i 0
theorem lc_rep_app {g : Int → Int} {A B : List Int} (h1 : ∀ i : Nat, i < A.length → g i = A.getD i 0) (h2 : ∀ i : Nat, i < B.length → g ((A.length : Int) + i) = B.getD i 0) : lc_rep g (A ++ B) := by
  intro i hi
  rw [List.length_append] at hi
  by_cases h : i < A.length
  · rw [h1 i h, List.getD_eq_getElem?_getD, List.getD_eq_getElem?_getD, List.getElem?_append_left h]
  · have h3 := h2 (i - A.length) (by omega)
    rw [show ((A.length : Int) + ((i - A.length : Nat) : Int)) = (i : Int) by omega] at h3
    rw [h3, List.getD_eq_getElem?_getD, List.getD_eq_getElem?_getD, List.getElem?_append_right (by omega)]
/-- how many a stretch of neighbours can hold -/
def lc_nb (x : Int) : Bool := decide (((0 ≤ x / 100 ∧ x / 100 < 36) ∧ (0 ≤ x % 100 ∧ x % 100 < 36)) ∧ ((-1 ≤ x / 100 / 6 - x % 100 / 6 ∧ x / 100 / 6 - x % 100 / 6 ≤ 1) ∧ (-1 ≤ x / 100 % 6 - x % 100 % 6 ∧ x / 100 % 6 - x % 100 % 6 ≤ 1)) ∧ x / 100 ≠ x % 100)
theorem lc_num_le {P Q : Int → Bool} : ∀ N : Nat, (∀ i : Int, 0 ≤ i → i < N → P i = true → Q i = true) → lc_num P N ≤ lc_num Q N
  | 0, _ => Int.le_refl _
  | N + 1, h => by
    have h1 := lc_num_le (P := P) (Q := Q) N (fun i h1 h2 => h i h1 (by omega))
    have h2 := h N (by omega) (by omega)
    unfold lc_num
    by_cases hp : P N = true
    · rw [if_pos hp, if_pos (h2 hp)]; omega
    · rw [if_neg hp]
      split <;> omega
theorem lc_num_lt {P Q : Int → Bool} {y : Int} : ∀ N : Nat, (∀ i : Int, 0 ≤ i → i < N → P i = true → Q i = true) → 0 ≤ y → y < N → ¬ P y = true → Q y = true → lc_num P N + 1 ≤ lc_num Q N
  | 0, _, h1, h2, _, _ => by omega
  | N + 1, h, h1, h2, hp, hq => by
    by_cases hy : y = N
    · subst hy
      have h3 := lc_num_le (P := P) (Q := Q) N (fun i h1 h2 => h i h1 (by omega))
      unfold lc_num
      rw [if_neg hp, if_pos hq]
      omega
    · have h3 := lc_num_lt (P := P) (Q := Q) (y := y) N (fun i h1 h2 => h i h1 (by omega)) h1 (by omega) hp hq
      have h4 := h N (by omega) (by omega)
      unfold lc_num
      by_cases hpN : P N = true
      · rw [if_pos hpN, if_pos (h4 hpN)]; omega
      · rw [if_neg hpN]
        split <;> omega
theorem lc_nb_all : lc_num lc_nb 3600 = 220 := by decide +kernel
theorem lc_nb_r {x : Int} (h : lc_nb x = true) : 0 ≤ x ∧ x < 3600 := by
  have := of_decide_eq_true h
  omega
theorem lc_stretch {g : Int → Int} {lo : Int} : ∀ (k : Nat), lc_asc g lo (lo + k) → (∀ i : Int, lo ≤ i → i < lo + k → lc_nb (g i) = true) → ∀ x : Int, (∀ i : Int, lo ≤ i → i < lo + k → g i < x) → (k : Int) ≤ lc_num (fun v => lc_nb v && decide (v < x)) 3600
  | 0, _, _, x, _ => (lc_num_r _ 3600).1
  | k + 1, ha, hn, x, hx => by
    have h1 := lc_stretch (g := g) (lo := lo) k (fun i j a b c => ha i j a b (by omega)) (fun i a b => hn i a (by omega)) (g (lo + k)) (fun i a b => ha i (lo + k) a b (by omega))
    have h2 := hn (lo + k) (by omega) (by omega)
    have h3 := lc_nb_r h2
    have h4 := hx (lo + k) (by omega) (by omega)
    have h5 := lc_num_lt (P := fun v => lc_nb v && decide (v < g (lo + k))) (Q := fun v => lc_nb v && decide (v < x)) (y := g (lo + k)) 3600 (fun i _ _ h => by
      simp only [Bool.and_eq_true, decide_eq_true_eq] at h ⊢
      exact ⟨h.1, by omega⟩) h3.1 (by omega) (by simp) (by simp [h2, h4])
    omega
theorem lc_room220 {g : Int → Int} {lo z v : Int} (hz : lo ≤ z) (ha : lc_asc g lo z) (hn : ∀ x : Int, lc_has g lo z x → lc_nb x = true ∧ x < v) (hv : lc_nb v = true) : z + 1 ≤ lo + 220 := by
  have h1 := lc_stretch (g := g) (lo := lo) (z - lo).toNat (by rw [show lo + ((z - lo).toNat : Int) = z by omega]; exact ha) (fun i a b => (hn _ ⟨i, by omega, rfl⟩).1) v (fun i a b => (hn _ ⟨i, by omega, rfl⟩).2)
  have h3 := lc_nb_r hv
  have h2 := lc_num_lt (P := fun w => lc_nb w && decide (w < v)) (Q := lc_nb) (y := v) 3600 (fun i _ _ h => by
    simp only [Bool.and_eq_true] at h
    exact h.1) h3.1 (by omega) (by simp) hv
  rw [lc_nb_all] at h2
  omega
/-- captures of a piece: found by its places and directions -/
def lc_T (f : Int → Int) (fr j d x : Int) : Prop := lc_sp (fr * 2 + j) ≠ -1 ∧ 0 < lc_Lo f (lc_sp (fr * 2 + j)) d ∧ lc_M f (lc_sp (fr * 2 + j)) d ≠ -1 ∧ f (lc_M f (lc_sp (fr * 2 + j)) d) = 3 - f fr ∧ x = fr * 100 + lc_M f (lc_sp (fr * 2 + j)) d
def lc_U (f : Int → Int) (fr j d x : Int) : Prop := (0 < j ∧ (lc_T f fr 0 1 x ∨ lc_T f fr 0 (-1) x)) ∨ (1 < j ∧ (lc_T f fr 1 1 x ∨ lc_T f fr 1 (-1) x)) ∨ (d < 1 ∧ lc_T f fr j 1 x) ∨ (d < -1 ∧ lc_T f fr j (-1) x)
theorem lc_U_0 {f : Int → Int} {fr x : Int} : ¬ lc_U f fr 0 1 x := by
  rintro (⟨h, -⟩ | ⟨h, -⟩ | ⟨h, -⟩ | ⟨h, -⟩) <;> omega
theorem lc_U_step {f : Int → Int} {fr j d x : Int} (hd : d = 1 ∨ d = -1) : lc_U f fr j (d + (-2)) x ↔ (lc_U f fr j d x ∨ lc_T f fr j d x) := by
  unfold lc_U
  rcases hd with rfl | rfl
  · constructor
    · rintro (h | h | ⟨-, h⟩ | ⟨h, -⟩)
      · exact Or.inl (Or.inl h)
      · exact Or.inl (Or.inr (Or.inl h))
      · exact Or.inr h
      · omega
    · rintro ((h | h | ⟨h, -⟩ | ⟨h, -⟩) | h)
      · exact Or.inl h
      · exact Or.inr (Or.inl h)
      · omega
      · omega
      · exact Or.inr (Or.inr (Or.inl ⟨by omega, h⟩))
  · constructor
    · rintro (h | h | ⟨-, h⟩ | ⟨-, h⟩)
      · exact Or.inl (Or.inl h)
      · exact Or.inl (Or.inr (Or.inl h))
      · exact Or.inl (Or.inr (Or.inr (Or.inl ⟨by omega, h⟩)))
      · exact Or.inr h
    · rintro ((h | h | ⟨-, h⟩ | ⟨h, -⟩) | h)
      · exact Or.inl h
      · exact Or.inr (Or.inl h)
      · exact Or.inr (Or.inr (Or.inl ⟨by omega, h⟩))
      · omega
      · exact Or.inr (Or.inr (Or.inr ⟨by omega, h⟩))
theorem lc_U_end {f : Int → Int} {fr j d x : Int} (hj : j = 0 ∨ j = 1) (hd : d = -3 ∨ ((d = 1 ∨ d = -1 ∨ d = -3) ∧ lc_sp (fr * 2 + j) = -1)) : lc_U f fr (j + 1) 1 x ↔ lc_U f fr j d x := by
  have key : lc_U f fr (j + 1) 1 x ↔ ((0 < j ∧ (lc_T f fr 0 1 x ∨ lc_T f fr 0 (-1) x)) ∨ (lc_T f fr j 1 x ∨ lc_T f fr j (-1) x)) := by
    unfold lc_U
    rcases hj with rfl | rfl
    · constructor
      · rintro (⟨-, h⟩ | ⟨h, -⟩ | ⟨h, -⟩ | ⟨h, -⟩)
        · exact Or.inr h
        · omega
        · omega
        · omega
      · rintro (⟨h, -⟩ | h)
        · omega
        · exact Or.inl ⟨by omega, h⟩
    · constructor
      · rintro (⟨-, h⟩ | ⟨-, h⟩ | ⟨h, -⟩ | ⟨h, -⟩)
        · exact Or.inl ⟨by omega, h⟩
        · exact Or.inr h
        · omega
        · omega
      · rintro (⟨-, h⟩ | h)
        · exact Or.inl ⟨by omega, h⟩
        · exact Or.inr (Or.inl ⟨by omega, h⟩)
  rw [key]
  unfold lc_U
  rcases hd with rfl | ⟨hd, hsp⟩
  · constructor
    · rintro (h | h | h)
      · exact Or.inl h
      · exact Or.inr (Or.inr (Or.inl ⟨by omega, h⟩))
      · exact Or.inr (Or.inr (Or.inr ⟨by omega, h⟩))
    · rintro (h | ⟨h, -⟩ | ⟨-, h⟩ | ⟨-, h⟩)
      · exact Or.inl h
      · omega
      · exact Or.inr (Or.inl h)
      · exact Or.inr (Or.inr h)
  · have n1 : ∀ d2 : Int, ¬ lc_T f fr j d2 x := fun d2 h => h.1 hsp
    constructor
    · rintro (h | h | h)
      · exact Or.inl h
      · exact absurd h (n1 _)
      · exact absurd h (n1 _)
    · rintro (h | ⟨h, -⟩ | ⟨-, h⟩ | ⟨-, h⟩)
      · exact Or.inl h
      · omega
      · exact absurd h (n1 _)
      · exact absurd h (n1 _)
theorem lc_try_pos {f : Int → Int} {to x d : Int} {w : Int × Int × Int × Int} (h : 0 ≤ w.1) : 0 ≤ (lc_try f to w x d).1 ∧ (0 < (lc_try f to w x d).1 ↔ (0 < w.1 ∨ (0 < lc_Lo f x d ∧ lc_M f x d = to))) := by
  by_cases h1 : 0 < lc_Lo f x d ∧ lc_M f x d = to
  · by_cases h2 : w.1 = 0 ∨ (lc_Lo f x d < w.1 ∨ (lc_Lo f x d = w.1 ∧ (lc_K f x d : Int) < w.2.1))
    · rw [lc_try_t h1 h2]
      exact ⟨by show 0 ≤ lc_Lo f x d; omega, ⟨fun _ => Or.inr h1, fun _ => h1.1⟩⟩
    · rw [lc_try_n2 h2]
      exact ⟨h, ⟨fun q => Or.inl q, fun _ => by omega⟩⟩
  · rw [lc_try_n1 h1]
    exact ⟨h, ⟨fun q => Or.inl q, fun q => q.elim id (fun q => absurd q h1)⟩⟩
theorem lc_two_pos {f : Int → Int} {to x : Int} {w : Int × Int × Int × Int} (h : 0 ≤ w.1) : 0 ≤ (lc_two f to w x).1 ∧ (0 < (lc_two f to w x).1 ↔ (0 < w.1 ∨ (x ≠ -1 ∧ ((0 < lc_Lo f x 1 ∧ lc_M f x 1 = to) ∨ (0 < lc_Lo f x (-1) ∧ lc_M f x (-1) = to))))) := by
  unfold lc_two
  by_cases hx : x = -1
  · rw [if_pos hx]
    exact ⟨h, ⟨fun q => Or.inl q, fun q => q.elim id (fun q => absurd hx q.1)⟩⟩
  · rw [if_neg hx]
    obtain ⟨a1, a2⟩ := lc_try_pos (f := f) (to := to) (x := x) (d := 1) h
    obtain ⟨b1, b2⟩ := lc_try_pos (f := f) (to := to) (x := x) (d := -1) a1
    refine ⟨b1, b2.trans ?_⟩
    rw [a2]
    constructor
    · rintro ((h1 | h1) | h1)
      · exact Or.inl h1
      · exact Or.inr ⟨hx, Or.inl h1⟩
      · exact Or.inr ⟨hx, Or.inr h1⟩
    · rintro (h1 | ⟨-, h1 | h1⟩)
      · exact Or.inl (Or.inl h1)
      · exact Or.inl (Or.inr h1)
      · exact Or.inr h1
theorem lc_wy_pos {f : Int → Int} {fr to : Int} : 0 < (lc_wy f fr to).1 ↔ ((lc_sp (fr * 2) ≠ -1 ∧ ((0 < lc_Lo f (lc_sp (fr * 2)) 1 ∧ lc_M f (lc_sp (fr * 2)) 1 = to) ∨ (0 < lc_Lo f (lc_sp (fr * 2)) (-1) ∧ lc_M f (lc_sp (fr * 2)) (-1) = to))) ∨ (lc_sp (fr * 2 + 1) ≠ -1 ∧ ((0 < lc_Lo f (lc_sp (fr * 2 + 1)) 1 ∧ lc_M f (lc_sp (fr * 2 + 1)) 1 = to) ∨ (0 < lc_Lo f (lc_sp (fr * 2 + 1)) (-1) ∧ lc_M f (lc_sp (fr * 2 + 1)) (-1) = to)))) := by
  obtain ⟨a1, a2⟩ := lc_two_pos (f := f) (to := to) (x := lc_sp (fr * 2)) (w := (0, (0, 0, 0))) (Int.le_refl 0)
  obtain ⟨b1, b2⟩ := lc_two_pos (f := f) (to := to) (x := lc_sp (fr * 2 + 1)) a1
  refine b2.trans ?_
  rw [a2]
  constructor
  · rintro ((h | h) | h)
    · exact absurd h (by decide)
    · exact Or.inl h
    · exact Or.inr h
  · rintro (h | h)
    · exact Or.inl (Or.inr h)
    · exact Or.inr h
theorem lc_U_cap {f : Int → Int} {fr x : Int} (hf : ∀ j : Int, 0 ≤ j → j < 36 → 0 ≤ f j ∧ f j ≤ 2) (hfr : 0 ≤ fr ∧ fr < 36) (hs : 1 ≤ f fr) : lc_U f fr 2 1 x ↔ ∃ to : Int, (0 ≤ to ∧ to < 36) ∧ lc_cap f fr to = true ∧ x = fr * 100 + to := by
  have h2 := hf fr hfr.1 hfr.2
  have side : ∀ (y : Int) (d : Int), -1 ≤ y ∧ y < 48 → y ≠ -1 → lc_M f y d ≠ -1 → 0 ≤ lc_M f y d ∧ lc_M f y d < 36 := fun y d h1 h3 h4 => by
    have := lc_M_r f d (x := y) (by omega)
    omega
  have r0 := lc_sp_r (x := fr * 2) (by omega)
  have r1 := lc_sp_r (x := fr * 2 + 1) (by omega)
  have z0 : fr * 2 + 0 = fr * 2 := by omega
  constructor
  · intro h
    have hT : ∃ j d : Int, (j = 0 ∨ j = 1) ∧ (d = 1 ∨ d = -1) ∧ lc_T f fr j d x := by
      rcases h with ⟨-, h | h⟩ | ⟨-, h | h⟩ | ⟨h, -⟩ | ⟨h, -⟩
      · exact ⟨0, 1, Or.inl rfl, Or.inl rfl, h⟩
      · exact ⟨0, -1, Or.inl rfl, Or.inr rfl, h⟩
      · exact ⟨1, 1, Or.inr rfl, Or.inl rfl, h⟩
      · exact ⟨1, -1, Or.inr rfl, Or.inr rfl, h⟩
      · omega
      · omega
    obtain ⟨j, d, hj, hd, t1, t2, t3, t4, t5⟩ := hT
    have hr : -1 ≤ lc_sp (fr * 2 + j) ∧ lc_sp (fr * 2 + j) < 48 := lc_sp_r (by omega)
    have hM := side _ d hr t1 t3
    refine ⟨_, hM, lc_cap_iff.mpr ⟨⟨⟨by omega, by omega⟩, by omega⟩, lc_wy_pos.mpr ?_⟩, t5⟩
    rcases hj with rfl | rfl
    · rw [z0] at t1 t2 ⊢
      rcases hd with rfl | rfl
      · exact Or.inl ⟨t1, Or.inl ⟨t2, rfl⟩⟩
      · exact Or.inl ⟨t1, Or.inr ⟨t2, rfl⟩⟩
    · rcases hd with rfl | rfl
      · exact Or.inr ⟨t1, Or.inl ⟨t2, rfl⟩⟩
      · exact Or.inr ⟨t1, Or.inr ⟨t2, rfl⟩⟩
  · rintro ⟨to, hto, hc, rfl⟩
    obtain ⟨⟨⟨c1, c2⟩, c3⟩, c4⟩ := lc_cap_iff.mp hc
    have hft := hf to hto.1 hto.2
    have mk : ∀ j d : Int, lc_sp (fr * 2 + j) ≠ -1 → 0 < lc_Lo f (lc_sp (fr * 2 + j)) d → lc_M f (lc_sp (fr * 2 + j)) d = to → lc_T f fr j d (fr * 100 + to) := by
      intro j d t1 t2 t3
      exact ⟨t1, t2, by omega, by rw [t3]; omega, by rw [t3]⟩
    rcases lc_wy_pos.mp c4 with ⟨t1, ⟨t2, t3⟩ | ⟨t2, t3⟩⟩ | ⟨t1, ⟨t2, t3⟩ | ⟨t2, t3⟩⟩
    · exact Or.inl ⟨by omega, Or.inl (mk 0 1 (by rw [z0]; exact t1) (by rw [z0]; exact t2) (by rw [z0]; exact t3))⟩
    · exact Or.inl ⟨by omega, Or.inr (mk 0 (-1) (by rw [z0]; exact t1) (by rw [z0]; exact t2) (by rw [z0]; exact t3))⟩
    · exact Or.inr (Or.inl ⟨by omega, Or.inl (mk 1 1 t1 t2 t3)⟩)
    · exact Or.inr (Or.inl ⟨by omega, Or.inr (mk 1 (-1) t1 t2 t3)⟩)
/-- the moves of a side, in their order -/
def lc_PC (f : Int → Int) (s fr to : Int) : Bool := decide (f fr = s) && lc_cap f fr to
def lc_PQ (f : Int → Int) (s fr to : Int) : Bool := decide (f fr = s) && lc_step f fr to
def lc_caps (f : Int → Int) (s q m : Int) : List Int := if lc_res (lc_cnt f 1 36) (lc_cnt f 2 36) q m = 0 then lc_aal (lc_PC f s) 36 36 else []
def lc_mv (f : Int → Int) (s q m : Int) : List Int := if lc_res (lc_cnt f 1 36) (lc_cnt f 2 36) q m = 0 then lc_aal (lc_PC f s) 36 36 ++ lc_aal (lc_PQ f s) 36 36 else []
end
section
/-! MoveList, and the lists that Rules makes -/
theorem lc_mem_t {f g g0 g' : Int → Int} {z z0 z' fr j d v : Int} (hd : d = 1 ∨ d = -1) (h : ∀ x : Int, lc_has g 0 z x ↔ (lc_has g0 0 z0 x ∨ lc_U f fr j d x)) (hi : ∀ x : Int, lc_has g' 0 z' x ↔ (x = v ∨ lc_has g 0 z x)) (hT : ∀ x : Int, lc_T f fr j d x ↔ x = v) : ∀ x : Int, lc_has g' 0 z' x ↔ (lc_has g0 0 z0 x ∨ lc_U f fr j (d + (-2)) x) := by
  intro x
  rw [hi x, h x, lc_U_step hd, hT x]
  constructor
  · rintro (h1 | h1 | h1)
    · exact Or.inr (Or.inr h1)
    · exact Or.inl h1
    · exact Or.inr (Or.inl h1)
  · rintro (h1 | h1 | h1)
    · exact Or.inr (Or.inl h1)
    · exact Or.inr (Or.inr h1)
    · exact Or.inl h1
theorem lc_mem_f {f g g0 : Int → Int} {z z0 fr j d : Int} (hd : d = 1 ∨ d = -1) (h : ∀ x : Int, lc_has g 0 z x ↔ (lc_has g0 0 z0 x ∨ lc_U f fr j d x)) (hT : ∀ x : Int, ¬ lc_T f fr j d x) : ∀ x : Int, lc_has g 0 z x ↔ (lc_has g0 0 z0 x ∨ lc_U f fr j (d + (-2)) x) := by
  intro x
  rw [h x, lc_U_step hd]
  constructor
  · rintro (h1 | h1)
    · exact Or.inl h1
    · exact Or.inr (Or.inl h1)
  · rintro (h1 | h1 | h1)
    · exact Or.inl h1
    · exact Or.inr h1
    · exact absurd h1 (hT x)
theorem lc_has_r {g g0 : Int → Int} {z z0 v : Int} {P : Int → Prop} (h0 : ∀ x : Int, lc_has g0 0 z0 x → P x) (hv : P v) (h : ∀ x : Int, lc_has g 0 z x ↔ (x = v ∨ lc_has g0 0 z0 x)) : ∀ x : Int, lc_has g 0 z x → P x := by
  intro x hx
  rcases (h x).mp hx with rfl | h1
  · exact hv
  · exact h0 x h1

set_option maxRecDepth 100000 in
set_option maxHeartbeats 4000000 in
theorem lc_cX4_clear (l : Launch) (n : Nat) (a : Nat) (g : Int → Int) (z c : Int) (σ : lc_S) (h0_0 : σ (a) = some (.inr (4, [.ref (a + 1), .int (lc_i (z)), .int (lc_i (c))]) : lc_Cel))  : lc_Con l yX4_clear cX4_clear 1 none (lc_Rd 0) [.ref (a)] n σ (fun v n2 σ2 => v = none ∧ n = n2 ∧ σ2 (a) = some (.inr (4, [.ref (a + 1), .int (lc_i (0)), .int (lc_i (0))]) : lc_Cel) ∧ ∀ i : Nat, i ≠ a → σ2 i = σ i) := by
  refine lc_con RX4 false (by decide) rfl (fun h => absurd h (by decide)) (Nat.le_of_ble_eq_true rfl) ?_
  suffices H : ∀ Q : lc_QT, (∀ v n2 σ2, (fun v n2 σ2 => v = none ∧ n = n2 ∧ σ2 (a) = some (.inr (4, [.ref (a + 1), .int (lc_i (0)), .int (lc_i (0))]) : lc_Cel) ∧ ∀ i : Nat, i ≠ a → σ2 i = σ i : lc_QT) v n2 σ2 → Q v n2 σ2) → lc_V l RX4 cX4_clear 1 none false (lc_Rd 0) (lc_G Q 0 0) lc_E0 0 0 n 0 [(0, .ref (a))] [] σ from H _ (fun _ _ _ h => h)
  intro Q hQ
  refine lc_aload_n dX4_clear_0 rfl 0 rfl ?_
  refine lc_iconst dX4_clear_1 ?_
  refine lc_wI (vs' := [.ref (a + 1), .int (lc_i (0)), .int (lc_i (c))]) dX4_clear_2 lc_fX4_15 h0_0 (Nat.le_of_ble_eq_true rfl) rfl rfl rfl (fun σ1 h2 fr3 => ?_)
  refine lc_aload_n dX4_clear_5 rfl 0 rfl ?_
  refine lc_iconst dX4_clear_6 ?_
  refine lc_wI (vs' := [.ref (a + 1), .int (lc_i (0)), .int (lc_i (0))]) dX4_clear_7 lc_fX4_19 h2 (Nat.le_of_ble_eq_true rfl) rfl rfl rfl (fun σ4 h5 fr6 => ?_)
  exact lc_vret dX4_clear_10 rfl (Nat.le_of_ble_eq_true rfl) (Nat.le_of_ble_eq_true rfl) (hQ _ _ _ ⟨rfl, rfl, h5, (fun i _ => ((fr6 i (by omega)).trans (fr3 i (by omega))))⟩)

set_option maxRecDepth 100000 in
set_option maxHeartbeats 4000000 in
theorem lc_cX4_size (l : Launch) (n : Nat) (a : Nat) (g : Int → Int) (z c : Int) (σ : lc_S) (h0_0 : σ (a) = some (.inr (4, [.ref (a + 1), .int (lc_i (z)), .int (lc_i (c))]) : lc_Cel))  : lc_Con l yX4_size cX4_size 1 (some .int) (lc_Rd 0) [.ref (a)] n σ (fun v n2 σ2 => v = some (.int (lc_i (z))) ∧ n = n2 ∧ σ = σ2) := by
  refine lc_con RX4 false (by decide) rfl (fun h => absurd h (by decide)) (Nat.le_of_ble_eq_true rfl) ?_
  suffices H : ∀ Q : lc_QT, (∀ v n2 σ2, (fun v n2 σ2 => v = some (.int (lc_i (z))) ∧ n = n2 ∧ σ = σ2 : lc_QT) v n2 σ2 → Q v n2 σ2) → lc_V l RX4 cX4_size 1 (some .int) false (lc_Rd 0) (lc_G Q 0 0) lc_E0 0 0 n 0 [(0, .ref (a))] [] σ from H _ (fun _ _ _ h => h)
  intro Q hQ
  refine lc_aload_n dX4_size_0 rfl 0 rfl ?_
  refine lc_get dX4_size_1 lc_fX4_15 h0_0 rfl ?_
  exact lc_iret dX4_size_4 rfl (Nat.le_of_ble_eq_true rfl) (Nat.le_of_ble_eq_true rfl) (hQ _ _ _ ⟨rfl, rfl, rfl⟩)

set_option maxRecDepth 100000 in
set_option maxHeartbeats 4000000 in
theorem lc_cX4_captures (l : Launch) (n : Nat) (a : Nat) (g : Int → Int) (z c : Int) (σ : lc_S) (h0_0 : σ (a) = some (.inr (4, [.ref (a + 1), .int (lc_i (z)), .int (lc_i (c))]) : lc_Cel))  : lc_Con l yX4_captures cX4_captures 1 (some .int) (lc_Rd 0) [.ref (a)] n σ (fun v n2 σ2 => v = some (.int (lc_i (c))) ∧ n = n2 ∧ σ = σ2) := by
  refine lc_con RX4 false (by decide) rfl (fun h => absurd h (by decide)) (Nat.le_of_ble_eq_true rfl) ?_
  suffices H : ∀ Q : lc_QT, (∀ v n2 σ2, (fun v n2 σ2 => v = some (.int (lc_i (c))) ∧ n = n2 ∧ σ = σ2 : lc_QT) v n2 σ2 → Q v n2 σ2) → lc_V l RX4 cX4_captures 1 (some .int) false (lc_Rd 0) (lc_G Q 0 0) lc_E0 0 0 n 0 [(0, .ref (a))] [] σ from H _ (fun _ _ _ h => h)
  intro Q hQ
  refine lc_aload_n dX4_captures_0 rfl 0 rfl ?_
  refine lc_get dX4_captures_1 lc_fX4_19 h0_0 rfl ?_
  exact lc_iret dX4_captures_4 rfl (Nat.le_of_ble_eq_true rfl) (Nat.le_of_ble_eq_true rfl) (hQ _ _ _ ⟨rfl, rfl, rfl⟩)

set_option maxRecDepth 100000 in
set_option maxHeartbeats 4000000 in
theorem lc_cX4_get (l : Launch) (n : Nat) (a : Nat) (g : Int → Int) (z c : Int) (x : Int) (σ : lc_S) (h0_0 : σ (a) = some (.inr (4, [.ref (a + 1), .int (lc_i (z)), .int (lc_i (c))]) : lc_Cel)) (h0_1 : σ (a + 1) = some (lc_aI 364 (g))) (hz : 0 ≤ z ∧ z ≤ 364) (hx : -2147483648 ≤ x ∧ x < 2147483648) : lc_Con l yX4_get cX4_get 2 (some .int) (lc_Rd 0) [.ref (a), .int (lc_i (x))] n σ (fun v n2 σ2 => v = some (.int (lc_i (if 0 ≤ x ∧ x < z then g x else -1))) ∧ n = n2 ∧ σ = σ2) := by
  refine lc_con RX4 false (by decide) rfl (fun h => absurd h (by decide)) (Nat.le_of_ble_eq_true rfl) ?_
  suffices H : ∀ Q : lc_QT, (∀ v n2 σ2, (fun v n2 σ2 => v = some (.int (lc_i (if 0 ≤ x ∧ x < z then g x else -1))) ∧ n = n2 ∧ σ = σ2 : lc_QT) v n2 σ2 → Q v n2 σ2) → lc_V l RX4 cX4_get 2 (some .int) false (lc_Rd 0) (lc_G Q 0 0) lc_E0 0 0 n 0 [(0, .ref (a)), (1, .int (lc_i (x)))] [] σ from H _ (fun _ _ _ h => h)
  intro Q hQ
  refine lc_iload_n dX4_get_0 rfl 1 rfl ?_
  refine lc_if_lt (tgt := 30) dX4_get_1 (by decide) (by omega) (fun h_1_0 => ?_) (fun h_1_0 => ?_)
  · skip
    refine lc_iconst dX4_get_30 ?_
    exact lc_iret dX4_get_31 rfl (Nat.le_of_ble_eq_true rfl) (Nat.le_of_ble_eq_true rfl) (hQ _ _ _ ⟨lc_some (by (repeat' split) <;> omega), rfl, rfl⟩)
  · skip
    refine lc_iload_n dX4_get_4 rfl 1 rfl ?_
    refine lc_aload_n dX4_get_5 rfl 0 rfl ?_
    refine lc_get dX4_get_6 lc_fX4_15 h0_0 rfl ?_
    refine lc_icmp_ge (tgt := 30) dX4_get_9 (by decide) (by omega) (fun h_9_1 => ?_) (fun h_9_1 => ?_)
    · skip
      refine lc_iconst dX4_get_30 ?_
      exact lc_iret dX4_get_31 rfl (Nat.le_of_ble_eq_true rfl) (Nat.le_of_ble_eq_true rfl) (hQ _ _ _ ⟨lc_some (by (repeat' split) <;> omega), rfl, rfl⟩)
    · skip
      refine lc_iload_n dX4_get_12 rfl 1 rfl ?_
      refine lc_aload_n dX4_get_13 rfl 0 rfl ?_
      refine lc_get dX4_get_14 lc_fX4_11 h0_0 rfl ?_
      refine lc_alen dX4_get_17 h0_1 (by decide) ?_
      refine lc_icmp_ge (tgt := 30) dX4_get_18 (by decide) (by omega) (fun h_18_2 => ?_) (fun h_18_2 => ?_)
      · skip
        refine lc_iconst dX4_get_30 ?_
        exact lc_iret dX4_get_31 rfl (Nat.le_of_ble_eq_true rfl) (Nat.le_of_ble_eq_true rfl) (hQ _ _ _ ⟨lc_some (by (repeat' split) <;> omega), rfl, rfl⟩)
      · skip
        refine lc_aload_n dX4_get_21 rfl 0 rfl ?_
        refine lc_get dX4_get_22 lc_fX4_11 h0_0 rfl ?_
        refine lc_iload_n dX4_get_25 rfl 1 rfl ?_
        refine lc_iald dX4_get_26 h0_1 (by omega) (by decide) ?_
        refine lc_goto (tgt := 31) dX4_get_27 (by decide) ?_
        exact lc_iret dX4_get_31 rfl (Nat.le_of_ble_eq_true rfl) (Nat.le_of_ble_eq_true rfl) (hQ _ _ _ ⟨lc_some (by (repeat' split) <;> omega), rfl, rfl⟩)

set_option maxRecDepth 100000 in
set_option maxHeartbeats 4000000 in
theorem lc_cX4_addQuiet (l : Launch) (n : Nat) (a : Nat) (g : Int → Int) (z c : Int) (u : Int) (σ : lc_S) (h0_0 : σ (a) = some (.inr (4, [.ref (a + 1), .int (lc_i (z)), .int (lc_i (c))]) : lc_Cel)) (h0_1 : σ (a + 1) = some (lc_aI 364 (g))) (hz : 0 ≤ z ∧ z < 364) : lc_Con l yX4_addQuiet cX4_addQuiet 2 none (lc_Rd 0) [.ref (a), .int (lc_i (u))] n σ (fun v n2 σ2 => v = none ∧ n = n2 ∧ σ2 (a) = some (.inr (4, [.ref (a + 1), .int (lc_i (z + 1)), .int (lc_i (c))]) : lc_Cel) ∧ σ2 (a + 1) = some (lc_aI 364 (lc_u g z u)) ∧ ∀ i : Nat, i ≠ a → i ≠ a + 1 → σ2 i = σ i) := by
  refine lc_con RX4 false (by decide) rfl (fun h => absurd h (by decide)) (Nat.le_of_ble_eq_true rfl) ?_
  suffices H : ∀ Q : lc_QT, (∀ v n2 σ2, (fun v n2 σ2 => v = none ∧ n = n2 ∧ σ2 (a) = some (.inr (4, [.ref (a + 1), .int (lc_i (z + 1)), .int (lc_i (c))]) : lc_Cel) ∧ σ2 (a + 1) = some (lc_aI 364 (lc_u g z u)) ∧ ∀ i : Nat, i ≠ a → i ≠ a + 1 → σ2 i = σ i : lc_QT) v n2 σ2 → Q v n2 σ2) → lc_V l RX4 cX4_addQuiet 2 none false (lc_Rd 0) (lc_G Q 0 0) lc_E0 0 0 n 0 [(0, .ref (a)), (1, .int (lc_i (u)))] [] σ from H _ (fun _ _ _ h => h)
  intro Q hQ
  refine lc_aload_n dX4_addQuiet_0 rfl 0 rfl ?_
  refine lc_get dX4_addQuiet_1 lc_fX4_15 h0_0 rfl ?_
  refine lc_if_lt (tgt := 39) dX4_addQuiet_4 (by decide) (by omega) (fun h_4_0 => ?_) (fun h_4_0 => ?_)
  · omega
  · skip
    refine lc_aload_n dX4_addQuiet_7 rfl 0 rfl ?_
    refine lc_get dX4_addQuiet_8 lc_fX4_15 h0_0 rfl ?_
    refine lc_aload_n dX4_addQuiet_11 rfl 0 rfl ?_
    refine lc_get dX4_addQuiet_12 lc_fX4_11 h0_0 rfl ?_
    refine lc_alen dX4_addQuiet_15 h0_1 (by decide) ?_
    refine lc_icmp_ge (tgt := 39) dX4_addQuiet_16 (by decide) (by omega) (fun h_16_1 => ?_) (fun h_16_1 => ?_)
    · omega
    · skip
      refine lc_aload_n dX4_addQuiet_19 rfl 0 rfl ?_
      refine lc_get dX4_addQuiet_20 lc_fX4_11 h0_0 rfl ?_
      refine lc_aload_n dX4_addQuiet_23 rfl 0 rfl ?_
      refine lc_get dX4_addQuiet_24 lc_fX4_15 h0_0 rfl ?_
      refine lc_iload_n dX4_addQuiet_27 rfl 1 rfl ?_
      refine lc_sI dX4_addQuiet_28 h0_1 (by omega) (by decide) (fun σ3 h4 fr5 => ?_)
      have h6 : σ3 (a) = some (.inr (4, [.ref (a + 1), .int (lc_i (z)), .int (lc_i (c))]) : lc_Cel) := (fr5 _ (by omega)).trans h0_0
      refine lc_aload_n dX4_addQuiet_29 rfl 0 rfl ?_
      refine lc_dup dX4_addQuiet_30 rfl ?_
      refine lc_get dX4_addQuiet_31 lc_fX4_15 h6 rfl ?_
      refine lc_iconst dX4_addQuiet_34 ?_
      refine lc_iadd dX4_addQuiet_35 ?_
      refine lc_wI (vs' := [.ref (a + 1), .int (lc_i ((z) + (1))), .int (lc_i (c))]) dX4_addQuiet_36 lc_fX4_15 h6 (Nat.le_of_ble_eq_true rfl) rfl rfl rfl (fun σ7 h8 fr9 => ?_)
      have h10 : σ7 (a + 1) = some (lc_aI 364 (lc_u (g) (z) (u))) := (fr9 _ (by omega)).trans h4
      exact lc_vret dX4_addQuiet_39 rfl (Nat.le_of_ble_eq_true rfl) (Nat.le_of_ble_eq_true rfl) (hQ _ _ _ ⟨rfl, rfl, h8, h10, (fun i _ _ => ((fr9 i (by omega)).trans (fr5 i (by omega))))⟩)

set_option maxRecDepth 100000 in
set_option maxHeartbeats 4000000 in
/-- MoveList.addCapture: one more member, in order, once -/
theorem lc_cX4_addCapture (l : Launch) (n : Nat) (a : Nat) (g : Int → Int) (z : Int) (u : Int) (σ : lc_S) (h0_0 : σ (a) = some (.inr (4, [.ref (a + 1), .int (lc_i (z)), .int (lc_i (z))]) : lc_Cel)) (h0_1 : σ (a + 1) = some (lc_aI 364 (g))) (hz : 0 ≤ z ∧ z < 364) (hasc : lc_asc g 0 z) (hg : ∀ x : Int, lc_has g 0 z x → -2147483648 ≤ x ∧ x < 2147483648) (hv : -2147483648 ≤ u ∧ u < 2147483648) : lc_Con l yX4_addCapture cX4_addCapture 4 none (lc_Rd 0) [.ref (a), .int (lc_i (u))] n σ (fun v9 n2 σ2 => ∃ (g2 : Int → Int) (z2 : Int), v9 = none ∧ n = n2 ∧ σ2 a = some (.inr (4, [.ref (a + 1), .int (lc_i (z2)), .int (lc_i (z2))]) : lc_Cel) ∧ σ2 (a + 1) = some (lc_aI 364 (g2)) ∧ lc_insd g z u g2 z2 ∧ ∀ i : Nat, i ≠ a → i ≠ a + 1 → σ2 i = σ i) := by
  refine lc_con RX4 false (by decide) rfl (fun h => absurd h (by decide)) (Nat.le_of_ble_eq_true rfl) ?_
  suffices H : ∀ Q : lc_QT, (∀ v n2 σ2, (fun v9 n2 σ2 => ∃ (g2 : Int → Int) (z2 : Int), v9 = none ∧ n = n2 ∧ σ2 a = some (.inr (4, [.ref (a + 1), .int (lc_i (z2)), .int (lc_i (z2))]) : lc_Cel) ∧ σ2 (a + 1) = some (lc_aI 364 (g2)) ∧ lc_insd g z u g2 z2 ∧ ∀ i : Nat, i ≠ a → i ≠ a + 1 → σ2 i = σ i : lc_QT) v n2 σ2 → Q v n2 σ2) → lc_V l RX4 cX4_addCapture 4 none false (lc_Rd 0) (lc_G Q 0 0) lc_E0 0 0 n 0 [(0, .ref (a)), (1, .int (lc_i (u)))] [] σ from H _ (fun _ _ _ h => h)
  intro Q hQ
  refine lc_aload_n dX4_addCapture_0 rfl 0 rfl ?_
  refine lc_get dX4_addCapture_1 lc_fX4_15 h0_0 rfl ?_
  refine lc_if_lt (tgt := 19) dX4_addCapture_4 (by decide) (by omega) (fun h_4_0 => ?_) (fun h_4_0 => ?_)
  · omega
  · skip
    refine lc_aload_n dX4_addCapture_7 rfl 0 rfl ?_
    refine lc_get dX4_addCapture_8 lc_fX4_15 h0_0 rfl ?_
    refine lc_aload_n dX4_addCapture_11 rfl 0 rfl ?_
    refine lc_get dX4_addCapture_12 lc_fX4_11 h0_0 rfl ?_
    refine lc_alen dX4_addCapture_15 h0_1 (by decide) ?_
    refine lc_icmp_lt (tgt := 20) dX4_addCapture_16 (by decide) (by omega) (fun h_16_1 => ?_) (fun h_16_1 => ?_)
    · skip
      refine lc_aload_n dX4_addCapture_20 rfl 0 rfl ?_
      refine lc_get dX4_addCapture_21 lc_fX4_15 h0_0 rfl ?_
      refine lc_istore_n (lv' := [(0, .ref (a)), (1, .int (lc_i (u))), (2, .int (lc_i (z)))]) dX4_addCapture_24 rfl (by decide) rfl ?_
      have loop4 : ∀ (N3 : Nat) (r : Int), (0 ≤ r ∧ r ≤ z) → (∀ i : Int, r ≤ i → i < z → u < g i) → r < (N3 : Int) → lc_V l RX4 cX4_addCapture 4 none false (lc_Rd 0) (lc_G Q 0 0) lc_E0 0 0 n 25 [(0, .ref (a)), (1, .int (lc_i (u))), (2, .int (lc_i (r)))] [] σ := by
        intro N3
        induction N3 with
        | zero =>
          intro r hr hgt hm6
          exact absurd hm6 (by omega)
        | succ N3 ih5 =>
          intro r hr hgt hm6
          have hgr : 0 < r → -2147483648 ≤ g (r - 1) ∧ g (r - 1) < 2147483648 := fun q9 => hg _ ⟨r - 1, by omega, rfl⟩
          have loop8 : (r = 0 ∨ g (r - 1) < u) → lc_V l RX4 cX4_addCapture 4 none false (lc_Rd 0) (lc_G Q 0 0) lc_E0 0 0 n 64 [(0, .ref (a)), (1, .int (lc_i (u))), (2, .int (lc_i (r)))] [] σ := by
            intro  hlt
            refine lc_aload_n dX4_addCapture_64 rfl 0 rfl ?_
            refine lc_get dX4_addCapture_65 lc_fX4_15 h0_0 rfl ?_
            refine lc_istore_n (lv' := [(0, .ref (a)), (1, .int (lc_i (u))), (2, .int (lc_i (r))), (3, .int (lc_i (z)))]) dX4_addCapture_68 rfl (by decide) rfl ?_
            have loop11 : ∀ (N10 : Nat) (i : Int) (hh : Int → Int) (σ13 : lc_S), (σ13 (a + 1) = some (lc_aI 364 (hh))) → (∀ i : Nat, i ≠ a + 1 → σ13 i = σ i) → (r ≤ i ∧ i ≤ z) → (∀ j : Int, j ≤ i → hh j = g j) → (∀ j : Int, i < j → j ≤ z → hh j = g (j - 1)) → i - r < (N10 : Int) → lc_V l RX4 cX4_addCapture 4 none false (lc_Rd 0) (lc_G Q 0 0) lc_E0 0 0 n 69 [(0, .ref (a)), (1, .int (lc_i (u))), (2, .int (lc_i (r))), (3, .int (lc_i (i)))] [] σ13 := by
              intro N10
              induction N10 with
              | zero =>
                intro i hh σ13 h14 fr15 hi hlo hhi hm16
                exact absurd hm16 (by omega)
              | succ N10 ih12 =>
                intro i hh σ13 h14 fr15 hi hlo hhi hm16
                have h17 : σ13 (a) = some (.inr (4, [.ref (a + 1), .int (lc_i (z)), .int (lc_i (z))]) : lc_Cel) := (fr15 _ (by omega)).trans h0_0
                refine lc_iload_n dX4_addCapture_69 rfl 3 rfl ?_
                refine lc_iload_n dX4_addCapture_70 rfl 2 rfl ?_
                refine lc_icmp_le (tgt := 94) dX4_addCapture_71 (by decide) (by omega) (fun h_71_17 => ?_) (fun h_71_17 => ?_)
                · skip
                  refine lc_aload_n dX4_addCapture_94 rfl 0 rfl ?_
                  refine lc_get dX4_addCapture_95 lc_fX4_11 h17 rfl ?_
                  refine lc_iload_n dX4_addCapture_98 rfl 2 rfl ?_
                  refine lc_iload_n dX4_addCapture_99 rfl 1 rfl ?_
                  refine lc_sI dX4_addCapture_100 h14 (by omega) (by decide) (fun σ19 h20 fr21 => ?_)
                  have h22 : σ19 (a) = some (.inr (4, [.ref (a + 1), .int (lc_i (z)), .int (lc_i (z))]) : lc_Cel) := (fr21 _ (by omega)).trans h17
                  refine lc_aload_n dX4_addCapture_101 rfl 0 rfl ?_
                  refine lc_dup dX4_addCapture_102 rfl ?_
                  refine lc_get dX4_addCapture_103 lc_fX4_15 h22 rfl ?_
                  refine lc_iconst dX4_addCapture_106 ?_
                  refine lc_iadd dX4_addCapture_107 ?_
                  refine lc_wI (vs' := [.ref (a + 1), .int (lc_i ((z) + (1))), .int (lc_i (z))]) dX4_addCapture_108 lc_fX4_15 h22 (Nat.le_of_ble_eq_true rfl) rfl rfl rfl (fun σ23 h24 fr25 => ?_)
                  have h26 : σ23 (a + 1) = some (lc_aI 364 (lc_u (hh) (r) (u))) := (fr25 _ (by omega)).trans h20
                  refine lc_aload_n dX4_addCapture_111 rfl 0 rfl ?_
                  refine lc_aload_n dX4_addCapture_112 rfl 0 rfl ?_
                  refine lc_get dX4_addCapture_113 lc_fX4_15 h24 rfl ?_
                  refine lc_wI (vs' := [.ref (a + 1), .int (lc_i ((z) + (1))), .int (lc_i ((z) + (1)))]) dX4_addCapture_116 lc_fX4_19 h24 (Nat.le_of_ble_eq_true rfl) rfl rfl rfl (fun σ27 h28 fr29 => ?_)
                  have h30 : σ27 (a + 1) = some (lc_aI 364 (lc_u (hh) (r) (u))) := (fr29 _ (by omega)).trans h26
                  exact lc_vret dX4_addCapture_119 rfl (Nat.le_of_ble_eq_true rfl) (Nat.le_of_ble_eq_true rfl) (hQ _ _ _ ⟨(lc_u (hh) (r) (u)), ((z) + (1)), rfl, rfl, h28, h30, by have ei : r = i := (by omega); subst ei; exact lc_insd_n hasc hr hgt hlt hlo hhi, (fun i _ _ => ((fr29 i (by omega)).trans ((fr25 i (by omega)).trans ((fr21 i (by omega)).trans (fr15 i (by omega))))))⟩)
                · skip
                  refine lc_aload_n dX4_addCapture_74 rfl 0 rfl ?_
                  refine lc_get dX4_addCapture_75 lc_fX4_11 h17 rfl ?_
                  refine lc_iload_n dX4_addCapture_78 rfl 3 rfl ?_
                  refine lc_aload_n dX4_addCapture_79 rfl 0 rfl ?_
                  refine lc_get dX4_addCapture_80 lc_fX4_11 h17 rfl ?_
                  refine lc_iload_n dX4_addCapture_83 rfl 3 rfl ?_
                  refine lc_iconst dX4_addCapture_84 ?_
                  refine lc_isub dX4_addCapture_85 ?_
                  refine lc_iald dX4_addCapture_86 h14 (by omega) (by decide) ?_
                  refine lc_sI dX4_addCapture_87 h14 (by omega) (by decide) (fun σ31 h32 fr33 => ?_)
                  have h34 : σ31 (a) = some (.inr (4, [.ref (a + 1), .int (lc_i (z)), .int (lc_i (z))]) : lc_Cel) := (fr33 _ (by omega)).trans h17
                  refine lc_iinc (lv' := [(0, .ref (a)), (1, .int (lc_i (u))), (2, .int (lc_i (r))), (3, .int (lc_i (i + (-1))))]) dX4_addCapture_88 3 rfl (by decide) rfl ?_
                  refine lc_goto (tgt := 69) dX4_addCapture_91 (by decide) ?_
                  exact ih12 (i + (-1)) (lc_u (hh) (i) ((hh) ((i) - (1)))) σ31 h32 (fun i _ => ((fr33 i (by omega)).trans (fr15 i (by omega)))) (by omega) (fun j h1 => by rw [lc_u_n _ _ (by omega)]; exact hlo j (by omega)) (fun j h1 h2 => by by_cases e9 : j = i; (rw [e9, lc_u_s]; exact hlo _ (by omega)); (rw [lc_u_n _ _ e9]; exact hhi j (by omega) h2)) (by omega)
            exact loop11 1000 (z) (g) σ h0_1 (fun _ _ => rfl) (by omega) (fun j _ => rfl) (fun j h1 h2 => absurd h1 (by omega)) (by omega)
          refine lc_iload_n dX4_addCapture_25 rfl 2 rfl ?_
          refine lc_if_le (tgt := 47) dX4_addCapture_26 (by decide) (by omega) (fun h_26_34 => ?_) (fun h_26_34 => ?_)
          · skip
            refine lc_iload_n dX4_addCapture_47 rfl 2 rfl ?_
            refine lc_if_le (tgt := 64) dX4_addCapture_48 (by decide) (by omega) (fun h_48_35 => ?_) (fun h_48_35 => ?_)
            · skip
              exact loop8  (Or.inl (by omega)) 
            · skip
              refine lc_aload_n dX4_addCapture_51 rfl 0 rfl ?_
              refine lc_get dX4_addCapture_52 lc_fX4_11 h0_0 rfl ?_
              refine lc_iload_n dX4_addCapture_55 rfl 2 rfl ?_
              refine lc_iconst dX4_addCapture_56 ?_
              refine lc_isub dX4_addCapture_57 ?_
              refine lc_iald dX4_addCapture_58 h0_1 (by omega) (by decide) ?_
              refine lc_iload_n dX4_addCapture_59 rfl 1 rfl ?_
              refine lc_icmp_ne (tgt := 64) dX4_addCapture_60 (by decide) (by omega) (fun h_60_36 => ?_) (fun h_60_36 => ?_)
              · skip
                exact loop8  (Or.inr (by omega)) 
              · skip
                exact lc_vret dX4_addCapture_63 rfl (Nat.le_of_ble_eq_true rfl) (Nat.le_of_ble_eq_true rfl) (hQ _ _ _ ⟨g, z, rfl, rfl, h0_0, h0_1, lc_insd_o hasc (r := r) ⟨by omega, by omega⟩ h_60_36, (fun i _ _ => rfl)⟩)
          · skip
            refine lc_aload_n dX4_addCapture_29 rfl 0 rfl ?_
            refine lc_get dX4_addCapture_30 lc_fX4_11 h0_0 rfl ?_
            refine lc_iload_n dX4_addCapture_33 rfl 2 rfl ?_
            refine lc_iconst dX4_addCapture_34 ?_
            refine lc_isub dX4_addCapture_35 ?_
            refine lc_iald dX4_addCapture_36 h0_1 (by omega) (by decide) ?_
            refine lc_iload_n dX4_addCapture_37 rfl 1 rfl ?_
            refine lc_icmp_le (tgt := 47) dX4_addCapture_38 (by decide) (by omega) (fun h_38_37 => ?_) (fun h_38_37 => ?_)
            · skip
              refine lc_iload_n dX4_addCapture_47 rfl 2 rfl ?_
              refine lc_if_le (tgt := 64) dX4_addCapture_48 (by decide) (by omega) (fun h_48_38 => ?_) (fun h_48_38 => ?_)
              · skip
                exact loop8  (Or.inl (by omega)) 
              · skip
                refine lc_aload_n dX4_addCapture_51 rfl 0 rfl ?_
                refine lc_get dX4_addCapture_52 lc_fX4_11 h0_0 rfl ?_
                refine lc_iload_n dX4_addCapture_55 rfl 2 rfl ?_
                refine lc_iconst dX4_addCapture_56 ?_
                refine lc_isub dX4_addCapture_57 ?_
                refine lc_iald dX4_addCapture_58 h0_1 (by omega) (by decide) ?_
                refine lc_iload_n dX4_addCapture_59 rfl 1 rfl ?_
                refine lc_icmp_ne (tgt := 64) dX4_addCapture_60 (by decide) (by omega) (fun h_60_39 => ?_) (fun h_60_39 => ?_)
                · skip
                  exact loop8  (Or.inr (by omega)) 
                · skip
                  exact lc_vret dX4_addCapture_63 rfl (Nat.le_of_ble_eq_true rfl) (Nat.le_of_ble_eq_true rfl) (hQ _ _ _ ⟨g, z, rfl, rfl, h0_0, h0_1, lc_insd_o hasc (r := r) ⟨by omega, by omega⟩ h_60_39, (fun i _ _ => rfl)⟩)
            · skip
              refine lc_iinc (lv' := [(0, .ref (a)), (1, .int (lc_i (u))), (2, .int (lc_i (r + (-1))))]) dX4_addCapture_41 2 rfl (by decide) rfl ?_
              refine lc_goto (tgt := 25) dX4_addCapture_44 (by decide) ?_
              exact ih5 (r + (-1)) (by omega) (fun i h1 h2 => by by_cases e9 : i = r - 1; (rw [e9]; exact h_38_37); (exact hgt i (by omega) h2)) (by omega)
      exact loop4 1000 (z) (by omega) (fun i h1 h2 => absurd h1 (by omega)) (by omega)
    · omega
end
