section
-- ===== PART A: goes FIRST, ahead of the names: the tables' words, and 'selects' of the private methods out of them =====
/-- a private method of a class that the tables say can be made, by its rows of tables_1 -/
def lw_okq (q : MethodName × Nat) : Prop := (q.1.cls ≠ "java/lang/invoke/MethodHandle" ∧ q.1.cls ≠ "java/lang/invoke/VarHandle") ∧ Cond.instantiable q.1.cls q.2 ∈ tables_1 ∧ Cond.privateMethod q.1 ∈ tables_1 ∧ Cond.instanceMethod q.1 ∈ tables_1
theorem lw_p0 : lw_okq (⟨"SeedChainer", "rowOf", "(I)LSeedChainer$LetterRow;"⟩, 7) := ⟨⟨by decide +kernel, by decide +kernel⟩, List.mem_of_getElem? (i := 10) (by decide +kernel), List.mem_of_getElem? (i := 136) (by decide +kernel), List.mem_of_getElem? (i := 137) (by decide +kernel)⟩
theorem lw_p1 : lw_okq (⟨"SeedChainer", "freshBest", "()LSeedChainer$BestChain;"⟩, 7) := ⟨⟨by decide +kernel, by decide +kernel⟩, List.mem_of_getElem? (i := 10) (by decide +kernel), List.mem_of_getElem? (i := 224) (by decide +kernel), List.mem_of_getElem? (i := 225) (by decide +kernel)⟩
theorem lw_p2 : lw_okq (⟨"SeedChainer$BestChain", "lookAhead", "(LSeedChainer$Seeds;I)V"⟩, 4) := ⟨⟨by decide +kernel, by decide +kernel⟩, List.mem_of_getElem? (i := 48) (by decide +kernel), List.mem_of_getElem? (i := 232) (by decide +kernel), List.mem_of_getElem? (i := 233) (by decide +kernel)⟩
theorem lw_p3 : lw_okq (⟨"SeedChainer$BestChain", "mostFrom", "(LSeedChainer$Seeds;III)I"⟩, 4) := ⟨⟨by decide +kernel, by decide +kernel⟩, List.mem_of_getElem? (i := 48) (by decide +kernel), List.mem_of_getElem? (i := 244) (by decide +kernel), List.mem_of_getElem? (i := 245) (by decide +kernel)⟩
theorem lw_p4 : lw_okq (⟨"SeedChainer$BestChain", "worthFrom", "(LSeedChainer$Seeds;II)I"⟩, 4) := ⟨⟨by decide +kernel, by decide +kernel⟩, List.mem_of_getElem? (i := 48) (by decide +kernel), List.mem_of_getElem? (i := 253) (by decide +kernel), List.mem_of_getElem? (i := 254) (by decide +kernel)⟩
theorem lw_p5 : lw_okq (⟨"SeedChainer$BestChain", "firstPair", "(LSeedChainer$Seeds;)I"⟩, 4) := ⟨⟨by decide +kernel, by decide +kernel⟩, List.mem_of_getElem? (i := 48) (by decide +kernel), List.mem_of_getElem? (i := 261) (by decide +kernel), List.mem_of_getElem? (i := 262) (by decide +kernel)⟩
theorem lw_p6 : lw_okq (⟨"SeedChainer$BestChain", "nextPair", "(LSeedChainer$Seeds;III)I"⟩, 4) := ⟨⟨by decide +kernel, by decide +kernel⟩, List.mem_of_getElem? (i := 48) (by decide +kernel), List.mem_of_getElem? (i := 267) (by decide +kernel), List.mem_of_getElem? (i := 268) (by decide +kernel)⟩
theorem lw_p7 : lw_okq (⟨"SeedChainer$Reaching", "begin", "()V"⟩, 12) := ⟨⟨by decide +kernel, by decide +kernel⟩, List.mem_of_getElem? (i := 67) (by decide +kernel), List.mem_of_getElem? (i := 299) (by decide +kernel), List.mem_of_getElem? (i := 300) (by decide +kernel)⟩
theorem lw_p8 : lw_okq (⟨"SeedChainer$Reaching", "turnSlopes", "()V"⟩, 12) := ⟨⟨by decide +kernel, by decide +kernel⟩, List.mem_of_getElem? (i := 67) (by decide +kernel), List.mem_of_getElem? (i := 308) (by decide +kernel), List.mem_of_getElem? (i := 309) (by decide +kernel)⟩
theorem lw_p9 : lw_okq (⟨"SeedChainer$Reaching", "walkSlope", "(LSeedChainer$LetterRow;ILSeedChainer$LetterRow;II)V"⟩, 12) := ⟨⟨by decide +kernel, by decide +kernel⟩, List.mem_of_getElem? (i := 67) (by decide +kernel), List.mem_of_getElem? (i := 312) (by decide +kernel), List.mem_of_getElem? (i := 313) (by decide +kernel)⟩
theorem lw_p10 : lw_okq (⟨"SeedChainer$Reaching", "gapScore", "(I)I"⟩, 12) := ⟨⟨by decide +kernel, by decide +kernel⟩, List.mem_of_getElem? (i := 67) (by decide +kernel), List.mem_of_getElem? (i := 320) (by decide +kernel), List.mem_of_getElem? (i := 321) (by decide +kernel)⟩
theorem lw_p11 : lw_okq (⟨"SeedChainer$Reaching", "keepAlive", "(III)V"⟩, 12) := ⟨⟨by decide +kernel, by decide +kernel⟩, List.mem_of_getElem? (i := 67) (by decide +kernel), List.mem_of_getElem? (i := 325) (by decide +kernel), List.mem_of_getElem? (i := 326) (by decide +kernel)⟩
theorem lw_p12 : lw_okq (⟨"SeedChainerModel", "learn", "()V"⟩, 22) := ⟨⟨by decide +kernel, by decide +kernel⟩, List.mem_of_getElem? (i := 341) (by decide +kernel), List.mem_of_getElem? (i := 445) (by decide +kernel), List.mem_of_getElem? (i := 446) (by decide +kernel)⟩
theorem lw_p13 : lw_okq (⟨"SeedChainerModel", "isAnchor", "(II)Z"⟩, 22) := ⟨⟨by decide +kernel, by decide +kernel⟩, List.mem_of_getElem? (i := 341) (by decide +kernel), List.mem_of_getElem? (i := 449) (by decide +kernel), List.mem_of_getElem? (i := 450) (by decide +kernel)⟩
theorem lw_p14 : lw_okq (⟨"SeedChainerModel", "between", "(II)I"⟩, 22) := ⟨⟨by decide +kernel, by decide +kernel⟩, List.mem_of_getElem? (i := 341) (by decide +kernel), List.mem_of_getElem? (i := 453) (by decide +kernel), List.mem_of_getElem? (i := 454) (by decide +kernel)⟩
theorem lw_p15 : lw_okq (⟨"SeedChainerModel", "scoreAt", "(II)I"⟩, 22) := ⟨⟨by decide +kernel, by decide +kernel⟩, List.mem_of_getElem? (i := 341) (by decide +kernel), List.mem_of_getElem? (i := 478) (by decide +kernel), List.mem_of_getElem? (i := 479) (by decide +kernel)⟩
def lw_privs_1 : List (MethodName × Nat) := [(⟨"SeedChainer", "rowOf", "(I)LSeedChainer$LetterRow;"⟩, 7), (⟨"SeedChainer", "freshBest", "()LSeedChainer$BestChain;"⟩, 7), (⟨"SeedChainer$BestChain", "lookAhead", "(LSeedChainer$Seeds;I)V"⟩, 4), (⟨"SeedChainer$BestChain", "mostFrom", "(LSeedChainer$Seeds;III)I"⟩, 4), (⟨"SeedChainer$BestChain", "worthFrom", "(LSeedChainer$Seeds;II)I"⟩, 4), (⟨"SeedChainer$BestChain", "firstPair", "(LSeedChainer$Seeds;)I"⟩, 4), (⟨"SeedChainer$BestChain", "nextPair", "(LSeedChainer$Seeds;III)I"⟩, 4), (⟨"SeedChainer$Reaching", "begin", "()V"⟩, 12), (⟨"SeedChainer$Reaching", "turnSlopes", "()V"⟩, 12), (⟨"SeedChainer$Reaching", "walkSlope", "(LSeedChainer$LetterRow;ILSeedChainer$LetterRow;II)V"⟩, 12), (⟨"SeedChainer$Reaching", "gapScore", "(I)I"⟩, 12), (⟨"SeedChainer$Reaching", "keepAlive", "(III)V"⟩, 12), (⟨"SeedChainerModel", "learn", "()V"⟩, 22), (⟨"SeedChainerModel", "isAnchor", "(II)Z"⟩, 22), (⟨"SeedChainerModel", "between", "(II)I"⟩, 22), (⟨"SeedChainerModel", "scoreAt", "(II)I"⟩, 22)]
theorem lw_r1 : ∀ q ∈ lw_privs_1, lw_okq q := List.forall_mem_cons.mpr ⟨lw_p0, List.forall_mem_cons.mpr ⟨lw_p1, List.forall_mem_cons.mpr ⟨lw_p2, List.forall_mem_cons.mpr ⟨lw_p3, List.forall_mem_cons.mpr ⟨lw_p4, List.forall_mem_cons.mpr ⟨lw_p5, List.forall_mem_cons.mpr ⟨lw_p6, List.forall_mem_cons.mpr ⟨lw_p7, List.forall_mem_cons.mpr ⟨lw_p8, List.forall_mem_cons.mpr ⟨lw_p9, List.forall_mem_cons.mpr ⟨lw_p10, List.forall_mem_cons.mpr ⟨lw_p11, List.forall_mem_cons.mpr ⟨lw_p12, List.forall_mem_cons.mpr ⟨lw_p13, List.forall_mem_cons.mpr ⟨lw_p14, List.forall_mem_cons.mpr ⟨lw_p15, fun _ h => absurd h List.not_mem_nil⟩⟩⟩⟩⟩⟩⟩⟩⟩⟩⟩⟩⟩⟩⟩⟩
def lw_privs : List (MethodName × Nat) := lw_privs_1
def lw_tbl : List Cond := k2_sels lw_privs ++ tables_1
theorem lw_privs_ok : ∀ q ∈ lw_privs, lw_okq q := lw_r1
end
section
/-! ===== names: classes, fields, codes (laid by wip/whole/gen/names.py out of the Statement) ===== -/
/-- a method's name, code, locals, answer -/
abbrev jY : Type := MethodName × ByteArray × Nat × Option FieldType
def RX0 : String := "SeedChainer$BestChain"
def TX0 : u_T := fun k => match k with
  | 0 => ("SeedChainer$BestChain", "ahead", "[I", true)
  | 1 => ("SeedChainer$BestChain", "pairs", "[I", true)
  | 2 => ("SeedChainer$BestChain", "size", "I", false)
  | _ => ("SeedChainer$BestChain", "total", "I", false)
def tyX0 : Nat → FieldType := fun k => match k with
  | 0 => .array .int
  | 1 => .array .int
  | 2 => .int
  | _ => .int
def RX1 : String := "SeedChainer$LetterRow"
def TX1 : u_T := fun k => match k with
  | 0 => ("SeedChainer$LetterRow", "letters", "[I", true)
  | _ => ("SeedChainer$LetterRow", "size", "I", false)
def tyX1 : Nat → FieldType := fun k => match k with
  | 0 => .array .int
  | _ => .int
def RX2 : String := "SeedChainer$Reaching"
def TX2 : u_T := fun k => match k with
  | 0 => ("SeedChainer$Reaching", "gain", "I", false)
  | 1 => ("SeedChainer$Reaching", "loss", "I", false)
  | 2 => ("SeedChainer$Reaching", "gap", "I", false)
  | 3 => ("SeedChainer$Reaching", "limit", "I", false)
  | 4 => ("SeedChainer$Reaching", "twoBefore", "[I", false)
  | 5 => ("SeedChainer$Reaching", "oneBefore", "[I", false)
  | 6 => ("SeedChainer$Reaching", "current", "[I", false)
  | 7 => ("SeedChainer$Reaching", "endScore", "I", false)
  | 8 => ("SeedChainer$Reaching", "endP", "I", false)
  | 9 => ("SeedChainer$Reaching", "endQ", "I", false)
  | 10 => ("SeedChainer$Reaching", "aliveCells", "I", false)
  | _ => ("SeedChainer$Reaching", "lastSlope", "I", false)
def tyX2 : Nat → FieldType := fun k => match k with
  | 0 => .int
  | 1 => .int
  | 2 => .int
  | 3 => .int
  | 4 => .array .int
  | 5 => .array .int
  | 6 => .array .int
  | 7 => .int
  | 8 => .int
  | 9 => .int
  | 10 => .int
  | _ => .int
def RX3 : String := "SeedChainer$Seeds"
def TX3 : u_T := fun k => match k with
  | 0 => ("SeedChainer$Seeds", "first", "LSeedChainer$LetterRow;", true)
  | 1 => ("SeedChainer$Seeds", "second", "LSeedChainer$LetterRow;", true)
  | _ => ("SeedChainer$Seeds", "length", "I", false)
def tyX3 : Nat → FieldType := fun k => match k with
  | 0 => .object "SeedChainer$LetterRow"
  | 1 => .object "SeedChainer$LetterRow"
  | _ => .int
def RX4 : String := "SeedChainer"
def TX4 : u_T := fun k => match k with
  | 0 => ("SeedChainer", "row0", "LSeedChainer$LetterRow;", true)
  | 1 => ("SeedChainer", "row1", "LSeedChainer$LetterRow;", true)
  | 2 => ("SeedChainer", "seedPairs", "LSeedChainer$Seeds;", true)
  | 3 => ("SeedChainer", "best", "LSeedChainer$BestChain;", true)
  | 4 => ("SeedChainer", "reaching", "LSeedChainer$Reaching;", true)
  | 5 => ("SeedChainer", "gapPenalty", "I", false)
  | _ => ("SeedChainer", "bestIsFresh", "Z", false)
def tyX4 : Nat → FieldType := fun k => match k with
  | 0 => .object "SeedChainer$LetterRow"
  | 1 => .object "SeedChainer$LetterRow"
  | 2 => .object "SeedChainer$Seeds"
  | 3 => .object "SeedChainer$BestChain"
  | 4 => .object "SeedChainer$Reaching"
  | 5 => .int
  | _ => .boolean
def RX5 : String := "SeedChainerModel"
def TX5 : u_T := fun k => match k with
  | 0 => ("SeedChainerModel", "letters", "[I", true)
  | 1 => ("SeedChainerModel", "lengths", "[I", true)
  | 2 => ("SeedChainerModel", "seed", "I", false)
  | 3 => ("SeedChainerModel", "penalty", "I", false)
  | 4 => ("SeedChainerModel", "gain", "I", false)
  | 5 => ("SeedChainerModel", "loss", "I", false)
  | 6 => ("SeedChainerModel", "gap", "I", false)
  | 7 => ("SeedChainerModel", "limit", "I", false)
  | 8 => ("SeedChainerModel", "firsts", "[I", true)
  | 9 => ("SeedChainerModel", "seconds", "[I", true)
  | 10 => ("SeedChainerModel", "worths", "[I", true)
  | 11 => ("SeedChainerModel", "found", "I", false)
  | 12 => ("SeedChainerModel", "links", "[I", true)
  | 13 => ("SeedChainerModel", "linked", "I", false)
  | 14 => ("SeedChainerModel", "best", "I", false)
  | 15 => ("SeedChainerModel", "isKnown", "Z", false)
  | 16 => ("SeedChainerModel", "scores", "[I", true)
  | 17 => ("SeedChainerModel", "isReached", "Z", false)
  | 18 => ("SeedChainerModel", "endP", "I", false)
  | 19 => ("SeedChainerModel", "endQ", "I", false)
  | 20 => ("SeedChainerModel", "alive", "I", false)
  | _ => ("SeedChainerModel", "farthest", "I", false)
def tyX5 : Nat → FieldType := fun k => match k with
  | 0 => .array .int
  | 1 => .array .int
  | 2 => .int
  | 3 => .int
  | 4 => .int
  | 5 => .int
  | 6 => .int
  | 7 => .int
  | 8 => .array .int
  | 9 => .array .int
  | 10 => .array .int
  | 11 => .int
  | 12 => .array .int
  | 13 => .int
  | 14 => .int
  | 15 => .boolean
  | 16 => .array .int
  | 17 => .boolean
  | 18 => .int
  | 19 => .int
  | 20 => .int
  | _ => .int
def RL : String := "SeedChainerLaw"
def RJ7 : String := "java/util/Arrays"
abbrev cls : List vw_C := [(RX0, TX0, 4), (RX1, TX1, 2), (RX2, TX2, 12), (RX3, TX3, 3), (RX4, TX4, 7), (RX5, TX5, 22)]
abbrev cX4_init : ByteArray := prog_1_method_1_code
def yX4_init : MethodName := ⟨RX4, "<init>", "()V"⟩
abbrev YX4_init : jY := (yX4_init, cX4_init, 1, none)
abbrev cX1_init : ByteArray := prog_3_method_1_code
def yX1_init : MethodName := ⟨RX1, "<init>", "()V"⟩
abbrev YX1_init : jY := (yX1_init, cX1_init, 1, none)
abbrev cX3_init : ByteArray := prog_5_method_1_code
def yX3_init : MethodName := ⟨RX3, "<init>", "(LSeedChainer$LetterRow;LSeedChainer$LetterRow;)V"⟩
abbrev YX3_init : jY := (yX3_init, cX3_init, 3, none)
abbrev cX0_init : ByteArray := prog_2_method_1_code
def yX0_init : MethodName := ⟨RX0, "<init>", "()V"⟩
abbrev YX0_init : jY := (yX0_init, cX0_init, 1, none)
abbrev cX2_init : ByteArray := prog_4_method_1_code
def yX2_init : MethodName := ⟨RX2, "<init>", "()V"⟩
abbrev YX2_init : jY := (yX2_init, cX2_init, 1, none)
abbrev cX4_put : ByteArray := prog_1_method_2_code
def yX4_put : MethodName := ⟨RX4, "put", "(II)I"⟩
abbrev YX4_put : jY := (yX4_put, cX4_put, 4, (some .int))
abbrev cX4_rowOf : ByteArray := prog_1_method_15_code
def yX4_rowOf : MethodName := ⟨RX4, "rowOf", "(I)LSeedChainer$LetterRow;"⟩
abbrev YX4_rowOf : jY := (yX4_rowOf, cX4_rowOf, 2, (some (.object "SeedChainer$LetterRow")))
abbrev cX4_isBetween : ByteArray := prog_1_method_17_code
def yX4_isBetween : MethodName := ⟨RX4, "isBetween", "(III)Z"⟩
abbrev YX4_isBetween : jY := (yX4_isBetween, cX4_isBetween, 3, (some .boolean))
abbrev cX1_isFull : ByteArray := prog_3_method_3_code
def yX1_isFull : MethodName := ⟨RX1, "isFull", "()Z"⟩
abbrev YX1_isFull : jY := (yX1_isFull, cX1_isFull, 1, (some .boolean))
abbrev cX1_append : ByteArray := prog_3_method_4_code
def yX1_append : MethodName := ⟨RX1, "append", "(I)V"⟩
abbrev YX1_append : jY := (yX1_append, cX1_append, 2, none)
abbrev cX1_size : ByteArray := prog_3_method_2_code
def yX1_size : MethodName := ⟨RX1, "size", "()I"⟩
abbrev YX1_size : jY := (yX1_size, cX1_size, 1, (some .int))
abbrev cX4_cut : ByteArray := prog_1_method_3_code
def yX4_cut : MethodName := ⟨RX4, "cut", "(I)I"⟩
abbrev YX4_cut : jY := (yX4_cut, cX4_cut, 3, (some .int))
abbrev cX1_dropLast : ByteArray := prog_3_method_5_code
def yX1_dropLast : MethodName := ⟨RX1, "dropLast", "()I"⟩
abbrev YX1_dropLast : jY := (yX1_dropLast, cX1_dropLast, 1, (some .int))
abbrev cX4_letter : ByteArray := prog_1_method_4_code
def yX4_letter : MethodName := ⟨RX4, "letter", "(II)I"⟩
abbrev YX4_letter : jY := (yX4_letter, cX4_letter, 4, (some .int))
abbrev cX1_at : ByteArray := prog_3_method_6_code
def yX1_at : MethodName := ⟨RX1, "at", "(I)I"⟩
abbrev YX1_at : jY := (yX1_at, cX1_at, 2, (some .int))
abbrev cX4_seeds : ByteArray := prog_1_method_5_code
def yX4_seeds : MethodName := ⟨RX4, "seeds", "(I)Z"⟩
abbrev YX4_seeds : jY := (yX4_seeds, cX4_seeds, 2, (some .boolean))
abbrev cX3_useLength : ByteArray := prog_5_method_3_code
def yX3_useLength : MethodName := ⟨RX3, "useLength", "(I)V"⟩
abbrev YX3_useLength : jY := (yX3_useLength, cX3_useLength, 2, none)
abbrev cX4_penalty : ByteArray := prog_1_method_6_code
def yX4_penalty : MethodName := ⟨RX4, "penalty", "(I)Z"⟩
abbrev YX4_penalty : jY := (yX4_penalty, cX4_penalty, 2, (some .boolean))
abbrev cX4_scores : ByteArray := prog_1_method_7_code
def yX4_scores : MethodName := ⟨RX4, "scores", "(IIII)Z"⟩
abbrev YX4_scores : jY := (yX4_scores, cX4_scores, 5, (some .boolean))
abbrev cX2_useScores : ByteArray := prog_4_method_2_code
def yX2_useScores : MethodName := ⟨RX2, "useScores", "(IIII)V"⟩
abbrev YX2_useScores : jY := (yX2_useScores, cX2_useScores, 5, none)
abbrev cX4_anchors : ByteArray := prog_1_method_8_code
def yX4_anchors : MethodName := ⟨RX4, "anchors", "()I"⟩
abbrev YX4_anchors : jY := (yX4_anchors, cX4_anchors, 1, (some .int))
abbrev cX3_count : ByteArray := prog_5_method_7_code
def yX3_count : MethodName := ⟨RX3, "count", "()I"⟩
abbrev YX3_count : jY := (yX3_count, cX3_count, 4, (some .int))
abbrev cX3_isSeed : ByteArray := prog_5_method_6_code
def yX3_isSeed : MethodName := ⟨RX3, "isSeed", "(II)Z"⟩
abbrev YX3_isSeed : jY := (yX3_isSeed, cX3_isSeed, 4, (some .boolean))
abbrev cX4_anchor : ByteArray := prog_1_method_9_code
def yX4_anchor : MethodName := ⟨RX4, "anchor", "(II)I"⟩
abbrev YX4_anchor : jY := (yX4_anchor, cX4_anchor, 3, (some .int))
abbrev cX3_pairAt : ByteArray := prog_5_method_8_code
def yX3_pairAt : MethodName := ⟨RX3, "pairAt", "(I)I"⟩
abbrev YX3_pairAt : jY := (yX3_pairAt, cX3_pairAt, 5, (some .int))
abbrev cX4_pairOf : ByteArray := prog_1_method_18_code
def yX4_pairOf : MethodName := ⟨RX4, "pairOf", "(II)I"⟩
abbrev YX4_pairOf : jY := (yX4_pairOf, cX4_pairOf, 2, (some .int))
abbrev cX4_placeOf : ByteArray := prog_1_method_19_code
def yX4_placeOf : MethodName := ⟨RX4, "placeOf", "(II)I"⟩
abbrev YX4_placeOf : jY := (yX4_placeOf, cX4_placeOf, 2, (some .int))
abbrev cX4_chain : ByteArray := prog_1_method_10_code
def yX4_chain : MethodName := ⟨RX4, "chain", "()I"⟩
abbrev YX4_chain : jY := (yX4_chain, cX4_chain, 1, (some .int))
abbrev cX4_freshBest : ByteArray := prog_1_method_16_code
def yX4_freshBest : MethodName := ⟨RX4, "freshBest", "()LSeedChainer$BestChain;"⟩
abbrev YX4_freshBest : jY := (yX4_freshBest, cX4_freshBest, 1, (some (.object "SeedChainer$BestChain")))
abbrev cX0_find : ByteArray := prog_2_method_5_code
def yX0_find : MethodName := ⟨RX0, "find", "(LSeedChainer$Seeds;I)V"⟩
abbrev YX0_find : jY := (yX0_find, cX0_find, 6, none)
abbrev cX0_lookAhead : ByteArray := prog_2_method_6_code
def yX0_lookAhead : MethodName := ⟨RX0, "lookAhead", "(LSeedChainer$Seeds;I)V"⟩
abbrev YX0_lookAhead : jY := (yX0_lookAhead, cX0_lookAhead, 5, none)
abbrev cX3_firstSize : ByteArray := prog_5_method_4_code
def yX3_firstSize : MethodName := ⟨RX3, "firstSize", "()I"⟩
abbrev YX3_firstSize : jY := (yX3_firstSize, cX3_firstSize, 1, (some .int))
abbrev cX3_secondSize : ByteArray := prog_5_method_5_code
def yX3_secondSize : MethodName := ⟨RX3, "secondSize", "()I"⟩
abbrev YX3_secondSize : jY := (yX3_secondSize, cX3_secondSize, 1, (some .int))
abbrev cX0_mostFrom : ByteArray := prog_2_method_7_code
def yX0_mostFrom : MethodName := ⟨RX0, "mostFrom", "(LSeedChainer$Seeds;III)I"⟩
abbrev YX0_mostFrom : jY := (yX0_mostFrom, cX0_mostFrom, 6, (some .int))
abbrev cX0_worthFrom : ByteArray := prog_2_method_8_code
def yX0_worthFrom : MethodName := ⟨RX0, "worthFrom", "(LSeedChainer$Seeds;II)I"⟩
abbrev YX0_worthFrom : jY := (yX0_worthFrom, cX0_worthFrom, 5, (some .int))
abbrev cX3_length : ByteArray := prog_5_method_2_code
def yX3_length : MethodName := ⟨RX3, "length", "()I"⟩
abbrev YX3_length : jY := (yX3_length, cX3_length, 1, (some .int))
abbrev cX0_firstPair : ByteArray := prog_2_method_9_code
def yX0_firstPair : MethodName := ⟨RX0, "firstPair", "(LSeedChainer$Seeds;)I"⟩
abbrev YX0_firstPair : jY := (yX0_firstPair, cX0_firstPair, 6, (some .int))
abbrev cX0_nextPair : ByteArray := prog_2_method_10_code
def yX0_nextPair : MethodName := ⟨RX0, "nextPair", "(LSeedChainer$Seeds;III)I"⟩
abbrev YX0_nextPair : jY := (yX0_nextPair, cX0_nextPair, 9, (some .int))
abbrev cX0_total : ByteArray := prog_2_method_2_code
def yX0_total : MethodName := ⟨RX0, "total", "()I"⟩
abbrev YX0_total : jY := (yX0_total, cX0_total, 1, (some .int))
abbrev cX4_links : ByteArray := prog_1_method_11_code
def yX4_links : MethodName := ⟨RX4, "links", "()I"⟩
abbrev YX4_links : jY := (yX4_links, cX4_links, 1, (some .int))
abbrev cX0_size : ByteArray := prog_2_method_3_code
def yX0_size : MethodName := ⟨RX0, "size", "()I"⟩
abbrev YX0_size : jY := (yX0_size, cX0_size, 1, (some .int))
abbrev cX4_link : ByteArray := prog_1_method_12_code
def yX4_link : MethodName := ⟨RX4, "link", "(II)I"⟩
abbrev YX4_link : jY := (yX4_link, cX4_link, 3, (some .int))
abbrev cX0_pairAt : ByteArray := prog_2_method_4_code
def yX0_pairAt : MethodName := ⟨RX0, "pairAt", "(I)I"⟩
abbrev YX0_pairAt : jY := (yX0_pairAt, cX0_pairAt, 2, (some .int))
abbrev cX4_reach : ByteArray := prog_1_method_13_code
def yX4_reach : MethodName := ⟨RX4, "reach", "(II)I"⟩
abbrev YX4_reach : jY := (yX4_reach, cX4_reach, 3, (some .int))
abbrev cX2_walk : ByteArray := prog_4_method_5_code
def yX2_walk : MethodName := ⟨RX2, "walk", "(LSeedChainer$LetterRow;ILSeedChainer$LetterRow;I)V"⟩
abbrev YX2_walk : jY := (yX2_walk, cX2_walk, 7, none)
abbrev cX2_begin : ByteArray := prog_4_method_6_code
def yX2_begin : MethodName := ⟨RX2, "begin", "()V"⟩
abbrev YX2_begin : jY := (yX2_begin, cX2_begin, 1, none)
abbrev cJ7_fill : ByteArray := prog_9_method_103_code
def yJ7_fill : MethodName := ⟨RJ7, "fill", "([II)V"⟩
abbrev YJ7_fill : jY := (yJ7_fill, cJ7_fill, 4, none)
abbrev cX2_turnSlopes : ByteArray := prog_4_method_7_code
def yX2_turnSlopes : MethodName := ⟨RX2, "turnSlopes", "()V"⟩
abbrev YX2_turnSlopes : jY := (yX2_turnSlopes, cX2_turnSlopes, 2, none)
abbrev cX2_walkSlope : ByteArray := prog_4_method_8_code
def yX2_walkSlope : MethodName := ⟨RX2, "walkSlope", "(LSeedChainer$LetterRow;ILSeedChainer$LetterRow;II)V"⟩
abbrev YX2_walkSlope : jY := (yX2_walkSlope, cX2_walkSlope, 12, none)
abbrev cX2_gapScore : ByteArray := prog_4_method_9_code
def yX2_gapScore : MethodName := ⟨RX2, "gapScore", "(I)I"⟩
abbrev YX2_gapScore : jY := (yX2_gapScore, cX2_gapScore, 3, (some .int))
abbrev cX2_keepAlive : ByteArray := prog_4_method_10_code
def yX2_keepAlive : MethodName := ⟨RX2, "keepAlive", "(III)V"⟩
abbrev YX2_keepAlive : jY := (yX2_keepAlive, cX2_keepAlive, 4, none)
abbrev cX2_endScore : ByteArray := prog_4_method_3_code
def yX2_endScore : MethodName := ⟨RX2, "endScore", "()I"⟩
abbrev YX2_endScore : jY := (yX2_endScore, cX2_endScore, 1, (some .int))
abbrev cX4_reached : ByteArray := prog_1_method_14_code
def yX4_reached : MethodName := ⟨RX4, "reached", "(I)I"⟩
abbrev YX4_reached : jY := (yX4_reached, cX4_reached, 2, (some .int))
abbrev cX2_outcome : ByteArray := prog_4_method_4_code
def yX2_outcome : MethodName := ⟨RX2, "outcome", "(I)I"⟩
abbrev YX2_outcome : jY := (yX2_outcome, cX2_outcome, 2, (some .int))
abbrev cX5_init : ByteArray := prog_7_method_1_code
def yX5_init : MethodName := ⟨RX5, "<init>", "()V"⟩
abbrev YX5_init : jY := (yX5_init, cX5_init, 1, none)
abbrev cX5_put : ByteArray := prog_7_method_4_code
def yX5_put : MethodName := ⟨RX5, "put", "(II)I"⟩
abbrev YX5_put : jY := (yX5_put, cX5_put, 3, (some .int))
abbrev cX5_isRow : ByteArray := prog_7_method_3_code
def yX5_isRow : MethodName := ⟨RX5, "isRow", "(I)Z"⟩
abbrev YX5_isRow : jY := (yX5_isRow, cX5_isRow, 1, (some .boolean))
abbrev cX5_cut : ByteArray := prog_7_method_5_code
def yX5_cut : MethodName := ⟨RX5, "cut", "(I)I"⟩
abbrev YX5_cut : jY := (yX5_cut, cX5_cut, 2, (some .int))
abbrev cX5_letter : ByteArray := prog_7_method_6_code
def yX5_letter : MethodName := ⟨RX5, "letter", "(II)I"⟩
abbrev YX5_letter : jY := (yX5_letter, cX5_letter, 3, (some .int))
abbrev cX5_seeds : ByteArray := prog_7_method_7_code
def yX5_seeds : MethodName := ⟨RX5, "seeds", "(I)Z"⟩
abbrev YX5_seeds : jY := (yX5_seeds, cX5_seeds, 2, (some .boolean))
abbrev cX5_penalty : ByteArray := prog_7_method_8_code
def yX5_penalty : MethodName := ⟨RX5, "penalty", "(I)Z"⟩
abbrev YX5_penalty : jY := (yX5_penalty, cX5_penalty, 2, (some .boolean))
abbrev cX5_scores : ByteArray := prog_7_method_9_code
def yX5_scores : MethodName := ⟨RX5, "scores", "(IIII)Z"⟩
abbrev YX5_scores : jY := (yX5_scores, cX5_scores, 5, (some .boolean))
abbrev cX5_anchors : ByteArray := prog_7_method_13_code
def yX5_anchors : MethodName := ⟨RX5, "anchors", "()I"⟩
abbrev YX5_anchors : jY := (yX5_anchors, cX5_anchors, 1, (some .int))
abbrev cX5_learn : ByteArray := prog_7_method_12_code
def yX5_learn : MethodName := ⟨RX5, "learn", "()V"⟩
abbrev YX5_learn : jY := (yX5_learn, cX5_learn, 6, none)
abbrev cX5_isAnchor : ByteArray := prog_7_method_10_code
def yX5_isAnchor : MethodName := ⟨RX5, "isAnchor", "(II)Z"⟩
abbrev YX5_isAnchor : jY := (yX5_isAnchor, cX5_isAnchor, 5, (some .boolean))
abbrev cX5_between : ByteArray := prog_7_method_11_code
def yX5_between : MethodName := ⟨RX5, "between", "(II)I"⟩
abbrev YX5_between : jY := (yX5_between, cX5_between, 5, (some .int))
abbrev cX5_anchor : ByteArray := prog_7_method_14_code
def yX5_anchor : MethodName := ⟨RX5, "anchor", "(II)I"⟩
abbrev YX5_anchor : jY := (yX5_anchor, cX5_anchor, 3, (some .int))
abbrev cX5_chain : ByteArray := prog_7_method_15_code
def yX5_chain : MethodName := ⟨RX5, "chain", "()I"⟩
abbrev YX5_chain : jY := (yX5_chain, cX5_chain, 1, (some .int))
abbrev cX5_links : ByteArray := prog_7_method_16_code
def yX5_links : MethodName := ⟨RX5, "links", "()I"⟩
abbrev YX5_links : jY := (yX5_links, cX5_links, 1, (some .int))
abbrev cX5_link : ByteArray := prog_7_method_17_code
def yX5_link : MethodName := ⟨RX5, "link", "(II)I"⟩
abbrev YX5_link : jY := (yX5_link, cX5_link, 3, (some .int))
abbrev cX5_reach : ByteArray := prog_7_method_20_code
def yX5_reach : MethodName := ⟨RX5, "reach", "(II)I"⟩
abbrev YX5_reach : jY := (yX5_reach, cX5_reach, 12, (some .int))
abbrev cX5_scoreAt : ByteArray := prog_7_method_18_code
def yX5_scoreAt : MethodName := ⟨RX5, "scoreAt", "(II)I"⟩
abbrev YX5_scoreAt : jY := (yX5_scoreAt, cX5_scoreAt, 3, (some .int))
abbrev cX5_greater : ByteArray := prog_7_method_19_code
def yX5_greater : MethodName := ⟨RX5, "greater", "(II)I"⟩
abbrev YX5_greater : jY := (yX5_greater, cX5_greater, 2, (some .int))
abbrev cX5_reached : ByteArray := prog_7_method_21_code
def yX5_reached : MethodName := ⟨RX5, "reached", "(I)I"⟩
abbrev YX5_reached : jY := (yX5_reached, cX5_reached, 2, (some .int))
end
section
/-! ===== whole numbers as the machine's ints: jI ===== -/
def jI (z : Int) : Int32 := Int32.ofInt z
theorem jI_toInt {z : Int} (h : -2147483648 ≤ z ∧ z < 2147483648) : (jI z).toInt = z := Int32.toInt_ofInt_of_le (by omega) (by omega)
theorem jI_add (a b : Int) : jI a + jI b = jI (a + b) := (Int32.ofInt_add a b).symm
theorem jI_sub (a b : Int) : jI a - jI b = jI (a - b) := (Int32.ofInt_sub a b).symm
theorem jI_mul (a b : Int) : jI a * jI b = jI (a * b) := (Int32.ofInt_mul a b).symm
theorem jI_neg (a : Int) : -jI a = jI (-a) := (Int32.ofInt_neg a).symm
theorem jI_of (x : Int32) : jI x.toInt = x := Int32.ofInt_toInt x
theorem jI_rg (x : Int32) : -2147483648 ≤ x.toInt ∧ x.toInt < 2147483648 := ⟨by have := x.le_toInt; omega, by have := x.toInt_lt; omega⟩
theorem jI_le {a b : Int} (ra : -2147483648 ≤ a ∧ a < 2147483648) (rb : -2147483648 ≤ b ∧ b < 2147483648) : jI a ≤ jI b ↔ a ≤ b := by rw [Int32.le_iff_toInt_le, jI_toInt ra, jI_toInt rb]
theorem jI_lt {a b : Int} (ra : -2147483648 ≤ a ∧ a < 2147483648) (rb : -2147483648 ≤ b ∧ b < 2147483648) : jI a < jI b ↔ a < b := by rw [Int32.lt_iff_toInt_lt, jI_toInt ra, jI_toInt rb]
theorem jI_eq {a b : Int} (ra : -2147483648 ≤ a ∧ a < 2147483648) (rb : -2147483648 ≤ b ∧ b < 2147483648) : jI a = jI b ↔ a = b := by rw [← Int32.toInt_inj, jI_toInt ra, jI_toInt rb]
theorem jI_0 : jI 0 = 0 := rfl
theorem jI_clamp {z : Int} (h : 0 ≤ z ∧ z < 2147483648) : (jI z).toNatClampNeg = z.toNat := Int32.toNatClampNeg_ofInt_of_le (by omega) (by omega)
theorem jI_in {z : Int} {n : Nat} (h : 0 ≤ z ∧ z < n) (hn : n < 2147483648) : vp_in (jI z) n := by
  unfold vp_in
  rw [jI_clamp ⟨h.1, by omega⟩, ← jI_0, jI_lt (by omega) (by omega)]
  omega
theorem jI_div {a b : Int} (ra : 0 ≤ a ∧ a < 2147483648) (rb : 0 < b ∧ b < 2147483648) : jI a / jI b = jI (a / b) := by
  have hq : 0 ≤ a / b ∧ a / b ≤ a := ⟨Int.ediv_nonneg ra.1 (by omega), Int.ediv_le_self _ ra.1⟩
  rw [← Int32.toInt_inj, Int32.toInt_div, jI_toInt (by omega), jI_toInt (by omega), jI_toInt (by omega), Int.tdiv_eq_ediv_of_nonneg ra.1]
  exact Int.bmod_eq_of_le (by omega) (by omega)
theorem jI_rem {a b : Int} (ra : 0 ≤ a ∧ a < 2147483648) (rb : 0 < b ∧ b < 2147483648) : jI a - jI a / jI b * jI b = jI (a % b) := by
  rw [jI_div ra rb, jI_mul, jI_sub, Int.emod_def, Int.mul_comm b]
/-- an array's contents by a function on whole numbers -/
def jA (F : Int → Int) : Nat → Int32 := fun j => jI (F (j : Int))
def jU (F : Int → Int) (z v : Int) : Int → Int := fun x => if x = z then v else F x
theorem jU_s {F : Int → Int} {z v : Int} : jU F z v z = v := by simp [jU]
theorem jU_n {F : Int → Int} {z v x : Int} (h : x ≠ z) : jU F z v x = F x := by simp [jU, h]
theorem jA_at {F : Int → Int} {z : Int} (h : 0 ≤ z ∧ z < 2147483648) : jA F (jI z).toNatClampNeg = jI (F z) := by
  rw [jI_clamp h]
  unfold jA
  rw [Int.toNat_of_nonneg h.1]
theorem jA_up {F : Int → Int} {z v : Int} (h : 0 ≤ z ∧ z < 2147483648) : upd (jA F) (jI z).toNatClampNeg (jI v) = jA (jU F z v) := by
  rw [jI_clamp h]
  funext j
  unfold upd jA jU
  by_cases hj : j = z.toNat
  · rw [if_pos hj, if_pos (by omega)]
  · rw [if_neg hj, if_neg (by omega)]
theorem jA_0 : (fun _ => (0 : Int32)) = jA (fun _ => 0) := rfl
section JV
variable {p : Program} {l : Launch} {e : Env} {R : Room} {s : State} {m : MethodId} {args : Array Value} {below : List Frame} {meth : Method} {c : Code} {H : Heap} {locs : List Loc} {cells slots : Nat} {Q : State → Prop}
variable {cc : ByteArray} {pc : Nat} {ls : Array Slot} {rest : List Value}
theorem jv_iadd (hx : p.tables.exec = Jvm.exec) (hb : c.code = cc) {a b : Int} (hdg : decode cc pc = .ok (.iadd, 1)) (k : W p l e R s m args below meth c H locs cells slots Q (F0 m (pc + 1) ls (.int (jI (a + b)) :: rest))) : W p l e R s m args below meth c H locs cells slots Q (F0 m pc ls (.int (jI b) :: .int (jI a) :: rest)) := lv_iadd hx hb hdg (by rw [jI_add]; exact k)
theorem jv_isub (hx : p.tables.exec = Jvm.exec) (hb : c.code = cc) {a b : Int} (hdg : decode cc pc = .ok (.isub, 1)) (k : W p l e R s m args below meth c H locs cells slots Q (F0 m (pc + 1) ls (.int (jI (a - b)) :: rest))) : W p l e R s m args below meth c H locs cells slots Q (F0 m pc ls (.int (jI b) :: .int (jI a) :: rest)) := lv_isub hx hb hdg (by rw [jI_sub]; exact k)
theorem jv_imul (hx : p.tables.exec = Jvm.exec) (hb : c.code = cc) {a b : Int} (hdg : decode cc pc = .ok (.imul, 1)) (k : W p l e R s m args below meth c H locs cells slots Q (F0 m (pc + 1) ls (.int (jI (a * b)) :: rest))) : W p l e R s m args below meth c H locs cells slots Q (F0 m pc ls (.int (jI b) :: .int (jI a) :: rest)) := lv_imul hx hb hdg (by rw [jI_mul]; exact k)
theorem jv_ineg (hx : p.tables.exec = Jvm.exec) (hb : c.code = cc) {a : Int} (hdg : decode cc pc = .ok (.ineg, 1)) (k : W p l e R s m args below meth c H locs cells slots Q (F0 m (pc + 1) ls (.int (jI (-a)) :: rest))) : W p l e R s m args below meth c H locs cells slots Q (F0 m pc ls (.int (jI a) :: rest)) := lv_ineg hx hb hdg (by first | (rw [jI_neg]; exact k) | (rw [← jI_0, jI_sub, Int.zero_sub]; exact k))
theorem jv_idiv (hx : p.tables.exec = Jvm.exec) (hb : c.code = cc) {a b : Int} (hdg : decode cc pc = .ok (.idiv, 1)) (ra : 0 ≤ a ∧ a < 2147483648) (rb : 0 < b ∧ b < 2147483648) (k : W p l e R s m args below meth c H locs cells slots Q (F0 m (pc + 1) ls (.int (jI (a / b)) :: rest))) : W p l e R s m args below meth c H locs cells slots Q (F0 m pc ls (.int (jI b) :: .int (jI a) :: rest)) := lv_idiv hx hb hdg (by rw [← jI_0, jI_eq (by omega) (by omega)]; omega) (by rw [jI_div ra rb]; exact k)
theorem jv_irem (hx : p.tables.exec = Jvm.exec) (hb : c.code = cc) {a b : Int} (hdg : decode cc pc = .ok (.irem, 1)) (ra : 0 ≤ a ∧ a < 2147483648) (rb : 0 < b ∧ b < 2147483648) (k : W p l e R s m args below meth c H locs cells slots Q (F0 m (pc + 1) ls (.int (jI (a % b)) :: rest))) : W p l e R s m args below meth c H locs cells slots Q (F0 m pc ls (.int (jI b) :: .int (jI a) :: rest)) := lv_irem hx hb hdg (by rw [← jI_0, jI_eq (by omega) (by omega)]; omega) (by rw [jI_rem ra rb]; exact k)
theorem jv_icmp_eq (hx : p.tables.exec = Jvm.exec) (hb : c.code = cc) {a b : Int} {off : Int} {tgt : Nat} (hdg : decode cc pc = .ok (.if_icmp .eq off, 3)) (ht : (pc : Int) + off = (tgt : Int)) (ra : -2147483648 ≤ a ∧ a < 2147483648) (rb : -2147483648 ≤ b ∧ b < 2147483648) (kt : a = b → W p l e R s m args below meth c H locs cells slots Q (F0 m tgt ls rest)) (kf : ¬ a = b → W p l e R s m args below meth c H locs cells slots Q (F0 m (pc + 3) ls rest)) : W p l e R s m args below meth c H locs cells slots Q (F0 m pc ls (.int (jI b) :: .int (jI a) :: rest)) := lv_icmp_eq hx hb hdg ht (fun h => kt ((jI_eq ra rb).1 h)) (fun h => kf (fun h2 => h ((jI_eq ra rb).2 h2)))
theorem jv_if_eq (hx : p.tables.exec = Jvm.exec) (hb : c.code = cc) {a : Int} {off : Int} {tgt : Nat} (hdg : decode cc pc = .ok (.ifCond .eq off, 3)) (ht : (pc : Int) + off = (tgt : Int)) (ra : -2147483648 ≤ a ∧ a < 2147483648) (kt : a = 0 → W p l e R s m args below meth c H locs cells slots Q (F0 m tgt ls rest)) (kf : ¬ a = 0 → W p l e R s m args below meth c H locs cells slots Q (F0 m (pc + 3) ls rest)) : W p l e R s m args below meth c H locs cells slots Q (F0 m pc ls (.int (jI a) :: rest)) := by
  have r0 : -2147483648 ≤ (0 : Int) ∧ (0 : Int) < 2147483648 := by omega
  refine lv_if_eq hx hb hdg ht ?_ ?_
  · rw [← jI_0]; exact fun h => kt ((jI_eq ra r0).1 h)
  · rw [← jI_0]; exact fun h => kf (fun h2 => h ((jI_eq ra r0).2 h2))
theorem jv_icmp_ne (hx : p.tables.exec = Jvm.exec) (hb : c.code = cc) {a b : Int} {off : Int} {tgt : Nat} (hdg : decode cc pc = .ok (.if_icmp .ne off, 3)) (ht : (pc : Int) + off = (tgt : Int)) (ra : -2147483648 ≤ a ∧ a < 2147483648) (rb : -2147483648 ≤ b ∧ b < 2147483648) (kt : ¬ a = b → W p l e R s m args below meth c H locs cells slots Q (F0 m tgt ls rest)) (kf : a = b → W p l e R s m args below meth c H locs cells slots Q (F0 m (pc + 3) ls rest)) : W p l e R s m args below meth c H locs cells slots Q (F0 m pc ls (.int (jI b) :: .int (jI a) :: rest)) := lv_icmp_ne hx hb hdg ht (fun h => kt (fun h2 => h ((jI_eq ra rb).2 h2))) (fun h => kf ((jI_eq ra rb).1 h))
theorem jv_if_ne (hx : p.tables.exec = Jvm.exec) (hb : c.code = cc) {a : Int} {off : Int} {tgt : Nat} (hdg : decode cc pc = .ok (.ifCond .ne off, 3)) (ht : (pc : Int) + off = (tgt : Int)) (ra : -2147483648 ≤ a ∧ a < 2147483648) (kt : ¬ a = 0 → W p l e R s m args below meth c H locs cells slots Q (F0 m tgt ls rest)) (kf : a = 0 → W p l e R s m args below meth c H locs cells slots Q (F0 m (pc + 3) ls rest)) : W p l e R s m args below meth c H locs cells slots Q (F0 m pc ls (.int (jI a) :: rest)) := by
  have r0 : -2147483648 ≤ (0 : Int) ∧ (0 : Int) < 2147483648 := by omega
  refine lv_if_ne hx hb hdg ht ?_ ?_
  · rw [← jI_0]; exact fun h => kt (fun h2 => h ((jI_eq ra r0).2 h2))
  · rw [← jI_0]; exact fun h => kf ((jI_eq ra r0).1 h)
theorem jv_icmp_lt (hx : p.tables.exec = Jvm.exec) (hb : c.code = cc) {a b : Int} {off : Int} {tgt : Nat} (hdg : decode cc pc = .ok (.if_icmp .lt off, 3)) (ht : (pc : Int) + off = (tgt : Int)) (ra : -2147483648 ≤ a ∧ a < 2147483648) (rb : -2147483648 ≤ b ∧ b < 2147483648) (kt : a < b → W p l e R s m args below meth c H locs cells slots Q (F0 m tgt ls rest)) (kf : ¬ a < b → W p l e R s m args below meth c H locs cells slots Q (F0 m (pc + 3) ls rest)) : W p l e R s m args below meth c H locs cells slots Q (F0 m pc ls (.int (jI b) :: .int (jI a) :: rest)) := lv_icmp_lt hx hb hdg ht (fun h => kt ((jI_lt ra rb).1 h)) (fun h => kf (fun h2 => h ((jI_lt ra rb).2 h2)))
theorem jv_if_lt (hx : p.tables.exec = Jvm.exec) (hb : c.code = cc) {a : Int} {off : Int} {tgt : Nat} (hdg : decode cc pc = .ok (.ifCond .lt off, 3)) (ht : (pc : Int) + off = (tgt : Int)) (ra : -2147483648 ≤ a ∧ a < 2147483648) (kt : a < 0 → W p l e R s m args below meth c H locs cells slots Q (F0 m tgt ls rest)) (kf : ¬ a < 0 → W p l e R s m args below meth c H locs cells slots Q (F0 m (pc + 3) ls rest)) : W p l e R s m args below meth c H locs cells slots Q (F0 m pc ls (.int (jI a) :: rest)) := by
  have r0 : -2147483648 ≤ (0 : Int) ∧ (0 : Int) < 2147483648 := by omega
  refine lv_if_lt hx hb hdg ht ?_ ?_
  · rw [← jI_0]; exact fun h => kt ((jI_lt ra r0).1 h)
  · rw [← jI_0]; exact fun h => kf (fun h2 => h ((jI_lt ra r0).2 h2))
theorem jv_icmp_ge (hx : p.tables.exec = Jvm.exec) (hb : c.code = cc) {a b : Int} {off : Int} {tgt : Nat} (hdg : decode cc pc = .ok (.if_icmp .ge off, 3)) (ht : (pc : Int) + off = (tgt : Int)) (ra : -2147483648 ≤ a ∧ a < 2147483648) (rb : -2147483648 ≤ b ∧ b < 2147483648) (kt : b ≤ a → W p l e R s m args below meth c H locs cells slots Q (F0 m tgt ls rest)) (kf : ¬ b ≤ a → W p l e R s m args below meth c H locs cells slots Q (F0 m (pc + 3) ls rest)) : W p l e R s m args below meth c H locs cells slots Q (F0 m pc ls (.int (jI b) :: .int (jI a) :: rest)) := lv_icmp_ge hx hb hdg ht (fun h => kt ((jI_le rb ra).1 h)) (fun h => kf (fun h2 => h ((jI_le rb ra).2 h2)))
theorem jv_if_ge (hx : p.tables.exec = Jvm.exec) (hb : c.code = cc) {a : Int} {off : Int} {tgt : Nat} (hdg : decode cc pc = .ok (.ifCond .ge off, 3)) (ht : (pc : Int) + off = (tgt : Int)) (ra : -2147483648 ≤ a ∧ a < 2147483648) (kt : 0 ≤ a → W p l e R s m args below meth c H locs cells slots Q (F0 m tgt ls rest)) (kf : ¬ 0 ≤ a → W p l e R s m args below meth c H locs cells slots Q (F0 m (pc + 3) ls rest)) : W p l e R s m args below meth c H locs cells slots Q (F0 m pc ls (.int (jI a) :: rest)) := by
  have r0 : -2147483648 ≤ (0 : Int) ∧ (0 : Int) < 2147483648 := by omega
  refine lv_if_ge hx hb hdg ht ?_ ?_
  · rw [← jI_0]; exact fun h => kt ((jI_le r0 ra).1 h)
  · rw [← jI_0]; exact fun h => kf (fun h2 => h ((jI_le r0 ra).2 h2))
theorem jv_icmp_gt (hx : p.tables.exec = Jvm.exec) (hb : c.code = cc) {a b : Int} {off : Int} {tgt : Nat} (hdg : decode cc pc = .ok (.if_icmp .gt off, 3)) (ht : (pc : Int) + off = (tgt : Int)) (ra : -2147483648 ≤ a ∧ a < 2147483648) (rb : -2147483648 ≤ b ∧ b < 2147483648) (kt : b < a → W p l e R s m args below meth c H locs cells slots Q (F0 m tgt ls rest)) (kf : ¬ b < a → W p l e R s m args below meth c H locs cells slots Q (F0 m (pc + 3) ls rest)) : W p l e R s m args below meth c H locs cells slots Q (F0 m pc ls (.int (jI b) :: .int (jI a) :: rest)) := lv_icmp_gt hx hb hdg ht (fun h => kt ((jI_lt rb ra).1 h)) (fun h => kf (fun h2 => h ((jI_lt rb ra).2 h2)))
theorem jv_if_gt (hx : p.tables.exec = Jvm.exec) (hb : c.code = cc) {a : Int} {off : Int} {tgt : Nat} (hdg : decode cc pc = .ok (.ifCond .gt off, 3)) (ht : (pc : Int) + off = (tgt : Int)) (ra : -2147483648 ≤ a ∧ a < 2147483648) (kt : 0 < a → W p l e R s m args below meth c H locs cells slots Q (F0 m tgt ls rest)) (kf : ¬ 0 < a → W p l e R s m args below meth c H locs cells slots Q (F0 m (pc + 3) ls rest)) : W p l e R s m args below meth c H locs cells slots Q (F0 m pc ls (.int (jI a) :: rest)) := by
  have r0 : -2147483648 ≤ (0 : Int) ∧ (0 : Int) < 2147483648 := by omega
  refine lv_if_gt hx hb hdg ht ?_ ?_
  · rw [← jI_0]; exact fun h => kt ((jI_lt r0 ra).1 h)
  · rw [← jI_0]; exact fun h => kf (fun h2 => h ((jI_lt r0 ra).2 h2))
theorem jv_icmp_le (hx : p.tables.exec = Jvm.exec) (hb : c.code = cc) {a b : Int} {off : Int} {tgt : Nat} (hdg : decode cc pc = .ok (.if_icmp .le off, 3)) (ht : (pc : Int) + off = (tgt : Int)) (ra : -2147483648 ≤ a ∧ a < 2147483648) (rb : -2147483648 ≤ b ∧ b < 2147483648) (kt : a ≤ b → W p l e R s m args below meth c H locs cells slots Q (F0 m tgt ls rest)) (kf : ¬ a ≤ b → W p l e R s m args below meth c H locs cells slots Q (F0 m (pc + 3) ls rest)) : W p l e R s m args below meth c H locs cells slots Q (F0 m pc ls (.int (jI b) :: .int (jI a) :: rest)) := lv_icmp_le hx hb hdg ht (fun h => kt ((jI_le ra rb).1 h)) (fun h => kf (fun h2 => h ((jI_le ra rb).2 h2)))
theorem jv_if_le (hx : p.tables.exec = Jvm.exec) (hb : c.code = cc) {a : Int} {off : Int} {tgt : Nat} (hdg : decode cc pc = .ok (.ifCond .le off, 3)) (ht : (pc : Int) + off = (tgt : Int)) (ra : -2147483648 ≤ a ∧ a < 2147483648) (kt : a ≤ 0 → W p l e R s m args below meth c H locs cells slots Q (F0 m tgt ls rest)) (kf : ¬ a ≤ 0 → W p l e R s m args below meth c H locs cells slots Q (F0 m (pc + 3) ls rest)) : W p l e R s m args below meth c H locs cells slots Q (F0 m pc ls (.int (jI a) :: rest)) := by
  have r0 : -2147483648 ≤ (0 : Int) ∧ (0 : Int) < 2147483648 := by omega
  refine lv_if_le hx hb hdg ht ?_ ?_
  · rw [← jI_0]; exact fun h => kt ((jI_le ra r0).1 h)
  · rw [← jI_0]; exact fun h => kf (fun h2 => h ((jI_le ra r0).2 h2))
end JV
end
section
/-! ===== the words that every method has: those of the tables that stay true as the tables warm up ===== -/
def gw : List Cond := lw_tbl.filter goodWord
theorem gw_of {w : Cond} (h : w ∈ lw_tbl) (hg : goodWord w = true) : w ∈ gw := List.mem_filter.mpr ⟨h, hg⟩
theorem gw_good : ∀ w ∈ gw, (w.onTables && w.keeps) = true ∨ ∃ ty, w = .arrayClass ty := fun w h => good_of_word (List.mem_filter.mp h).2
theorem gw_in {c1 : Cond} (h : c1 ∈ gw) : GoodIn gw (c1 :: gw) := fun w hw => (List.mem_cons.mp hw).elim (fun e => ⟨e ▸ h, gw_good w (e ▸ h)⟩) (fun h2 => ⟨h2, gw_good w h2⟩)
/-- private members of nest mates: what the tables say of them -/
def nst (U : State) : Prop := ∀ a i x h, Cond.methodLinkNest a i x h ∈ tables_1 → va_Nw (.methodLinkNest a i x h) U
theorem nst.warm {s U : State} (hW : s.WarmedH U.vm) (h : nst s) : nst U := fun a i x g hm => va_Nw.warmM hW (h a i x g hm)
theorem nst.same {u U : State} (hv : u.vm = U.vm) (h : nst u) : nst U := fun a i x g hm => va_Nw.same rfl hv (h a i x g hm)
/-- what is known of the classes at any time -/
def cxt (D : va_G) (cA : ClassId) (U : State) : Prop := va_K D cls [(cA, .int)] U ∧ nst U
theorem cxt.warm {D : va_G} {cA : ClassId} {s U : State} (hW : s.WarmedH U.vm) (h : cxt D cA s) : cxt D cA U := ⟨va_K.moved hW.alike h.1, nst.warm hW h.2⟩
theorem cxt.call {D : va_G} {cA : ClassId} {U : State} {g : JFrame} {mk : MethodId} {a : Array Value} (h : cxt D cA U) : cxt D cA (U.calling g mk a) := ⟨va_K.moved (u := U) (U := U.calling g mk a) (Vm.Alike.refl U.vm) h.1, nst.same (u := U) (U := U.calling g mk a) rfl h.2⟩
/-- a start of a method that reads; of one that writes -/
def jP (D : va_G) (cA : ClassId) (av : List Value) (wc : va_W) : Array Value → State → Prop := fun v U => v = av.toArray ∧ cxt D cA U ∧ va_P D cls wc U.heap
theorem jP_blind {D : va_G} {cA : ClassId} {av : List Value} {wc : va_W} : FrameBlind (jP D cA av wc) := fun _ _ _ _ h => ⟨h.1, cxt.call h.2.1, h.2.2⟩
def jPM (D : va_G) (cA : ClassId) (av : List Value) (wc : va_W) (sz : Nat) : Array Value → State → Prop := fun v U => v = av.toArray ∧ cxt D cA U ∧ U.heap.size = sz ∧ va_P D cls wc U.heap ∧ va_D (fun _ => True) wc
theorem jPM_blind {D : va_G} {cA : ClassId} {av : List Value} {wc : va_W} {sz : Nat} : FrameBlind (jPM D cA av wc sz) := fun _ _ _ _ h => ⟨h.1, cxt.call h.2.1, h.2.2⟩
/-- an end without a trace: the answer, the heap as it was -/
def jS (Po : Value → Prop) : Array Value → State → Outcome → State → Prop := fun _ st oc t => (∃ v, oc = .returned (some v) ∧ Po v) ∧ t.heap = st.heap
/-- an end with a new world -/
def jQ (D : va_G) (Wd : Option Value → va_W → Prop) (A : Nat → Prop) : Array Value → State → Outcome → State → Prop := fun _ st oc t => (∃ v w1, oc = .returned v ∧ Wd v w1 ∧ va_P D cls w1 t.heap ∧ va_D A w1) ∧ va_F A st t
abbrev jws (Y : jY) : List Cond := Cond.code Y.1 Y.2.1 Y.2.2.1 Y.2.2.2 :: gw
abbrev rmk (f mc ms lo : Nat) : Room := { frames := f, cells := mc, slots := ms, locals := lo }
/-- the contract of a method that reads -/
def jR (l : Launch) (Y : jY) (rm : Room) (D : va_G) (cA : ClassId) (av : List Value) (wc : va_W) (Po : Value → Prop) : Prop := Met l Y.1 (jws Y) rm (jP D cA av wc) (jS Po) 0 0 (fun _ => False)
/-- the contract of a method that writes -/
def jM (l : Launch) (Y : jY) (rm : Room) (D : va_G) (cA : ClassId) (av : List Value) (wc : va_W) (Wd : Option Value → va_W → Prop) (mc ms : Nat) : Prop := ∀ sz : Nat, Met l Y.1 (jws Y) rm (jPM D cA av wc sz) (jQ D Wd (va_A wc sz)) mc ms (va_A wc sz)
/-- what stands fixed in a method -/
def jF (p : Program) (s : State) (m : MethodId) (args : Array Value) (meth : Method) (c : Code) (Y : jY) (D : va_G) (cA : ClassId) : Prop :=
  p.tables.exec = Jvm.exec ∧ c.code = Y.2.1 ∧ meth.sig.returnType = Y.2.2.2 ∧ meth.locks = false ∧ c.maxLocals = Y.2.2.1 ∧ s.vm.findClass Y.1.cls = some m.cls ∧ (∀ w ∈ gw, w.before args s = true) ∧ cxt D cA s ∧ (Y.1.name = "<init>" → meth.name = "<init>")
section JF
variable {p : Program} {s : State} {m : MethodId} {args : Array Value} {meth : Method} {c : Code} {Y : jY} {D : va_G} {cA : ClassId}
theorem jF.own (F : jF p s m args meth c Y D cA) : s.vm.findClass Y.1.cls = some m.cls := F.2.2.2.2.2.1
theorem jF.ts (F : jF p s m args meth c Y D cA) : ∀ w ∈ gw, w.before args s = true := F.2.2.2.2.2.2.1
theorem jF.wd (F : jF p s m args meth c Y D cA) {w : Cond} (h : w ∈ gw) : w.before args s = true := F.ts w h
theorem jF.cx (F : jF p s m args meth c Y D cA) : cxt D cA s := F.2.2.2.2.2.2.2.1
theorem jF.K (F : jF p s m args meth c Y D cA) : va_K D cls [(cA, .int)] s := F.cx.1
theorem jF.fix (F : jF p s m args meth c Y D cA) : CallFix p m c Y.2.1 Y.2.2.1 s args gw Y.1.cls := ⟨F.1, F.2.1, F.2.2.2.2.1, F.own, F.ts⟩
end JF
theorem jR.intro {l : Launch} {Y : jY} {rm : Room} {D : va_G} {cA : ClassId} {av : List Value} {wc : va_W} {Po : Value → Prop} (hy : plainName Y.1.cls = true) (hlen : (lg_sl av).length ≤ Y.2.2.1)
    (body : ∀ (p : Program) (e : Env) (s : State) (m : MethodId) (args : Array Value) (below : List Frame) (meth : Method) (c : Code) (ls : Array Slot) (Q : State → Prop), jF p s m args meth c Y D cA → Q = MQ below (jS Po) args s 0 0 (fun _ => False) → va_P D cls wc s.heap → lv_has ls Y.2.2.1 (lv_args 0 av) →
      W p l e rm s m args below meth c s.heap [] 0 0 Q (F0 m 0 ls [])) : jR l Y rm D cA av wc Po := by
  refine Met.ofW (cc := Y.2.1) (maxL := Y.2.2.1) (ret := Y.2.2.2) hy rfl ?_
  intro p e s m args below meth c s₁ B hml hv
  obtain ⟨rfl, hcx, hpic⟩ := hv
  have hts := atoms_spec (ws := jws Y) B.pre
  rw [lg_entry_eq]
  exact body p e s m _ below meth c _ _ ⟨B.exec, B.bytes, B.returns, B.notSynchronized, hml, findClass_of_methodNamed B.named, fun w h => hts w (List.mem_cons_of_mem _ h), hcx, fun h => (name_of_methodNamed B.named B.method).1.trans h⟩ rfl hpic (lv_entry av hlen)
theorem jM.intro {l : Launch} {Y : jY} {rm : Room} {D : va_G} {cA : ClassId} {av : List Value} {wc : va_W} {Wd : Option Value → va_W → Prop} {mc ms : Nat} (hy : plainName Y.1.cls = true) (hlen : (lg_sl av).length ≤ Y.2.2.1)
    (body : ∀ (p : Program) (e : Env) (s : State) (m : MethodId) (args : Array Value) (below : List Frame) (meth : Method) (c : Code) (ls : Array Slot) (Q : State → Prop) (A : Nat → Prop), jF p s m args meth c Y D cA → Q = MQ below (jQ D Wd A) args s mc ms A → (∀ q : Nat, s.heap.size ≤ q → A q) → va_P D cls wc s.heap → va_D A wc → va_S A s.heap s.heap [] → lv_has ls Y.2.2.1 (lv_args 0 av) →
      W p l e rm s m args below meth c s.heap [] 0 0 Q (F0 m 0 ls [])) : jM l Y rm D cA av wc Wd mc ms := by
  intro sz
  refine Met.ofW (cc := Y.2.1) (maxL := Y.2.2.1) (ret := Y.2.2.2) hy rfl ?_
  intro p e s m args below meth c s₁ B hml hv
  obtain ⟨rfl, hcx, hsz, hP, hD⟩ := hv
  subst hsz
  have hts := atoms_spec (ws := jws Y) B.pre
  rw [lg_entry_eq]
  exact body p e s m _ below meth c _ _ (va_A wc s.heap.size) ⟨B.exec, B.bytes, B.returns, B.notSynchronized, hml, findClass_of_methodNamed B.named, fun w h => hts w (List.mem_cons_of_mem _ h), hcx, fun h => (name_of_methodNamed B.named B.method).1.trans h⟩ rfl (fun q h => Or.inr h) hP hD.self va_S.rf (lv_entry av hlen)
theorem jsub {ws wc : va_W} {is : List Nat} (h : is.map (fun i => ws[i]?) = wc.map some) : is.filterMap (fun i => ws[i]?) = wc := by
  have e : is.filterMap (fun i => ws[i]?) = (is.map (fun i => ws[i]?)).filterMap id := by rw [List.filterMap_map]; rfl
  rw [e, h, List.filterMap_map]
  exact List.filterMap_some
section JC
variable {p : Program} {l : Launch} {e : Env} {R : Room} {s : State} {m : MethodId} {args : Array Value} {below : List Frame} {meth : Method} {c : Code} {H : Heap} {locs : List Loc} {cells slots : Nat} {Q : State → Prop}
variable {pc : Nat} {ls : Array Slot} {rest st0 : List Value} {a : Array Value} {A A0 : Nat → Prop} {H0 : Heap} {mc ms : Nat} {D : va_G} {cA : ClassId} {Y Yc : jY} {Po : Value → Prop} {Wd : Option Value → va_W → Prop} {w1 : va_W} {z : Int}
/-! ends -/
theorem jR.ri (F : jF p s m args meth c Y D cA) (hQ : Q = MQ below (jS Po) args s 0 0 (fun _ => False)) (hret : Y.2.2.2 = some .int) (hdg : decode Y.2.1 pc = .ok (.ireturn, 1)) (hv : Po (.int (jI z))) : W p l e R s m args below meth c s.heap [] 0 0 Q (F0 m pc ls [.int (jI z)]) := by
  subst hQ
  exact W.iret F.1 F.2.1 (F.2.2.1.trans hret) (fun t ht hW => ⟨⟨_, rfl, hv⟩, ht⟩) (fun q h => by cases h) hdg F.2.2.2.1
theorem jB_nar {z : Int} (h : z = 0 ∨ z = 1) : narrow .boolean (.int (jI z)) = .int (jI z) := by rcases h with rfl | rfl <;> decide +kernel
theorem jR.rz (F : jF p s m args meth c Y D cA) (hQ : Q = MQ below (jS Po) args s 0 0 (fun _ => False)) (hret : Y.2.2.2 = some .boolean) (hz : z = 0 ∨ z = 1) (hdg : decode Y.2.1 pc = .ok (.ireturn, 1)) (hv : Po (.int (jI z))) : W p l e R s m args below meth c s.heap [] 0 0 Q (F0 m pc ls [.int (jI z)]) := by
  subst hQ
  exact W.zret F.1 F.2.1 (F.2.2.1.trans hret) (jB_nar hz) (fun t ht hW => ⟨⟨_, rfl, hv⟩, ht⟩) (fun q h => by cases h) hdg F.2.2.2.1
theorem jR.ra {n : String} {b : Nat} (F : jF p s m args meth c Y D cA) (hQ : Q = MQ below (jS Po) args s 0 0 (fun _ => False)) (hret : Y.2.2.2 = some (.object n)) (hdg : decode Y.2.1 pc = .ok (.areturn, 1)) (hv : Po (.ref b)) : W p l e R s m args below meth c s.heap [] 0 0 Q (F0 m pc ls [.ref b]) := by
  subst hQ
  exact W.aret F.1 F.2.1 (F.2.2.1.trans hret) (Or.inl ⟨_, rfl⟩) (Or.inr ⟨_, rfl⟩) (fun t ht hW => ⟨⟨_, rfl, hv⟩, ht⟩) (fun q h => by cases h) hdg F.2.2.2.1
theorem jR.rn {n : String} (F : jF p s m args meth c Y D cA) (hQ : Q = MQ below (jS Po) args s 0 0 (fun _ => False)) (hret : Y.2.2.2 = some (.object n)) (hdg : decode Y.2.1 pc = .ok (.areturn, 1)) (hv : Po .null) : W p l e R s m args below meth c s.heap [] 0 0 Q (F0 m pc ls [.null]) := by
  subst hQ
  exact W.aret F.1 F.2.1 (F.2.2.1.trans hret) (Or.inl ⟨_, rfl⟩) (Or.inl rfl) (fun t ht hW => ⟨⟨_, rfl, hv⟩, ht⟩) (fun q h => by cases h) hdg F.2.2.2.1
theorem jM.rv (F : jF p s m args meth c Y D cA) (hQ : Q = MQ below (jQ D Wd A) args s mc ms A) (hret : Y.2.2.2 = none) (hdg : decode Y.2.1 pc = .ok (.return_, 1)) (hS : va_S A s.heap H locs) (hP : va_P D cls w1 H) (hD : va_D A w1) (hv : Wd none w1) : W p l e R s m args below meth c H locs mc ms Q (F0 m pc ls []) := by
  subst hQ
  exact W.vret F.1 F.2.1 (F.2.2.1.trans hret) (fun t ht hW => ⟨⟨_, w1, rfl, hv, by rw [ht]; exact hP, hD⟩, hS.F ht⟩) hS.2.2 hdg F.2.2.2.1
theorem jM.ri (F : jF p s m args meth c Y D cA) (hQ : Q = MQ below (jQ D Wd A) args s mc ms A) (hret : Y.2.2.2 = some .int) (hdg : decode Y.2.1 pc = .ok (.ireturn, 1)) (hS : va_S A s.heap H locs) (hP : va_P D cls w1 H) (hD : va_D A w1) (hv : Wd (some (.int (jI z))) w1) : W p l e R s m args below meth c H locs mc ms Q (F0 m pc ls [.int (jI z)]) := by
  subst hQ
  exact W.iret F.1 F.2.1 (F.2.2.1.trans hret) (fun t ht hW => ⟨⟨_, w1, rfl, hv, by rw [ht]; exact hP, hD⟩, hS.F ht⟩) hS.2.2 hdg F.2.2.2.1
theorem jM.rz (F : jF p s m args meth c Y D cA) (hQ : Q = MQ below (jQ D Wd A) args s mc ms A) (hret : Y.2.2.2 = some .boolean) (hz : z = 0 ∨ z = 1) (hdg : decode Y.2.1 pc = .ok (.ireturn, 1)) (hS : va_S A s.heap H locs) (hP : va_P D cls w1 H) (hD : va_D A w1) (hv : Wd (some (.int (jI z))) w1) : W p l e R s m args below meth c H locs mc ms Q (F0 m pc ls [.int (jI z)]) := by
  subst hQ
  exact W.zret F.1 F.2.1 (F.2.2.1.trans hret) (jB_nar hz) (fun t ht hW => ⟨⟨_, w1, rfl, hv, by rw [ht]; exact hP, hD⟩, hS.F ht⟩) hS.2.2 hdg F.2.2.2.1
theorem jM.ra {n : String} {b : Nat} (F : jF p s m args meth c Y D cA) (hQ : Q = MQ below (jQ D Wd A) args s mc ms A) (hret : Y.2.2.2 = some (.object n)) (hdg : decode Y.2.1 pc = .ok (.areturn, 1)) (hS : va_S A s.heap H locs) (hP : va_P D cls w1 H) (hD : va_D A w1) (hv : Wd (some (.ref b)) w1) : W p l e R s m args below meth c H locs mc ms Q (F0 m pc ls [.ref b]) := by
  subst hQ
  exact W.aret F.1 F.2.1 (F.2.2.1.trans hret) (Or.inl ⟨_, rfl⟩) (Or.inr ⟨_, rfl⟩) (fun t ht hW => ⟨⟨_, w1, rfl, hv, by rw [ht]; exact hP, hD⟩, hS.F ht⟩) hS.2.2 hdg F.2.2.2.1
/-! behind a call -/
theorem jr_go (hr : va_Run p l e R s m args below meth c H locs cells slots 0 0 (F0 m pc ls st0) rest (jS Po a) (fun _ => False))
    (kk : ∀ v, Po v → W p l e R s m args below meth c H locs cells slots Q (F0 m (pc + 3) ls (v :: rest))) : W p l e R s m args below meth c H locs cells slots Q (F0 m pc ls st0) := by
  intro T hT X
  obtain ⟨v', st₀, t, T', L, h0, X', hL, e1, -, ⟨⟨v, hv, hp⟩, hh⟩, st⟩ := hr T hT X
  cases hv
  obtain ⟨t2, a1, b1⟩ := kk v hp T' (by rw [e1, hh, h0]) (Stand.forget X' (fun q h => (hL q h).elim))
  exact ⟨t2, st t2 a1, b1⟩
theorem jw_go {ws wc wr : va_W} (hr : va_Run p l e R s m args below meth c H locs cells slots mc ms (F0 m pc ls st0) rest (jQ D Wd (va_A wc H.size) a) (va_A wc H.size))
    (hP : va_P D cls ws H) (hD : va_D A0 ws) (hS : va_S A0 H0 H locs) (hA : ∀ q, H0.size ≤ q → A0 q) (isC isR : List Nat) (hC : isC.map (fun i => ws[i]?) = wc.map some) (hR : isR.map (fun i => ws[i]?) = wr.map some) (hn : va_nd isR = true) (hdis : ∀ i ∈ isR, i ∉ isC)
    (kk : ∀ (v : Option Value) (w1 : va_W) (H1 : Heap) (locs1 : List Loc), Wd v w1 → va_P D cls (wr ++ w1) H1 → va_D A0 (wr ++ w1) → va_S A0 H0 H1 locs1 → W p l e R s m args below meth c H1 locs1 (cells + mc) (slots + ms) Q (F0 m (pc + 3) ls (v.toList ++ rest))) : W p l e R s m args below meth c H locs cells slots Q (F0 m pc ls st0) := by
  have hF := va_free (wc := wc) hD hS hA isC hC
  intro T hT X
  obtain ⟨v', st₀, t, T', L, h0, X', hL, e1, -, ⟨⟨v, w1, hv, hw, hP1, hD1⟩, hz, hk⟩, st⟩ := hr T hT X
  cases hv
  rw [h0] at hz hk
  rw [← e1] at hP1 hz hk
  obtain ⟨hP2, hD2⟩ := va_join (wr := wr) (w1 := w1) hP hD isC isR hC hR hn hdis hk hF hP1 hD1
  obtain ⟨t2, a1, b1⟩ := kk v' w1 T'.heap (locs ++ L) hw hP2 hD2
    ⟨Nat.le_trans hS.1 hz, fun q h1 h2 => by rw [hk q (Nat.lt_of_lt_of_le h1 hS.1) (fun z => h2 (hF q z))]; exact hS.2.1 q h1 h2, fun q hq => by
      rcases List.mem_append.mp hq with h | h
      · exact hS.2.2 q h
      · exact hF _ (hL q h)⟩ T' rfl X'
  exact ⟨t2, st t2 a1, b1⟩
/-! what a call's words are -/
def jOk (Yc : jY) (n : Nat) : Prop := Yc.1.cls ≠ "java/lang/invoke/MethodHandle" ∧ Yc.1.cls ≠ "java/lang/invoke/VarHandle" ∧ (parseMethodDescriptor Yc.1.desc).map (fun d => d.parameters.length) = some n
def jCo (Yc : jY) : Prop := Cond.code Yc.1 Yc.2.1 Yc.2.2.1 Yc.2.2.2 ∈ gw ∧ Cond.initialized Yc.1.cls ∈ gw
def jCV (own : String) (index : Nat) (Yc : jY) (n : Nat) : Prop := jCo Yc ∧ jOk Yc n ∧ Cond.methodLink own index Yc.1 ∈ gw ∧ Cond.instanceMethod Yc.1 ∈ gw ∧ Cond.selects Yc.1.cls Yc.1 Yc.1 ∈ gw
def jCS (own : String) (index : Nat) (Yc : jY) (n : Nat) : Prop := jCo Yc ∧ jOk Yc n ∧ Cond.methodLink own index Yc.1 ∈ gw ∧ Cond.static Yc.1 ∈ gw
def jCI (own : String) (index : Nat) (Yc : jY) (n : Nat) : Prop := jCo Yc ∧ jOk Yc n ∧ Cond.methodLink own index Yc.1 ∈ gw ∧ Cond.instanceMethod Yc.1 ∈ gw ∧ Yc.1.name = "<init>" ∧ Yc.2.2.2 = none
def jCSN (own : String) (index : Nat) (Yc : jY) (n : Nat) : Prop := jCo Yc ∧ jOk Yc n ∧ (∃ h, Cond.methodLinkNest own index Yc.1 h ∈ tables_1) ∧ Cond.static Yc.1 ∈ gw
def jCIN (own : String) (index : Nat) (Yc : jY) (n : Nat) : Prop := jCo Yc ∧ jOk Yc n ∧ (∃ h, Cond.methodLinkNest own index Yc.1 h ∈ tables_1) ∧ Cond.instanceMethod Yc.1 ∈ gw ∧ Yc.1.name = "<init>" ∧ Yc.2.2.2 = none
variable {rc : Room} {index b ci n N : Nat} {As fs : List Value} {ws wc wr : va_W} {T : u_T} {lv : List (Nat × Value)}
abbrev jRm (rc R : Room) (Yc : jY) (mc ms : Nat) : Prop := rc.cells = mc ∧ rc.slots = ms ∧ rc.frames + 1 ≤ R.frames ∧ 8 + (Yc.2.2.1 + 11) + rc.locals ≤ R.locals
theorem jr_V (F : jF p s m args meth c Y D cA) (hM : jR l Yc rc D cA (.ref b :: As) wc Po) (hw : jCV Y.1.cls index Yc n) (hP : va_P D cls ws H) (isC : List Nat) (hC : isC.map (fun i => ws[i]?) = wc.map some)
    (q0 : Nat) (he : ws[q0]? = some (b, .inr (ci, fs))) (hc : cls[ci]? = some (Yc.1.cls, T, N)) (hl : lv_has ls Y.2.2.1 lv) (hR : jRm rc R Yc 0 0) (hn : As.length = n) (hst : st0 = As.reverse ++ .ref b :: rest) (hcat : (rest.map fun v => v.category).sum ≤ 8)
    (hdg : decode Y.2.1 pc = .ok (.invokevirtual index, 3)) (hcs : cells ≤ R.cells ∧ slots ≤ R.slots)
    (kk : ∀ v, Po v → W p l e R s m args below meth c H locs cells slots Q (F0 m (pc + 3) ls (v :: rest))) : W p l e R s m args below meth c H locs cells slots Q (F0 m pc ls st0) := by
  obtain ⟨⟨w5, w3⟩, hd, w1, w2, w4⟩ := hw
  exact jr_go (va_runV (C := Yc.1.cls) F.fix hM ⟨callB_of n F.ts (gw_in w5) rfl hR.1 hR.2.1 (F.wd w3) (F.wd w1) hd hR.2.2, F.wd w2, F.wd w4⟩ ⟨jP_blind, va_recv F.K hP hc he, fun U hU hW => ⟨rfl, cxt.warm hW F.cx, by rw [hU]; exact hP.sub isC (jsub hC)⟩⟩ rfl hn hl.1 hst (lv_room hcat) hdg hcs) kk
theorem jr_S (F : jF p s m args meth c Y D cA) (hM : jR l Yc rc D cA As wc Po) (hw : jCS Y.1.cls index Yc n) (hP : va_P D cls ws H) (isC : List Nat) (hC : isC.map (fun i => ws[i]?) = wc.map some)
    (hl : lv_has ls Y.2.2.1 lv) (hR : jRm rc R Yc 0 0) (hn : As.length = n) (hst : st0 = As.reverse ++ rest) (hcat : (rest.map fun v => v.category).sum ≤ 8)
    (hdg : decode Y.2.1 pc = .ok (.invokestatic index, 3)) (hcs : cells ≤ R.cells ∧ slots ≤ R.slots)
    (kk : ∀ v, Po v → W p l e R s m args below meth c H locs cells slots Q (F0 m (pc + 3) ls (v :: rest))) : W p l e R s m args below meth c H locs cells slots Q (F0 m pc ls st0) := by
  obtain ⟨⟨w5, w3⟩, hd, w1, w2⟩ := hw
  exact jr_go (va_runS F.fix hM ⟨callB_of n F.ts (gw_in w5) rfl hR.1 hR.2.1 (F.wd w3) (F.wd w1) hd hR.2.2, F.wd w2⟩ ⟨jP_blind, fun U hU hW => ⟨rfl, cxt.warm hW F.cx, by rw [hU]; exact hP.sub isC (jsub hC)⟩⟩ rfl hn hl.1 hst (lv_room hcat) hdg hcs) kk
theorem jr_SN (F : jF p s m args meth c Y D cA) (hM : jR l Yc rc D cA As wc Po) (hw : jCSN Y.1.cls index Yc n) (hP : va_P D cls ws H) (isC : List Nat) (hC : isC.map (fun i => ws[i]?) = wc.map some)
    (hl : lv_has ls Y.2.2.1 lv) (hR : jRm rc R Yc 0 0) (hn : As.length = n) (hst : st0 = As.reverse ++ rest) (hcat : (rest.map fun v => v.category).sum ≤ 8)
    (hdg : decode Y.2.1 pc = .ok (.invokestatic index, 3)) (hcs : cells ≤ R.cells ∧ slots ≤ R.slots)
    (kk : ∀ v, Po v → W p l e R s m args below meth c H locs cells slots Q (F0 m (pc + 3) ls (v :: rest))) : W p l e R s m args below meth c H locs cells slots Q (F0 m pc ls st0) := by
  obtain ⟨⟨w5, w3⟩, hd, ⟨hh, w1⟩, w2⟩ := hw
  exact jr_go (va_runSN (host := hh) F.fix hM ⟨va_cnB n F.ts (gw_in w5) rfl hR.1 hR.2.1 (F.cx.2 _ _ _ _ w1) (F.wd w3) hd hR.2.2, F.wd w2, trivial⟩ ⟨jP_blind, fun U hU hW => ⟨rfl, cxt.warm hW F.cx, by rw [hU]; exact hP.sub isC (jsub hC)⟩⟩ rfl hn hl.1 hst (lv_room hcat) hdg hcs) kk
theorem jw_V (F : jF p s m args meth c Y D cA) (hM : jM l Yc rc D cA (.ref b :: As) wc Wd mc ms) (hw : jCV Y.1.cls index Yc n) (hP : va_P D cls ws H) (hD : va_D A0 ws) (hS : va_S A0 H0 H locs) (hA : ∀ q, H0.size ≤ q → A0 q) (isC isR : List Nat) (hC : isC.map (fun i => ws[i]?) = wc.map some) (hRr : isR.map (fun i => ws[i]?) = wr.map some) (hnd : va_nd isR = true) (hdis : ∀ i ∈ isR, i ∉ isC)
    (q0 : Nat) (he : ws[q0]? = some (b, .inr (ci, fs))) (hc : cls[ci]? = some (Yc.1.cls, T, N)) (hl : lv_has ls Y.2.2.1 lv) (hR : jRm rc R Yc mc ms) (hn : As.length = n) (hst : st0 = As.reverse ++ .ref b :: rest) (hcat : (rest.map fun v => v.category).sum ≤ 8)
    (hdg : decode Y.2.1 pc = .ok (.invokevirtual index, 3)) (hcs : cells + mc ≤ R.cells ∧ slots + ms ≤ R.slots) (hnC : va_nd isC = true)
    (kk : ∀ (v : Option Value) (w1 : va_W) (H1 : Heap) (locs1 : List Loc), Wd v w1 → va_P D cls (wr ++ w1) H1 → va_D A0 (wr ++ w1) → va_S A0 H0 H1 locs1 → W p l e R s m args below meth c H1 locs1 (cells + mc) (slots + ms) Q (F0 m (pc + 3) ls (v.toList ++ rest))) : W p l e R s m args below meth c H locs cells slots Q (F0 m pc ls st0) := by
  obtain ⟨⟨w5, w3⟩, hd, w1, w2, w4⟩ := hw
  exact jw_go (va_runV (C := Yc.1.cls) F.fix (hM H.size) ⟨callB_of n F.ts (gw_in w5) rfl hR.1 hR.2.1 (F.wd w3) (F.wd w1) hd hR.2.2, F.wd w2, F.wd w4⟩ ⟨jPM_blind, va_recv F.K hP hc he, fun U hU hW => ⟨rfl, cxt.warm hW F.cx, by rw [hU], by rw [hU]; exact hP.sub isC (jsub hC), (hD.sub isC hnC hC).weaken (fun _ _ _ _ => trivial)⟩⟩ rfl hn hl.1 hst (lv_room hcat) hdg hcs) hP hD hS hA isC isR hC hRr hnd hdis kk
theorem jw_S (F : jF p s m args meth c Y D cA) (hM : jM l Yc rc D cA As wc Wd mc ms) (hw : jCS Y.1.cls index Yc n) (hP : va_P D cls ws H) (hD : va_D A0 ws) (hS : va_S A0 H0 H locs) (hA : ∀ q, H0.size ≤ q → A0 q) (isC isR : List Nat) (hC : isC.map (fun i => ws[i]?) = wc.map some) (hRr : isR.map (fun i => ws[i]?) = wr.map some) (hnd : va_nd isR = true) (hdis : ∀ i ∈ isR, i ∉ isC)
    (hl : lv_has ls Y.2.2.1 lv) (hR : jRm rc R Yc mc ms) (hn : As.length = n) (hst : st0 = As.reverse ++ rest) (hcat : (rest.map fun v => v.category).sum ≤ 8)
    (hdg : decode Y.2.1 pc = .ok (.invokestatic index, 3)) (hcs : cells + mc ≤ R.cells ∧ slots + ms ≤ R.slots) (hnC : va_nd isC = true)
    (kk : ∀ (v : Option Value) (w1 : va_W) (H1 : Heap) (locs1 : List Loc), Wd v w1 → va_P D cls (wr ++ w1) H1 → va_D A0 (wr ++ w1) → va_S A0 H0 H1 locs1 → W p l e R s m args below meth c H1 locs1 (cells + mc) (slots + ms) Q (F0 m (pc + 3) ls (v.toList ++ rest))) : W p l e R s m args below meth c H locs cells slots Q (F0 m pc ls st0) := by
  obtain ⟨⟨w5, w3⟩, hd, w1, w2⟩ := hw
  exact jw_go (va_runS F.fix (hM H.size) ⟨callB_of n F.ts (gw_in w5) rfl hR.1 hR.2.1 (F.wd w3) (F.wd w1) hd hR.2.2, F.wd w2⟩ ⟨jPM_blind, fun U hU hW => ⟨rfl, cxt.warm hW F.cx, by rw [hU], by rw [hU]; exact hP.sub isC (jsub hC), (hD.sub isC hnC hC).weaken (fun _ _ _ _ => trivial)⟩⟩ rfl hn hl.1 hst (lv_room hcat) hdg hcs) hP hD hS hA isC isR hC hRr hnd hdis kk
theorem jw_I (F : jF p s m args meth c Y D cA) (hM : jM l Yc rc D cA (.ref b :: As) wc Wd mc ms) (hw : jCI Y.1.cls index Yc n) (hP : va_P D cls ws H) (hD : va_D A0 ws) (hS : va_S A0 H0 H locs) (hA : ∀ q, H0.size ≤ q → A0 q) (isC isR : List Nat) (hC : isC.map (fun i => ws[i]?) = wc.map some) (hRr : isR.map (fun i => ws[i]?) = wr.map some) (hnd : va_nd isR = true) (hdis : ∀ i ∈ isR, i ∉ isC)
    (hl : lv_has ls Y.2.2.1 lv) (hR : jRm rc R Yc mc ms) (hn : As.length = n) (hst : st0 = As.reverse ++ .ref b :: rest) (hcat : (rest.map fun v => v.category).sum ≤ 8)
    (hdg : decode Y.2.1 pc = .ok (.invokespecial index, 3)) (hcs : cells + mc ≤ R.cells ∧ slots + ms ≤ R.slots) (hnC : va_nd isC = true)
    (kk : ∀ (v : Option Value) (w1 : va_W) (H1 : Heap) (locs1 : List Loc), Wd v w1 → va_P D cls (wr ++ w1) H1 → va_D A0 (wr ++ w1) → va_S A0 H0 H1 locs1 → W p l e R s m args below meth c H1 locs1 (cells + mc) (slots + ms) Q (F0 m (pc + 3) ls (v.toList ++ rest))) : W p l e R s m args below meth c H locs cells slots Q (F0 m pc ls st0) := by
  obtain ⟨⟨w5, w3⟩, hd, w1, w2, hnm, hrt⟩ := hw
  obtain ⟨y, bb, mL, rt⟩ := Yc
  dsimp only at hrt
  subst hrt
  exact jw_go (va_runI F.fix (hM H.size) ⟨callB_of n F.ts (gw_in w5) rfl hR.1 hR.2.1 (F.wd w3) (F.wd w1) hd hR.2.2, hnm, F.wd w2⟩ ⟨jPM_blind, fun U hU hW => ⟨rfl, cxt.warm hW F.cx, by rw [hU], by rw [hU]; exact hP.sub isC (jsub hC), (hD.sub isC hnC hC).weaken (fun _ _ _ _ => trivial)⟩⟩ rfl hn hl.1 hst (lv_room hcat) hdg hcs) hP hD hS hA isC isR hC hRr hnd hdis kk
theorem jw_IN (F : jF p s m args meth c Y D cA) (hM : jM l Yc rc D cA (.ref b :: As) wc Wd mc ms) (hw : jCIN Y.1.cls index Yc n) (hP : va_P D cls ws H) (hD : va_D A0 ws) (hS : va_S A0 H0 H locs) (hA : ∀ q, H0.size ≤ q → A0 q) (isC isR : List Nat) (hC : isC.map (fun i => ws[i]?) = wc.map some) (hRr : isR.map (fun i => ws[i]?) = wr.map some) (hnd : va_nd isR = true) (hdis : ∀ i ∈ isR, i ∉ isC)
    (hl : lv_has ls Y.2.2.1 lv) (hR : jRm rc R Yc mc ms) (hn : As.length = n) (hst : st0 = As.reverse ++ .ref b :: rest) (hcat : (rest.map fun v => v.category).sum ≤ 8)
    (hdg : decode Y.2.1 pc = .ok (.invokespecial index, 3)) (hcs : cells + mc ≤ R.cells ∧ slots + ms ≤ R.slots) (hnC : va_nd isC = true)
    (kk : ∀ (v : Option Value) (w1 : va_W) (H1 : Heap) (locs1 : List Loc), Wd v w1 → va_P D cls (wr ++ w1) H1 → va_D A0 (wr ++ w1) → va_S A0 H0 H1 locs1 → W p l e R s m args below meth c H1 locs1 (cells + mc) (slots + ms) Q (F0 m (pc + 3) ls (v.toList ++ rest))) : W p l e R s m args below meth c H locs cells slots Q (F0 m pc ls st0) := by
  obtain ⟨⟨w5, w3⟩, hd, ⟨hh, w1⟩, w2, hnm, hrt⟩ := hw
  obtain ⟨y, bb, mL, rt⟩ := Yc
  dsimp only at hrt
  subst hrt
  exact jw_go (va_runIN (host := hh) F.fix (hM H.size) ⟨va_cnB n F.ts (gw_in w5) rfl hR.1 hR.2.1 (F.cx.2 _ _ _ _ w1) (F.wd w3) hd hR.2.2, hnm, F.wd w2⟩ ⟨jPM_blind, fun U hU hW => ⟨rfl, cxt.warm hW F.cx, by rw [hU], by rw [hU]; exact hP.sub isC (jsub hC), (hD.sub isC hnC hC).weaken (fun _ _ _ _ => trivial)⟩⟩ rfl hn hl.1 hst (lv_room hcat) hdg hcs) hP hD hS hA isC isR hC hRr hnd hdis kk
/-! fields and arrays -/
def jNw (own : String) (index ci : Nat) (C : String) (T : u_T) (N : Nat) : Prop := (∀ w ∈ u_ws C T N, w ∈ gw) ∧ cls[ci]? = some (C, T, N) ∧ Cond.classLink own index C ∈ gw ∧ Cond.instantiable C N ∈ gw ∧ Cond.initialized C ∈ gw
def jFl (own : String) (index ci k : Nat) (C : String) (T : u_T) (N : Nat) : Prop := (∀ w ∈ u_ws C T N, w ∈ gw) ∧ cls[ci]? = some (C, T, N) ∧ k < N ∧ Cond.fieldLink own index (T k).1 (T k).2.1 (T k).2.2.1 ∈ gw
def jPf (T : u_T) (N : Nat) (ty : Nat → FieldType) : Prop := (∀ k, k < N → parseFieldDescriptor (T k).2.2.1 = some (ty k)) ∧ ∀ a, a < N → ∀ b, b < N → a ≠ b → (T a).2.1 ≠ (T b).2.1
variable {C : String} {k : Nat} {v : Value} {ty : Nat → FieldType} {q : Nat} {fa : Int → Int} {an : Nat}
theorem jv_get (F : jF p s m args meth c Y D cA) (hP : va_P D cls ws H) (q0 : Nat) (he : ws[q0]? = some (q, .inr (ci, fs))) (hf : jFl Y.1.cls index ci k C T N) (hv : fs[k]? = some v) (hdg : decode Y.2.1 pc = .ok (.getfield index, 3))
    (kk : W p l e R s m args below meth c H locs cells slots Q (F0 m (pc + 3) ls (v :: rest))) : W p l e R s m args below meth c H locs cells slots Q (F0 m pc ls (.ref q :: rest)) :=
  va_get F.1 F.2.1 (Ts := gw) (fun w h => F.wd h) hf.1 F.own F.K hP q0 he hf.2.1 k hf.2.2.1 (F.wd hf.2.2.2) (fun _ h => h) hv hdg kk
theorem jv_put (F : jF p s m args meth c Y D cA) (hP : va_P D cls ws H) (hD : va_D A ws) (hS : va_S A H0 H locs) (q0 : Nat) (he : ws[q0]? = some (q, .inr (ci, fs))) (hf : jFl Y.1.cls index ci k C T N) (hp : jPf T N ty) (hfin : (T k).2.2.2 = false) (hn : narrow (ty k) v = v) (hfit : fits (ty k) v = true) (hl : k < fs.length) (hdg : decode Y.2.1 pc = .ok (.putfield index, 3))
    (kk : ∀ (H1 : Heap) (locs1 : List Loc), va_P D cls (ws.set q0 (q, .inr (ci, fs.set k v))) H1 → va_D A (ws.set q0 (q, .inr (ci, fs.set k v))) → va_S A H0 H1 locs1 → W p l e R s m args below meth c H1 locs1 cells slots Q (F0 m (pc + 3) ls rest)) : W p l e R s m args below meth c H locs cells slots Q (F0 m pc ls (v :: .ref q :: rest)) :=
  va_put F.1 F.2.1 (Ts := gw) (fun w h => F.wd h) hf.1 ty hp.1 hp.2 F.own F.K hP hD hS q0 he hf.2.1 k hf.2.2.1 (F.wd hf.2.2.2) (fun _ h => h) hfin (hp.1 k hf.2.2.1) hn hfit hl hdg kk
theorem jv_putF (F : jF p s m args meth c Y D cA) (hP : va_P D cls ws H) (hD : va_D A ws) (hS : va_S A H0 H locs) (q0 : Nat) (he : ws[q0]? = some (q, .inr (ci, fs))) (hf : jFl Y.1.cls index ci k C T N) (hp : jPf T N ty) (hfin : (T k).2.2.2 = true) (hin : Y.1.name = "<init>") (hdecl : (T k).1 = Y.1.cls) (hn : narrow (ty k) v = v) (hfit : fits (ty k) v = true) (hl : k < fs.length) (hdg : decode Y.2.1 pc = .ok (.putfield index, 3))
    (kk : ∀ (H1 : Heap) (locs1 : List Loc), va_P D cls (ws.set q0 (q, .inr (ci, fs.set k v))) H1 → va_D A (ws.set q0 (q, .inr (ci, fs.set k v))) → va_S A H0 H1 locs1 → W p l e R s m args below meth c H1 locs1 cells slots Q (F0 m (pc + 3) ls rest)) : W p l e R s m args below meth c H locs cells slots Q (F0 m pc ls (v :: .ref q :: rest)) :=
  va_putF F.1 F.2.1 (Ts := gw) (fun w h => F.wd h) hf.1 ty hp.1 hp.2 F.own F.K hP hD hS q0 he hf.2.1 k hf.2.2.1 (F.wd hf.2.2.2) (fun _ h => h) hfin (F.2.2.2.2.2.2.2.2 hin) hdecl (hp.1 k hf.2.2.1) hn hfit hl hdg kk
theorem jv_iald (F : jF p s m args meth c Y D cA) (hP : va_P D cls ws H) (q0 : Nat) (he : ws[q0]? = some (q, .inl (cA, an, .inl (jA fa)))) (hz : 0 ≤ z ∧ z < (an : Int)) (hn : an < 2147483648) (hdg : decode Y.2.1 pc = .ok (.iaload, 1))
    (kk : W p l e R s m args below meth c H locs cells slots Q (F0 m (pc + 1) ls (.int (jI (fa z)) :: rest))) : W p l e R s m args below meth c H locs cells slots Q (F0 m pc ls (.int (jI z) :: .ref q :: rest)) :=
  va_iald F.1 F.2.1 F.K hP q0 0 he rfl (jI_in hz hn) hdg (by rw [jA_at ⟨hz.1, by omega⟩]; exact kk)
theorem jv_iast {x : Int} (F : jF p s m args meth c Y D cA) (hP : va_P D cls ws H) (hD : va_D A ws) (hS : va_S A H0 H locs) (q0 : Nat) (he : ws[q0]? = some (q, .inl (cA, an, .inl (jA fa)))) (hz : 0 ≤ z ∧ z < (an : Int)) (hn : an < 2147483648) (hdg : decode Y.2.1 pc = .ok (.iastore, 1))
    (kk : ∀ (H1 : Heap) (locs1 : List Loc), va_P D cls (ws.set q0 (q, .inl (cA, an, .inl (jA (jU fa z x))))) H1 → va_D A (ws.set q0 (q, .inl (cA, an, .inl (jA (jU fa z x))))) → va_S A H0 H1 locs1 → W p l e R s m args below meth c H1 locs1 cells slots Q (F0 m (pc + 1) ls rest)) : W p l e R s m args below meth c H locs cells slots Q (F0 m pc ls (.int (jI x) :: .int (jI z) :: .ref q :: rest)) :=
  va_iast F.1 F.2.1 F.K hP hD hS q0 0 he rfl (jI_in hz hn) hdg (by rw [jA_up ⟨hz.1, by omega⟩]; exact kk)
end JC
end
section
/-! ===== words of the tables, by their places ===== -/
theorem tb (i : Nat) {w : Cond} (h : tables_1[i]? = some w) (hg : goodWord w = true) : w ∈ gw := gw_of (List.mem_append_right _ (List.mem_of_getElem? h)) hg
theorem ts (i : Nat) {w : Cond} (h : (k2_sels lw_privs)[i]? = some w) (hg : goodWord w = true) : w ∈ gw := gw_of (List.mem_append_left _ (List.mem_of_getElem? h)) hg
theorem wlX0_0 : u_lay RX0 TX0 0 ∈ gw := tb 57 (by decide +kernel) rfl
theorem wlX0_1 : u_lay RX0 TX0 1 ∈ gw := tb 59 (by decide +kernel) rfl
theorem wlX0_2 : u_lay RX0 TX0 2 ∈ gw := tb 61 (by decide +kernel) rfl
theorem wlX0_3 : u_lay RX0 TX0 3 ∈ gw := tb 63 (by decide +kernel) rfl
theorem wlX1_0 : u_lay RX1 TX1 0 ∈ gw := tb 25 (by decide +kernel) rfl
theorem wlX1_1 : u_lay RX1 TX1 1 ∈ gw := tb 27 (by decide +kernel) rfl
theorem wlX2_0 : u_lay RX2 TX2 0 ∈ gw := tb 84 (by decide +kernel) rfl
theorem wlX2_1 : u_lay RX2 TX2 1 ∈ gw := tb 86 (by decide +kernel) rfl
theorem wlX2_2 : u_lay RX2 TX2 2 ∈ gw := tb 88 (by decide +kernel) rfl
theorem wlX2_3 : u_lay RX2 TX2 3 ∈ gw := tb 90 (by decide +kernel) rfl
theorem wlX2_4 : u_lay RX2 TX2 4 ∈ gw := tb 92 (by decide +kernel) rfl
theorem wlX2_5 : u_lay RX2 TX2 5 ∈ gw := tb 94 (by decide +kernel) rfl
theorem wlX2_6 : u_lay RX2 TX2 6 ∈ gw := tb 96 (by decide +kernel) rfl
theorem wlX2_7 : u_lay RX2 TX2 7 ∈ gw := tb 98 (by decide +kernel) rfl
theorem wlX2_8 : u_lay RX2 TX2 8 ∈ gw := tb 100 (by decide +kernel) rfl
theorem wlX2_9 : u_lay RX2 TX2 9 ∈ gw := tb 102 (by decide +kernel) rfl
theorem wlX2_10 : u_lay RX2 TX2 10 ∈ gw := tb 104 (by decide +kernel) rfl
theorem wlX2_11 : u_lay RX2 TX2 11 ∈ gw := tb 106 (by decide +kernel) rfl
theorem wlX3_0 : u_lay RX3 TX3 0 ∈ gw := tb 40 (by decide +kernel) rfl
theorem wlX3_1 : u_lay RX3 TX3 1 ∈ gw := tb 42 (by decide +kernel) rfl
theorem wlX3_2 : u_lay RX3 TX3 2 ∈ gw := tb 44 (by decide +kernel) rfl
theorem wlX4_0 : u_lay RX4 TX4 0 ∈ gw := tb 116 (by decide +kernel) rfl
theorem wlX4_1 : u_lay RX4 TX4 1 ∈ gw := tb 118 (by decide +kernel) rfl
theorem wlX4_2 : u_lay RX4 TX4 2 ∈ gw := tb 120 (by decide +kernel) rfl
theorem wlX4_3 : u_lay RX4 TX4 3 ∈ gw := tb 122 (by decide +kernel) rfl
theorem wlX4_4 : u_lay RX4 TX4 4 ∈ gw := tb 124 (by decide +kernel) rfl
theorem wlX4_5 : u_lay RX4 TX4 5 ∈ gw := tb 126 (by decide +kernel) rfl
theorem wlX4_6 : u_lay RX4 TX4 6 ∈ gw := tb 128 (by decide +kernel) rfl
theorem wlX5_0 : u_lay RX5 TX5 0 ∈ gw := tb 368 (by decide +kernel) rfl
theorem wlX5_1 : u_lay RX5 TX5 1 ∈ gw := tb 370 (by decide +kernel) rfl
theorem wlX5_2 : u_lay RX5 TX5 2 ∈ gw := tb 372 (by decide +kernel) rfl
theorem wlX5_3 : u_lay RX5 TX5 3 ∈ gw := tb 374 (by decide +kernel) rfl
theorem wlX5_4 : u_lay RX5 TX5 4 ∈ gw := tb 376 (by decide +kernel) rfl
theorem wlX5_5 : u_lay RX5 TX5 5 ∈ gw := tb 378 (by decide +kernel) rfl
theorem wlX5_6 : u_lay RX5 TX5 6 ∈ gw := tb 380 (by decide +kernel) rfl
theorem wlX5_7 : u_lay RX5 TX5 7 ∈ gw := tb 382 (by decide +kernel) rfl
theorem wlX5_8 : u_lay RX5 TX5 8 ∈ gw := tb 384 (by decide +kernel) rfl
theorem wlX5_9 : u_lay RX5 TX5 9 ∈ gw := tb 386 (by decide +kernel) rfl
theorem wlX5_10 : u_lay RX5 TX5 10 ∈ gw := tb 388 (by decide +kernel) rfl
theorem wlX5_11 : u_lay RX5 TX5 11 ∈ gw := tb 390 (by decide +kernel) rfl
theorem wlX5_12 : u_lay RX5 TX5 12 ∈ gw := tb 392 (by decide +kernel) rfl
theorem wlX5_13 : u_lay RX5 TX5 13 ∈ gw := tb 394 (by decide +kernel) rfl
theorem wlX5_14 : u_lay RX5 TX5 14 ∈ gw := tb 396 (by decide +kernel) rfl
theorem wlX5_15 : u_lay RX5 TX5 15 ∈ gw := tb 398 (by decide +kernel) rfl
theorem wlX5_16 : u_lay RX5 TX5 16 ∈ gw := tb 400 (by decide +kernel) rfl
theorem wlX5_17 : u_lay RX5 TX5 17 ∈ gw := tb 402 (by decide +kernel) rfl
theorem wlX5_18 : u_lay RX5 TX5 18 ∈ gw := tb 404 (by decide +kernel) rfl
theorem wlX5_19 : u_lay RX5 TX5 19 ∈ gw := tb 406 (by decide +kernel) rfl
theorem wlX5_20 : u_lay RX5 TX5 20 ∈ gw := tb 408 (by decide +kernel) rfl
theorem wlX5_21 : u_lay RX5 TX5 21 ∈ gw := tb 410 (by decide +kernel) rfl
theorem wdX4_init : Cond.code yX4_init cX4_init 1 none ∈ gw := tb 13 (by decide +kernel) rfl
theorem wdX1_init : Cond.code yX1_init cX1_init 1 none ∈ gw := tb 21 (by decide +kernel) rfl
theorem wdX3_init : Cond.code yX3_init cX3_init 3 none ∈ gw := tb 35 (by decide +kernel) rfl
theorem wdX0_init : Cond.code yX0_init cX0_init 1 none ∈ gw := tb 51 (by decide +kernel) rfl
theorem wdX2_init : Cond.code yX2_init cX2_init 1 none ∈ gw := tb 70 (by decide +kernel) rfl
theorem wdX4_put : Cond.code yX4_put cX4_put 4 (some .int) ∈ gw := tb 134 (by decide +kernel) rfl
theorem wdX4_rowOf : Cond.code yX4_rowOf cX4_rowOf 2 (some (.object "SeedChainer$LetterRow")) ∈ gw := tb 138 (by decide +kernel) rfl
theorem wdX4_isBetween : Cond.code yX4_isBetween cX4_isBetween 3 (some .boolean) ∈ gw := tb 141 (by decide +kernel) rfl
theorem wdX1_isFull : Cond.code yX1_isFull cX1_isFull 1 (some .boolean) ∈ gw := tb 145 (by decide +kernel) rfl
theorem wdX1_append : Cond.code yX1_append cX1_append 2 none ∈ gw := tb 149 (by decide +kernel) rfl
theorem wdX1_size : Cond.code yX1_size cX1_size 1 (some .int) ∈ gw := tb 154 (by decide +kernel) rfl
theorem wdX4_cut : Cond.code yX4_cut cX4_cut 3 (some .int) ∈ gw := tb 158 (by decide +kernel) rfl
theorem wdX1_dropLast : Cond.code yX1_dropLast cX1_dropLast 1 (some .int) ∈ gw := tb 162 (by decide +kernel) rfl
theorem wdX4_letter : Cond.code yX4_letter cX4_letter 4 (some .int) ∈ gw := tb 166 (by decide +kernel) rfl
theorem wdX1_at : Cond.code yX1_at cX1_at 2 (some .int) ∈ gw := tb 170 (by decide +kernel) rfl
theorem wdX4_seeds : Cond.code yX4_seeds cX4_seeds 2 (some .boolean) ∈ gw := tb 174 (by decide +kernel) rfl
theorem wdX3_useLength : Cond.code yX3_useLength cX3_useLength 2 none ∈ gw := tb 178 (by decide +kernel) rfl
theorem wdX4_penalty : Cond.code yX4_penalty cX4_penalty 2 (some .boolean) ∈ gw := tb 182 (by decide +kernel) rfl
theorem wdX4_scores : Cond.code yX4_scores cX4_scores 5 (some .boolean) ∈ gw := tb 186 (by decide +kernel) rfl
theorem wdX2_useScores : Cond.code yX2_useScores cX2_useScores 5 none ∈ gw := tb 190 (by decide +kernel) rfl
theorem wdX4_anchors : Cond.code yX4_anchors cX4_anchors 1 (some .int) ∈ gw := tb 194 (by decide +kernel) rfl
theorem wdX3_count : Cond.code yX3_count cX3_count 4 (some .int) ∈ gw := tb 198 (by decide +kernel) rfl
theorem wdX3_isSeed : Cond.code yX3_isSeed cX3_isSeed 4 (some .boolean) ∈ gw := tb 203 (by decide +kernel) rfl
theorem wdX4_anchor : Cond.code yX4_anchor cX4_anchor 3 (some .int) ∈ gw := tb 208 (by decide +kernel) rfl
theorem wdX3_pairAt : Cond.code yX3_pairAt cX3_pairAt 5 (some .int) ∈ gw := tb 212 (by decide +kernel) rfl
theorem wdX4_pairOf : Cond.code yX4_pairOf cX4_pairOf 2 (some .int) ∈ gw := tb 215 (by decide +kernel) rfl
theorem wdX4_placeOf : Cond.code yX4_placeOf cX4_placeOf 2 (some .int) ∈ gw := tb 218 (by decide +kernel) rfl
theorem wdX4_chain : Cond.code yX4_chain cX4_chain 1 (some .int) ∈ gw := tb 222 (by decide +kernel) rfl
theorem wdX4_freshBest : Cond.code yX4_freshBest cX4_freshBest 1 (some (.object "SeedChainer$BestChain")) ∈ gw := tb 226 (by decide +kernel) rfl
theorem wdX0_find : Cond.code yX0_find cX0_find 6 none ∈ gw := tb 230 (by decide +kernel) rfl
theorem wdX0_lookAhead : Cond.code yX0_lookAhead cX0_lookAhead 5 none ∈ gw := tb 234 (by decide +kernel) rfl
theorem wdX3_firstSize : Cond.code yX3_firstSize cX3_firstSize 1 (some .int) ∈ gw := tb 238 (by decide +kernel) rfl
theorem wdX3_secondSize : Cond.code yX3_secondSize cX3_secondSize 1 (some .int) ∈ gw := tb 242 (by decide +kernel) rfl
theorem wdX0_mostFrom : Cond.code yX0_mostFrom cX0_mostFrom 6 (some .int) ∈ gw := tb 246 (by decide +kernel) rfl
theorem wdX0_worthFrom : Cond.code yX0_worthFrom cX0_worthFrom 5 (some .int) ∈ gw := tb 255 (by decide +kernel) rfl
theorem wdX3_length : Cond.code yX3_length cX3_length 1 (some .int) ∈ gw := tb 259 (by decide +kernel) rfl
theorem wdX0_firstPair : Cond.code yX0_firstPair cX0_firstPair 6 (some .int) ∈ gw := tb 263 (by decide +kernel) rfl
theorem wdX0_nextPair : Cond.code yX0_nextPair cX0_nextPair 9 (some .int) ∈ gw := tb 269 (by decide +kernel) rfl
theorem wdX0_total : Cond.code yX0_total cX0_total 1 (some .int) ∈ gw := tb 273 (by decide +kernel) rfl
theorem wdX4_links : Cond.code yX4_links cX4_links 1 (some .int) ∈ gw := tb 277 (by decide +kernel) rfl
theorem wdX0_size : Cond.code yX0_size cX0_size 1 (some .int) ∈ gw := tb 281 (by decide +kernel) rfl
theorem wdX4_link : Cond.code yX4_link cX4_link 3 (some .int) ∈ gw := tb 285 (by decide +kernel) rfl
theorem wdX0_pairAt : Cond.code yX0_pairAt cX0_pairAt 2 (some .int) ∈ gw := tb 289 (by decide +kernel) rfl
theorem wdX4_reach : Cond.code yX4_reach cX4_reach 3 (some .int) ∈ gw := tb 293 (by decide +kernel) rfl
theorem wdX2_walk : Cond.code yX2_walk cX2_walk 7 none ∈ gw := tb 297 (by decide +kernel) rfl
theorem wdX2_begin : Cond.code yX2_begin cX2_begin 1 none ∈ gw := tb 301 (by decide +kernel) rfl
theorem wdJ7_fill : Cond.code yJ7_fill cJ7_fill 4 none ∈ gw := tb 305 (by decide +kernel) rfl
theorem wdX2_turnSlopes : Cond.code yX2_turnSlopes cX2_turnSlopes 2 none ∈ gw := tb 310 (by decide +kernel) rfl
theorem wdX2_walkSlope : Cond.code yX2_walkSlope cX2_walkSlope 12 none ∈ gw := tb 314 (by decide +kernel) rfl
theorem wdX2_gapScore : Cond.code yX2_gapScore cX2_gapScore 3 (some .int) ∈ gw := tb 322 (by decide +kernel) rfl
theorem wdX2_keepAlive : Cond.code yX2_keepAlive cX2_keepAlive 4 none ∈ gw := tb 327 (by decide +kernel) rfl
theorem wdX2_endScore : Cond.code yX2_endScore cX2_endScore 1 (some .int) ∈ gw := tb 331 (by decide +kernel) rfl
theorem wdX4_reached : Cond.code yX4_reached cX4_reached 2 (some .int) ∈ gw := tb 335 (by decide +kernel) rfl
theorem wdX2_outcome : Cond.code yX2_outcome cX2_outcome 2 (some .int) ∈ gw := tb 339 (by decide +kernel) rfl
theorem wdX5_init : Cond.code yX5_init cX5_init 1 none ∈ gw := tb 344 (by decide +kernel) rfl
theorem wdX5_put : Cond.code yX5_put cX5_put 3 (some .int) ∈ gw := tb 416 (by decide +kernel) rfl
theorem wdX5_isRow : Cond.code yX5_isRow cX5_isRow 1 (some .boolean) ∈ gw := tb 419 (by decide +kernel) rfl
theorem wdX5_cut : Cond.code yX5_cut cX5_cut 2 (some .int) ∈ gw := tb 423 (by decide +kernel) rfl
theorem wdX5_letter : Cond.code yX5_letter cX5_letter 3 (some .int) ∈ gw := tb 427 (by decide +kernel) rfl
theorem wdX5_seeds : Cond.code yX5_seeds cX5_seeds 2 (some .boolean) ∈ gw := tb 431 (by decide +kernel) rfl
theorem wdX5_penalty : Cond.code yX5_penalty cX5_penalty 2 (some .boolean) ∈ gw := tb 435 (by decide +kernel) rfl
theorem wdX5_scores : Cond.code yX5_scores cX5_scores 5 (some .boolean) ∈ gw := tb 439 (by decide +kernel) rfl
theorem wdX5_anchors : Cond.code yX5_anchors cX5_anchors 1 (some .int) ∈ gw := tb 443 (by decide +kernel) rfl
theorem wdX5_learn : Cond.code yX5_learn cX5_learn 6 none ∈ gw := tb 447 (by decide +kernel) rfl
theorem wdX5_isAnchor : Cond.code yX5_isAnchor cX5_isAnchor 5 (some .boolean) ∈ gw := tb 451 (by decide +kernel) rfl
theorem wdX5_between : Cond.code yX5_between cX5_between 5 (some .int) ∈ gw := tb 455 (by decide +kernel) rfl
theorem wdX5_anchor : Cond.code yX5_anchor cX5_anchor 3 (some .int) ∈ gw := tb 459 (by decide +kernel) rfl
theorem wdX5_chain : Cond.code yX5_chain cX5_chain 1 (some .int) ∈ gw := tb 463 (by decide +kernel) rfl
theorem wdX5_links : Cond.code yX5_links cX5_links 1 (some .int) ∈ gw := tb 467 (by decide +kernel) rfl
theorem wdX5_link : Cond.code yX5_link cX5_link 3 (some .int) ∈ gw := tb 471 (by decide +kernel) rfl
theorem wdX5_reach : Cond.code yX5_reach cX5_reach 12 (some .int) ∈ gw := tb 475 (by decide +kernel) rfl
theorem wdX5_scoreAt : Cond.code yX5_scoreAt cX5_scoreAt 3 (some .int) ∈ gw := tb 480 (by decide +kernel) rfl
theorem wdX5_greater : Cond.code yX5_greater cX5_greater 2 (some .int) ∈ gw := tb 483 (by decide +kernel) rfl
theorem wdX5_reached : Cond.code yX5_reached cX5_reached 2 (some .int) ∈ gw := tb 487 (by decide +kernel) rfl
theorem wfX1_9 : Cond.fieldLink RX1 9 "SeedChainer$LetterRow" "letters" "[I" ∈ gw := tb 23 (by decide +kernel) rfl
theorem wfX1_15 : Cond.fieldLink RX1 15 "SeedChainer$LetterRow" "size" "I" ∈ gw := tb 24 (by decide +kernel) rfl
theorem wfX3_15 : Cond.fieldLink RX3 15 "SeedChainer$Seeds" "first" "LSeedChainer$LetterRow;" ∈ gw := tb 37 (by decide +kernel) rfl
theorem wfX3_19 : Cond.fieldLink RX3 19 "SeedChainer$Seeds" "second" "LSeedChainer$LetterRow;" ∈ gw := tb 38 (by decide +kernel) rfl
theorem wfX3_9 : Cond.fieldLink RX3 9 "SeedChainer$Seeds" "length" "I" ∈ gw := tb 39 (by decide +kernel) rfl
theorem wfX0_11 : Cond.fieldLink RX0 11 "SeedChainer$BestChain" "ahead" "[I" ∈ gw := tb 53 (by decide +kernel) rfl
theorem wfX0_15 : Cond.fieldLink RX0 15 "SeedChainer$BestChain" "pairs" "[I" ∈ gw := tb 54 (by decide +kernel) rfl
theorem wfX0_18 : Cond.fieldLink RX0 18 "SeedChainer$BestChain" "size" "I" ∈ gw := tb 55 (by decide +kernel) rfl
theorem wfX0_22 : Cond.fieldLink RX0 22 "SeedChainer$BestChain" "total" "I" ∈ gw := tb 56 (by decide +kernel) rfl
theorem wfX2_9 : Cond.fieldLink RX2 9 "SeedChainer$Reaching" "gain" "I" ∈ gw := tb 72 (by decide +kernel) rfl
theorem wfX2_15 : Cond.fieldLink RX2 15 "SeedChainer$Reaching" "loss" "I" ∈ gw := tb 73 (by decide +kernel) rfl
theorem wfX2_18 : Cond.fieldLink RX2 18 "SeedChainer$Reaching" "gap" "I" ∈ gw := tb 74 (by decide +kernel) rfl
theorem wfX2_21 : Cond.fieldLink RX2 21 "SeedChainer$Reaching" "limit" "I" ∈ gw := tb 75 (by decide +kernel) rfl
theorem wfX2_24 : Cond.fieldLink RX2 24 "SeedChainer$Reaching" "twoBefore" "[I" ∈ gw := tb 76 (by decide +kernel) rfl
theorem wfX2_28 : Cond.fieldLink RX2 28 "SeedChainer$Reaching" "oneBefore" "[I" ∈ gw := tb 77 (by decide +kernel) rfl
theorem wfX2_31 : Cond.fieldLink RX2 31 "SeedChainer$Reaching" "current" "[I" ∈ gw := tb 78 (by decide +kernel) rfl
theorem wfX2_34 : Cond.fieldLink RX2 34 "SeedChainer$Reaching" "endScore" "I" ∈ gw := tb 79 (by decide +kernel) rfl
theorem wfX2_37 : Cond.fieldLink RX2 37 "SeedChainer$Reaching" "endP" "I" ∈ gw := tb 80 (by decide +kernel) rfl
theorem wfX2_40 : Cond.fieldLink RX2 40 "SeedChainer$Reaching" "endQ" "I" ∈ gw := tb 81 (by decide +kernel) rfl
theorem wfX2_43 : Cond.fieldLink RX2 43 "SeedChainer$Reaching" "aliveCells" "I" ∈ gw := tb 82 (by decide +kernel) rfl
theorem wfX2_46 : Cond.fieldLink RX2 46 "SeedChainer$Reaching" "lastSlope" "I" ∈ gw := tb 83 (by decide +kernel) rfl
theorem wfX4_10 : Cond.fieldLink RX4 10 "SeedChainer" "row0" "LSeedChainer$LetterRow;" ∈ gw := tb 109 (by decide +kernel) rfl
theorem wfX4_16 : Cond.fieldLink RX4 16 "SeedChainer" "row1" "LSeedChainer$LetterRow;" ∈ gw := tb 110 (by decide +kernel) rfl
theorem wfX4_24 : Cond.fieldLink RX4 24 "SeedChainer" "seedPairs" "LSeedChainer$Seeds;" ∈ gw := tb 111 (by decide +kernel) rfl
theorem wfX4_31 : Cond.fieldLink RX4 31 "SeedChainer" "best" "LSeedChainer$BestChain;" ∈ gw := tb 112 (by decide +kernel) rfl
theorem wfX4_38 : Cond.fieldLink RX4 38 "SeedChainer" "reaching" "LSeedChainer$Reaching;" ∈ gw := tb 113 (by decide +kernel) rfl
theorem wfX4_42 : Cond.fieldLink RX4 42 "SeedChainer" "gapPenalty" "I" ∈ gw := tb 114 (by decide +kernel) rfl
theorem wfX4_46 : Cond.fieldLink RX4 46 "SeedChainer" "bestIsFresh" "Z" ∈ gw := tb 115 (by decide +kernel) rfl
theorem wfX5_7 : Cond.fieldLink RX5 7 "SeedChainerModel" "letters" "[I" ∈ gw := tb 346 (by decide +kernel) rfl
theorem wfX5_13 : Cond.fieldLink RX5 13 "SeedChainerModel" "lengths" "[I" ∈ gw := tb 347 (by decide +kernel) rfl
theorem wfX5_16 : Cond.fieldLink RX5 16 "SeedChainerModel" "seed" "I" ∈ gw := tb 348 (by decide +kernel) rfl
theorem wfX5_20 : Cond.fieldLink RX5 20 "SeedChainerModel" "penalty" "I" ∈ gw := tb 349 (by decide +kernel) rfl
theorem wfX5_23 : Cond.fieldLink RX5 23 "SeedChainerModel" "gain" "I" ∈ gw := tb 350 (by decide +kernel) rfl
theorem wfX5_26 : Cond.fieldLink RX5 26 "SeedChainerModel" "loss" "I" ∈ gw := tb 351 (by decide +kernel) rfl
theorem wfX5_29 : Cond.fieldLink RX5 29 "SeedChainerModel" "gap" "I" ∈ gw := tb 352 (by decide +kernel) rfl
theorem wfX5_32 : Cond.fieldLink RX5 32 "SeedChainerModel" "limit" "I" ∈ gw := tb 353 (by decide +kernel) rfl
theorem wfX5_35 : Cond.fieldLink RX5 35 "SeedChainerModel" "firsts" "[I" ∈ gw := tb 354 (by decide +kernel) rfl
theorem wfX5_38 : Cond.fieldLink RX5 38 "SeedChainerModel" "seconds" "[I" ∈ gw := tb 355 (by decide +kernel) rfl
theorem wfX5_41 : Cond.fieldLink RX5 41 "SeedChainerModel" "worths" "[I" ∈ gw := tb 356 (by decide +kernel) rfl
theorem wfX5_58 : Cond.fieldLink RX5 58 "SeedChainerModel" "found" "I" ∈ gw := tb 357 (by decide +kernel) rfl
theorem wfX5_44 : Cond.fieldLink RX5 44 "SeedChainerModel" "links" "[I" ∈ gw := tb 358 (by decide +kernel) rfl
theorem wfX5_72 : Cond.fieldLink RX5 72 "SeedChainerModel" "linked" "I" ∈ gw := tb 359 (by decide +kernel) rfl
theorem wfX5_65 : Cond.fieldLink RX5 65 "SeedChainerModel" "best" "I" ∈ gw := tb 360 (by decide +kernel) rfl
theorem wfX5_54 : Cond.fieldLink RX5 54 "SeedChainerModel" "isKnown" "Z" ∈ gw := tb 361 (by decide +kernel) rfl
theorem wfX5_47 : Cond.fieldLink RX5 47 "SeedChainerModel" "scores" "[I" ∈ gw := tb 362 (by decide +kernel) rfl
theorem wfX5_79 : Cond.fieldLink RX5 79 "SeedChainerModel" "isReached" "Z" ∈ gw := tb 363 (by decide +kernel) rfl
theorem wfX5_82 : Cond.fieldLink RX5 82 "SeedChainerModel" "endP" "I" ∈ gw := tb 364 (by decide +kernel) rfl
theorem wfX5_85 : Cond.fieldLink RX5 85 "SeedChainerModel" "endQ" "I" ∈ gw := tb 365 (by decide +kernel) rfl
theorem wfX5_88 : Cond.fieldLink RX5 88 "SeedChainerModel" "alive" "I" ∈ gw := tb 366 (by decide +kernel) rfl
theorem wfX5_91 : Cond.fieldLink RX5 91 "SeedChainerModel" "farthest" "I" ∈ gw := tb 367 (by decide +kernel) rfl
theorem wmL_9 : Cond.methodLink RL 9 yX4_init ∈ gw := tb 11 (by decide +kernel) rfl
theorem wmX4_1 : Cond.methodLink RX4 1 objectInit ∈ gw := tb 14 (by decide +kernel) rfl
theorem wnX4_9 : Cond.methodLinkNest RX4 9 yX1_init RX4 ∈ tables_1 := List.mem_of_getElem? (i := 19) (by decide +kernel)
theorem wmX1_3 : Cond.methodLink RX1 3 objectInit ∈ gw := tb 22 (by decide +kernel) rfl
theorem wmX4_21 : Cond.methodLink RX4 21 yX3_init ∈ gw := tb 33 (by decide +kernel) rfl
theorem wmX3_3 : Cond.methodLink RX3 3 objectInit ∈ gw := tb 36 (by decide +kernel) rfl
theorem wnX4_30 : Cond.methodLinkNest RX4 30 yX0_init RX4 ∈ tables_1 := List.mem_of_getElem? (i := 49) (by decide +kernel)
theorem wmX0_3 : Cond.methodLink RX0 3 objectInit ∈ gw := tb 52 (by decide +kernel) rfl
theorem wnX4_37 : Cond.methodLinkNest RX4 37 yX2_init RX4 ∈ tables_1 := List.mem_of_getElem? (i := 68) (by decide +kernel)
theorem wmX2_3 : Cond.methodLink RX2 3 objectInit ∈ gw := tb 71 (by decide +kernel) rfl
theorem wmL_13 : Cond.methodLink RL 13 yX4_put ∈ gw := tb 131 (by decide +kernel) rfl
theorem wmX4_50 : Cond.methodLink RX4 50 yX4_rowOf ∈ gw := tb 135 (by decide +kernel) rfl
theorem wmX4_54 : Cond.methodLink RX4 54 yX4_isBetween ∈ gw := tb 139 (by decide +kernel) rfl
theorem wmX4_58 : Cond.methodLink RX4 58 yX1_isFull ∈ gw := tb 142 (by decide +kernel) rfl
theorem wmX4_62 : Cond.methodLink RX4 62 yX1_append ∈ gw := tb 146 (by decide +kernel) rfl
theorem wmX1_19 : Cond.methodLink RX1 19 yX1_isFull ∈ gw := tb 150 (by decide +kernel) rfl
theorem wmX4_66 : Cond.methodLink RX4 66 yX1_size ∈ gw := tb 151 (by decide +kernel) rfl
theorem wmL_18 : Cond.methodLink RL 18 yX4_cut ∈ gw := tb 155 (by decide +kernel) rfl
theorem wmX4_70 : Cond.methodLink RX4 70 yX1_dropLast ∈ gw := tb 159 (by decide +kernel) rfl
theorem wmL_23 : Cond.methodLink RL 23 yX4_letter ∈ gw := tb 163 (by decide +kernel) rfl
theorem wmX4_73 : Cond.methodLink RX4 73 yX1_at ∈ gw := tb 167 (by decide +kernel) rfl
theorem wmL_27 : Cond.methodLink RL 27 yX4_seeds ∈ gw := tb 171 (by decide +kernel) rfl
theorem wmX4_77 : Cond.methodLink RX4 77 yX3_useLength ∈ gw := tb 175 (by decide +kernel) rfl
theorem wmL_32 : Cond.methodLink RL 32 yX4_penalty ∈ gw := tb 179 (by decide +kernel) rfl
theorem wmL_36 : Cond.methodLink RL 36 yX4_scores ∈ gw := tb 183 (by decide +kernel) rfl
theorem wmX4_80 : Cond.methodLink RX4 80 yX2_useScores ∈ gw := tb 187 (by decide +kernel) rfl
theorem wmL_41 : Cond.methodLink RL 41 yX4_anchors ∈ gw := tb 191 (by decide +kernel) rfl
theorem wmX4_84 : Cond.methodLink RX4 84 yX3_count ∈ gw := tb 195 (by decide +kernel) rfl
theorem wmX3_22 : Cond.methodLink RX3 22 yX1_size ∈ gw := tb 199 (by decide +kernel) rfl
theorem wmX3_32 : Cond.methodLink RX3 32 yX3_isSeed ∈ gw := tb 200 (by decide +kernel) rfl
theorem wmX3_28 : Cond.methodLink RX3 28 yX1_at ∈ gw := tb 204 (by decide +kernel) rfl
theorem wmL_46 : Cond.methodLink RL 46 yX4_anchor ∈ gw := tb 205 (by decide +kernel) rfl
theorem wmX4_87 : Cond.methodLink RX4 87 yX3_pairAt ∈ gw := tb 209 (by decide +kernel) rfl
theorem wnX3_36 : Cond.methodLinkNest RX3 36 yX4_pairOf RX4 ∈ tables_1 := List.mem_of_getElem? (i := 213) (by decide +kernel)
theorem wmX4_90 : Cond.methodLink RX4 90 yX4_placeOf ∈ gw := tb 216 (by decide +kernel) rfl
theorem wmL_50 : Cond.methodLink RL 50 yX4_chain ∈ gw := tb 219 (by decide +kernel) rfl
theorem wmX4_94 : Cond.methodLink RX4 94 yX4_freshBest ∈ gw := tb 223 (by decide +kernel) rfl
theorem wmX4_113 : Cond.methodLink RX4 113 yX0_find ∈ gw := tb 227 (by decide +kernel) rfl
theorem wmX0_25 : Cond.methodLink RX0 25 yX0_lookAhead ∈ gw := tb 231 (by decide +kernel) rfl
theorem wmX0_51 : Cond.methodLink RX0 51 yX3_firstSize ∈ gw := tb 235 (by decide +kernel) rfl
theorem wmX0_54 : Cond.methodLink RX0 54 yX3_secondSize ∈ gw := tb 239 (by decide +kernel) rfl
theorem wmX0_57 : Cond.methodLink RX0 57 yX0_mostFrom ∈ gw := tb 243 (by decide +kernel) rfl
theorem wmX0_61 : Cond.methodLink RX0 61 Lib.Math.max.name ∈ gw := tb 248 (by decide +kernel) rfl
theorem wmX0_66 : Cond.methodLink RX0 66 yX3_isSeed ∈ gw := tb 251 (by decide +kernel) rfl
theorem wmX0_37 : Cond.methodLink RX0 37 yX0_worthFrom ∈ gw := tb 252 (by decide +kernel) rfl
theorem wmX0_41 : Cond.methodLink RX0 41 yX3_length ∈ gw := tb 256 (by decide +kernel) rfl
theorem wmX0_29 : Cond.methodLink RX0 29 yX0_firstPair ∈ gw := tb 260 (by decide +kernel) rfl
theorem wnX0_70 : Cond.methodLinkNest RX0 70 yX4_pairOf RX4 ∈ tables_1 := List.mem_of_getElem? (i := 264) (by decide +kernel)
theorem wnX0_33 : Cond.methodLinkNest RX0 33 yX4_placeOf RX4 ∈ tables_1 := List.mem_of_getElem? (i := 265) (by decide +kernel)
theorem wmX0_47 : Cond.methodLink RX0 47 yX0_nextPair ∈ gw := tb 266 (by decide +kernel) rfl
theorem wmX4_98 : Cond.methodLink RX4 98 yX0_total ∈ gw := tb 270 (by decide +kernel) rfl
theorem wmL_54 : Cond.methodLink RL 54 yX4_links ∈ gw := tb 274 (by decide +kernel) rfl
theorem wmX4_101 : Cond.methodLink RX4 101 yX0_size ∈ gw := tb 278 (by decide +kernel) rfl
theorem wmL_58 : Cond.methodLink RL 58 yX4_link ∈ gw := tb 282 (by decide +kernel) rfl
theorem wmX4_102 : Cond.methodLink RX4 102 yX0_pairAt ∈ gw := tb 286 (by decide +kernel) rfl
theorem wmL_62 : Cond.methodLink RL 62 yX4_reach ∈ gw := tb 290 (by decide +kernel) rfl
theorem wmX4_103 : Cond.methodLink RX4 103 yX2_walk ∈ gw := tb 294 (by decide +kernel) rfl
theorem wmX2_49 : Cond.methodLink RX2 49 yX2_begin ∈ gw := tb 298 (by decide +kernel) rfl
theorem wmX2_66 : Cond.methodLink RX2 66 yJ7_fill ∈ gw := tb 303 (by decide +kernel) rfl
theorem wmX2_52 : Cond.methodLink RX2 52 yX1_size ∈ gw := tb 306 (by decide +kernel) rfl
theorem wmX2_58 : Cond.methodLink RX2 58 yX2_turnSlopes ∈ gw := tb 307 (by decide +kernel) rfl
theorem wmX2_61 : Cond.methodLink RX2 61 yX2_walkSlope ∈ gw := tb 311 (by decide +kernel) rfl
theorem wmX2_72 : Cond.methodLink RX2 72 Lib.Math.min.name ∈ gw := tb 315 (by decide +kernel) rfl
theorem wmX2_78 : Cond.methodLink RX2 78 Lib.Math.max.name ∈ gw := tb 318 (by decide +kernel) rfl
theorem wmX2_81 : Cond.methodLink RX2 81 yX2_gapScore ∈ gw := tb 319 (by decide +kernel) rfl
theorem wmX2_85 : Cond.methodLink RX2 85 yX1_at ∈ gw := tb 323 (by decide +kernel) rfl
theorem wmX2_88 : Cond.methodLink RX2 88 yX2_keepAlive ∈ gw := tb 324 (by decide +kernel) rfl
theorem wmX4_107 : Cond.methodLink RX4 107 yX2_endScore ∈ gw := tb 328 (by decide +kernel) rfl
theorem wmL_66 : Cond.methodLink RL 66 yX4_reached ∈ gw := tb 332 (by decide +kernel) rfl
theorem wmX4_110 : Cond.methodLink RX4 110 yX2_outcome ∈ gw := tb 336 (by decide +kernel) rfl
theorem wmL_12 : Cond.methodLink RL 12 yX5_init ∈ gw := tb 342 (by decide +kernel) rfl
theorem wmX5_1 : Cond.methodLink RX5 1 objectInit ∈ gw := tb 345 (by decide +kernel) rfl
theorem wmL_17 : Cond.methodLink RL 17 yX5_put ∈ gw := tb 413 (by decide +kernel) rfl
theorem wmX5_50 : Cond.methodLink RX5 50 yX5_isRow ∈ gw := tb 417 (by decide +kernel) rfl
theorem wmL_22 : Cond.methodLink RL 22 yX5_cut ∈ gw := tb 420 (by decide +kernel) rfl
theorem wmL_26 : Cond.methodLink RL 26 yX5_letter ∈ gw := tb 424 (by decide +kernel) rfl
theorem wmL_31 : Cond.methodLink RL 31 yX5_seeds ∈ gw := tb 428 (by decide +kernel) rfl
theorem wmL_35 : Cond.methodLink RL 35 yX5_penalty ∈ gw := tb 432 (by decide +kernel) rfl
theorem wmL_40 : Cond.methodLink RL 40 yX5_scores ∈ gw := tb 436 (by decide +kernel) rfl
theorem wmL_45 : Cond.methodLink RL 45 yX5_anchors ∈ gw := tb 440 (by decide +kernel) rfl
theorem wmX5_75 : Cond.methodLink RX5 75 yX5_learn ∈ gw := tb 444 (by decide +kernel) rfl
theorem wmX5_61 : Cond.methodLink RX5 61 yX5_isAnchor ∈ gw := tb 448 (by decide +kernel) rfl
theorem wmX5_68 : Cond.methodLink RX5 68 yX5_between ∈ gw := tb 452 (by decide +kernel) rfl
theorem wmL_49 : Cond.methodLink RL 49 yX5_anchor ∈ gw := tb 456 (by decide +kernel) rfl
theorem wmL_53 : Cond.methodLink RL 53 yX5_chain ∈ gw := tb 460 (by decide +kernel) rfl
theorem wmL_57 : Cond.methodLink RL 57 yX5_links ∈ gw := tb 464 (by decide +kernel) rfl
theorem wmL_61 : Cond.methodLink RL 61 yX5_link ∈ gw := tb 468 (by decide +kernel) rfl
theorem wmL_65 : Cond.methodLink RL 65 yX5_reach ∈ gw := tb 472 (by decide +kernel) rfl
theorem wmX5_94 : Cond.methodLink RX5 94 yX5_scoreAt ∈ gw := tb 477 (by decide +kernel) rfl
theorem wmX5_97 : Cond.methodLink RX5 97 yX5_greater ∈ gw := tb 481 (by decide +kernel) rfl
theorem wmL_69 : Cond.methodLink RL 69 yX5_reached ∈ gw := tb 484 (by decide +kernel) rfl
theorem wcX0_60 : Cond.constant RX0 60 (jI (-1000000)) ∈ gw := tb 247 (by decide +kernel) rfl
theorem wcX2_65 : Cond.constant RX2 65 (jI (-1000000)) ∈ gw := tb 302 (by decide +kernel) rfl
theorem wcX5_78 : Cond.constant RX5 78 (jI (-1000000)) ∈ gw := tb 476 (by decide +kernel) rfl
theorem wkL_7 : Cond.classLink RL 7 RX4 ∈ gw := tb 9 (by decide +kernel) rfl
theorem wkX4_7 : Cond.classLink RX4 7 RX1 ∈ gw := tb 17 (by decide +kernel) rfl
theorem wkX4_19 : Cond.classLink RX4 19 RX3 ∈ gw := tb 31 (by decide +kernel) rfl
theorem wkX4_28 : Cond.classLink RX4 28 RX0 ∈ gw := tb 47 (by decide +kernel) rfl
theorem wkX4_35 : Cond.classLink RX4 35 RX2 ∈ gw := tb 66 (by decide +kernel) rfl
theorem wkL_10 : Cond.classLink RL 10 RX5 ∈ gw := tb 340 (by decide +kernel) rfl
theorem wiX4 : Cond.instantiable RX4 7 ∈ gw := tb 10 (by decide +kernel) rfl
theorem wiX1 : Cond.instantiable RX1 2 ∈ gw := tb 18 (by decide +kernel) rfl
theorem wiX3 : Cond.instantiable RX3 3 ∈ gw := tb 32 (by decide +kernel) rfl
theorem wiX0 : Cond.instantiable RX0 4 ∈ gw := tb 48 (by decide +kernel) rfl
theorem wiX2 : Cond.instantiable RX2 12 ∈ gw := tb 67 (by decide +kernel) rfl
theorem wiX5 : Cond.instantiable RX5 22 ∈ gw := tb 341 (by decide +kernel) rfl
theorem wzL : Cond.initialized RL ∈ gw := tb 0 (by decide +kernel) rfl
theorem wzX4 : Cond.initialized RX4 ∈ gw := tb 1 (by decide +kernel) rfl
theorem wzX1 : Cond.initialized RX1 ∈ gw := tb 2 (by decide +kernel) rfl
theorem wzX3 : Cond.initialized RX3 ∈ gw := tb 3 (by decide +kernel) rfl
theorem wzX0 : Cond.initialized RX0 ∈ gw := tb 4 (by decide +kernel) rfl
theorem wzX2 : Cond.initialized RX2 ∈ gw := tb 5 (by decide +kernel) rfl
theorem wzX5 : Cond.initialized RX5 ∈ gw := tb 6 (by decide +kernel) rfl
theorem wzJ8 : Cond.initialized "java/lang/Math" ∈ gw := tb 7 (by decide +kernel) rfl
theorem wzJ7 : Cond.initialized RJ7 ∈ gw := tb 8 (by decide +kernel) rfl
theorem woX4_init : Cond.instanceMethod yX4_init ∈ gw := tb 12 (by decide +kernel) rfl
theorem woJ0_init : Cond.instanceMethod objectInit ∈ gw := tb 15 (by decide +kernel) rfl
theorem woX1_init : Cond.instanceMethod yX1_init ∈ gw := tb 20 (by decide +kernel) rfl
theorem woX3_init : Cond.instanceMethod yX3_init ∈ gw := tb 34 (by decide +kernel) rfl
theorem woX0_init : Cond.instanceMethod yX0_init ∈ gw := tb 50 (by decide +kernel) rfl
theorem woX2_init : Cond.instanceMethod yX2_init ∈ gw := tb 69 (by decide +kernel) rfl
theorem woX4_put : Cond.instanceMethod yX4_put ∈ gw := tb 132 (by decide +kernel) rfl
theorem wxX4_put : Cond.selects RX4 yX4_put yX4_put ∈ gw := tb 133 (by decide +kernel) rfl
theorem woX4_rowOf : Cond.instanceMethod yX4_rowOf ∈ gw := tb 137 (by decide +kernel) rfl
theorem wsX4_isBetween : Cond.static yX4_isBetween ∈ gw := tb 140 (by decide +kernel) rfl
theorem woX1_isFull : Cond.instanceMethod yX1_isFull ∈ gw := tb 143 (by decide +kernel) rfl
theorem wxX1_isFull : Cond.selects RX1 yX1_isFull yX1_isFull ∈ gw := tb 144 (by decide +kernel) rfl
theorem woX1_append : Cond.instanceMethod yX1_append ∈ gw := tb 147 (by decide +kernel) rfl
theorem wxX1_append : Cond.selects RX1 yX1_append yX1_append ∈ gw := tb 148 (by decide +kernel) rfl
theorem woX1_size : Cond.instanceMethod yX1_size ∈ gw := tb 152 (by decide +kernel) rfl
theorem wxX1_size : Cond.selects RX1 yX1_size yX1_size ∈ gw := tb 153 (by decide +kernel) rfl
theorem woX4_cut : Cond.instanceMethod yX4_cut ∈ gw := tb 156 (by decide +kernel) rfl
theorem wxX4_cut : Cond.selects RX4 yX4_cut yX4_cut ∈ gw := tb 157 (by decide +kernel) rfl
theorem woX1_dropLast : Cond.instanceMethod yX1_dropLast ∈ gw := tb 160 (by decide +kernel) rfl
theorem wxX1_dropLast : Cond.selects RX1 yX1_dropLast yX1_dropLast ∈ gw := tb 161 (by decide +kernel) rfl
theorem woX4_letter : Cond.instanceMethod yX4_letter ∈ gw := tb 164 (by decide +kernel) rfl
theorem wxX4_letter : Cond.selects RX4 yX4_letter yX4_letter ∈ gw := tb 165 (by decide +kernel) rfl
theorem woX1_at : Cond.instanceMethod yX1_at ∈ gw := tb 168 (by decide +kernel) rfl
theorem wxX1_at : Cond.selects RX1 yX1_at yX1_at ∈ gw := tb 169 (by decide +kernel) rfl
theorem woX4_seeds : Cond.instanceMethod yX4_seeds ∈ gw := tb 172 (by decide +kernel) rfl
theorem wxX4_seeds : Cond.selects RX4 yX4_seeds yX4_seeds ∈ gw := tb 173 (by decide +kernel) rfl
theorem woX3_useLength : Cond.instanceMethod yX3_useLength ∈ gw := tb 176 (by decide +kernel) rfl
theorem wxX3_useLength : Cond.selects RX3 yX3_useLength yX3_useLength ∈ gw := tb 177 (by decide +kernel) rfl
theorem woX4_penalty : Cond.instanceMethod yX4_penalty ∈ gw := tb 180 (by decide +kernel) rfl
theorem wxX4_penalty : Cond.selects RX4 yX4_penalty yX4_penalty ∈ gw := tb 181 (by decide +kernel) rfl
theorem woX4_scores : Cond.instanceMethod yX4_scores ∈ gw := tb 184 (by decide +kernel) rfl
theorem wxX4_scores : Cond.selects RX4 yX4_scores yX4_scores ∈ gw := tb 185 (by decide +kernel) rfl
theorem woX2_useScores : Cond.instanceMethod yX2_useScores ∈ gw := tb 188 (by decide +kernel) rfl
theorem wxX2_useScores : Cond.selects RX2 yX2_useScores yX2_useScores ∈ gw := tb 189 (by decide +kernel) rfl
theorem woX4_anchors : Cond.instanceMethod yX4_anchors ∈ gw := tb 192 (by decide +kernel) rfl
theorem wxX4_anchors : Cond.selects RX4 yX4_anchors yX4_anchors ∈ gw := tb 193 (by decide +kernel) rfl
theorem woX3_count : Cond.instanceMethod yX3_count ∈ gw := tb 196 (by decide +kernel) rfl
theorem wxX3_count : Cond.selects RX3 yX3_count yX3_count ∈ gw := tb 197 (by decide +kernel) rfl
theorem woX3_isSeed : Cond.instanceMethod yX3_isSeed ∈ gw := tb 201 (by decide +kernel) rfl
theorem wxX3_isSeed : Cond.selects RX3 yX3_isSeed yX3_isSeed ∈ gw := tb 202 (by decide +kernel) rfl
theorem woX4_anchor : Cond.instanceMethod yX4_anchor ∈ gw := tb 206 (by decide +kernel) rfl
theorem wxX4_anchor : Cond.selects RX4 yX4_anchor yX4_anchor ∈ gw := tb 207 (by decide +kernel) rfl
theorem woX3_pairAt : Cond.instanceMethod yX3_pairAt ∈ gw := tb 210 (by decide +kernel) rfl
theorem wxX3_pairAt : Cond.selects RX3 yX3_pairAt yX3_pairAt ∈ gw := tb 211 (by decide +kernel) rfl
theorem wsX4_pairOf : Cond.static yX4_pairOf ∈ gw := tb 214 (by decide +kernel) rfl
theorem wsX4_placeOf : Cond.static yX4_placeOf ∈ gw := tb 217 (by decide +kernel) rfl
theorem woX4_chain : Cond.instanceMethod yX4_chain ∈ gw := tb 220 (by decide +kernel) rfl
theorem wxX4_chain : Cond.selects RX4 yX4_chain yX4_chain ∈ gw := tb 221 (by decide +kernel) rfl
theorem woX4_freshBest : Cond.instanceMethod yX4_freshBest ∈ gw := tb 225 (by decide +kernel) rfl
theorem woX0_find : Cond.instanceMethod yX0_find ∈ gw := tb 228 (by decide +kernel) rfl
theorem wxX0_find : Cond.selects RX0 yX0_find yX0_find ∈ gw := tb 229 (by decide +kernel) rfl
theorem woX0_lookAhead : Cond.instanceMethod yX0_lookAhead ∈ gw := tb 233 (by decide +kernel) rfl
theorem woX3_firstSize : Cond.instanceMethod yX3_firstSize ∈ gw := tb 236 (by decide +kernel) rfl
theorem wxX3_firstSize : Cond.selects RX3 yX3_firstSize yX3_firstSize ∈ gw := tb 237 (by decide +kernel) rfl
theorem woX3_secondSize : Cond.instanceMethod yX3_secondSize ∈ gw := tb 240 (by decide +kernel) rfl
theorem wxX3_secondSize : Cond.selects RX3 yX3_secondSize yX3_secondSize ∈ gw := tb 241 (by decide +kernel) rfl
theorem woX0_mostFrom : Cond.instanceMethod yX0_mostFrom ∈ gw := tb 245 (by decide +kernel) rfl
theorem wsJ8_max : Cond.static Lib.Math.max.name ∈ gw := tb 249 (by decide +kernel) rfl
theorem woX0_worthFrom : Cond.instanceMethod yX0_worthFrom ∈ gw := tb 254 (by decide +kernel) rfl
theorem woX3_length : Cond.instanceMethod yX3_length ∈ gw := tb 257 (by decide +kernel) rfl
theorem wxX3_length : Cond.selects RX3 yX3_length yX3_length ∈ gw := tb 258 (by decide +kernel) rfl
theorem woX0_firstPair : Cond.instanceMethod yX0_firstPair ∈ gw := tb 262 (by decide +kernel) rfl
theorem woX0_nextPair : Cond.instanceMethod yX0_nextPair ∈ gw := tb 268 (by decide +kernel) rfl
theorem woX0_total : Cond.instanceMethod yX0_total ∈ gw := tb 271 (by decide +kernel) rfl
theorem wxX0_total : Cond.selects RX0 yX0_total yX0_total ∈ gw := tb 272 (by decide +kernel) rfl
theorem woX4_links : Cond.instanceMethod yX4_links ∈ gw := tb 275 (by decide +kernel) rfl
theorem wxX4_links : Cond.selects RX4 yX4_links yX4_links ∈ gw := tb 276 (by decide +kernel) rfl
theorem woX0_size : Cond.instanceMethod yX0_size ∈ gw := tb 279 (by decide +kernel) rfl
theorem wxX0_size : Cond.selects RX0 yX0_size yX0_size ∈ gw := tb 280 (by decide +kernel) rfl
theorem woX4_link : Cond.instanceMethod yX4_link ∈ gw := tb 283 (by decide +kernel) rfl
theorem wxX4_link : Cond.selects RX4 yX4_link yX4_link ∈ gw := tb 284 (by decide +kernel) rfl
theorem woX0_pairAt : Cond.instanceMethod yX0_pairAt ∈ gw := tb 287 (by decide +kernel) rfl
theorem wxX0_pairAt : Cond.selects RX0 yX0_pairAt yX0_pairAt ∈ gw := tb 288 (by decide +kernel) rfl
theorem woX4_reach : Cond.instanceMethod yX4_reach ∈ gw := tb 291 (by decide +kernel) rfl
theorem wxX4_reach : Cond.selects RX4 yX4_reach yX4_reach ∈ gw := tb 292 (by decide +kernel) rfl
theorem woX2_walk : Cond.instanceMethod yX2_walk ∈ gw := tb 295 (by decide +kernel) rfl
theorem wxX2_walk : Cond.selects RX2 yX2_walk yX2_walk ∈ gw := tb 296 (by decide +kernel) rfl
theorem woX2_begin : Cond.instanceMethod yX2_begin ∈ gw := tb 300 (by decide +kernel) rfl
theorem wsJ7_fill : Cond.static yJ7_fill ∈ gw := tb 304 (by decide +kernel) rfl
theorem woX2_turnSlopes : Cond.instanceMethod yX2_turnSlopes ∈ gw := tb 309 (by decide +kernel) rfl
theorem woX2_walkSlope : Cond.instanceMethod yX2_walkSlope ∈ gw := tb 313 (by decide +kernel) rfl
theorem wsJ8_min : Cond.static Lib.Math.min.name ∈ gw := tb 316 (by decide +kernel) rfl
theorem woX2_gapScore : Cond.instanceMethod yX2_gapScore ∈ gw := tb 321 (by decide +kernel) rfl
theorem woX2_keepAlive : Cond.instanceMethod yX2_keepAlive ∈ gw := tb 326 (by decide +kernel) rfl
theorem woX2_endScore : Cond.instanceMethod yX2_endScore ∈ gw := tb 329 (by decide +kernel) rfl
theorem wxX2_endScore : Cond.selects RX2 yX2_endScore yX2_endScore ∈ gw := tb 330 (by decide +kernel) rfl
theorem woX4_reached : Cond.instanceMethod yX4_reached ∈ gw := tb 333 (by decide +kernel) rfl
theorem wxX4_reached : Cond.selects RX4 yX4_reached yX4_reached ∈ gw := tb 334 (by decide +kernel) rfl
theorem woX2_outcome : Cond.instanceMethod yX2_outcome ∈ gw := tb 337 (by decide +kernel) rfl
theorem wxX2_outcome : Cond.selects RX2 yX2_outcome yX2_outcome ∈ gw := tb 338 (by decide +kernel) rfl
theorem woX5_init : Cond.instanceMethod yX5_init ∈ gw := tb 343 (by decide +kernel) rfl
theorem woX5_put : Cond.instanceMethod yX5_put ∈ gw := tb 414 (by decide +kernel) rfl
theorem wxX5_put : Cond.selects RX5 yX5_put yX5_put ∈ gw := tb 415 (by decide +kernel) rfl
theorem wsX5_isRow : Cond.static yX5_isRow ∈ gw := tb 418 (by decide +kernel) rfl
theorem woX5_cut : Cond.instanceMethod yX5_cut ∈ gw := tb 421 (by decide +kernel) rfl
theorem wxX5_cut : Cond.selects RX5 yX5_cut yX5_cut ∈ gw := tb 422 (by decide +kernel) rfl
theorem woX5_letter : Cond.instanceMethod yX5_letter ∈ gw := tb 425 (by decide +kernel) rfl
theorem wxX5_letter : Cond.selects RX5 yX5_letter yX5_letter ∈ gw := tb 426 (by decide +kernel) rfl
theorem woX5_seeds : Cond.instanceMethod yX5_seeds ∈ gw := tb 429 (by decide +kernel) rfl
theorem wxX5_seeds : Cond.selects RX5 yX5_seeds yX5_seeds ∈ gw := tb 430 (by decide +kernel) rfl
theorem woX5_penalty : Cond.instanceMethod yX5_penalty ∈ gw := tb 433 (by decide +kernel) rfl
theorem wxX5_penalty : Cond.selects RX5 yX5_penalty yX5_penalty ∈ gw := tb 434 (by decide +kernel) rfl
theorem woX5_scores : Cond.instanceMethod yX5_scores ∈ gw := tb 437 (by decide +kernel) rfl
theorem wxX5_scores : Cond.selects RX5 yX5_scores yX5_scores ∈ gw := tb 438 (by decide +kernel) rfl
theorem woX5_anchors : Cond.instanceMethod yX5_anchors ∈ gw := tb 441 (by decide +kernel) rfl
theorem wxX5_anchors : Cond.selects RX5 yX5_anchors yX5_anchors ∈ gw := tb 442 (by decide +kernel) rfl
theorem woX5_learn : Cond.instanceMethod yX5_learn ∈ gw := tb 446 (by decide +kernel) rfl
theorem woX5_isAnchor : Cond.instanceMethod yX5_isAnchor ∈ gw := tb 450 (by decide +kernel) rfl
theorem woX5_between : Cond.instanceMethod yX5_between ∈ gw := tb 454 (by decide +kernel) rfl
theorem woX5_anchor : Cond.instanceMethod yX5_anchor ∈ gw := tb 457 (by decide +kernel) rfl
theorem wxX5_anchor : Cond.selects RX5 yX5_anchor yX5_anchor ∈ gw := tb 458 (by decide +kernel) rfl
theorem woX5_chain : Cond.instanceMethod yX5_chain ∈ gw := tb 461 (by decide +kernel) rfl
theorem wxX5_chain : Cond.selects RX5 yX5_chain yX5_chain ∈ gw := tb 462 (by decide +kernel) rfl
theorem woX5_links : Cond.instanceMethod yX5_links ∈ gw := tb 465 (by decide +kernel) rfl
theorem wxX5_links : Cond.selects RX5 yX5_links yX5_links ∈ gw := tb 466 (by decide +kernel) rfl
theorem woX5_link : Cond.instanceMethod yX5_link ∈ gw := tb 469 (by decide +kernel) rfl
theorem wxX5_link : Cond.selects RX5 yX5_link yX5_link ∈ gw := tb 470 (by decide +kernel) rfl
theorem woX5_reach : Cond.instanceMethod yX5_reach ∈ gw := tb 473 (by decide +kernel) rfl
theorem wxX5_reach : Cond.selects RX5 yX5_reach yX5_reach ∈ gw := tb 474 (by decide +kernel) rfl
theorem woX5_scoreAt : Cond.instanceMethod yX5_scoreAt ∈ gw := tb 479 (by decide +kernel) rfl
theorem wsX5_greater : Cond.static yX5_greater ∈ gw := tb 482 (by decide +kernel) rfl
theorem woX5_reached : Cond.instanceMethod yX5_reached ∈ gw := tb 485 (by decide +kernel) rfl
theorem wxX5_reached : Cond.selects RX5 yX5_reached yX5_reached ∈ gw := tb 486 (by decide +kernel) rfl
theorem wa_int : Cond.arrayClass .int ∈ gw := tb 30 (by decide +kernel) rfl
theorem wdJ8_max : Cond.code Lib.Math.max.name Lib.Math.max.code 2 (some .int) ∈ gw := tb 250 (by decide +kernel) rfl
theorem wdJ8_min : Cond.code Lib.Math.min.name Lib.Math.min.code 2 (some .int) ∈ gw := tb 317 (by decide +kernel) rfl
theorem wdJ0_init : Cond.code objectInit ⟨#[0xb1]⟩ 1 none ∈ gw := tb 16 (by decide +kernel) rfl
theorem wxX4_rowOf : Cond.selects RX4 yX4_rowOf yX4_rowOf ∈ gw := ts 0 (by decide +kernel) rfl
theorem wxX4_freshBest : Cond.selects RX4 yX4_freshBest yX4_freshBest ∈ gw := ts 1 (by decide +kernel) rfl
theorem wxX0_lookAhead : Cond.selects RX0 yX0_lookAhead yX0_lookAhead ∈ gw := ts 2 (by decide +kernel) rfl
theorem wxX0_mostFrom : Cond.selects RX0 yX0_mostFrom yX0_mostFrom ∈ gw := ts 3 (by decide +kernel) rfl
theorem wxX0_worthFrom : Cond.selects RX0 yX0_worthFrom yX0_worthFrom ∈ gw := ts 4 (by decide +kernel) rfl
theorem wxX0_firstPair : Cond.selects RX0 yX0_firstPair yX0_firstPair ∈ gw := ts 5 (by decide +kernel) rfl
theorem wxX0_nextPair : Cond.selects RX0 yX0_nextPair yX0_nextPair ∈ gw := ts 6 (by decide +kernel) rfl
theorem wxX2_begin : Cond.selects RX2 yX2_begin yX2_begin ∈ gw := ts 7 (by decide +kernel) rfl
theorem wxX2_turnSlopes : Cond.selects RX2 yX2_turnSlopes yX2_turnSlopes ∈ gw := ts 8 (by decide +kernel) rfl
theorem wxX2_walkSlope : Cond.selects RX2 yX2_walkSlope yX2_walkSlope ∈ gw := ts 9 (by decide +kernel) rfl
theorem wxX2_gapScore : Cond.selects RX2 yX2_gapScore yX2_gapScore ∈ gw := ts 10 (by decide +kernel) rfl
theorem wxX2_keepAlive : Cond.selects RX2 yX2_keepAlive yX2_keepAlive ∈ gw := ts 11 (by decide +kernel) rfl
theorem wxX5_learn : Cond.selects RX5 yX5_learn yX5_learn ∈ gw := ts 12 (by decide +kernel) rfl
theorem wxX5_isAnchor : Cond.selects RX5 yX5_isAnchor yX5_isAnchor ∈ gw := ts 13 (by decide +kernel) rfl
theorem wxX5_between : Cond.selects RX5 yX5_between yX5_between ∈ gw := ts 14 (by decide +kernel) rfl
theorem wxX5_scoreAt : Cond.selects RX5 yX5_scoreAt yX5_scoreAt ∈ gw := ts 15 (by decide +kernel) rfl
theorem iwX0 : ∀ w ∈ u_ws RX0 TX0 4, w ∈ gw := by
  have h : ∀ w ∈ [u_lay RX0 TX0 0, u_lay RX0 TX0 1, u_lay RX0 TX0 2, u_lay RX0 TX0 3], w ∈ gw := List.forall_mem_cons.mpr ⟨wlX0_0, List.forall_mem_cons.mpr ⟨wlX0_1, List.forall_mem_cons.mpr ⟨wlX0_2, List.forall_mem_cons.mpr ⟨wlX0_3, fun _ h => (List.not_mem_nil h).elim⟩⟩⟩⟩
  exact h
theorem nmX0 : ∀ a, a < 4 → ∀ b, b < 4 → a ≠ b → (TX0 a).2.1 ≠ (TX0 b).2.1 := by decide +kernel
theorem pfX0 : jPf TX0 4 tyX0 := ⟨by decide +kernel, nmX0⟩
theorem iwX1 : ∀ w ∈ u_ws RX1 TX1 2, w ∈ gw := by
  have h : ∀ w ∈ [u_lay RX1 TX1 0, u_lay RX1 TX1 1], w ∈ gw := List.forall_mem_cons.mpr ⟨wlX1_0, List.forall_mem_cons.mpr ⟨wlX1_1, fun _ h => (List.not_mem_nil h).elim⟩⟩
  exact h
theorem nmX1 : ∀ a, a < 2 → ∀ b, b < 2 → a ≠ b → (TX1 a).2.1 ≠ (TX1 b).2.1 := by decide +kernel
theorem pfX1 : jPf TX1 2 tyX1 := ⟨by decide +kernel, nmX1⟩
theorem iwX2 : ∀ w ∈ u_ws RX2 TX2 12, w ∈ gw := by
  have h : ∀ w ∈ [u_lay RX2 TX2 0, u_lay RX2 TX2 1, u_lay RX2 TX2 2, u_lay RX2 TX2 3, u_lay RX2 TX2 4, u_lay RX2 TX2 5, u_lay RX2 TX2 6, u_lay RX2 TX2 7, u_lay RX2 TX2 8, u_lay RX2 TX2 9, u_lay RX2 TX2 10, u_lay RX2 TX2 11], w ∈ gw := List.forall_mem_cons.mpr ⟨wlX2_0, List.forall_mem_cons.mpr ⟨wlX2_1, List.forall_mem_cons.mpr ⟨wlX2_2, List.forall_mem_cons.mpr ⟨wlX2_3, List.forall_mem_cons.mpr ⟨wlX2_4, List.forall_mem_cons.mpr ⟨wlX2_5, List.forall_mem_cons.mpr ⟨wlX2_6, List.forall_mem_cons.mpr ⟨wlX2_7, List.forall_mem_cons.mpr ⟨wlX2_8, List.forall_mem_cons.mpr ⟨wlX2_9, List.forall_mem_cons.mpr ⟨wlX2_10, List.forall_mem_cons.mpr ⟨wlX2_11, fun _ h => (List.not_mem_nil h).elim⟩⟩⟩⟩⟩⟩⟩⟩⟩⟩⟩⟩
  exact h
theorem nmX2 : ∀ a, a < 12 → ∀ b, b < 12 → a ≠ b → (TX2 a).2.1 ≠ (TX2 b).2.1 := by decide +kernel
theorem pfX2 : jPf TX2 12 tyX2 := ⟨by decide +kernel, nmX2⟩
theorem iwX3 : ∀ w ∈ u_ws RX3 TX3 3, w ∈ gw := by
  have h : ∀ w ∈ [u_lay RX3 TX3 0, u_lay RX3 TX3 1, u_lay RX3 TX3 2], w ∈ gw := List.forall_mem_cons.mpr ⟨wlX3_0, List.forall_mem_cons.mpr ⟨wlX3_1, List.forall_mem_cons.mpr ⟨wlX3_2, fun _ h => (List.not_mem_nil h).elim⟩⟩⟩
  exact h
theorem nmX3 : ∀ a, a < 3 → ∀ b, b < 3 → a ≠ b → (TX3 a).2.1 ≠ (TX3 b).2.1 := by decide +kernel
theorem pfX3 : jPf TX3 3 tyX3 := ⟨by decide +kernel, nmX3⟩
theorem iwX4 : ∀ w ∈ u_ws RX4 TX4 7, w ∈ gw := by
  have h : ∀ w ∈ [u_lay RX4 TX4 0, u_lay RX4 TX4 1, u_lay RX4 TX4 2, u_lay RX4 TX4 3, u_lay RX4 TX4 4, u_lay RX4 TX4 5, u_lay RX4 TX4 6], w ∈ gw := List.forall_mem_cons.mpr ⟨wlX4_0, List.forall_mem_cons.mpr ⟨wlX4_1, List.forall_mem_cons.mpr ⟨wlX4_2, List.forall_mem_cons.mpr ⟨wlX4_3, List.forall_mem_cons.mpr ⟨wlX4_4, List.forall_mem_cons.mpr ⟨wlX4_5, List.forall_mem_cons.mpr ⟨wlX4_6, fun _ h => (List.not_mem_nil h).elim⟩⟩⟩⟩⟩⟩⟩
  exact h
theorem nmX4 : ∀ a, a < 7 → ∀ b, b < 7 → a ≠ b → (TX4 a).2.1 ≠ (TX4 b).2.1 := by decide +kernel
theorem pfX4 : jPf TX4 7 tyX4 := ⟨by decide +kernel, nmX4⟩
theorem iwX5 : ∀ w ∈ u_ws RX5 TX5 22, w ∈ gw := by
  have h : ∀ w ∈ [u_lay RX5 TX5 0, u_lay RX5 TX5 1, u_lay RX5 TX5 2, u_lay RX5 TX5 3, u_lay RX5 TX5 4, u_lay RX5 TX5 5, u_lay RX5 TX5 6, u_lay RX5 TX5 7, u_lay RX5 TX5 8, u_lay RX5 TX5 9, u_lay RX5 TX5 10, u_lay RX5 TX5 11, u_lay RX5 TX5 12, u_lay RX5 TX5 13, u_lay RX5 TX5 14, u_lay RX5 TX5 15, u_lay RX5 TX5 16, u_lay RX5 TX5 17, u_lay RX5 TX5 18, u_lay RX5 TX5 19, u_lay RX5 TX5 20, u_lay RX5 TX5 21], w ∈ gw := List.forall_mem_cons.mpr ⟨wlX5_0, List.forall_mem_cons.mpr ⟨wlX5_1, List.forall_mem_cons.mpr ⟨wlX5_2, List.forall_mem_cons.mpr ⟨wlX5_3, List.forall_mem_cons.mpr ⟨wlX5_4, List.forall_mem_cons.mpr ⟨wlX5_5, List.forall_mem_cons.mpr ⟨wlX5_6, List.forall_mem_cons.mpr ⟨wlX5_7, List.forall_mem_cons.mpr ⟨wlX5_8, List.forall_mem_cons.mpr ⟨wlX5_9, List.forall_mem_cons.mpr ⟨wlX5_10, List.forall_mem_cons.mpr ⟨wlX5_11, List.forall_mem_cons.mpr ⟨wlX5_12, List.forall_mem_cons.mpr ⟨wlX5_13, List.forall_mem_cons.mpr ⟨wlX5_14, List.forall_mem_cons.mpr ⟨wlX5_15, List.forall_mem_cons.mpr ⟨wlX5_16, List.forall_mem_cons.mpr ⟨wlX5_17, List.forall_mem_cons.mpr ⟨wlX5_18, List.forall_mem_cons.mpr ⟨wlX5_19, List.forall_mem_cons.mpr ⟨wlX5_20, List.forall_mem_cons.mpr ⟨wlX5_21, fun _ h => (List.not_mem_nil h).elim⟩⟩⟩⟩⟩⟩⟩⟩⟩⟩⟩⟩⟩⟩⟩⟩⟩⟩⟩⟩⟩⟩
  exact h
theorem nmX5 : ∀ a, a < 22 → ∀ b, b < 22 → a ≠ b → (TX5 a).2.1 ≠ (TX5 b).2.1 := by decide +kernel
theorem pfX5 : jPf TX5 22 tyX5 := ⟨by decide +kernel, nmX5⟩
theorem flX1_9 : jFl RX1 9 1 0 RX1 TX1 2 := ⟨iwX1, rfl, by decide, wfX1_9⟩
theorem flX1_15 : jFl RX1 15 1 1 RX1 TX1 2 := ⟨iwX1, rfl, by decide, wfX1_15⟩
theorem flX3_15 : jFl RX3 15 3 0 RX3 TX3 3 := ⟨iwX3, rfl, by decide, wfX3_15⟩
theorem flX3_19 : jFl RX3 19 3 1 RX3 TX3 3 := ⟨iwX3, rfl, by decide, wfX3_19⟩
theorem flX3_9 : jFl RX3 9 3 2 RX3 TX3 3 := ⟨iwX3, rfl, by decide, wfX3_9⟩
theorem flX0_11 : jFl RX0 11 0 0 RX0 TX0 4 := ⟨iwX0, rfl, by decide, wfX0_11⟩
theorem flX0_15 : jFl RX0 15 0 1 RX0 TX0 4 := ⟨iwX0, rfl, by decide, wfX0_15⟩
theorem flX0_18 : jFl RX0 18 0 2 RX0 TX0 4 := ⟨iwX0, rfl, by decide, wfX0_18⟩
theorem flX0_22 : jFl RX0 22 0 3 RX0 TX0 4 := ⟨iwX0, rfl, by decide, wfX0_22⟩
theorem flX2_9 : jFl RX2 9 2 0 RX2 TX2 12 := ⟨iwX2, rfl, by decide, wfX2_9⟩
theorem flX2_15 : jFl RX2 15 2 1 RX2 TX2 12 := ⟨iwX2, rfl, by decide, wfX2_15⟩
theorem flX2_18 : jFl RX2 18 2 2 RX2 TX2 12 := ⟨iwX2, rfl, by decide, wfX2_18⟩
theorem flX2_21 : jFl RX2 21 2 3 RX2 TX2 12 := ⟨iwX2, rfl, by decide, wfX2_21⟩
theorem flX2_24 : jFl RX2 24 2 4 RX2 TX2 12 := ⟨iwX2, rfl, by decide, wfX2_24⟩
theorem flX2_28 : jFl RX2 28 2 5 RX2 TX2 12 := ⟨iwX2, rfl, by decide, wfX2_28⟩
theorem flX2_31 : jFl RX2 31 2 6 RX2 TX2 12 := ⟨iwX2, rfl, by decide, wfX2_31⟩
theorem flX2_34 : jFl RX2 34 2 7 RX2 TX2 12 := ⟨iwX2, rfl, by decide, wfX2_34⟩
theorem flX2_37 : jFl RX2 37 2 8 RX2 TX2 12 := ⟨iwX2, rfl, by decide, wfX2_37⟩
theorem flX2_40 : jFl RX2 40 2 9 RX2 TX2 12 := ⟨iwX2, rfl, by decide, wfX2_40⟩
theorem flX2_43 : jFl RX2 43 2 10 RX2 TX2 12 := ⟨iwX2, rfl, by decide, wfX2_43⟩
theorem flX2_46 : jFl RX2 46 2 11 RX2 TX2 12 := ⟨iwX2, rfl, by decide, wfX2_46⟩
theorem flX4_10 : jFl RX4 10 4 0 RX4 TX4 7 := ⟨iwX4, rfl, by decide, wfX4_10⟩
theorem flX4_16 : jFl RX4 16 4 1 RX4 TX4 7 := ⟨iwX4, rfl, by decide, wfX4_16⟩
theorem flX4_24 : jFl RX4 24 4 2 RX4 TX4 7 := ⟨iwX4, rfl, by decide, wfX4_24⟩
theorem flX4_31 : jFl RX4 31 4 3 RX4 TX4 7 := ⟨iwX4, rfl, by decide, wfX4_31⟩
theorem flX4_38 : jFl RX4 38 4 4 RX4 TX4 7 := ⟨iwX4, rfl, by decide, wfX4_38⟩
theorem flX4_42 : jFl RX4 42 4 5 RX4 TX4 7 := ⟨iwX4, rfl, by decide, wfX4_42⟩
theorem flX4_46 : jFl RX4 46 4 6 RX4 TX4 7 := ⟨iwX4, rfl, by decide, wfX4_46⟩
theorem flX5_7 : jFl RX5 7 5 0 RX5 TX5 22 := ⟨iwX5, rfl, by decide, wfX5_7⟩
theorem flX5_13 : jFl RX5 13 5 1 RX5 TX5 22 := ⟨iwX5, rfl, by decide, wfX5_13⟩
theorem flX5_16 : jFl RX5 16 5 2 RX5 TX5 22 := ⟨iwX5, rfl, by decide, wfX5_16⟩
theorem flX5_20 : jFl RX5 20 5 3 RX5 TX5 22 := ⟨iwX5, rfl, by decide, wfX5_20⟩
theorem flX5_23 : jFl RX5 23 5 4 RX5 TX5 22 := ⟨iwX5, rfl, by decide, wfX5_23⟩
theorem flX5_26 : jFl RX5 26 5 5 RX5 TX5 22 := ⟨iwX5, rfl, by decide, wfX5_26⟩
theorem flX5_29 : jFl RX5 29 5 6 RX5 TX5 22 := ⟨iwX5, rfl, by decide, wfX5_29⟩
theorem flX5_32 : jFl RX5 32 5 7 RX5 TX5 22 := ⟨iwX5, rfl, by decide, wfX5_32⟩
theorem flX5_35 : jFl RX5 35 5 8 RX5 TX5 22 := ⟨iwX5, rfl, by decide, wfX5_35⟩
theorem flX5_38 : jFl RX5 38 5 9 RX5 TX5 22 := ⟨iwX5, rfl, by decide, wfX5_38⟩
theorem flX5_41 : jFl RX5 41 5 10 RX5 TX5 22 := ⟨iwX5, rfl, by decide, wfX5_41⟩
theorem flX5_58 : jFl RX5 58 5 11 RX5 TX5 22 := ⟨iwX5, rfl, by decide, wfX5_58⟩
theorem flX5_44 : jFl RX5 44 5 12 RX5 TX5 22 := ⟨iwX5, rfl, by decide, wfX5_44⟩
theorem flX5_72 : jFl RX5 72 5 13 RX5 TX5 22 := ⟨iwX5, rfl, by decide, wfX5_72⟩
theorem flX5_65 : jFl RX5 65 5 14 RX5 TX5 22 := ⟨iwX5, rfl, by decide, wfX5_65⟩
theorem flX5_54 : jFl RX5 54 5 15 RX5 TX5 22 := ⟨iwX5, rfl, by decide, wfX5_54⟩
theorem flX5_47 : jFl RX5 47 5 16 RX5 TX5 22 := ⟨iwX5, rfl, by decide, wfX5_47⟩
theorem flX5_79 : jFl RX5 79 5 17 RX5 TX5 22 := ⟨iwX5, rfl, by decide, wfX5_79⟩
theorem flX5_82 : jFl RX5 82 5 18 RX5 TX5 22 := ⟨iwX5, rfl, by decide, wfX5_82⟩
theorem flX5_85 : jFl RX5 85 5 19 RX5 TX5 22 := ⟨iwX5, rfl, by decide, wfX5_85⟩
theorem flX5_88 : jFl RX5 88 5 20 RX5 TX5 22 := ⟨iwX5, rfl, by decide, wfX5_88⟩
theorem flX5_91 : jFl RX5 91 5 21 RX5 TX5 22 := ⟨iwX5, rfl, by decide, wfX5_91⟩
theorem nwL_7 : jNw RL 7 4 RX4 TX4 7 := ⟨iwX4, rfl, wkL_7, wiX4, wzX4⟩
theorem nwX4_7 : jNw RX4 7 1 RX1 TX1 2 := ⟨iwX1, rfl, wkX4_7, wiX1, wzX1⟩
theorem nwX4_19 : jNw RX4 19 3 RX3 TX3 3 := ⟨iwX3, rfl, wkX4_19, wiX3, wzX3⟩
theorem nwX4_28 : jNw RX4 28 0 RX0 TX0 4 := ⟨iwX0, rfl, wkX4_28, wiX0, wzX0⟩
theorem nwX4_35 : jNw RX4 35 2 RX2 TX2 12 := ⟨iwX2, rfl, wkX4_35, wiX2, wzX2⟩
theorem nwL_10 : jNw RL 10 5 RX5 TX5 22 := ⟨iwX5, rfl, wkL_10, wiX5, wzX5⟩
theorem okX0_lookAhead : jOk YX0_lookAhead 2 := ⟨by decide +kernel, by decide +kernel, by decide +kernel⟩
theorem coX0_lookAhead : jCo YX0_lookAhead := ⟨wdX0_lookAhead, wzX0⟩
theorem cvX0_25 : jCV RX0 25 YX0_lookAhead 2 := ⟨coX0_lookAhead, okX0_lookAhead, wmX0_25, woX0_lookAhead, wxX0_lookAhead⟩
theorem okX0_firstPair : jOk YX0_firstPair 1 := ⟨by decide +kernel, by decide +kernel, by decide +kernel⟩
theorem coX0_firstPair : jCo YX0_firstPair := ⟨wdX0_firstPair, wzX0⟩
theorem cvX0_29 : jCV RX0 29 YX0_firstPair 1 := ⟨coX0_firstPair, okX0_firstPair, wmX0_29, woX0_firstPair, wxX0_firstPair⟩
theorem okX4_placeOf : jOk YX4_placeOf 2 := ⟨by decide +kernel, by decide +kernel, by decide +kernel⟩
theorem coX4_placeOf : jCo YX4_placeOf := ⟨wdX4_placeOf, wzX4⟩
theorem cnX0_33 : jCSN RX0 33 YX4_placeOf 2 := ⟨coX4_placeOf, okX4_placeOf, ⟨RX4, wnX0_33⟩, wsX4_placeOf⟩
theorem okX0_worthFrom : jOk YX0_worthFrom 3 := ⟨by decide +kernel, by decide +kernel, by decide +kernel⟩
theorem coX0_worthFrom : jCo YX0_worthFrom := ⟨wdX0_worthFrom, wzX0⟩
theorem cvX0_37 : jCV RX0 37 YX0_worthFrom 3 := ⟨coX0_worthFrom, okX0_worthFrom, wmX0_37, woX0_worthFrom, wxX0_worthFrom⟩
theorem okX3_length : jOk YX3_length 0 := ⟨by decide +kernel, by decide +kernel, by decide +kernel⟩
theorem coX3_length : jCo YX3_length := ⟨wdX3_length, wzX3⟩
theorem cvX0_41 : jCV RX0 41 YX3_length 0 := ⟨coX3_length, okX3_length, wmX0_41, woX3_length, wxX3_length⟩
theorem okX0_nextPair : jOk YX0_nextPair 4 := ⟨by decide +kernel, by decide +kernel, by decide +kernel⟩
theorem coX0_nextPair : jCo YX0_nextPair := ⟨wdX0_nextPair, wzX0⟩
theorem cvX0_47 : jCV RX0 47 YX0_nextPair 4 := ⟨coX0_nextPair, okX0_nextPair, wmX0_47, woX0_nextPair, wxX0_nextPair⟩
theorem okX3_firstSize : jOk YX3_firstSize 0 := ⟨by decide +kernel, by decide +kernel, by decide +kernel⟩
theorem coX3_firstSize : jCo YX3_firstSize := ⟨wdX3_firstSize, wzX3⟩
theorem cvX0_51 : jCV RX0 51 YX3_firstSize 0 := ⟨coX3_firstSize, okX3_firstSize, wmX0_51, woX3_firstSize, wxX3_firstSize⟩
theorem okX3_secondSize : jOk YX3_secondSize 0 := ⟨by decide +kernel, by decide +kernel, by decide +kernel⟩
theorem coX3_secondSize : jCo YX3_secondSize := ⟨wdX3_secondSize, wzX3⟩
theorem cvX0_54 : jCV RX0 54 YX3_secondSize 0 := ⟨coX3_secondSize, okX3_secondSize, wmX0_54, woX3_secondSize, wxX3_secondSize⟩
theorem okX0_mostFrom : jOk YX0_mostFrom 4 := ⟨by decide +kernel, by decide +kernel, by decide +kernel⟩
theorem coX0_mostFrom : jCo YX0_mostFrom := ⟨wdX0_mostFrom, wzX0⟩
theorem cvX0_57 : jCV RX0 57 YX0_mostFrom 4 := ⟨coX0_mostFrom, okX0_mostFrom, wmX0_57, woX0_mostFrom, wxX0_mostFrom⟩
theorem okX3_isSeed : jOk YX3_isSeed 2 := ⟨by decide +kernel, by decide +kernel, by decide +kernel⟩
theorem coX3_isSeed : jCo YX3_isSeed := ⟨wdX3_isSeed, wzX3⟩
theorem cvX0_66 : jCV RX0 66 YX3_isSeed 2 := ⟨coX3_isSeed, okX3_isSeed, wmX0_66, woX3_isSeed, wxX3_isSeed⟩
theorem okX4_pairOf : jOk YX4_pairOf 2 := ⟨by decide +kernel, by decide +kernel, by decide +kernel⟩
theorem coX4_pairOf : jCo YX4_pairOf := ⟨wdX4_pairOf, wzX4⟩
theorem cnX0_70 : jCSN RX0 70 YX4_pairOf 2 := ⟨coX4_pairOf, okX4_pairOf, ⟨RX4, wnX0_70⟩, wsX4_pairOf⟩
theorem okX1_isFull : jOk YX1_isFull 0 := ⟨by decide +kernel, by decide +kernel, by decide +kernel⟩
theorem coX1_isFull : jCo YX1_isFull := ⟨wdX1_isFull, wzX1⟩
theorem cvX1_19 : jCV RX1 19 YX1_isFull 0 := ⟨coX1_isFull, okX1_isFull, wmX1_19, woX1_isFull, wxX1_isFull⟩
theorem okX2_begin : jOk YX2_begin 0 := ⟨by decide +kernel, by decide +kernel, by decide +kernel⟩
theorem coX2_begin : jCo YX2_begin := ⟨wdX2_begin, wzX2⟩
theorem cvX2_49 : jCV RX2 49 YX2_begin 0 := ⟨coX2_begin, okX2_begin, wmX2_49, woX2_begin, wxX2_begin⟩
theorem okX1_size : jOk YX1_size 0 := ⟨by decide +kernel, by decide +kernel, by decide +kernel⟩
theorem coX1_size : jCo YX1_size := ⟨wdX1_size, wzX1⟩
theorem cvX2_52 : jCV RX2 52 YX1_size 0 := ⟨coX1_size, okX1_size, wmX2_52, woX1_size, wxX1_size⟩
theorem okX2_turnSlopes : jOk YX2_turnSlopes 0 := ⟨by decide +kernel, by decide +kernel, by decide +kernel⟩
theorem coX2_turnSlopes : jCo YX2_turnSlopes := ⟨wdX2_turnSlopes, wzX2⟩
theorem cvX2_58 : jCV RX2 58 YX2_turnSlopes 0 := ⟨coX2_turnSlopes, okX2_turnSlopes, wmX2_58, woX2_turnSlopes, wxX2_turnSlopes⟩
theorem okX2_walkSlope : jOk YX2_walkSlope 5 := ⟨by decide +kernel, by decide +kernel, by decide +kernel⟩
theorem coX2_walkSlope : jCo YX2_walkSlope := ⟨wdX2_walkSlope, wzX2⟩
theorem cvX2_61 : jCV RX2 61 YX2_walkSlope 5 := ⟨coX2_walkSlope, okX2_walkSlope, wmX2_61, woX2_walkSlope, wxX2_walkSlope⟩
theorem okJ7_fill : jOk YJ7_fill 2 := ⟨by decide +kernel, by decide +kernel, by decide +kernel⟩
theorem coJ7_fill : jCo YJ7_fill := ⟨wdJ7_fill, wzJ7⟩
theorem csX2_66 : jCS RX2 66 YJ7_fill 2 := ⟨coJ7_fill, okJ7_fill, wmX2_66, wsJ7_fill⟩
theorem okX2_gapScore : jOk YX2_gapScore 1 := ⟨by decide +kernel, by decide +kernel, by decide +kernel⟩
theorem coX2_gapScore : jCo YX2_gapScore := ⟨wdX2_gapScore, wzX2⟩
theorem cvX2_81 : jCV RX2 81 YX2_gapScore 1 := ⟨coX2_gapScore, okX2_gapScore, wmX2_81, woX2_gapScore, wxX2_gapScore⟩
theorem okX1_at : jOk YX1_at 1 := ⟨by decide +kernel, by decide +kernel, by decide +kernel⟩
theorem coX1_at : jCo YX1_at := ⟨wdX1_at, wzX1⟩
theorem cvX2_85 : jCV RX2 85 YX1_at 1 := ⟨coX1_at, okX1_at, wmX2_85, woX1_at, wxX1_at⟩
theorem okX2_keepAlive : jOk YX2_keepAlive 3 := ⟨by decide +kernel, by decide +kernel, by decide +kernel⟩
theorem coX2_keepAlive : jCo YX2_keepAlive := ⟨wdX2_keepAlive, wzX2⟩
theorem cvX2_88 : jCV RX2 88 YX2_keepAlive 3 := ⟨coX2_keepAlive, okX2_keepAlive, wmX2_88, woX2_keepAlive, wxX2_keepAlive⟩
theorem cvX3_22 : jCV RX3 22 YX1_size 0 := ⟨coX1_size, okX1_size, wmX3_22, woX1_size, wxX1_size⟩
theorem cvX3_28 : jCV RX3 28 YX1_at 1 := ⟨coX1_at, okX1_at, wmX3_28, woX1_at, wxX1_at⟩
theorem cvX3_32 : jCV RX3 32 YX3_isSeed 2 := ⟨coX3_isSeed, okX3_isSeed, wmX3_32, woX3_isSeed, wxX3_isSeed⟩
theorem cnX3_36 : jCSN RX3 36 YX4_pairOf 2 := ⟨coX4_pairOf, okX4_pairOf, ⟨RX4, wnX3_36⟩, wsX4_pairOf⟩
theorem okX1_init : jOk YX1_init 0 := ⟨by decide +kernel, by decide +kernel, by decide +kernel⟩
theorem coX1_init : jCo YX1_init := ⟨wdX1_init, wzX1⟩
theorem cnX4_9 : jCIN RX4 9 YX1_init 0 := ⟨coX1_init, okX1_init, ⟨RX4, wnX4_9⟩, woX1_init, rfl, rfl⟩
theorem okX3_init : jOk YX3_init 2 := ⟨by decide +kernel, by decide +kernel, by decide +kernel⟩
theorem coX3_init : jCo YX3_init := ⟨wdX3_init, wzX3⟩
theorem ciX4_21 : jCI RX4 21 YX3_init 2 := ⟨coX3_init, okX3_init, wmX4_21, woX3_init, rfl, rfl⟩
theorem okX0_init : jOk YX0_init 0 := ⟨by decide +kernel, by decide +kernel, by decide +kernel⟩
theorem coX0_init : jCo YX0_init := ⟨wdX0_init, wzX0⟩
theorem cnX4_30 : jCIN RX4 30 YX0_init 0 := ⟨coX0_init, okX0_init, ⟨RX4, wnX4_30⟩, woX0_init, rfl, rfl⟩
theorem okX2_init : jOk YX2_init 0 := ⟨by decide +kernel, by decide +kernel, by decide +kernel⟩
theorem coX2_init : jCo YX2_init := ⟨wdX2_init, wzX2⟩
theorem cnX4_37 : jCIN RX4 37 YX2_init 0 := ⟨coX2_init, okX2_init, ⟨RX4, wnX4_37⟩, woX2_init, rfl, rfl⟩
theorem okX4_rowOf : jOk YX4_rowOf 1 := ⟨by decide +kernel, by decide +kernel, by decide +kernel⟩
theorem coX4_rowOf : jCo YX4_rowOf := ⟨wdX4_rowOf, wzX4⟩
theorem cvX4_50 : jCV RX4 50 YX4_rowOf 1 := ⟨coX4_rowOf, okX4_rowOf, wmX4_50, woX4_rowOf, wxX4_rowOf⟩
theorem okX4_isBetween : jOk YX4_isBetween 3 := ⟨by decide +kernel, by decide +kernel, by decide +kernel⟩
theorem coX4_isBetween : jCo YX4_isBetween := ⟨wdX4_isBetween, wzX4⟩
theorem csX4_54 : jCS RX4 54 YX4_isBetween 3 := ⟨coX4_isBetween, okX4_isBetween, wmX4_54, wsX4_isBetween⟩
theorem cvX4_58 : jCV RX4 58 YX1_isFull 0 := ⟨coX1_isFull, okX1_isFull, wmX4_58, woX1_isFull, wxX1_isFull⟩
theorem okX1_append : jOk YX1_append 1 := ⟨by decide +kernel, by decide +kernel, by decide +kernel⟩
theorem coX1_append : jCo YX1_append := ⟨wdX1_append, wzX1⟩
theorem cvX4_62 : jCV RX4 62 YX1_append 1 := ⟨coX1_append, okX1_append, wmX4_62, woX1_append, wxX1_append⟩
theorem cvX4_66 : jCV RX4 66 YX1_size 0 := ⟨coX1_size, okX1_size, wmX4_66, woX1_size, wxX1_size⟩
theorem okX1_dropLast : jOk YX1_dropLast 0 := ⟨by decide +kernel, by decide +kernel, by decide +kernel⟩
theorem coX1_dropLast : jCo YX1_dropLast := ⟨wdX1_dropLast, wzX1⟩
theorem cvX4_70 : jCV RX4 70 YX1_dropLast 0 := ⟨coX1_dropLast, okX1_dropLast, wmX4_70, woX1_dropLast, wxX1_dropLast⟩
theorem cvX4_73 : jCV RX4 73 YX1_at 1 := ⟨coX1_at, okX1_at, wmX4_73, woX1_at, wxX1_at⟩
theorem okX3_useLength : jOk YX3_useLength 1 := ⟨by decide +kernel, by decide +kernel, by decide +kernel⟩
theorem coX3_useLength : jCo YX3_useLength := ⟨wdX3_useLength, wzX3⟩
theorem cvX4_77 : jCV RX4 77 YX3_useLength 1 := ⟨coX3_useLength, okX3_useLength, wmX4_77, woX3_useLength, wxX3_useLength⟩
theorem okX2_useScores : jOk YX2_useScores 4 := ⟨by decide +kernel, by decide +kernel, by decide +kernel⟩
theorem coX2_useScores : jCo YX2_useScores := ⟨wdX2_useScores, wzX2⟩
theorem cvX4_80 : jCV RX4 80 YX2_useScores 4 := ⟨coX2_useScores, okX2_useScores, wmX4_80, woX2_useScores, wxX2_useScores⟩
theorem okX3_count : jOk YX3_count 0 := ⟨by decide +kernel, by decide +kernel, by decide +kernel⟩
theorem coX3_count : jCo YX3_count := ⟨wdX3_count, wzX3⟩
theorem cvX4_84 : jCV RX4 84 YX3_count 0 := ⟨coX3_count, okX3_count, wmX4_84, woX3_count, wxX3_count⟩
theorem okX3_pairAt : jOk YX3_pairAt 1 := ⟨by decide +kernel, by decide +kernel, by decide +kernel⟩
theorem coX3_pairAt : jCo YX3_pairAt := ⟨wdX3_pairAt, wzX3⟩
theorem cvX4_87 : jCV RX4 87 YX3_pairAt 1 := ⟨coX3_pairAt, okX3_pairAt, wmX4_87, woX3_pairAt, wxX3_pairAt⟩
theorem csX4_90 : jCS RX4 90 YX4_placeOf 2 := ⟨coX4_placeOf, okX4_placeOf, wmX4_90, wsX4_placeOf⟩
theorem okX4_freshBest : jOk YX4_freshBest 0 := ⟨by decide +kernel, by decide +kernel, by decide +kernel⟩
theorem coX4_freshBest : jCo YX4_freshBest := ⟨wdX4_freshBest, wzX4⟩
theorem cvX4_94 : jCV RX4 94 YX4_freshBest 0 := ⟨coX4_freshBest, okX4_freshBest, wmX4_94, woX4_freshBest, wxX4_freshBest⟩
theorem okX0_total : jOk YX0_total 0 := ⟨by decide +kernel, by decide +kernel, by decide +kernel⟩
theorem coX0_total : jCo YX0_total := ⟨wdX0_total, wzX0⟩
theorem cvX4_98 : jCV RX4 98 YX0_total 0 := ⟨coX0_total, okX0_total, wmX4_98, woX0_total, wxX0_total⟩
theorem okX0_size : jOk YX0_size 0 := ⟨by decide +kernel, by decide +kernel, by decide +kernel⟩
theorem coX0_size : jCo YX0_size := ⟨wdX0_size, wzX0⟩
theorem cvX4_101 : jCV RX4 101 YX0_size 0 := ⟨coX0_size, okX0_size, wmX4_101, woX0_size, wxX0_size⟩
theorem okX0_pairAt : jOk YX0_pairAt 1 := ⟨by decide +kernel, by decide +kernel, by decide +kernel⟩
theorem coX0_pairAt : jCo YX0_pairAt := ⟨wdX0_pairAt, wzX0⟩
theorem cvX4_102 : jCV RX4 102 YX0_pairAt 1 := ⟨coX0_pairAt, okX0_pairAt, wmX4_102, woX0_pairAt, wxX0_pairAt⟩
theorem okX2_walk : jOk YX2_walk 4 := ⟨by decide +kernel, by decide +kernel, by decide +kernel⟩
theorem coX2_walk : jCo YX2_walk := ⟨wdX2_walk, wzX2⟩
theorem cvX4_103 : jCV RX4 103 YX2_walk 4 := ⟨coX2_walk, okX2_walk, wmX4_103, woX2_walk, wxX2_walk⟩
theorem okX2_endScore : jOk YX2_endScore 0 := ⟨by decide +kernel, by decide +kernel, by decide +kernel⟩
theorem coX2_endScore : jCo YX2_endScore := ⟨wdX2_endScore, wzX2⟩
theorem cvX4_107 : jCV RX4 107 YX2_endScore 0 := ⟨coX2_endScore, okX2_endScore, wmX4_107, woX2_endScore, wxX2_endScore⟩
theorem okX2_outcome : jOk YX2_outcome 1 := ⟨by decide +kernel, by decide +kernel, by decide +kernel⟩
theorem coX2_outcome : jCo YX2_outcome := ⟨wdX2_outcome, wzX2⟩
theorem cvX4_110 : jCV RX4 110 YX2_outcome 1 := ⟨coX2_outcome, okX2_outcome, wmX4_110, woX2_outcome, wxX2_outcome⟩
theorem okX0_find : jOk YX0_find 2 := ⟨by decide +kernel, by decide +kernel, by decide +kernel⟩
theorem coX0_find : jCo YX0_find := ⟨wdX0_find, wzX0⟩
theorem cvX4_113 : jCV RX4 113 YX0_find 2 := ⟨coX0_find, okX0_find, wmX4_113, woX0_find, wxX0_find⟩
theorem okX5_isRow : jOk YX5_isRow 1 := ⟨by decide +kernel, by decide +kernel, by decide +kernel⟩
theorem coX5_isRow : jCo YX5_isRow := ⟨wdX5_isRow, wzX5⟩
theorem csX5_50 : jCS RX5 50 YX5_isRow 1 := ⟨coX5_isRow, okX5_isRow, wmX5_50, wsX5_isRow⟩
theorem okX5_isAnchor : jOk YX5_isAnchor 2 := ⟨by decide +kernel, by decide +kernel, by decide +kernel⟩
theorem coX5_isAnchor : jCo YX5_isAnchor := ⟨wdX5_isAnchor, wzX5⟩
theorem cvX5_61 : jCV RX5 61 YX5_isAnchor 2 := ⟨coX5_isAnchor, okX5_isAnchor, wmX5_61, woX5_isAnchor, wxX5_isAnchor⟩
theorem okX5_between : jOk YX5_between 2 := ⟨by decide +kernel, by decide +kernel, by decide +kernel⟩
theorem coX5_between : jCo YX5_between := ⟨wdX5_between, wzX5⟩
theorem cvX5_68 : jCV RX5 68 YX5_between 2 := ⟨coX5_between, okX5_between, wmX5_68, woX5_between, wxX5_between⟩
theorem okX5_learn : jOk YX5_learn 0 := ⟨by decide +kernel, by decide +kernel, by decide +kernel⟩
theorem coX5_learn : jCo YX5_learn := ⟨wdX5_learn, wzX5⟩
theorem cvX5_75 : jCV RX5 75 YX5_learn 0 := ⟨coX5_learn, okX5_learn, wmX5_75, woX5_learn, wxX5_learn⟩
theorem okX5_scoreAt : jOk YX5_scoreAt 2 := ⟨by decide +kernel, by decide +kernel, by decide +kernel⟩
theorem coX5_scoreAt : jCo YX5_scoreAt := ⟨wdX5_scoreAt, wzX5⟩
theorem cvX5_94 : jCV RX5 94 YX5_scoreAt 2 := ⟨coX5_scoreAt, okX5_scoreAt, wmX5_94, woX5_scoreAt, wxX5_scoreAt⟩
theorem okX5_greater : jOk YX5_greater 2 := ⟨by decide +kernel, by decide +kernel, by decide +kernel⟩
theorem coX5_greater : jCo YX5_greater := ⟨wdX5_greater, wzX5⟩
theorem csX5_97 : jCS RX5 97 YX5_greater 2 := ⟨coX5_greater, okX5_greater, wmX5_97, wsX5_greater⟩
end
section
theorem dX1_init_0 : decode cX1_init 0 = .ok (.aload_n 0, 1) := by decide +kernel
theorem dX1_init_1 : decode cX1_init 1 = .ok (.invokespecial 3, 3) := by decide +kernel
theorem dX1_init_4 : decode cX1_init 4 = .ok (.aload_n 0, 1) := by decide +kernel
theorem dX1_init_5 : decode cX1_init 5 = .ok (.bipush 48, 2) := by decide +kernel
theorem dX1_init_7 : decode cX1_init 7 = .ok (.newarray .int, 2) := by decide +kernel
theorem dX1_init_9 : decode cX1_init 9 = .ok (.putfield 9, 3) := by decide +kernel
theorem dX1_init_12 : decode cX1_init 12 = .ok (.aload_n 0, 1) := by decide +kernel
theorem dX1_init_13 : decode cX1_init 13 = .ok (.iconst 0, 1) := by decide +kernel
theorem dX1_init_14 : decode cX1_init 14 = .ok (.putfield 15, 3) := by decide +kernel
theorem dX1_init_17 : decode cX1_init 17 = .ok (.return_, 1) := by decide +kernel
theorem dX1_isFull_0 : decode cX1_isFull 0 = .ok (.aload_n 0, 1) := by decide +kernel
theorem dX1_isFull_1 : decode cX1_isFull 1 = .ok (.getfield 15, 3) := by decide +kernel
theorem dX1_isFull_4 : decode cX1_isFull 4 = .ok (.bipush 48, 2) := by decide +kernel
theorem dX1_isFull_6 : decode cX1_isFull 6 = .ok (.if_icmp .ne 7, 3) := by decide +kernel
theorem dX1_isFull_9 : decode cX1_isFull 9 = .ok (.iconst 1, 1) := by decide +kernel
theorem dX1_isFull_10 : decode cX1_isFull 10 = .ok (.goto 4, 3) := by decide +kernel
theorem dX1_isFull_13 : decode cX1_isFull 13 = .ok (.iconst 0, 1) := by decide +kernel
theorem dX1_isFull_14 : decode cX1_isFull 14 = .ok (.ireturn, 1) := by decide +kernel
theorem dX1_append_0 : decode cX1_append 0 = .ok (.aload_n 0, 1) := by decide +kernel
theorem dX1_append_1 : decode cX1_append 1 = .ok (.invokevirtual 19, 3) := by decide +kernel
theorem dX1_append_4 : decode cX1_append 4 = .ok (.ifCond .ne 23, 3) := by decide +kernel
theorem dX1_append_7 : decode cX1_append 7 = .ok (.aload_n 0, 1) := by decide +kernel
theorem dX1_append_8 : decode cX1_append 8 = .ok (.getfield 9, 3) := by decide +kernel
theorem dX1_append_11 : decode cX1_append 11 = .ok (.aload_n 0, 1) := by decide +kernel
theorem dX1_append_12 : decode cX1_append 12 = .ok (.getfield 15, 3) := by decide +kernel
theorem dX1_append_15 : decode cX1_append 15 = .ok (.iload_n 1, 1) := by decide +kernel
theorem dX1_append_16 : decode cX1_append 16 = .ok (.iastore, 1) := by decide +kernel
theorem dX1_append_17 : decode cX1_append 17 = .ok (.aload_n 0, 1) := by decide +kernel
theorem dX1_append_18 : decode cX1_append 18 = .ok (.dup, 1) := by decide +kernel
theorem dX1_append_19 : decode cX1_append 19 = .ok (.getfield 15, 3) := by decide +kernel
theorem dX1_append_22 : decode cX1_append 22 = .ok (.iconst 1, 1) := by decide +kernel
theorem dX1_append_23 : decode cX1_append 23 = .ok (.iadd, 1) := by decide +kernel
theorem dX1_append_24 : decode cX1_append 24 = .ok (.putfield 15, 3) := by decide +kernel
theorem dX1_append_27 : decode cX1_append 27 = .ok (.return_, 1) := by decide +kernel
theorem dX1_size_0 : decode cX1_size 0 = .ok (.aload_n 0, 1) := by decide +kernel
theorem dX1_size_1 : decode cX1_size 1 = .ok (.getfield 15, 3) := by decide +kernel
theorem dX1_size_4 : decode cX1_size 4 = .ok (.ireturn, 1) := by decide +kernel
theorem dX1_dropLast_0 : decode cX1_dropLast 0 = .ok (.aload_n 0, 1) := by decide +kernel
theorem dX1_dropLast_1 : decode cX1_dropLast 1 = .ok (.getfield 15, 3) := by decide +kernel
theorem dX1_dropLast_4 : decode cX1_dropLast 4 = .ok (.ifCond .ne 5, 3) := by decide +kernel
theorem dX1_dropLast_7 : decode cX1_dropLast 7 = .ok (.iconst (-1), 1) := by decide +kernel
theorem dX1_dropLast_8 : decode cX1_dropLast 8 = .ok (.ireturn, 1) := by decide +kernel
theorem dX1_dropLast_9 : decode cX1_dropLast 9 = .ok (.aload_n 0, 1) := by decide +kernel
theorem dX1_dropLast_10 : decode cX1_dropLast 10 = .ok (.dup, 1) := by decide +kernel
theorem dX1_dropLast_11 : decode cX1_dropLast 11 = .ok (.getfield 15, 3) := by decide +kernel
theorem dX1_dropLast_14 : decode cX1_dropLast 14 = .ok (.iconst 1, 1) := by decide +kernel
theorem dX1_dropLast_15 : decode cX1_dropLast 15 = .ok (.isub, 1) := by decide +kernel
theorem dX1_dropLast_16 : decode cX1_dropLast 16 = .ok (.putfield 15, 3) := by decide +kernel
theorem dX1_dropLast_19 : decode cX1_dropLast 19 = .ok (.aload_n 0, 1) := by decide +kernel
theorem dX1_dropLast_20 : decode cX1_dropLast 20 = .ok (.getfield 9, 3) := by decide +kernel
theorem dX1_dropLast_23 : decode cX1_dropLast 23 = .ok (.aload_n 0, 1) := by decide +kernel
theorem dX1_dropLast_24 : decode cX1_dropLast 24 = .ok (.getfield 15, 3) := by decide +kernel
theorem dX1_dropLast_27 : decode cX1_dropLast 27 = .ok (.iaload, 1) := by decide +kernel
theorem dX1_dropLast_28 : decode cX1_dropLast 28 = .ok (.ireturn, 1) := by decide +kernel
theorem dX1_at_0 : decode cX1_at 0 = .ok (.iload_n 1, 1) := by decide +kernel
theorem dX1_at_1 : decode cX1_at 1 = .ok (.ifCond .lt 20, 3) := by decide +kernel
theorem dX1_at_4 : decode cX1_at 4 = .ok (.iload_n 1, 1) := by decide +kernel
theorem dX1_at_5 : decode cX1_at 5 = .ok (.aload_n 0, 1) := by decide +kernel
theorem dX1_at_6 : decode cX1_at 6 = .ok (.getfield 15, 3) := by decide +kernel
theorem dX1_at_9 : decode cX1_at 9 = .ok (.if_icmp .ge 12, 3) := by decide +kernel
theorem dX1_at_12 : decode cX1_at 12 = .ok (.aload_n 0, 1) := by decide +kernel
theorem dX1_at_13 : decode cX1_at 13 = .ok (.getfield 9, 3) := by decide +kernel
theorem dX1_at_16 : decode cX1_at 16 = .ok (.iload_n 1, 1) := by decide +kernel
theorem dX1_at_17 : decode cX1_at 17 = .ok (.iaload, 1) := by decide +kernel
theorem dX1_at_18 : decode cX1_at 18 = .ok (.goto 4, 3) := by decide +kernel
theorem dX1_at_21 : decode cX1_at 21 = .ok (.iconst (-1), 1) := by decide +kernel
theorem dX1_at_22 : decode cX1_at 22 = .ok (.ireturn, 1) := by decide +kernel
end
section
theorem dX3_init_0 : decode cX3_init 0 = .ok (.aload_n 0, 1) := by decide +kernel
theorem dX3_init_1 : decode cX3_init 1 = .ok (.invokespecial 3, 3) := by decide +kernel
theorem dX3_init_4 : decode cX3_init 4 = .ok (.aload_n 0, 1) := by decide +kernel
theorem dX3_init_5 : decode cX3_init 5 = .ok (.iconst 2, 1) := by decide +kernel
theorem dX3_init_6 : decode cX3_init 6 = .ok (.putfield 9, 3) := by decide +kernel
theorem dX3_init_9 : decode cX3_init 9 = .ok (.aload_n 0, 1) := by decide +kernel
theorem dX3_init_10 : decode cX3_init 10 = .ok (.aload_n 1, 1) := by decide +kernel
theorem dX3_init_11 : decode cX3_init 11 = .ok (.putfield 15, 3) := by decide +kernel
theorem dX3_init_14 : decode cX3_init 14 = .ok (.aload_n 0, 1) := by decide +kernel
theorem dX3_init_15 : decode cX3_init 15 = .ok (.aload_n 2, 1) := by decide +kernel
theorem dX3_init_16 : decode cX3_init 16 = .ok (.putfield 19, 3) := by decide +kernel
theorem dX3_init_19 : decode cX3_init 19 = .ok (.return_, 1) := by decide +kernel
theorem dX3_useLength_0 : decode cX3_useLength 0 = .ok (.aload_n 0, 1) := by decide +kernel
theorem dX3_useLength_1 : decode cX3_useLength 1 = .ok (.iload_n 1, 1) := by decide +kernel
theorem dX3_useLength_2 : decode cX3_useLength 2 = .ok (.putfield 9, 3) := by decide +kernel
theorem dX3_useLength_5 : decode cX3_useLength 5 = .ok (.return_, 1) := by decide +kernel
theorem dX3_count_0 : decode cX3_count 0 = .ok (.iconst 0, 1) := by decide +kernel
theorem dX3_count_1 : decode cX3_count 1 = .ok (.istore_n 1, 1) := by decide +kernel
theorem dX3_count_2 : decode cX3_count 2 = .ok (.iconst 0, 1) := by decide +kernel
theorem dX3_count_3 : decode cX3_count 3 = .ok (.istore_n 2, 1) := by decide +kernel
theorem dX3_count_4 : decode cX3_count 4 = .ok (.iload_n 2, 1) := by decide +kernel
theorem dX3_count_5 : decode cX3_count 5 = .ok (.aload_n 0, 1) := by decide +kernel
theorem dX3_count_6 : decode cX3_count 6 = .ok (.getfield 15, 3) := by decide +kernel
theorem dX3_count_9 : decode cX3_count 9 = .ok (.invokevirtual 22, 3) := by decide +kernel
theorem dX3_count_12 : decode cX3_count 12 = .ok (.if_icmp .ge 40, 3) := by decide +kernel
theorem dX3_count_15 : decode cX3_count 15 = .ok (.iconst 0, 1) := by decide +kernel
theorem dX3_count_16 : decode cX3_count 16 = .ok (.istore_n 3, 1) := by decide +kernel
theorem dX3_count_17 : decode cX3_count 17 = .ok (.iload_n 3, 1) := by decide +kernel
theorem dX3_count_18 : decode cX3_count 18 = .ok (.aload_n 0, 1) := by decide +kernel
theorem dX3_count_19 : decode cX3_count 19 = .ok (.getfield 19, 3) := by decide +kernel
theorem dX3_count_22 : decode cX3_count 22 = .ok (.invokevirtual 22, 3) := by decide +kernel
theorem dX3_count_25 : decode cX3_count 25 = .ok (.if_icmp .ge 21, 3) := by decide +kernel
theorem dX3_count_28 : decode cX3_count 28 = .ok (.aload_n 0, 1) := by decide +kernel
theorem dX3_count_29 : decode cX3_count 29 = .ok (.iload_n 2, 1) := by decide +kernel
theorem dX3_count_30 : decode cX3_count 30 = .ok (.iload_n 3, 1) := by decide +kernel
theorem dX3_count_31 : decode cX3_count 31 = .ok (.invokevirtual 32, 3) := by decide +kernel
theorem dX3_count_34 : decode cX3_count 34 = .ok (.ifCond .eq 6, 3) := by decide +kernel
theorem dX3_count_37 : decode cX3_count 37 = .ok (.iinc 1 1, 3) := by decide +kernel
theorem dX3_count_40 : decode cX3_count 40 = .ok (.iinc 3 1, 3) := by decide +kernel
theorem dX3_count_43 : decode cX3_count 43 = .ok (.goto (-26), 3) := by decide +kernel
theorem dX3_count_46 : decode cX3_count 46 = .ok (.iinc 2 1, 3) := by decide +kernel
theorem dX3_count_49 : decode cX3_count 49 = .ok (.goto (-45), 3) := by decide +kernel
theorem dX3_count_52 : decode cX3_count 52 = .ok (.iload_n 1, 1) := by decide +kernel
theorem dX3_count_53 : decode cX3_count 53 = .ok (.ireturn, 1) := by decide +kernel
theorem dX3_isSeed_0 : decode cX3_isSeed 0 = .ok (.iload_n 1, 1) := by decide +kernel
theorem dX3_isSeed_1 : decode cX3_isSeed 1 = .ok (.aload_n 0, 1) := by decide +kernel
theorem dX3_isSeed_2 : decode cX3_isSeed 2 = .ok (.getfield 9, 3) := by decide +kernel
theorem dX3_isSeed_5 : decode cX3_isSeed 5 = .ok (.iadd, 1) := by decide +kernel
theorem dX3_isSeed_6 : decode cX3_isSeed 6 = .ok (.aload_n 0, 1) := by decide +kernel
theorem dX3_isSeed_7 : decode cX3_isSeed 7 = .ok (.getfield 15, 3) := by decide +kernel
theorem dX3_isSeed_10 : decode cX3_isSeed 10 = .ok (.invokevirtual 22, 3) := by decide +kernel
theorem dX3_isSeed_13 : decode cX3_isSeed 13 = .ok (.if_icmp .gt 19, 3) := by decide +kernel
theorem dX3_isSeed_16 : decode cX3_isSeed 16 = .ok (.iload_n 2, 1) := by decide +kernel
theorem dX3_isSeed_17 : decode cX3_isSeed 17 = .ok (.aload_n 0, 1) := by decide +kernel
theorem dX3_isSeed_18 : decode cX3_isSeed 18 = .ok (.getfield 9, 3) := by decide +kernel
theorem dX3_isSeed_21 : decode cX3_isSeed 21 = .ok (.iadd, 1) := by decide +kernel
theorem dX3_isSeed_22 : decode cX3_isSeed 22 = .ok (.aload_n 0, 1) := by decide +kernel
theorem dX3_isSeed_23 : decode cX3_isSeed 23 = .ok (.getfield 19, 3) := by decide +kernel
theorem dX3_isSeed_26 : decode cX3_isSeed 26 = .ok (.invokevirtual 22, 3) := by decide +kernel
theorem dX3_isSeed_29 : decode cX3_isSeed 29 = .ok (.if_icmp .le 5, 3) := by decide +kernel
theorem dX3_isSeed_32 : decode cX3_isSeed 32 = .ok (.iconst 0, 1) := by decide +kernel
theorem dX3_isSeed_33 : decode cX3_isSeed 33 = .ok (.ireturn, 1) := by decide +kernel
theorem dX3_isSeed_34 : decode cX3_isSeed 34 = .ok (.iconst 0, 1) := by decide +kernel
theorem dX3_isSeed_35 : decode cX3_isSeed 35 = .ok (.istore_n 3, 1) := by decide +kernel
theorem dX3_isSeed_36 : decode cX3_isSeed 36 = .ok (.iload_n 3, 1) := by decide +kernel
theorem dX3_isSeed_37 : decode cX3_isSeed 37 = .ok (.aload_n 0, 1) := by decide +kernel
theorem dX3_isSeed_38 : decode cX3_isSeed 38 = .ok (.getfield 9, 3) := by decide +kernel
theorem dX3_isSeed_41 : decode cX3_isSeed 41 = .ok (.if_icmp .ge 34, 3) := by decide +kernel
theorem dX3_isSeed_44 : decode cX3_isSeed 44 = .ok (.aload_n 0, 1) := by decide +kernel
theorem dX3_isSeed_45 : decode cX3_isSeed 45 = .ok (.getfield 15, 3) := by decide +kernel
theorem dX3_isSeed_48 : decode cX3_isSeed 48 = .ok (.iload_n 1, 1) := by decide +kernel
theorem dX3_isSeed_49 : decode cX3_isSeed 49 = .ok (.iload_n 3, 1) := by decide +kernel
theorem dX3_isSeed_50 : decode cX3_isSeed 50 = .ok (.iadd, 1) := by decide +kernel
theorem dX3_isSeed_51 : decode cX3_isSeed 51 = .ok (.invokevirtual 28, 3) := by decide +kernel
theorem dX3_isSeed_54 : decode cX3_isSeed 54 = .ok (.aload_n 0, 1) := by decide +kernel
theorem dX3_isSeed_55 : decode cX3_isSeed 55 = .ok (.getfield 19, 3) := by decide +kernel
theorem dX3_isSeed_58 : decode cX3_isSeed 58 = .ok (.iload_n 2, 1) := by decide +kernel
theorem dX3_isSeed_59 : decode cX3_isSeed 59 = .ok (.iload_n 3, 1) := by decide +kernel
theorem dX3_isSeed_60 : decode cX3_isSeed 60 = .ok (.iadd, 1) := by decide +kernel
theorem dX3_isSeed_61 : decode cX3_isSeed 61 = .ok (.invokevirtual 28, 3) := by decide +kernel
theorem dX3_isSeed_64 : decode cX3_isSeed 64 = .ok (.if_icmp .eq 5, 3) := by decide +kernel
theorem dX3_isSeed_67 : decode cX3_isSeed 67 = .ok (.iconst 0, 1) := by decide +kernel
theorem dX3_isSeed_68 : decode cX3_isSeed 68 = .ok (.ireturn, 1) := by decide +kernel
theorem dX3_isSeed_69 : decode cX3_isSeed 69 = .ok (.iinc 3 1, 3) := by decide +kernel
theorem dX3_isSeed_72 : decode cX3_isSeed 72 = .ok (.goto (-36), 3) := by decide +kernel
theorem dX3_isSeed_75 : decode cX3_isSeed 75 = .ok (.iconst 1, 1) := by decide +kernel
theorem dX3_isSeed_76 : decode cX3_isSeed 76 = .ok (.ireturn, 1) := by decide +kernel
theorem dX3_pairAt_0 : decode cX3_pairAt 0 = .ok (.iconst 0, 1) := by decide +kernel
theorem dX3_pairAt_1 : decode cX3_pairAt 1 = .ok (.istore_n 2, 1) := by decide +kernel
theorem dX3_pairAt_2 : decode cX3_pairAt 2 = .ok (.iconst 0, 1) := by decide +kernel
theorem dX3_pairAt_3 : decode cX3_pairAt 3 = .ok (.istore_n 3, 1) := by decide +kernel
theorem dX3_pairAt_4 : decode cX3_pairAt 4 = .ok (.iload_n 3, 1) := by decide +kernel
theorem dX3_pairAt_5 : decode cX3_pairAt 5 = .ok (.aload_n 0, 1) := by decide +kernel
theorem dX3_pairAt_6 : decode cX3_pairAt 6 = .ok (.getfield 15, 3) := by decide +kernel
theorem dX3_pairAt_9 : decode cX3_pairAt 9 = .ok (.invokevirtual 22, 3) := by decide +kernel
theorem dX3_pairAt_12 : decode cX3_pairAt 12 = .ok (.if_icmp .ge 55, 3) := by decide +kernel
theorem dX3_pairAt_15 : decode cX3_pairAt 15 = .ok (.iconst 0, 1) := by decide +kernel
theorem dX3_pairAt_16 : decode cX3_pairAt 16 = .ok (.istore 4, 2) := by decide +kernel
theorem dX3_pairAt_18 : decode cX3_pairAt 18 = .ok (.iload 4, 2) := by decide +kernel
theorem dX3_pairAt_20 : decode cX3_pairAt 20 = .ok (.aload_n 0, 1) := by decide +kernel
theorem dX3_pairAt_21 : decode cX3_pairAt 21 = .ok (.getfield 19, 3) := by decide +kernel
theorem dX3_pairAt_24 : decode cX3_pairAt 24 = .ok (.invokevirtual 22, 3) := by decide +kernel
theorem dX3_pairAt_27 : decode cX3_pairAt 27 = .ok (.if_icmp .ge 34, 3) := by decide +kernel
theorem dX3_pairAt_30 : decode cX3_pairAt 30 = .ok (.aload_n 0, 1) := by decide +kernel
theorem dX3_pairAt_31 : decode cX3_pairAt 31 = .ok (.iload_n 3, 1) := by decide +kernel
theorem dX3_pairAt_32 : decode cX3_pairAt 32 = .ok (.iload 4, 2) := by decide +kernel
theorem dX3_pairAt_34 : decode cX3_pairAt 34 = .ok (.invokevirtual 32, 3) := by decide +kernel
theorem dX3_pairAt_37 : decode cX3_pairAt 37 = .ok (.ifCond .eq 18, 3) := by decide +kernel
theorem dX3_pairAt_40 : decode cX3_pairAt 40 = .ok (.iload_n 2, 1) := by decide +kernel
theorem dX3_pairAt_41 : decode cX3_pairAt 41 = .ok (.iload_n 1, 1) := by decide +kernel
theorem dX3_pairAt_42 : decode cX3_pairAt 42 = .ok (.if_icmp .ne 10, 3) := by decide +kernel
theorem dX3_pairAt_45 : decode cX3_pairAt 45 = .ok (.iload_n 3, 1) := by decide +kernel
theorem dX3_pairAt_46 : decode cX3_pairAt 46 = .ok (.iload 4, 2) := by decide +kernel
theorem dX3_pairAt_48 : decode cX3_pairAt 48 = .ok (.invokestatic 36, 3) := by decide +kernel
theorem dX3_pairAt_51 : decode cX3_pairAt 51 = .ok (.ireturn, 1) := by decide +kernel
theorem dX3_pairAt_52 : decode cX3_pairAt 52 = .ok (.iinc 2 1, 3) := by decide +kernel
theorem dX3_pairAt_55 : decode cX3_pairAt 55 = .ok (.iinc 4 1, 3) := by decide +kernel
theorem dX3_pairAt_58 : decode cX3_pairAt 58 = .ok (.goto (-40), 3) := by decide +kernel
theorem dX3_pairAt_61 : decode cX3_pairAt 61 = .ok (.iinc 3 1, 3) := by decide +kernel
theorem dX3_pairAt_64 : decode cX3_pairAt 64 = .ok (.goto (-60), 3) := by decide +kernel
theorem dX3_pairAt_67 : decode cX3_pairAt 67 = .ok (.iconst (-1), 1) := by decide +kernel
theorem dX3_pairAt_68 : decode cX3_pairAt 68 = .ok (.ireturn, 1) := by decide +kernel
theorem dX3_firstSize_0 : decode cX3_firstSize 0 = .ok (.aload_n 0, 1) := by decide +kernel
theorem dX3_firstSize_1 : decode cX3_firstSize 1 = .ok (.getfield 15, 3) := by decide +kernel
theorem dX3_firstSize_4 : decode cX3_firstSize 4 = .ok (.invokevirtual 22, 3) := by decide +kernel
theorem dX3_firstSize_7 : decode cX3_firstSize 7 = .ok (.ireturn, 1) := by decide +kernel
theorem dX3_secondSize_0 : decode cX3_secondSize 0 = .ok (.aload_n 0, 1) := by decide +kernel
theorem dX3_secondSize_1 : decode cX3_secondSize 1 = .ok (.getfield 19, 3) := by decide +kernel
theorem dX3_secondSize_4 : decode cX3_secondSize 4 = .ok (.invokevirtual 22, 3) := by decide +kernel
theorem dX3_secondSize_7 : decode cX3_secondSize 7 = .ok (.ireturn, 1) := by decide +kernel
theorem dX3_length_0 : decode cX3_length 0 = .ok (.aload_n 0, 1) := by decide +kernel
theorem dX3_length_1 : decode cX3_length 1 = .ok (.getfield 9, 3) := by decide +kernel
theorem dX3_length_4 : decode cX3_length 4 = .ok (.ireturn, 1) := by decide +kernel
end
section
theorem dX4_init_0 : decode cX4_init 0 = .ok (.aload_n 0, 1) := by decide +kernel
theorem dX4_init_1 : decode cX4_init 1 = .ok (.invokespecial 1, 3) := by decide +kernel
theorem dX4_init_4 : decode cX4_init 4 = .ok (.aload_n 0, 1) := by decide +kernel
theorem dX4_init_5 : decode cX4_init 5 = .ok (.new 7, 3) := by decide +kernel
theorem dX4_init_8 : decode cX4_init 8 = .ok (.dup, 1) := by decide +kernel
theorem dX4_init_9 : decode cX4_init 9 = .ok (.invokespecial 9, 3) := by decide +kernel
theorem dX4_init_12 : decode cX4_init 12 = .ok (.putfield 10, 3) := by decide +kernel
theorem dX4_init_15 : decode cX4_init 15 = .ok (.aload_n 0, 1) := by decide +kernel
theorem dX4_init_16 : decode cX4_init 16 = .ok (.new 7, 3) := by decide +kernel
theorem dX4_init_19 : decode cX4_init 19 = .ok (.dup, 1) := by decide +kernel
theorem dX4_init_20 : decode cX4_init 20 = .ok (.invokespecial 9, 3) := by decide +kernel
theorem dX4_init_23 : decode cX4_init 23 = .ok (.putfield 16, 3) := by decide +kernel
theorem dX4_init_26 : decode cX4_init 26 = .ok (.aload_n 0, 1) := by decide +kernel
theorem dX4_init_27 : decode cX4_init 27 = .ok (.new 19, 3) := by decide +kernel
theorem dX4_init_30 : decode cX4_init 30 = .ok (.dup, 1) := by decide +kernel
theorem dX4_init_31 : decode cX4_init 31 = .ok (.aload_n 0, 1) := by decide +kernel
theorem dX4_init_32 : decode cX4_init 32 = .ok (.getfield 10, 3) := by decide +kernel
theorem dX4_init_35 : decode cX4_init 35 = .ok (.aload_n 0, 1) := by decide +kernel
theorem dX4_init_36 : decode cX4_init 36 = .ok (.getfield 16, 3) := by decide +kernel
theorem dX4_init_39 : decode cX4_init 39 = .ok (.invokespecial 21, 3) := by decide +kernel
theorem dX4_init_42 : decode cX4_init 42 = .ok (.putfield 24, 3) := by decide +kernel
theorem dX4_init_45 : decode cX4_init 45 = .ok (.aload_n 0, 1) := by decide +kernel
theorem dX4_init_46 : decode cX4_init 46 = .ok (.new 28, 3) := by decide +kernel
theorem dX4_init_49 : decode cX4_init 49 = .ok (.dup, 1) := by decide +kernel
theorem dX4_init_50 : decode cX4_init 50 = .ok (.invokespecial 30, 3) := by decide +kernel
theorem dX4_init_53 : decode cX4_init 53 = .ok (.putfield 31, 3) := by decide +kernel
theorem dX4_init_56 : decode cX4_init 56 = .ok (.aload_n 0, 1) := by decide +kernel
theorem dX4_init_57 : decode cX4_init 57 = .ok (.new 35, 3) := by decide +kernel
theorem dX4_init_60 : decode cX4_init 60 = .ok (.dup, 1) := by decide +kernel
theorem dX4_init_61 : decode cX4_init 61 = .ok (.invokespecial 37, 3) := by decide +kernel
theorem dX4_init_64 : decode cX4_init 64 = .ok (.putfield 38, 3) := by decide +kernel
theorem dX4_init_67 : decode cX4_init 67 = .ok (.aload_n 0, 1) := by decide +kernel
theorem dX4_init_68 : decode cX4_init 68 = .ok (.iconst 1, 1) := by decide +kernel
theorem dX4_init_69 : decode cX4_init 69 = .ok (.putfield 42, 3) := by decide +kernel
theorem dX4_init_72 : decode cX4_init 72 = .ok (.aload_n 0, 1) := by decide +kernel
theorem dX4_init_73 : decode cX4_init 73 = .ok (.iconst 0, 1) := by decide +kernel
theorem dX4_init_74 : decode cX4_init 74 = .ok (.putfield 46, 3) := by decide +kernel
theorem dX4_init_77 : decode cX4_init 77 = .ok (.return_, 1) := by decide +kernel
theorem dX4_put_0 : decode cX4_put 0 = .ok (.aload_n 0, 1) := by decide +kernel
theorem dX4_put_1 : decode cX4_put 1 = .ok (.iload_n 1, 1) := by decide +kernel
theorem dX4_put_2 : decode cX4_put 2 = .ok (.invokevirtual 50, 3) := by decide +kernel
theorem dX4_put_5 : decode cX4_put 5 = .ok (.astore_n 3, 1) := by decide +kernel
theorem dX4_put_6 : decode cX4_put 6 = .ok (.aload_n 3, 1) := by decide +kernel
theorem dX4_put_7 : decode cX4_put 7 = .ok (.ifnull 19, 3) := by decide +kernel
theorem dX4_put_10 : decode cX4_put 10 = .ok (.iload_n 2, 1) := by decide +kernel
theorem dX4_put_11 : decode cX4_put 11 = .ok (.iconst 0, 1) := by decide +kernel
theorem dX4_put_12 : decode cX4_put 12 = .ok (.iconst 3, 1) := by decide +kernel
theorem dX4_put_13 : decode cX4_put 13 = .ok (.invokestatic 54, 3) := by decide +kernel
theorem dX4_put_16 : decode cX4_put 16 = .ok (.ifCond .eq 10, 3) := by decide +kernel
theorem dX4_put_19 : decode cX4_put 19 = .ok (.aload_n 3, 1) := by decide +kernel
theorem dX4_put_20 : decode cX4_put 20 = .ok (.invokevirtual 58, 3) := by decide +kernel
theorem dX4_put_23 : decode cX4_put 23 = .ok (.ifCond .eq 5, 3) := by decide +kernel
theorem dX4_put_26 : decode cX4_put 26 = .ok (.iconst (-1), 1) := by decide +kernel
theorem dX4_put_27 : decode cX4_put 27 = .ok (.ireturn, 1) := by decide +kernel
theorem dX4_put_28 : decode cX4_put 28 = .ok (.aload_n 0, 1) := by decide +kernel
theorem dX4_put_29 : decode cX4_put 29 = .ok (.iconst 0, 1) := by decide +kernel
theorem dX4_put_30 : decode cX4_put 30 = .ok (.putfield 46, 3) := by decide +kernel
theorem dX4_put_33 : decode cX4_put 33 = .ok (.aload_n 3, 1) := by decide +kernel
theorem dX4_put_34 : decode cX4_put 34 = .ok (.iload_n 2, 1) := by decide +kernel
theorem dX4_put_35 : decode cX4_put 35 = .ok (.invokevirtual 62, 3) := by decide +kernel
theorem dX4_put_38 : decode cX4_put 38 = .ok (.aload_n 3, 1) := by decide +kernel
theorem dX4_put_39 : decode cX4_put 39 = .ok (.invokevirtual 66, 3) := by decide +kernel
theorem dX4_put_42 : decode cX4_put 42 = .ok (.ireturn, 1) := by decide +kernel
theorem dX4_rowOf_0 : decode cX4_rowOf 0 = .ok (.iload_n 1, 1) := by decide +kernel
theorem dX4_rowOf_1 : decode cX4_rowOf 1 = .ok (.ifCond .ne 8, 3) := by decide +kernel
theorem dX4_rowOf_4 : decode cX4_rowOf 4 = .ok (.aload_n 0, 1) := by decide +kernel
theorem dX4_rowOf_5 : decode cX4_rowOf 5 = .ok (.getfield 10, 3) := by decide +kernel
theorem dX4_rowOf_8 : decode cX4_rowOf 8 = .ok (.areturn, 1) := by decide +kernel
theorem dX4_rowOf_9 : decode cX4_rowOf 9 = .ok (.iload_n 1, 1) := by decide +kernel
theorem dX4_rowOf_10 : decode cX4_rowOf 10 = .ok (.iconst 1, 1) := by decide +kernel
theorem dX4_rowOf_11 : decode cX4_rowOf 11 = .ok (.if_icmp .ne 10, 3) := by decide +kernel
theorem dX4_rowOf_14 : decode cX4_rowOf 14 = .ok (.aload_n 0, 1) := by decide +kernel
theorem dX4_rowOf_15 : decode cX4_rowOf 15 = .ok (.getfield 16, 3) := by decide +kernel
theorem dX4_rowOf_18 : decode cX4_rowOf 18 = .ok (.goto 4, 3) := by decide +kernel
theorem dX4_rowOf_21 : decode cX4_rowOf 21 = .ok (.aconst_null, 1) := by decide +kernel
theorem dX4_rowOf_22 : decode cX4_rowOf 22 = .ok (.areturn, 1) := by decide +kernel
theorem dX4_isBetween_0 : decode cX4_isBetween 0 = .ok (.iload_n 0, 1) := by decide +kernel
theorem dX4_isBetween_1 : decode cX4_isBetween 1 = .ok (.iload_n 1, 1) := by decide +kernel
theorem dX4_isBetween_2 : decode cX4_isBetween 2 = .ok (.if_icmp .lt 12, 3) := by decide +kernel
theorem dX4_isBetween_5 : decode cX4_isBetween 5 = .ok (.iload_n 0, 1) := by decide +kernel
theorem dX4_isBetween_6 : decode cX4_isBetween 6 = .ok (.iload_n 2, 1) := by decide +kernel
theorem dX4_isBetween_7 : decode cX4_isBetween 7 = .ok (.if_icmp .gt 7, 3) := by decide +kernel
theorem dX4_isBetween_10 : decode cX4_isBetween 10 = .ok (.iconst 1, 1) := by decide +kernel
theorem dX4_isBetween_11 : decode cX4_isBetween 11 = .ok (.goto 4, 3) := by decide +kernel
theorem dX4_isBetween_14 : decode cX4_isBetween 14 = .ok (.iconst 0, 1) := by decide +kernel
theorem dX4_isBetween_15 : decode cX4_isBetween 15 = .ok (.ireturn, 1) := by decide +kernel
theorem dX4_cut_0 : decode cX4_cut 0 = .ok (.aload_n 0, 1) := by decide +kernel
theorem dX4_cut_1 : decode cX4_cut 1 = .ok (.iload_n 1, 1) := by decide +kernel
theorem dX4_cut_2 : decode cX4_cut 2 = .ok (.invokevirtual 50, 3) := by decide +kernel
theorem dX4_cut_5 : decode cX4_cut 5 = .ok (.astore_n 2, 1) := by decide +kernel
theorem dX4_cut_6 : decode cX4_cut 6 = .ok (.aload_n 2, 1) := by decide +kernel
theorem dX4_cut_7 : decode cX4_cut 7 = .ok (.ifnull 10, 3) := by decide +kernel
theorem dX4_cut_10 : decode cX4_cut 10 = .ok (.aload_n 2, 1) := by decide +kernel
theorem dX4_cut_11 : decode cX4_cut 11 = .ok (.invokevirtual 66, 3) := by decide +kernel
theorem dX4_cut_14 : decode cX4_cut 14 = .ok (.ifCond .ne 5, 3) := by decide +kernel
theorem dX4_cut_17 : decode cX4_cut 17 = .ok (.iconst (-1), 1) := by decide +kernel
theorem dX4_cut_18 : decode cX4_cut 18 = .ok (.ireturn, 1) := by decide +kernel
theorem dX4_cut_19 : decode cX4_cut 19 = .ok (.aload_n 0, 1) := by decide +kernel
theorem dX4_cut_20 : decode cX4_cut 20 = .ok (.iconst 0, 1) := by decide +kernel
theorem dX4_cut_21 : decode cX4_cut 21 = .ok (.putfield 46, 3) := by decide +kernel
theorem dX4_cut_24 : decode cX4_cut 24 = .ok (.aload_n 2, 1) := by decide +kernel
theorem dX4_cut_25 : decode cX4_cut 25 = .ok (.invokevirtual 70, 3) := by decide +kernel
theorem dX4_cut_28 : decode cX4_cut 28 = .ok (.ireturn, 1) := by decide +kernel
theorem dX4_letter_0 : decode cX4_letter 0 = .ok (.aload_n 0, 1) := by decide +kernel
theorem dX4_letter_1 : decode cX4_letter 1 = .ok (.iload_n 1, 1) := by decide +kernel
theorem dX4_letter_2 : decode cX4_letter 2 = .ok (.invokevirtual 50, 3) := by decide +kernel
theorem dX4_letter_5 : decode cX4_letter 5 = .ok (.astore_n 3, 1) := by decide +kernel
theorem dX4_letter_6 : decode cX4_letter 6 = .ok (.aload_n 3, 1) := by decide +kernel
theorem dX4_letter_7 : decode cX4_letter 7 = .ok (.ifnonnull 7, 3) := by decide +kernel
theorem dX4_letter_10 : decode cX4_letter 10 = .ok (.iconst (-1), 1) := by decide +kernel
theorem dX4_letter_11 : decode cX4_letter 11 = .ok (.goto 8, 3) := by decide +kernel
theorem dX4_letter_14 : decode cX4_letter 14 = .ok (.aload_n 3, 1) := by decide +kernel
theorem dX4_letter_15 : decode cX4_letter 15 = .ok (.iload_n 2, 1) := by decide +kernel
theorem dX4_letter_16 : decode cX4_letter 16 = .ok (.invokevirtual 73, 3) := by decide +kernel
theorem dX4_letter_19 : decode cX4_letter 19 = .ok (.ireturn, 1) := by decide +kernel
theorem dX4_seeds_0 : decode cX4_seeds 0 = .ok (.iload_n 1, 1) := by decide +kernel
theorem dX4_seeds_1 : decode cX4_seeds 1 = .ok (.iconst 1, 1) := by decide +kernel
theorem dX4_seeds_2 : decode cX4_seeds 2 = .ok (.bipush 6, 2) := by decide +kernel
theorem dX4_seeds_4 : decode cX4_seeds 4 = .ok (.invokestatic 54, 3) := by decide +kernel
theorem dX4_seeds_7 : decode cX4_seeds 7 = .ok (.ifCond .ne 5, 3) := by decide +kernel
theorem dX4_seeds_10 : decode cX4_seeds 10 = .ok (.iconst 0, 1) := by decide +kernel
theorem dX4_seeds_11 : decode cX4_seeds 11 = .ok (.ireturn, 1) := by decide +kernel
theorem dX4_seeds_12 : decode cX4_seeds 12 = .ok (.aload_n 0, 1) := by decide +kernel
theorem dX4_seeds_13 : decode cX4_seeds 13 = .ok (.iconst 0, 1) := by decide +kernel
theorem dX4_seeds_14 : decode cX4_seeds 14 = .ok (.putfield 46, 3) := by decide +kernel
theorem dX4_seeds_17 : decode cX4_seeds 17 = .ok (.aload_n 0, 1) := by decide +kernel
theorem dX4_seeds_18 : decode cX4_seeds 18 = .ok (.getfield 24, 3) := by decide +kernel
theorem dX4_seeds_21 : decode cX4_seeds 21 = .ok (.iload_n 1, 1) := by decide +kernel
theorem dX4_seeds_22 : decode cX4_seeds 22 = .ok (.invokevirtual 77, 3) := by decide +kernel
theorem dX4_seeds_25 : decode cX4_seeds 25 = .ok (.iconst 1, 1) := by decide +kernel
theorem dX4_seeds_26 : decode cX4_seeds 26 = .ok (.ireturn, 1) := by decide +kernel
theorem dX4_penalty_0 : decode cX4_penalty 0 = .ok (.iload_n 1, 1) := by decide +kernel
theorem dX4_penalty_1 : decode cX4_penalty 1 = .ok (.iconst 0, 1) := by decide +kernel
theorem dX4_penalty_2 : decode cX4_penalty 2 = .ok (.bipush 9, 2) := by decide +kernel
theorem dX4_penalty_4 : decode cX4_penalty 4 = .ok (.invokestatic 54, 3) := by decide +kernel
theorem dX4_penalty_7 : decode cX4_penalty 7 = .ok (.ifCond .ne 5, 3) := by decide +kernel
theorem dX4_penalty_10 : decode cX4_penalty 10 = .ok (.iconst 0, 1) := by decide +kernel
theorem dX4_penalty_11 : decode cX4_penalty 11 = .ok (.ireturn, 1) := by decide +kernel
theorem dX4_penalty_12 : decode cX4_penalty 12 = .ok (.aload_n 0, 1) := by decide +kernel
theorem dX4_penalty_13 : decode cX4_penalty 13 = .ok (.iconst 0, 1) := by decide +kernel
theorem dX4_penalty_14 : decode cX4_penalty 14 = .ok (.putfield 46, 3) := by decide +kernel
theorem dX4_penalty_17 : decode cX4_penalty 17 = .ok (.aload_n 0, 1) := by decide +kernel
theorem dX4_penalty_18 : decode cX4_penalty 18 = .ok (.iload_n 1, 1) := by decide +kernel
theorem dX4_penalty_19 : decode cX4_penalty 19 = .ok (.putfield 42, 3) := by decide +kernel
theorem dX4_penalty_22 : decode cX4_penalty 22 = .ok (.iconst 1, 1) := by decide +kernel
theorem dX4_penalty_23 : decode cX4_penalty 23 = .ok (.ireturn, 1) := by decide +kernel
theorem dX4_scores_0 : decode cX4_scores 0 = .ok (.iload_n 1, 1) := by decide +kernel
theorem dX4_scores_1 : decode cX4_scores 1 = .ok (.iconst 1, 1) := by decide +kernel
theorem dX4_scores_2 : decode cX4_scores 2 = .ok (.bipush 9, 2) := by decide +kernel
theorem dX4_scores_4 : decode cX4_scores 4 = .ok (.invokestatic 54, 3) := by decide +kernel
theorem dX4_scores_7 : decode cX4_scores 7 = .ok (.ifCond .eq 34, 3) := by decide +kernel
theorem dX4_scores_10 : decode cX4_scores 10 = .ok (.iload_n 2, 1) := by decide +kernel
theorem dX4_scores_11 : decode cX4_scores 11 = .ok (.iconst 0, 1) := by decide +kernel
theorem dX4_scores_12 : decode cX4_scores 12 = .ok (.bipush 9, 2) := by decide +kernel
theorem dX4_scores_14 : decode cX4_scores 14 = .ok (.invokestatic 54, 3) := by decide +kernel
theorem dX4_scores_17 : decode cX4_scores 17 = .ok (.ifCond .eq 24, 3) := by decide +kernel
theorem dX4_scores_20 : decode cX4_scores 20 = .ok (.iload_n 3, 1) := by decide +kernel
theorem dX4_scores_21 : decode cX4_scores 21 = .ok (.iconst 1, 1) := by decide +kernel
theorem dX4_scores_22 : decode cX4_scores 22 = .ok (.bipush 9, 2) := by decide +kernel
theorem dX4_scores_24 : decode cX4_scores 24 = .ok (.invokestatic 54, 3) := by decide +kernel
theorem dX4_scores_27 : decode cX4_scores 27 = .ok (.ifCond .eq 14, 3) := by decide +kernel
theorem dX4_scores_30 : decode cX4_scores 30 = .ok (.iload 4, 2) := by decide +kernel
theorem dX4_scores_32 : decode cX4_scores 32 = .ok (.iconst 0, 1) := by decide +kernel
theorem dX4_scores_33 : decode cX4_scores 33 = .ok (.bipush 99, 2) := by decide +kernel
theorem dX4_scores_35 : decode cX4_scores 35 = .ok (.invokestatic 54, 3) := by decide +kernel
theorem dX4_scores_38 : decode cX4_scores 38 = .ok (.ifCond .ne 5, 3) := by decide +kernel
theorem dX4_scores_41 : decode cX4_scores 41 = .ok (.iconst 0, 1) := by decide +kernel
theorem dX4_scores_42 : decode cX4_scores 42 = .ok (.ireturn, 1) := by decide +kernel
theorem dX4_scores_43 : decode cX4_scores 43 = .ok (.aload_n 0, 1) := by decide +kernel
theorem dX4_scores_44 : decode cX4_scores 44 = .ok (.getfield 38, 3) := by decide +kernel
theorem dX4_scores_47 : decode cX4_scores 47 = .ok (.iload_n 1, 1) := by decide +kernel
theorem dX4_scores_48 : decode cX4_scores 48 = .ok (.iload_n 2, 1) := by decide +kernel
theorem dX4_scores_49 : decode cX4_scores 49 = .ok (.iload_n 3, 1) := by decide +kernel
theorem dX4_scores_50 : decode cX4_scores 50 = .ok (.iload 4, 2) := by decide +kernel
theorem dX4_scores_52 : decode cX4_scores 52 = .ok (.invokevirtual 80, 3) := by decide +kernel
theorem dX4_scores_55 : decode cX4_scores 55 = .ok (.iconst 1, 1) := by decide +kernel
theorem dX4_scores_56 : decode cX4_scores 56 = .ok (.ireturn, 1) := by decide +kernel
theorem dX4_anchors_0 : decode cX4_anchors 0 = .ok (.aload_n 0, 1) := by decide +kernel
theorem dX4_anchors_1 : decode cX4_anchors 1 = .ok (.getfield 24, 3) := by decide +kernel
theorem dX4_anchors_4 : decode cX4_anchors 4 = .ok (.invokevirtual 84, 3) := by decide +kernel
theorem dX4_anchors_7 : decode cX4_anchors 7 = .ok (.ireturn, 1) := by decide +kernel
theorem dX4_anchor_0 : decode cX4_anchor 0 = .ok (.aload_n 0, 1) := by decide +kernel
theorem dX4_anchor_1 : decode cX4_anchor 1 = .ok (.getfield 24, 3) := by decide +kernel
theorem dX4_anchor_4 : decode cX4_anchor 4 = .ok (.iload_n 1, 1) := by decide +kernel
theorem dX4_anchor_5 : decode cX4_anchor 5 = .ok (.invokevirtual 87, 3) := by decide +kernel
theorem dX4_anchor_8 : decode cX4_anchor 8 = .ok (.iload_n 2, 1) := by decide +kernel
theorem dX4_anchor_9 : decode cX4_anchor 9 = .ok (.invokestatic 90, 3) := by decide +kernel
theorem dX4_anchor_12 : decode cX4_anchor 12 = .ok (.ireturn, 1) := by decide +kernel
theorem dX4_pairOf_0 : decode cX4_pairOf 0 = .ok (.iload_n 0, 1) := by decide +kernel
theorem dX4_pairOf_1 : decode cX4_pairOf 1 = .ok (.bipush 48, 2) := by decide +kernel
theorem dX4_pairOf_3 : decode cX4_pairOf 3 = .ok (.imul, 1) := by decide +kernel
theorem dX4_pairOf_4 : decode cX4_pairOf 4 = .ok (.iload_n 1, 1) := by decide +kernel
theorem dX4_pairOf_5 : decode cX4_pairOf 5 = .ok (.iadd, 1) := by decide +kernel
theorem dX4_pairOf_6 : decode cX4_pairOf 6 = .ok (.ireturn, 1) := by decide +kernel
theorem dX4_placeOf_0 : decode cX4_placeOf 0 = .ok (.iload_n 0, 1) := by decide +kernel
theorem dX4_placeOf_1 : decode cX4_placeOf 1 = .ok (.iconst (-1), 1) := by decide +kernel
theorem dX4_placeOf_2 : decode cX4_placeOf 2 = .ok (.if_icmp .eq 12, 3) := by decide +kernel
theorem dX4_placeOf_5 : decode cX4_placeOf 5 = .ok (.iload_n 1, 1) := by decide +kernel
theorem dX4_placeOf_6 : decode cX4_placeOf 6 = .ok (.iconst 0, 1) := by decide +kernel
theorem dX4_placeOf_7 : decode cX4_placeOf 7 = .ok (.iconst 1, 1) := by decide +kernel
theorem dX4_placeOf_8 : decode cX4_placeOf 8 = .ok (.invokestatic 54, 3) := by decide +kernel
theorem dX4_placeOf_11 : decode cX4_placeOf 11 = .ok (.ifCond .ne 5, 3) := by decide +kernel
theorem dX4_placeOf_14 : decode cX4_placeOf 14 = .ok (.iconst (-1), 1) := by decide +kernel
theorem dX4_placeOf_15 : decode cX4_placeOf 15 = .ok (.ireturn, 1) := by decide +kernel
theorem dX4_placeOf_16 : decode cX4_placeOf 16 = .ok (.iload_n 1, 1) := by decide +kernel
theorem dX4_placeOf_17 : decode cX4_placeOf 17 = .ok (.ifCond .ne 10, 3) := by decide +kernel
theorem dX4_placeOf_20 : decode cX4_placeOf 20 = .ok (.iload_n 0, 1) := by decide +kernel
theorem dX4_placeOf_21 : decode cX4_placeOf 21 = .ok (.bipush 48, 2) := by decide +kernel
theorem dX4_placeOf_23 : decode cX4_placeOf 23 = .ok (.idiv, 1) := by decide +kernel
theorem dX4_placeOf_24 : decode cX4_placeOf 24 = .ok (.goto 7, 3) := by decide +kernel
theorem dX4_placeOf_27 : decode cX4_placeOf 27 = .ok (.iload_n 0, 1) := by decide +kernel
theorem dX4_placeOf_28 : decode cX4_placeOf 28 = .ok (.bipush 48, 2) := by decide +kernel
theorem dX4_placeOf_30 : decode cX4_placeOf 30 = .ok (.irem, 1) := by decide +kernel
theorem dX4_placeOf_31 : decode cX4_placeOf 31 = .ok (.ireturn, 1) := by decide +kernel
theorem dX4_chain_0 : decode cX4_chain 0 = .ok (.aload_n 0, 1) := by decide +kernel
theorem dX4_chain_1 : decode cX4_chain 1 = .ok (.invokevirtual 94, 3) := by decide +kernel
theorem dX4_chain_4 : decode cX4_chain 4 = .ok (.invokevirtual 98, 3) := by decide +kernel
theorem dX4_chain_7 : decode cX4_chain 7 = .ok (.ireturn, 1) := by decide +kernel
theorem dX4_freshBest_0 : decode cX4_freshBest 0 = .ok (.aload_n 0, 1) := by decide +kernel
theorem dX4_freshBest_1 : decode cX4_freshBest 1 = .ok (.getfield 46, 3) := by decide +kernel
theorem dX4_freshBest_4 : decode cX4_freshBest 4 = .ok (.ifCond .ne 23, 3) := by decide +kernel
theorem dX4_freshBest_7 : decode cX4_freshBest 7 = .ok (.aload_n 0, 1) := by decide +kernel
theorem dX4_freshBest_8 : decode cX4_freshBest 8 = .ok (.getfield 31, 3) := by decide +kernel
theorem dX4_freshBest_11 : decode cX4_freshBest 11 = .ok (.aload_n 0, 1) := by decide +kernel
theorem dX4_freshBest_12 : decode cX4_freshBest 12 = .ok (.getfield 24, 3) := by decide +kernel
theorem dX4_freshBest_15 : decode cX4_freshBest 15 = .ok (.aload_n 0, 1) := by decide +kernel
theorem dX4_freshBest_16 : decode cX4_freshBest 16 = .ok (.getfield 42, 3) := by decide +kernel
theorem dX4_freshBest_19 : decode cX4_freshBest 19 = .ok (.invokevirtual 113, 3) := by decide +kernel
theorem dX4_freshBest_22 : decode cX4_freshBest 22 = .ok (.aload_n 0, 1) := by decide +kernel
theorem dX4_freshBest_23 : decode cX4_freshBest 23 = .ok (.iconst 1, 1) := by decide +kernel
theorem dX4_freshBest_24 : decode cX4_freshBest 24 = .ok (.putfield 46, 3) := by decide +kernel
theorem dX4_freshBest_27 : decode cX4_freshBest 27 = .ok (.aload_n 0, 1) := by decide +kernel
theorem dX4_freshBest_28 : decode cX4_freshBest 28 = .ok (.getfield 31, 3) := by decide +kernel
theorem dX4_freshBest_31 : decode cX4_freshBest 31 = .ok (.areturn, 1) := by decide +kernel
theorem dX4_links_0 : decode cX4_links 0 = .ok (.aload_n 0, 1) := by decide +kernel
theorem dX4_links_1 : decode cX4_links 1 = .ok (.invokevirtual 94, 3) := by decide +kernel
theorem dX4_links_4 : decode cX4_links 4 = .ok (.invokevirtual 101, 3) := by decide +kernel
theorem dX4_links_7 : decode cX4_links 7 = .ok (.ireturn, 1) := by decide +kernel
theorem dX4_link_0 : decode cX4_link 0 = .ok (.aload_n 0, 1) := by decide +kernel
theorem dX4_link_1 : decode cX4_link 1 = .ok (.invokevirtual 94, 3) := by decide +kernel
theorem dX4_link_4 : decode cX4_link 4 = .ok (.iload_n 1, 1) := by decide +kernel
theorem dX4_link_5 : decode cX4_link 5 = .ok (.invokevirtual 102, 3) := by decide +kernel
theorem dX4_link_8 : decode cX4_link 8 = .ok (.iload_n 2, 1) := by decide +kernel
theorem dX4_link_9 : decode cX4_link 9 = .ok (.invokestatic 90, 3) := by decide +kernel
theorem dX4_link_12 : decode cX4_link 12 = .ok (.ireturn, 1) := by decide +kernel
theorem dX4_reach_0 : decode cX4_reach 0 = .ok (.iload_n 1, 1) := by decide +kernel
theorem dX4_reach_1 : decode cX4_reach 1 = .ok (.iconst 0, 1) := by decide +kernel
theorem dX4_reach_2 : decode cX4_reach 2 = .ok (.aload_n 0, 1) := by decide +kernel
theorem dX4_reach_3 : decode cX4_reach 3 = .ok (.getfield 10, 3) := by decide +kernel
theorem dX4_reach_6 : decode cX4_reach 6 = .ok (.invokevirtual 66, 3) := by decide +kernel
theorem dX4_reach_9 : decode cX4_reach 9 = .ok (.invokestatic 54, 3) := by decide +kernel
theorem dX4_reach_12 : decode cX4_reach 12 = .ok (.ifCond .eq 18, 3) := by decide +kernel
theorem dX4_reach_15 : decode cX4_reach 15 = .ok (.iload_n 2, 1) := by decide +kernel
theorem dX4_reach_16 : decode cX4_reach 16 = .ok (.iconst 0, 1) := by decide +kernel
theorem dX4_reach_17 : decode cX4_reach 17 = .ok (.aload_n 0, 1) := by decide +kernel
theorem dX4_reach_18 : decode cX4_reach 18 = .ok (.getfield 16, 3) := by decide +kernel
theorem dX4_reach_21 : decode cX4_reach 21 = .ok (.invokevirtual 66, 3) := by decide +kernel
theorem dX4_reach_24 : decode cX4_reach 24 = .ok (.invokestatic 54, 3) := by decide +kernel
theorem dX4_reach_27 : decode cX4_reach 27 = .ok (.ifCond .ne 5, 3) := by decide +kernel
theorem dX4_reach_30 : decode cX4_reach 30 = .ok (.iconst (-1), 1) := by decide +kernel
theorem dX4_reach_31 : decode cX4_reach 31 = .ok (.ireturn, 1) := by decide +kernel
theorem dX4_reach_32 : decode cX4_reach 32 = .ok (.aload_n 0, 1) := by decide +kernel
theorem dX4_reach_33 : decode cX4_reach 33 = .ok (.getfield 38, 3) := by decide +kernel
theorem dX4_reach_36 : decode cX4_reach 36 = .ok (.aload_n 0, 1) := by decide +kernel
theorem dX4_reach_37 : decode cX4_reach 37 = .ok (.getfield 10, 3) := by decide +kernel
theorem dX4_reach_40 : decode cX4_reach 40 = .ok (.iload_n 1, 1) := by decide +kernel
theorem dX4_reach_41 : decode cX4_reach 41 = .ok (.aload_n 0, 1) := by decide +kernel
theorem dX4_reach_42 : decode cX4_reach 42 = .ok (.getfield 16, 3) := by decide +kernel
theorem dX4_reach_45 : decode cX4_reach 45 = .ok (.iload_n 2, 1) := by decide +kernel
theorem dX4_reach_46 : decode cX4_reach 46 = .ok (.invokevirtual 103, 3) := by decide +kernel
theorem dX4_reach_49 : decode cX4_reach 49 = .ok (.aload_n 0, 1) := by decide +kernel
theorem dX4_reach_50 : decode cX4_reach 50 = .ok (.getfield 38, 3) := by decide +kernel
theorem dX4_reach_53 : decode cX4_reach 53 = .ok (.invokevirtual 107, 3) := by decide +kernel
theorem dX4_reach_56 : decode cX4_reach 56 = .ok (.ireturn, 1) := by decide +kernel
theorem dX4_reached_0 : decode cX4_reached 0 = .ok (.aload_n 0, 1) := by decide +kernel
theorem dX4_reached_1 : decode cX4_reached 1 = .ok (.getfield 38, 3) := by decide +kernel
theorem dX4_reached_4 : decode cX4_reached 4 = .ok (.iload_n 1, 1) := by decide +kernel
theorem dX4_reached_5 : decode cX4_reached 5 = .ok (.invokevirtual 110, 3) := by decide +kernel
theorem dX4_reached_8 : decode cX4_reached 8 = .ok (.ireturn, 1) := by decide +kernel
end
section
theorem dX0_init_0 : decode cX0_init 0 = .ok (.aload_n 0, 1) := by decide +kernel
theorem dX0_init_1 : decode cX0_init 1 = .ok (.invokespecial 3, 3) := by decide +kernel
theorem dX0_init_4 : decode cX0_init 4 = .ok (.aload_n 0, 1) := by decide +kernel
theorem dX0_init_5 : decode cX0_init 5 = .ok (.sipush 2401, 3) := by decide +kernel
theorem dX0_init_8 : decode cX0_init 8 = .ok (.newarray .int, 2) := by decide +kernel
theorem dX0_init_10 : decode cX0_init 10 = .ok (.putfield 11, 3) := by decide +kernel
theorem dX0_init_13 : decode cX0_init 13 = .ok (.aload_n 0, 1) := by decide +kernel
theorem dX0_init_14 : decode cX0_init 14 = .ok (.bipush 48, 2) := by decide +kernel
theorem dX0_init_16 : decode cX0_init 16 = .ok (.newarray .int, 2) := by decide +kernel
theorem dX0_init_18 : decode cX0_init 18 = .ok (.putfield 15, 3) := by decide +kernel
theorem dX0_init_21 : decode cX0_init 21 = .ok (.aload_n 0, 1) := by decide +kernel
theorem dX0_init_22 : decode cX0_init 22 = .ok (.iconst 0, 1) := by decide +kernel
theorem dX0_init_23 : decode cX0_init 23 = .ok (.putfield 18, 3) := by decide +kernel
theorem dX0_init_26 : decode cX0_init 26 = .ok (.aload_n 0, 1) := by decide +kernel
theorem dX0_init_27 : decode cX0_init 27 = .ok (.iconst 0, 1) := by decide +kernel
theorem dX0_init_28 : decode cX0_init 28 = .ok (.putfield 22, 3) := by decide +kernel
theorem dX0_init_31 : decode cX0_init 31 = .ok (.return_, 1) := by decide +kernel
theorem dX0_find_0 : decode cX0_find 0 = .ok (.aload_n 0, 1) := by decide +kernel
theorem dX0_find_1 : decode cX0_find 1 = .ok (.aload_n 1, 1) := by decide +kernel
theorem dX0_find_2 : decode cX0_find 2 = .ok (.iload_n 2, 1) := by decide +kernel
theorem dX0_find_3 : decode cX0_find 3 = .ok (.invokevirtual 25, 3) := by decide +kernel
theorem dX0_find_6 : decode cX0_find 6 = .ok (.aload_n 0, 1) := by decide +kernel
theorem dX0_find_7 : decode cX0_find 7 = .ok (.iconst 0, 1) := by decide +kernel
theorem dX0_find_8 : decode cX0_find 8 = .ok (.putfield 18, 3) := by decide +kernel
theorem dX0_find_11 : decode cX0_find 11 = .ok (.aload_n 0, 1) := by decide +kernel
theorem dX0_find_12 : decode cX0_find 12 = .ok (.iconst 0, 1) := by decide +kernel
theorem dX0_find_13 : decode cX0_find 13 = .ok (.putfield 22, 3) := by decide +kernel
theorem dX0_find_16 : decode cX0_find 16 = .ok (.aload_n 0, 1) := by decide +kernel
theorem dX0_find_17 : decode cX0_find 17 = .ok (.aload_n 1, 1) := by decide +kernel
theorem dX0_find_18 : decode cX0_find 18 = .ok (.invokevirtual 29, 3) := by decide +kernel
theorem dX0_find_21 : decode cX0_find 21 = .ok (.istore_n 3, 1) := by decide +kernel
theorem dX0_find_22 : decode cX0_find 22 = .ok (.iload_n 3, 1) := by decide +kernel
theorem dX0_find_23 : decode cX0_find 23 = .ok (.iconst (-1), 1) := by decide +kernel
theorem dX0_find_24 : decode cX0_find 24 = .ok (.if_icmp .eq 22, 3) := by decide +kernel
theorem dX0_find_27 : decode cX0_find 27 = .ok (.aload_n 0, 1) := by decide +kernel
theorem dX0_find_28 : decode cX0_find 28 = .ok (.aload_n 0, 1) := by decide +kernel
theorem dX0_find_29 : decode cX0_find 29 = .ok (.aload_n 1, 1) := by decide +kernel
theorem dX0_find_30 : decode cX0_find 30 = .ok (.iload_n 3, 1) := by decide +kernel
theorem dX0_find_31 : decode cX0_find 31 = .ok (.iconst 0, 1) := by decide +kernel
theorem dX0_find_32 : decode cX0_find 32 = .ok (.invokestatic 33, 3) := by decide +kernel
theorem dX0_find_35 : decode cX0_find 35 = .ok (.iload_n 3, 1) := by decide +kernel
theorem dX0_find_36 : decode cX0_find 36 = .ok (.iconst 1, 1) := by decide +kernel
theorem dX0_find_37 : decode cX0_find 37 = .ok (.invokestatic 33, 3) := by decide +kernel
theorem dX0_find_40 : decode cX0_find 40 = .ok (.invokevirtual 37, 3) := by decide +kernel
theorem dX0_find_43 : decode cX0_find 43 = .ok (.putfield 22, 3) := by decide +kernel
theorem dX0_find_46 : decode cX0_find 46 = .ok (.iload_n 3, 1) := by decide +kernel
theorem dX0_find_47 : decode cX0_find 47 = .ok (.iconst (-1), 1) := by decide +kernel
theorem dX0_find_48 : decode cX0_find 48 = .ok (.if_icmp .eq 70, 3) := by decide +kernel
theorem dX0_find_51 : decode cX0_find 51 = .ok (.aload_n 0, 1) := by decide +kernel
theorem dX0_find_52 : decode cX0_find 52 = .ok (.getfield 18, 3) := by decide +kernel
theorem dX0_find_55 : decode cX0_find 55 = .ok (.bipush 48, 2) := by decide +kernel
theorem dX0_find_57 : decode cX0_find 57 = .ok (.if_icmp .ge 61, 3) := by decide +kernel
theorem dX0_find_60 : decode cX0_find 60 = .ok (.aload_n 0, 1) := by decide +kernel
theorem dX0_find_61 : decode cX0_find 61 = .ok (.getfield 15, 3) := by decide +kernel
theorem dX0_find_64 : decode cX0_find 64 = .ok (.aload_n 0, 1) := by decide +kernel
theorem dX0_find_65 : decode cX0_find 65 = .ok (.getfield 18, 3) := by decide +kernel
theorem dX0_find_68 : decode cX0_find 68 = .ok (.iload_n 3, 1) := by decide +kernel
theorem dX0_find_69 : decode cX0_find 69 = .ok (.iastore, 1) := by decide +kernel
theorem dX0_find_70 : decode cX0_find 70 = .ok (.aload_n 0, 1) := by decide +kernel
theorem dX0_find_71 : decode cX0_find 71 = .ok (.dup, 1) := by decide +kernel
theorem dX0_find_72 : decode cX0_find 72 = .ok (.getfield 18, 3) := by decide +kernel
theorem dX0_find_75 : decode cX0_find 75 = .ok (.iconst 1, 1) := by decide +kernel
theorem dX0_find_76 : decode cX0_find 76 = .ok (.iadd, 1) := by decide +kernel
theorem dX0_find_77 : decode cX0_find 77 = .ok (.putfield 18, 3) := by decide +kernel
theorem dX0_find_80 : decode cX0_find 80 = .ok (.iload_n 3, 1) := by decide +kernel
theorem dX0_find_81 : decode cX0_find 81 = .ok (.iconst 0, 1) := by decide +kernel
theorem dX0_find_82 : decode cX0_find 82 = .ok (.invokestatic 33, 3) := by decide +kernel
theorem dX0_find_85 : decode cX0_find 85 = .ok (.aload_n 1, 1) := by decide +kernel
theorem dX0_find_86 : decode cX0_find 86 = .ok (.invokevirtual 41, 3) := by decide +kernel
theorem dX0_find_89 : decode cX0_find 89 = .ok (.iadd, 1) := by decide +kernel
theorem dX0_find_90 : decode cX0_find 90 = .ok (.istore 4, 2) := by decide +kernel
theorem dX0_find_92 : decode cX0_find 92 = .ok (.iload_n 3, 1) := by decide +kernel
theorem dX0_find_93 : decode cX0_find 93 = .ok (.iconst 1, 1) := by decide +kernel
theorem dX0_find_94 : decode cX0_find 94 = .ok (.invokestatic 33, 3) := by decide +kernel
theorem dX0_find_97 : decode cX0_find 97 = .ok (.aload_n 1, 1) := by decide +kernel
theorem dX0_find_98 : decode cX0_find 98 = .ok (.invokevirtual 41, 3) := by decide +kernel
theorem dX0_find_101 : decode cX0_find 101 = .ok (.iadd, 1) := by decide +kernel
theorem dX0_find_102 : decode cX0_find 102 = .ok (.istore 5, 2) := by decide +kernel
theorem dX0_find_104 : decode cX0_find 104 = .ok (.aload_n 0, 1) := by decide +kernel
theorem dX0_find_105 : decode cX0_find 105 = .ok (.aload_n 1, 1) := by decide +kernel
theorem dX0_find_106 : decode cX0_find 106 = .ok (.iload_n 2, 1) := by decide +kernel
theorem dX0_find_107 : decode cX0_find 107 = .ok (.iload 4, 2) := by decide +kernel
theorem dX0_find_109 : decode cX0_find 109 = .ok (.iload 5, 2) := by decide +kernel
theorem dX0_find_111 : decode cX0_find 111 = .ok (.invokevirtual 47, 3) := by decide +kernel
theorem dX0_find_114 : decode cX0_find 114 = .ok (.istore_n 3, 1) := by decide +kernel
theorem dX0_find_115 : decode cX0_find 115 = .ok (.goto (-69), 3) := by decide +kernel
theorem dX0_find_118 : decode cX0_find 118 = .ok (.return_, 1) := by decide +kernel
theorem dX0_lookAhead_0 : decode cX0_lookAhead 0 = .ok (.aload_n 1, 1) := by decide +kernel
theorem dX0_lookAhead_1 : decode cX0_lookAhead 1 = .ok (.invokevirtual 51, 3) := by decide +kernel
theorem dX0_lookAhead_4 : decode cX0_lookAhead 4 = .ok (.istore_n 3, 1) := by decide +kernel
theorem dX0_lookAhead_5 : decode cX0_lookAhead 5 = .ok (.iload_n 3, 1) := by decide +kernel
theorem dX0_lookAhead_6 : decode cX0_lookAhead 6 = .ok (.ifCond .lt 47, 3) := by decide +kernel
theorem dX0_lookAhead_9 : decode cX0_lookAhead 9 = .ok (.aload_n 1, 1) := by decide +kernel
theorem dX0_lookAhead_10 : decode cX0_lookAhead 10 = .ok (.invokevirtual 54, 3) := by decide +kernel
theorem dX0_lookAhead_13 : decode cX0_lookAhead 13 = .ok (.istore 4, 2) := by decide +kernel
theorem dX0_lookAhead_15 : decode cX0_lookAhead 15 = .ok (.iload 4, 2) := by decide +kernel
theorem dX0_lookAhead_17 : decode cX0_lookAhead 17 = .ok (.ifCond .lt 30, 3) := by decide +kernel
theorem dX0_lookAhead_20 : decode cX0_lookAhead 20 = .ok (.aload_n 0, 1) := by decide +kernel
theorem dX0_lookAhead_21 : decode cX0_lookAhead 21 = .ok (.getfield 11, 3) := by decide +kernel
theorem dX0_lookAhead_24 : decode cX0_lookAhead 24 = .ok (.iload_n 3, 1) := by decide +kernel
theorem dX0_lookAhead_25 : decode cX0_lookAhead 25 = .ok (.bipush 49, 2) := by decide +kernel
theorem dX0_lookAhead_27 : decode cX0_lookAhead 27 = .ok (.imul, 1) := by decide +kernel
theorem dX0_lookAhead_28 : decode cX0_lookAhead 28 = .ok (.iload 4, 2) := by decide +kernel
theorem dX0_lookAhead_30 : decode cX0_lookAhead 30 = .ok (.iadd, 1) := by decide +kernel
theorem dX0_lookAhead_31 : decode cX0_lookAhead 31 = .ok (.aload_n 0, 1) := by decide +kernel
theorem dX0_lookAhead_32 : decode cX0_lookAhead 32 = .ok (.aload_n 1, 1) := by decide +kernel
theorem dX0_lookAhead_33 : decode cX0_lookAhead 33 = .ok (.iload_n 2, 1) := by decide +kernel
theorem dX0_lookAhead_34 : decode cX0_lookAhead 34 = .ok (.iload_n 3, 1) := by decide +kernel
theorem dX0_lookAhead_35 : decode cX0_lookAhead 35 = .ok (.iload 4, 2) := by decide +kernel
theorem dX0_lookAhead_37 : decode cX0_lookAhead 37 = .ok (.invokevirtual 57, 3) := by decide +kernel
theorem dX0_lookAhead_40 : decode cX0_lookAhead 40 = .ok (.iastore, 1) := by decide +kernel
theorem dX0_lookAhead_41 : decode cX0_lookAhead 41 = .ok (.iinc 4 (-1), 3) := by decide +kernel
theorem dX0_lookAhead_44 : decode cX0_lookAhead 44 = .ok (.goto (-29), 3) := by decide +kernel
theorem dX0_lookAhead_47 : decode cX0_lookAhead 47 = .ok (.iinc 3 (-1), 3) := by decide +kernel
theorem dX0_lookAhead_50 : decode cX0_lookAhead 50 = .ok (.goto (-45), 3) := by decide +kernel
theorem dX0_lookAhead_53 : decode cX0_lookAhead 53 = .ok (.return_, 1) := by decide +kernel
theorem dX0_mostFrom_0 : decode cX0_mostFrom 0 = .ok (.iload_n 3, 1) := by decide +kernel
theorem dX0_mostFrom_1 : decode cX0_mostFrom 1 = .ok (.aload_n 1, 1) := by decide +kernel
theorem dX0_mostFrom_2 : decode cX0_mostFrom 2 = .ok (.invokevirtual 51, 3) := by decide +kernel
theorem dX0_mostFrom_5 : decode cX0_mostFrom 5 = .ok (.if_icmp .eq 12, 3) := by decide +kernel
theorem dX0_mostFrom_8 : decode cX0_mostFrom 8 = .ok (.iload 4, 2) := by decide +kernel
theorem dX0_mostFrom_10 : decode cX0_mostFrom 10 = .ok (.aload_n 1, 1) := by decide +kernel
theorem dX0_mostFrom_11 : decode cX0_mostFrom 11 = .ok (.invokevirtual 54, 3) := by decide +kernel
theorem dX0_mostFrom_14 : decode cX0_mostFrom 14 = .ok (.if_icmp .ne 6, 3) := by decide +kernel
theorem dX0_mostFrom_17 : decode cX0_mostFrom 17 = .ok (.ldc 60, 2) := by decide +kernel
theorem dX0_mostFrom_19 : decode cX0_mostFrom 19 = .ok (.ireturn, 1) := by decide +kernel
theorem dX0_mostFrom_20 : decode cX0_mostFrom 20 = .ok (.aload_n 0, 1) := by decide +kernel
theorem dX0_mostFrom_21 : decode cX0_mostFrom 21 = .ok (.getfield 11, 3) := by decide +kernel
theorem dX0_mostFrom_24 : decode cX0_mostFrom 24 = .ok (.iload_n 3, 1) := by decide +kernel
theorem dX0_mostFrom_25 : decode cX0_mostFrom 25 = .ok (.iconst 1, 1) := by decide +kernel
theorem dX0_mostFrom_26 : decode cX0_mostFrom 26 = .ok (.iadd, 1) := by decide +kernel
theorem dX0_mostFrom_27 : decode cX0_mostFrom 27 = .ok (.bipush 49, 2) := by decide +kernel
theorem dX0_mostFrom_29 : decode cX0_mostFrom 29 = .ok (.imul, 1) := by decide +kernel
theorem dX0_mostFrom_30 : decode cX0_mostFrom 30 = .ok (.iload 4, 2) := by decide +kernel
theorem dX0_mostFrom_32 : decode cX0_mostFrom 32 = .ok (.iadd, 1) := by decide +kernel
theorem dX0_mostFrom_33 : decode cX0_mostFrom 33 = .ok (.iaload, 1) := by decide +kernel
theorem dX0_mostFrom_34 : decode cX0_mostFrom 34 = .ok (.aload_n 0, 1) := by decide +kernel
theorem dX0_mostFrom_35 : decode cX0_mostFrom 35 = .ok (.getfield 11, 3) := by decide +kernel
theorem dX0_mostFrom_38 : decode cX0_mostFrom 38 = .ok (.iload_n 3, 1) := by decide +kernel
theorem dX0_mostFrom_39 : decode cX0_mostFrom 39 = .ok (.bipush 49, 2) := by decide +kernel
theorem dX0_mostFrom_41 : decode cX0_mostFrom 41 = .ok (.imul, 1) := by decide +kernel
theorem dX0_mostFrom_42 : decode cX0_mostFrom 42 = .ok (.iload 4, 2) := by decide +kernel
theorem dX0_mostFrom_44 : decode cX0_mostFrom 44 = .ok (.iadd, 1) := by decide +kernel
theorem dX0_mostFrom_45 : decode cX0_mostFrom 45 = .ok (.iconst 1, 1) := by decide +kernel
theorem dX0_mostFrom_46 : decode cX0_mostFrom 46 = .ok (.iadd, 1) := by decide +kernel
theorem dX0_mostFrom_47 : decode cX0_mostFrom 47 = .ok (.iaload, 1) := by decide +kernel
theorem dX0_mostFrom_48 : decode cX0_mostFrom 48 = .ok (.invokestatic 61, 3) := by decide +kernel
theorem dX0_mostFrom_51 : decode cX0_mostFrom 51 = .ok (.iload_n 2, 1) := by decide +kernel
theorem dX0_mostFrom_52 : decode cX0_mostFrom 52 = .ok (.isub, 1) := by decide +kernel
theorem dX0_mostFrom_53 : decode cX0_mostFrom 53 = .ok (.istore 5, 2) := by decide +kernel
theorem dX0_mostFrom_55 : decode cX0_mostFrom 55 = .ok (.aload_n 1, 1) := by decide +kernel
theorem dX0_mostFrom_56 : decode cX0_mostFrom 56 = .ok (.iload_n 3, 1) := by decide +kernel
theorem dX0_mostFrom_57 : decode cX0_mostFrom 57 = .ok (.iload 4, 2) := by decide +kernel
theorem dX0_mostFrom_59 : decode cX0_mostFrom 59 = .ok (.invokevirtual 66, 3) := by decide +kernel
theorem dX0_mostFrom_62 : decode cX0_mostFrom 62 = .ok (.ifCond .eq 19, 3) := by decide +kernel
theorem dX0_mostFrom_65 : decode cX0_mostFrom 65 = .ok (.iload 5, 2) := by decide +kernel
theorem dX0_mostFrom_67 : decode cX0_mostFrom 67 = .ok (.aload_n 0, 1) := by decide +kernel
theorem dX0_mostFrom_68 : decode cX0_mostFrom 68 = .ok (.aload_n 1, 1) := by decide +kernel
theorem dX0_mostFrom_69 : decode cX0_mostFrom 69 = .ok (.iload_n 3, 1) := by decide +kernel
theorem dX0_mostFrom_70 : decode cX0_mostFrom 70 = .ok (.iload 4, 2) := by decide +kernel
theorem dX0_mostFrom_72 : decode cX0_mostFrom 72 = .ok (.invokevirtual 37, 3) := by decide +kernel
theorem dX0_mostFrom_75 : decode cX0_mostFrom 75 = .ok (.invokestatic 61, 3) := by decide +kernel
theorem dX0_mostFrom_78 : decode cX0_mostFrom 78 = .ok (.goto 5, 3) := by decide +kernel
theorem dX0_mostFrom_81 : decode cX0_mostFrom 81 = .ok (.iload 5, 2) := by decide +kernel
theorem dX0_mostFrom_83 : decode cX0_mostFrom 83 = .ok (.ireturn, 1) := by decide +kernel
theorem dX0_worthFrom_0 : decode cX0_worthFrom 0 = .ok (.aload_n 1, 1) := by decide +kernel
theorem dX0_worthFrom_1 : decode cX0_worthFrom 1 = .ok (.invokevirtual 41, 3) := by decide +kernel
theorem dX0_worthFrom_4 : decode cX0_worthFrom 4 = .ok (.istore 4, 2) := by decide +kernel
theorem dX0_worthFrom_6 : decode cX0_worthFrom 6 = .ok (.bipush 10, 2) := by decide +kernel
theorem dX0_worthFrom_8 : decode cX0_worthFrom 8 = .ok (.iload 4, 2) := by decide +kernel
theorem dX0_worthFrom_10 : decode cX0_worthFrom 10 = .ok (.imul, 1) := by decide +kernel
theorem dX0_worthFrom_11 : decode cX0_worthFrom 11 = .ok (.iconst 0, 1) := by decide +kernel
theorem dX0_worthFrom_12 : decode cX0_worthFrom 12 = .ok (.aload_n 0, 1) := by decide +kernel
theorem dX0_worthFrom_13 : decode cX0_worthFrom 13 = .ok (.getfield 11, 3) := by decide +kernel
theorem dX0_worthFrom_16 : decode cX0_worthFrom 16 = .ok (.iload_n 2, 1) := by decide +kernel
theorem dX0_worthFrom_17 : decode cX0_worthFrom 17 = .ok (.iload 4, 2) := by decide +kernel
theorem dX0_worthFrom_19 : decode cX0_worthFrom 19 = .ok (.iadd, 1) := by decide +kernel
theorem dX0_worthFrom_20 : decode cX0_worthFrom 20 = .ok (.bipush 49, 2) := by decide +kernel
theorem dX0_worthFrom_22 : decode cX0_worthFrom 22 = .ok (.imul, 1) := by decide +kernel
theorem dX0_worthFrom_23 : decode cX0_worthFrom 23 = .ok (.iload_n 3, 1) := by decide +kernel
theorem dX0_worthFrom_24 : decode cX0_worthFrom 24 = .ok (.iadd, 1) := by decide +kernel
theorem dX0_worthFrom_25 : decode cX0_worthFrom 25 = .ok (.iload 4, 2) := by decide +kernel
theorem dX0_worthFrom_27 : decode cX0_worthFrom 27 = .ok (.iadd, 1) := by decide +kernel
theorem dX0_worthFrom_28 : decode cX0_worthFrom 28 = .ok (.iaload, 1) := by decide +kernel
theorem dX0_worthFrom_29 : decode cX0_worthFrom 29 = .ok (.invokestatic 61, 3) := by decide +kernel
theorem dX0_worthFrom_32 : decode cX0_worthFrom 32 = .ok (.iadd, 1) := by decide +kernel
theorem dX0_worthFrom_33 : decode cX0_worthFrom 33 = .ok (.ireturn, 1) := by decide +kernel
theorem dX0_firstPair_0 : decode cX0_firstPair 0 = .ok (.iconst (-1), 1) := by decide +kernel
theorem dX0_firstPair_1 : decode cX0_firstPair 1 = .ok (.istore_n 2, 1) := by decide +kernel
theorem dX0_firstPair_2 : decode cX0_firstPair 2 = .ok (.iconst 0, 1) := by decide +kernel
theorem dX0_firstPair_3 : decode cX0_firstPair 3 = .ok (.istore_n 3, 1) := by decide +kernel
theorem dX0_firstPair_4 : decode cX0_firstPair 4 = .ok (.iconst 0, 1) := by decide +kernel
theorem dX0_firstPair_5 : decode cX0_firstPair 5 = .ok (.istore 4, 2) := by decide +kernel
theorem dX0_firstPair_7 : decode cX0_firstPair 7 = .ok (.iload 4, 2) := by decide +kernel
theorem dX0_firstPair_9 : decode cX0_firstPair 9 = .ok (.aload_n 1, 1) := by decide +kernel
theorem dX0_firstPair_10 : decode cX0_firstPair 10 = .ok (.invokevirtual 51, 3) := by decide +kernel
theorem dX0_firstPair_13 : decode cX0_firstPair 13 = .ok (.if_icmp .ge 69, 3) := by decide +kernel
theorem dX0_firstPair_16 : decode cX0_firstPair 16 = .ok (.iconst 0, 1) := by decide +kernel
theorem dX0_firstPair_17 : decode cX0_firstPair 17 = .ok (.istore 5, 2) := by decide +kernel
theorem dX0_firstPair_19 : decode cX0_firstPair 19 = .ok (.iload 5, 2) := by decide +kernel
theorem dX0_firstPair_21 : decode cX0_firstPair 21 = .ok (.aload_n 1, 1) := by decide +kernel
theorem dX0_firstPair_22 : decode cX0_firstPair 22 = .ok (.invokevirtual 54, 3) := by decide +kernel
theorem dX0_firstPair_25 : decode cX0_firstPair 25 = .ok (.if_icmp .ge 51, 3) := by decide +kernel
theorem dX0_firstPair_28 : decode cX0_firstPair 28 = .ok (.aload_n 1, 1) := by decide +kernel
theorem dX0_firstPair_29 : decode cX0_firstPair 29 = .ok (.iload 4, 2) := by decide +kernel
theorem dX0_firstPair_31 : decode cX0_firstPair 31 = .ok (.iload 5, 2) := by decide +kernel
theorem dX0_firstPair_33 : decode cX0_firstPair 33 = .ok (.invokevirtual 66, 3) := by decide +kernel
theorem dX0_firstPair_36 : decode cX0_firstPair 36 = .ok (.ifCond .eq 34, 3) := by decide +kernel
theorem dX0_firstPair_39 : decode cX0_firstPair 39 = .ok (.aload_n 0, 1) := by decide +kernel
theorem dX0_firstPair_40 : decode cX0_firstPair 40 = .ok (.aload_n 1, 1) := by decide +kernel
theorem dX0_firstPair_41 : decode cX0_firstPair 41 = .ok (.iload 4, 2) := by decide +kernel
theorem dX0_firstPair_43 : decode cX0_firstPair 43 = .ok (.iload 5, 2) := by decide +kernel
theorem dX0_firstPair_45 : decode cX0_firstPair 45 = .ok (.invokevirtual 37, 3) := by decide +kernel
theorem dX0_firstPair_48 : decode cX0_firstPair 48 = .ok (.iload_n 3, 1) := by decide +kernel
theorem dX0_firstPair_49 : decode cX0_firstPair 49 = .ok (.if_icmp .le 21, 3) := by decide +kernel
theorem dX0_firstPair_52 : decode cX0_firstPair 52 = .ok (.iload 4, 2) := by decide +kernel
theorem dX0_firstPair_54 : decode cX0_firstPair 54 = .ok (.iload 5, 2) := by decide +kernel
theorem dX0_firstPair_56 : decode cX0_firstPair 56 = .ok (.invokestatic 70, 3) := by decide +kernel
theorem dX0_firstPair_59 : decode cX0_firstPair 59 = .ok (.istore_n 2, 1) := by decide +kernel
theorem dX0_firstPair_60 : decode cX0_firstPair 60 = .ok (.aload_n 0, 1) := by decide +kernel
theorem dX0_firstPair_61 : decode cX0_firstPair 61 = .ok (.aload_n 1, 1) := by decide +kernel
theorem dX0_firstPair_62 : decode cX0_firstPair 62 = .ok (.iload 4, 2) := by decide +kernel
theorem dX0_firstPair_64 : decode cX0_firstPair 64 = .ok (.iload 5, 2) := by decide +kernel
theorem dX0_firstPair_66 : decode cX0_firstPair 66 = .ok (.invokevirtual 37, 3) := by decide +kernel
theorem dX0_firstPair_69 : decode cX0_firstPair 69 = .ok (.istore_n 3, 1) := by decide +kernel
theorem dX0_firstPair_70 : decode cX0_firstPair 70 = .ok (.iinc 5 1, 3) := by decide +kernel
theorem dX0_firstPair_73 : decode cX0_firstPair 73 = .ok (.goto (-54), 3) := by decide +kernel
theorem dX0_firstPair_76 : decode cX0_firstPair 76 = .ok (.iinc 4 1, 3) := by decide +kernel
theorem dX0_firstPair_79 : decode cX0_firstPair 79 = .ok (.goto (-72), 3) := by decide +kernel
theorem dX0_firstPair_82 : decode cX0_firstPair 82 = .ok (.iload_n 2, 1) := by decide +kernel
theorem dX0_firstPair_83 : decode cX0_firstPair 83 = .ok (.ireturn, 1) := by decide +kernel
theorem dX0_nextPair_0 : decode cX0_nextPair 0 = .ok (.aload_n 0, 1) := by decide +kernel
theorem dX0_nextPair_1 : decode cX0_nextPair 1 = .ok (.getfield 11, 3) := by decide +kernel
theorem dX0_nextPair_4 : decode cX0_nextPair 4 = .ok (.iload_n 3, 1) := by decide +kernel
theorem dX0_nextPair_5 : decode cX0_nextPair 5 = .ok (.bipush 49, 2) := by decide +kernel
theorem dX0_nextPair_7 : decode cX0_nextPair 7 = .ok (.imul, 1) := by decide +kernel
theorem dX0_nextPair_8 : decode cX0_nextPair 8 = .ok (.iload 4, 2) := by decide +kernel
theorem dX0_nextPair_10 : decode cX0_nextPair 10 = .ok (.iadd, 1) := by decide +kernel
theorem dX0_nextPair_11 : decode cX0_nextPair 11 = .ok (.iaload, 1) := by decide +kernel
theorem dX0_nextPair_12 : decode cX0_nextPair 12 = .ok (.istore 5, 2) := by decide +kernel
theorem dX0_nextPair_14 : decode cX0_nextPair 14 = .ok (.iload 5, 2) := by decide +kernel
theorem dX0_nextPair_16 : decode cX0_nextPair 16 = .ok (.ifCond .gt 5, 3) := by decide +kernel
theorem dX0_nextPair_19 : decode cX0_nextPair 19 = .ok (.iconst (-1), 1) := by decide +kernel
theorem dX0_nextPair_20 : decode cX0_nextPair 20 = .ok (.ireturn, 1) := by decide +kernel
theorem dX0_nextPair_21 : decode cX0_nextPair 21 = .ok (.iload_n 3, 1) := by decide +kernel
theorem dX0_nextPair_22 : decode cX0_nextPair 22 = .ok (.istore 6, 2) := by decide +kernel
theorem dX0_nextPair_24 : decode cX0_nextPair 24 = .ok (.iload 6, 2) := by decide +kernel
theorem dX0_nextPair_26 : decode cX0_nextPair 26 = .ok (.aload_n 1, 1) := by decide +kernel
theorem dX0_nextPair_27 : decode cX0_nextPair 27 = .ok (.invokevirtual 51, 3) := by decide +kernel
theorem dX0_nextPair_30 : decode cX0_nextPair 30 = .ok (.if_icmp .ge 78, 3) := by decide +kernel
theorem dX0_nextPair_33 : decode cX0_nextPair 33 = .ok (.iload 4, 2) := by decide +kernel
theorem dX0_nextPair_35 : decode cX0_nextPair 35 = .ok (.istore 7, 2) := by decide +kernel
theorem dX0_nextPair_37 : decode cX0_nextPair 37 = .ok (.iload 7, 2) := by decide +kernel
theorem dX0_nextPair_39 : decode cX0_nextPair 39 = .ok (.aload_n 1, 1) := by decide +kernel
theorem dX0_nextPair_40 : decode cX0_nextPair 40 = .ok (.invokevirtual 54, 3) := by decide +kernel
theorem dX0_nextPair_43 : decode cX0_nextPair 43 = .ok (.if_icmp .ge 59, 3) := by decide +kernel
theorem dX0_nextPair_46 : decode cX0_nextPair 46 = .ok (.iload_n 2, 1) := by decide +kernel
theorem dX0_nextPair_47 : decode cX0_nextPair 47 = .ok (.iload 6, 2) := by decide +kernel
theorem dX0_nextPair_49 : decode cX0_nextPair 49 = .ok (.iload_n 3, 1) := by decide +kernel
theorem dX0_nextPair_50 : decode cX0_nextPair 50 = .ok (.isub, 1) := by decide +kernel
theorem dX0_nextPair_51 : decode cX0_nextPair 51 = .ok (.iload 7, 2) := by decide +kernel
theorem dX0_nextPair_53 : decode cX0_nextPair 53 = .ok (.iadd, 1) := by decide +kernel
theorem dX0_nextPair_54 : decode cX0_nextPair 54 = .ok (.iload 4, 2) := by decide +kernel
theorem dX0_nextPair_56 : decode cX0_nextPair 56 = .ok (.isub, 1) := by decide +kernel
theorem dX0_nextPair_57 : decode cX0_nextPair 57 = .ok (.imul, 1) := by decide +kernel
theorem dX0_nextPair_58 : decode cX0_nextPair 58 = .ok (.istore 8, 2) := by decide +kernel
theorem dX0_nextPair_60 : decode cX0_nextPair 60 = .ok (.aload_n 1, 1) := by decide +kernel
theorem dX0_nextPair_61 : decode cX0_nextPair 61 = .ok (.iload 6, 2) := by decide +kernel
theorem dX0_nextPair_63 : decode cX0_nextPair 63 = .ok (.iload 7, 2) := by decide +kernel
theorem dX0_nextPair_65 : decode cX0_nextPair 65 = .ok (.invokevirtual 66, 3) := by decide +kernel
theorem dX0_nextPair_68 : decode cX0_nextPair 68 = .ok (.ifCond .eq 28, 3) := by decide +kernel
theorem dX0_nextPair_71 : decode cX0_nextPair 71 = .ok (.aload_n 0, 1) := by decide +kernel
theorem dX0_nextPair_72 : decode cX0_nextPair 72 = .ok (.aload_n 1, 1) := by decide +kernel
theorem dX0_nextPair_73 : decode cX0_nextPair 73 = .ok (.iload 6, 2) := by decide +kernel
theorem dX0_nextPair_75 : decode cX0_nextPair 75 = .ok (.iload 7, 2) := by decide +kernel
theorem dX0_nextPair_77 : decode cX0_nextPair 77 = .ok (.invokevirtual 37, 3) := by decide +kernel
theorem dX0_nextPair_80 : decode cX0_nextPair 80 = .ok (.iload 8, 2) := by decide +kernel
theorem dX0_nextPair_82 : decode cX0_nextPair 82 = .ok (.isub, 1) := by decide +kernel
theorem dX0_nextPair_83 : decode cX0_nextPair 83 = .ok (.iload 5, 2) := by decide +kernel
theorem dX0_nextPair_85 : decode cX0_nextPair 85 = .ok (.if_icmp .ne 11, 3) := by decide +kernel
theorem dX0_nextPair_88 : decode cX0_nextPair 88 = .ok (.iload 6, 2) := by decide +kernel
theorem dX0_nextPair_90 : decode cX0_nextPair 90 = .ok (.iload 7, 2) := by decide +kernel
theorem dX0_nextPair_92 : decode cX0_nextPair 92 = .ok (.invokestatic 70, 3) := by decide +kernel
theorem dX0_nextPair_95 : decode cX0_nextPair 95 = .ok (.ireturn, 1) := by decide +kernel
theorem dX0_nextPair_96 : decode cX0_nextPair 96 = .ok (.iinc 7 1, 3) := by decide +kernel
theorem dX0_nextPair_99 : decode cX0_nextPair 99 = .ok (.goto (-62), 3) := by decide +kernel
theorem dX0_nextPair_102 : decode cX0_nextPair 102 = .ok (.iinc 6 1, 3) := by decide +kernel
theorem dX0_nextPair_105 : decode cX0_nextPair 105 = .ok (.goto (-81), 3) := by decide +kernel
theorem dX0_nextPair_108 : decode cX0_nextPair 108 = .ok (.iconst (-1), 1) := by decide +kernel
theorem dX0_nextPair_109 : decode cX0_nextPair 109 = .ok (.ireturn, 1) := by decide +kernel
theorem dX0_total_0 : decode cX0_total 0 = .ok (.aload_n 0, 1) := by decide +kernel
theorem dX0_total_1 : decode cX0_total 1 = .ok (.getfield 22, 3) := by decide +kernel
theorem dX0_total_4 : decode cX0_total 4 = .ok (.ireturn, 1) := by decide +kernel
theorem dX0_size_0 : decode cX0_size 0 = .ok (.aload_n 0, 1) := by decide +kernel
theorem dX0_size_1 : decode cX0_size 1 = .ok (.getfield 18, 3) := by decide +kernel
theorem dX0_size_4 : decode cX0_size 4 = .ok (.ireturn, 1) := by decide +kernel
theorem dX0_pairAt_0 : decode cX0_pairAt 0 = .ok (.iload_n 1, 1) := by decide +kernel
theorem dX0_pairAt_1 : decode cX0_pairAt 1 = .ok (.ifCond .lt 20, 3) := by decide +kernel
theorem dX0_pairAt_4 : decode cX0_pairAt 4 = .ok (.iload_n 1, 1) := by decide +kernel
theorem dX0_pairAt_5 : decode cX0_pairAt 5 = .ok (.aload_n 0, 1) := by decide +kernel
theorem dX0_pairAt_6 : decode cX0_pairAt 6 = .ok (.getfield 18, 3) := by decide +kernel
theorem dX0_pairAt_9 : decode cX0_pairAt 9 = .ok (.if_icmp .ge 12, 3) := by decide +kernel
theorem dX0_pairAt_12 : decode cX0_pairAt 12 = .ok (.aload_n 0, 1) := by decide +kernel
theorem dX0_pairAt_13 : decode cX0_pairAt 13 = .ok (.getfield 15, 3) := by decide +kernel
theorem dX0_pairAt_16 : decode cX0_pairAt 16 = .ok (.iload_n 1, 1) := by decide +kernel
theorem dX0_pairAt_17 : decode cX0_pairAt 17 = .ok (.iaload, 1) := by decide +kernel
theorem dX0_pairAt_18 : decode cX0_pairAt 18 = .ok (.goto 4, 3) := by decide +kernel
theorem dX0_pairAt_21 : decode cX0_pairAt 21 = .ok (.iconst (-1), 1) := by decide +kernel
theorem dX0_pairAt_22 : decode cX0_pairAt 22 = .ok (.ireturn, 1) := by decide +kernel
end
section
theorem dX2_init_0 : decode cX2_init 0 = .ok (.aload_n 0, 1) := by decide +kernel
theorem dX2_init_1 : decode cX2_init 1 = .ok (.invokespecial 3, 3) := by decide +kernel
theorem dX2_init_4 : decode cX2_init 4 = .ok (.aload_n 0, 1) := by decide +kernel
theorem dX2_init_5 : decode cX2_init 5 = .ok (.iconst 2, 1) := by decide +kernel
theorem dX2_init_6 : decode cX2_init 6 = .ok (.putfield 9, 3) := by decide +kernel
theorem dX2_init_9 : decode cX2_init 9 = .ok (.aload_n 0, 1) := by decide +kernel
theorem dX2_init_10 : decode cX2_init 10 = .ok (.iconst 1, 1) := by decide +kernel
theorem dX2_init_11 : decode cX2_init 11 = .ok (.putfield 15, 3) := by decide +kernel
theorem dX2_init_14 : decode cX2_init 14 = .ok (.aload_n 0, 1) := by decide +kernel
theorem dX2_init_15 : decode cX2_init 15 = .ok (.iconst 2, 1) := by decide +kernel
theorem dX2_init_16 : decode cX2_init 16 = .ok (.putfield 18, 3) := by decide +kernel
theorem dX2_init_19 : decode cX2_init 19 = .ok (.aload_n 0, 1) := by decide +kernel
theorem dX2_init_20 : decode cX2_init 20 = .ok (.bipush 6, 2) := by decide +kernel
theorem dX2_init_22 : decode cX2_init 22 = .ok (.putfield 21, 3) := by decide +kernel
theorem dX2_init_25 : decode cX2_init 25 = .ok (.aload_n 0, 1) := by decide +kernel
theorem dX2_init_26 : decode cX2_init 26 = .ok (.bipush 49, 2) := by decide +kernel
theorem dX2_init_28 : decode cX2_init 28 = .ok (.newarray .int, 2) := by decide +kernel
theorem dX2_init_30 : decode cX2_init 30 = .ok (.putfield 24, 3) := by decide +kernel
theorem dX2_init_33 : decode cX2_init 33 = .ok (.aload_n 0, 1) := by decide +kernel
theorem dX2_init_34 : decode cX2_init 34 = .ok (.bipush 49, 2) := by decide +kernel
theorem dX2_init_36 : decode cX2_init 36 = .ok (.newarray .int, 2) := by decide +kernel
theorem dX2_init_38 : decode cX2_init 38 = .ok (.putfield 28, 3) := by decide +kernel
theorem dX2_init_41 : decode cX2_init 41 = .ok (.aload_n 0, 1) := by decide +kernel
theorem dX2_init_42 : decode cX2_init 42 = .ok (.bipush 49, 2) := by decide +kernel
theorem dX2_init_44 : decode cX2_init 44 = .ok (.newarray .int, 2) := by decide +kernel
theorem dX2_init_46 : decode cX2_init 46 = .ok (.putfield 31, 3) := by decide +kernel
theorem dX2_init_49 : decode cX2_init 49 = .ok (.aload_n 0, 1) := by decide +kernel
theorem dX2_init_50 : decode cX2_init 50 = .ok (.iconst (-1), 1) := by decide +kernel
theorem dX2_init_51 : decode cX2_init 51 = .ok (.putfield 34, 3) := by decide +kernel
theorem dX2_init_54 : decode cX2_init 54 = .ok (.aload_n 0, 1) := by decide +kernel
theorem dX2_init_55 : decode cX2_init 55 = .ok (.iconst (-1), 1) := by decide +kernel
theorem dX2_init_56 : decode cX2_init 56 = .ok (.putfield 37, 3) := by decide +kernel
theorem dX2_init_59 : decode cX2_init 59 = .ok (.aload_n 0, 1) := by decide +kernel
theorem dX2_init_60 : decode cX2_init 60 = .ok (.iconst (-1), 1) := by decide +kernel
theorem dX2_init_61 : decode cX2_init 61 = .ok (.putfield 40, 3) := by decide +kernel
theorem dX2_init_64 : decode cX2_init 64 = .ok (.aload_n 0, 1) := by decide +kernel
theorem dX2_init_65 : decode cX2_init 65 = .ok (.iconst (-1), 1) := by decide +kernel
theorem dX2_init_66 : decode cX2_init 66 = .ok (.putfield 43, 3) := by decide +kernel
theorem dX2_init_69 : decode cX2_init 69 = .ok (.aload_n 0, 1) := by decide +kernel
theorem dX2_init_70 : decode cX2_init 70 = .ok (.iconst (-1), 1) := by decide +kernel
theorem dX2_init_71 : decode cX2_init 71 = .ok (.putfield 46, 3) := by decide +kernel
theorem dX2_init_74 : decode cX2_init 74 = .ok (.return_, 1) := by decide +kernel
theorem dX2_useScores_0 : decode cX2_useScores 0 = .ok (.aload_n 0, 1) := by decide +kernel
theorem dX2_useScores_1 : decode cX2_useScores 1 = .ok (.iload_n 1, 1) := by decide +kernel
theorem dX2_useScores_2 : decode cX2_useScores 2 = .ok (.putfield 9, 3) := by decide +kernel
theorem dX2_useScores_5 : decode cX2_useScores 5 = .ok (.aload_n 0, 1) := by decide +kernel
theorem dX2_useScores_6 : decode cX2_useScores 6 = .ok (.iload_n 2, 1) := by decide +kernel
theorem dX2_useScores_7 : decode cX2_useScores 7 = .ok (.putfield 15, 3) := by decide +kernel
theorem dX2_useScores_10 : decode cX2_useScores 10 = .ok (.aload_n 0, 1) := by decide +kernel
theorem dX2_useScores_11 : decode cX2_useScores 11 = .ok (.iload_n 3, 1) := by decide +kernel
theorem dX2_useScores_12 : decode cX2_useScores 12 = .ok (.putfield 18, 3) := by decide +kernel
theorem dX2_useScores_15 : decode cX2_useScores 15 = .ok (.aload_n 0, 1) := by decide +kernel
theorem dX2_useScores_16 : decode cX2_useScores 16 = .ok (.iload 4, 2) := by decide +kernel
theorem dX2_useScores_18 : decode cX2_useScores 18 = .ok (.putfield 21, 3) := by decide +kernel
theorem dX2_useScores_21 : decode cX2_useScores 21 = .ok (.return_, 1) := by decide +kernel
theorem dX2_walk_0 : decode cX2_walk 0 = .ok (.aload_n 0, 1) := by decide +kernel
theorem dX2_walk_1 : decode cX2_walk 1 = .ok (.invokevirtual 49, 3) := by decide +kernel
theorem dX2_walk_4 : decode cX2_walk 4 = .ok (.aload_n 1, 1) := by decide +kernel
theorem dX2_walk_5 : decode cX2_walk 5 = .ok (.invokevirtual 52, 3) := by decide +kernel
theorem dX2_walk_8 : decode cX2_walk 8 = .ok (.iload_n 2, 1) := by decide +kernel
theorem dX2_walk_9 : decode cX2_walk 9 = .ok (.isub, 1) := by decide +kernel
theorem dX2_walk_10 : decode cX2_walk 10 = .ok (.aload_n 3, 1) := by decide +kernel
theorem dX2_walk_11 : decode cX2_walk 11 = .ok (.invokevirtual 52, 3) := by decide +kernel
theorem dX2_walk_14 : decode cX2_walk 14 = .ok (.iadd, 1) := by decide +kernel
theorem dX2_walk_15 : decode cX2_walk 15 = .ok (.iload 4, 2) := by decide +kernel
theorem dX2_walk_17 : decode cX2_walk 17 = .ok (.isub, 1) := by decide +kernel
theorem dX2_walk_18 : decode cX2_walk 18 = .ok (.istore 5, 2) := by decide +kernel
theorem dX2_walk_20 : decode cX2_walk 20 = .ok (.iconst 1, 1) := by decide +kernel
theorem dX2_walk_21 : decode cX2_walk 21 = .ok (.istore 6, 2) := by decide +kernel
theorem dX2_walk_23 : decode cX2_walk 23 = .ok (.iload 6, 2) := by decide +kernel
theorem dX2_walk_25 : decode cX2_walk 25 = .ok (.iload 5, 2) := by decide +kernel
theorem dX2_walk_27 : decode cX2_walk 27 = .ok (.if_icmp .gt 35, 3) := by decide +kernel
theorem dX2_walk_30 : decode cX2_walk 30 = .ok (.iload 6, 2) := by decide +kernel
theorem dX2_walk_32 : decode cX2_walk 32 = .ok (.aload_n 0, 1) := by decide +kernel
theorem dX2_walk_33 : decode cX2_walk 33 = .ok (.getfield 46, 3) := by decide +kernel
theorem dX2_walk_36 : decode cX2_walk 36 = .ok (.iconst 2, 1) := by decide +kernel
theorem dX2_walk_37 : decode cX2_walk 37 = .ok (.iadd, 1) := by decide +kernel
theorem dX2_walk_38 : decode cX2_walk 38 = .ok (.if_icmp .gt 24, 3) := by decide +kernel
theorem dX2_walk_41 : decode cX2_walk 41 = .ok (.aload_n 0, 1) := by decide +kernel
theorem dX2_walk_42 : decode cX2_walk 42 = .ok (.invokevirtual 58, 3) := by decide +kernel
theorem dX2_walk_45 : decode cX2_walk 45 = .ok (.aload_n 0, 1) := by decide +kernel
theorem dX2_walk_46 : decode cX2_walk 46 = .ok (.aload_n 1, 1) := by decide +kernel
theorem dX2_walk_47 : decode cX2_walk 47 = .ok (.iload_n 2, 1) := by decide +kernel
theorem dX2_walk_48 : decode cX2_walk 48 = .ok (.aload_n 3, 1) := by decide +kernel
theorem dX2_walk_49 : decode cX2_walk 49 = .ok (.iload 4, 2) := by decide +kernel
theorem dX2_walk_51 : decode cX2_walk 51 = .ok (.iload 6, 2) := by decide +kernel
theorem dX2_walk_53 : decode cX2_walk 53 = .ok (.invokevirtual 61, 3) := by decide +kernel
theorem dX2_walk_56 : decode cX2_walk 56 = .ok (.iinc 6 1, 3) := by decide +kernel
theorem dX2_walk_59 : decode cX2_walk 59 = .ok (.goto (-36), 3) := by decide +kernel
theorem dX2_walk_62 : decode cX2_walk 62 = .ok (.return_, 1) := by decide +kernel
theorem dX2_begin_0 : decode cX2_begin 0 = .ok (.aload_n 0, 1) := by decide +kernel
theorem dX2_begin_1 : decode cX2_begin 1 = .ok (.getfield 31, 3) := by decide +kernel
theorem dX2_begin_4 : decode cX2_begin 4 = .ok (.ldc 65, 2) := by decide +kernel
theorem dX2_begin_6 : decode cX2_begin 6 = .ok (.invokestatic 66, 3) := by decide +kernel
theorem dX2_begin_9 : decode cX2_begin 9 = .ok (.aload_n 0, 1) := by decide +kernel
theorem dX2_begin_10 : decode cX2_begin 10 = .ok (.getfield 31, 3) := by decide +kernel
theorem dX2_begin_13 : decode cX2_begin 13 = .ok (.iconst 0, 1) := by decide +kernel
theorem dX2_begin_14 : decode cX2_begin 14 = .ok (.iconst 0, 1) := by decide +kernel
theorem dX2_begin_15 : decode cX2_begin 15 = .ok (.iastore, 1) := by decide +kernel
theorem dX2_begin_16 : decode cX2_begin 16 = .ok (.aload_n 0, 1) := by decide +kernel
theorem dX2_begin_17 : decode cX2_begin 17 = .ok (.iconst 0, 1) := by decide +kernel
theorem dX2_begin_18 : decode cX2_begin 18 = .ok (.putfield 34, 3) := by decide +kernel
theorem dX2_begin_21 : decode cX2_begin 21 = .ok (.aload_n 0, 1) := by decide +kernel
theorem dX2_begin_22 : decode cX2_begin 22 = .ok (.iconst 0, 1) := by decide +kernel
theorem dX2_begin_23 : decode cX2_begin 23 = .ok (.putfield 37, 3) := by decide +kernel
theorem dX2_begin_26 : decode cX2_begin 26 = .ok (.aload_n 0, 1) := by decide +kernel
theorem dX2_begin_27 : decode cX2_begin 27 = .ok (.iconst 0, 1) := by decide +kernel
theorem dX2_begin_28 : decode cX2_begin 28 = .ok (.putfield 40, 3) := by decide +kernel
theorem dX2_begin_31 : decode cX2_begin 31 = .ok (.aload_n 0, 1) := by decide +kernel
theorem dX2_begin_32 : decode cX2_begin 32 = .ok (.iconst 1, 1) := by decide +kernel
theorem dX2_begin_33 : decode cX2_begin 33 = .ok (.putfield 43, 3) := by decide +kernel
theorem dX2_begin_36 : decode cX2_begin 36 = .ok (.aload_n 0, 1) := by decide +kernel
theorem dX2_begin_37 : decode cX2_begin 37 = .ok (.iconst 0, 1) := by decide +kernel
theorem dX2_begin_38 : decode cX2_begin 38 = .ok (.putfield 46, 3) := by decide +kernel
theorem dX2_begin_41 : decode cX2_begin 41 = .ok (.return_, 1) := by decide +kernel
theorem dX2_turnSlopes_0 : decode cX2_turnSlopes 0 = .ok (.aload_n 0, 1) := by decide +kernel
theorem dX2_turnSlopes_1 : decode cX2_turnSlopes 1 = .ok (.getfield 24, 3) := by decide +kernel
theorem dX2_turnSlopes_4 : decode cX2_turnSlopes 4 = .ok (.astore_n 1, 1) := by decide +kernel
theorem dX2_turnSlopes_5 : decode cX2_turnSlopes 5 = .ok (.aload_n 0, 1) := by decide +kernel
theorem dX2_turnSlopes_6 : decode cX2_turnSlopes 6 = .ok (.aload_n 0, 1) := by decide +kernel
theorem dX2_turnSlopes_7 : decode cX2_turnSlopes 7 = .ok (.getfield 28, 3) := by decide +kernel
theorem dX2_turnSlopes_10 : decode cX2_turnSlopes 10 = .ok (.putfield 24, 3) := by decide +kernel
theorem dX2_turnSlopes_13 : decode cX2_turnSlopes 13 = .ok (.aload_n 0, 1) := by decide +kernel
theorem dX2_turnSlopes_14 : decode cX2_turnSlopes 14 = .ok (.aload_n 0, 1) := by decide +kernel
theorem dX2_turnSlopes_15 : decode cX2_turnSlopes 15 = .ok (.getfield 31, 3) := by decide +kernel
theorem dX2_turnSlopes_18 : decode cX2_turnSlopes 18 = .ok (.putfield 28, 3) := by decide +kernel
theorem dX2_turnSlopes_21 : decode cX2_turnSlopes 21 = .ok (.aload_n 0, 1) := by decide +kernel
theorem dX2_turnSlopes_22 : decode cX2_turnSlopes 22 = .ok (.aload_n 1, 1) := by decide +kernel
theorem dX2_turnSlopes_23 : decode cX2_turnSlopes 23 = .ok (.putfield 31, 3) := by decide +kernel
theorem dX2_turnSlopes_26 : decode cX2_turnSlopes 26 = .ok (.aload_n 0, 1) := by decide +kernel
theorem dX2_turnSlopes_27 : decode cX2_turnSlopes 27 = .ok (.getfield 31, 3) := by decide +kernel
theorem dX2_turnSlopes_30 : decode cX2_turnSlopes 30 = .ok (.ldc 65, 2) := by decide +kernel
theorem dX2_turnSlopes_32 : decode cX2_turnSlopes 32 = .ok (.invokestatic 66, 3) := by decide +kernel
theorem dX2_turnSlopes_35 : decode cX2_turnSlopes 35 = .ok (.return_, 1) := by decide +kernel
theorem dX2_walkSlope_0 : decode cX2_walkSlope 0 = .ok (.aload_n 0, 1) := by decide +kernel
theorem dX2_walkSlope_1 : decode cX2_walkSlope 1 = .ok (.getfield 34, 3) := by decide +kernel
theorem dX2_walkSlope_4 : decode cX2_walkSlope 4 = .ok (.aload_n 0, 1) := by decide +kernel
theorem dX2_walkSlope_5 : decode cX2_walkSlope 5 = .ok (.getfield 21, 3) := by decide +kernel
theorem dX2_walkSlope_8 : decode cX2_walkSlope 8 = .ok (.isub, 1) := by decide +kernel
theorem dX2_walkSlope_9 : decode cX2_walkSlope 9 = .ok (.istore 6, 2) := by decide +kernel
theorem dX2_walkSlope_11 : decode cX2_walkSlope 11 = .ok (.iload 5, 2) := by decide +kernel
theorem dX2_walkSlope_13 : decode cX2_walkSlope 13 = .ok (.aload_n 1, 1) := by decide +kernel
theorem dX2_walkSlope_14 : decode cX2_walkSlope 14 = .ok (.invokevirtual 52, 3) := by decide +kernel
theorem dX2_walkSlope_17 : decode cX2_walkSlope 17 = .ok (.iload_n 2, 1) := by decide +kernel
theorem dX2_walkSlope_18 : decode cX2_walkSlope 18 = .ok (.isub, 1) := by decide +kernel
theorem dX2_walkSlope_19 : decode cX2_walkSlope 19 = .ok (.invokestatic 72, 3) := by decide +kernel
theorem dX2_walkSlope_22 : decode cX2_walkSlope 22 = .ok (.istore 7, 2) := by decide +kernel
theorem dX2_walkSlope_24 : decode cX2_walkSlope 24 = .ok (.iconst 0, 1) := by decide +kernel
theorem dX2_walkSlope_25 : decode cX2_walkSlope 25 = .ok (.iload 5, 2) := by decide +kernel
theorem dX2_walkSlope_27 : decode cX2_walkSlope 27 = .ok (.aload_n 3, 1) := by decide +kernel
theorem dX2_walkSlope_28 : decode cX2_walkSlope 28 = .ok (.invokevirtual 52, 3) := by decide +kernel
theorem dX2_walkSlope_31 : decode cX2_walkSlope 31 = .ok (.iload 4, 2) := by decide +kernel
theorem dX2_walkSlope_33 : decode cX2_walkSlope 33 = .ok (.isub, 1) := by decide +kernel
theorem dX2_walkSlope_34 : decode cX2_walkSlope 34 = .ok (.isub, 1) := by decide +kernel
theorem dX2_walkSlope_35 : decode cX2_walkSlope 35 = .ok (.invokestatic 78, 3) := by decide +kernel
theorem dX2_walkSlope_38 : decode cX2_walkSlope 38 = .ok (.istore 8, 2) := by decide +kernel
theorem dX2_walkSlope_40 : decode cX2_walkSlope 40 = .ok (.iload 8, 2) := by decide +kernel
theorem dX2_walkSlope_42 : decode cX2_walkSlope 42 = .ok (.iload 7, 2) := by decide +kernel
theorem dX2_walkSlope_44 : decode cX2_walkSlope 44 = .ok (.if_icmp .gt 116, 3) := by decide +kernel
theorem dX2_walkSlope_47 : decode cX2_walkSlope 47 = .ok (.iload 5, 2) := by decide +kernel
theorem dX2_walkSlope_49 : decode cX2_walkSlope 49 = .ok (.iload 8, 2) := by decide +kernel
theorem dX2_walkSlope_51 : decode cX2_walkSlope 51 = .ok (.isub, 1) := by decide +kernel
theorem dX2_walkSlope_52 : decode cX2_walkSlope 52 = .ok (.istore 9, 2) := by decide +kernel
theorem dX2_walkSlope_54 : decode cX2_walkSlope 54 = .ok (.aload_n 0, 1) := by decide +kernel
theorem dX2_walkSlope_55 : decode cX2_walkSlope 55 = .ok (.iload 8, 2) := by decide +kernel
theorem dX2_walkSlope_57 : decode cX2_walkSlope 57 = .ok (.invokevirtual 81, 3) := by decide +kernel
theorem dX2_walkSlope_60 : decode cX2_walkSlope 60 = .ok (.istore 10, 2) := by decide +kernel
theorem dX2_walkSlope_62 : decode cX2_walkSlope 62 = .ok (.iload 8, 2) := by decide +kernel
theorem dX2_walkSlope_64 : decode cX2_walkSlope 64 = .ok (.ifCond .le 73, 3) := by decide +kernel
theorem dX2_walkSlope_67 : decode cX2_walkSlope 67 = .ok (.iload 9, 2) := by decide +kernel
theorem dX2_walkSlope_69 : decode cX2_walkSlope 69 = .ok (.ifCond .le 68, 3) := by decide +kernel
theorem dX2_walkSlope_72 : decode cX2_walkSlope 72 = .ok (.aload_n 1, 1) := by decide +kernel
theorem dX2_walkSlope_73 : decode cX2_walkSlope 73 = .ok (.iload_n 2, 1) := by decide +kernel
theorem dX2_walkSlope_74 : decode cX2_walkSlope 74 = .ok (.iload 8, 2) := by decide +kernel
theorem dX2_walkSlope_76 : decode cX2_walkSlope 76 = .ok (.iadd, 1) := by decide +kernel
theorem dX2_walkSlope_77 : decode cX2_walkSlope 77 = .ok (.iconst 1, 1) := by decide +kernel
theorem dX2_walkSlope_78 : decode cX2_walkSlope 78 = .ok (.isub, 1) := by decide +kernel
theorem dX2_walkSlope_79 : decode cX2_walkSlope 79 = .ok (.invokevirtual 85, 3) := by decide +kernel
theorem dX2_walkSlope_82 : decode cX2_walkSlope 82 = .ok (.aload_n 3, 1) := by decide +kernel
theorem dX2_walkSlope_83 : decode cX2_walkSlope 83 = .ok (.iload 4, 2) := by decide +kernel
theorem dX2_walkSlope_85 : decode cX2_walkSlope 85 = .ok (.iload 9, 2) := by decide +kernel
theorem dX2_walkSlope_87 : decode cX2_walkSlope 87 = .ok (.iadd, 1) := by decide +kernel
theorem dX2_walkSlope_88 : decode cX2_walkSlope 88 = .ok (.iconst 1, 1) := by decide +kernel
theorem dX2_walkSlope_89 : decode cX2_walkSlope 89 = .ok (.isub, 1) := by decide +kernel
theorem dX2_walkSlope_90 : decode cX2_walkSlope 90 = .ok (.invokevirtual 85, 3) := by decide +kernel
theorem dX2_walkSlope_93 : decode cX2_walkSlope 93 = .ok (.if_icmp .ne 7, 3) := by decide +kernel
theorem dX2_walkSlope_96 : decode cX2_walkSlope 96 = .ok (.iconst 1, 1) := by decide +kernel
theorem dX2_walkSlope_97 : decode cX2_walkSlope 97 = .ok (.goto 4, 3) := by decide +kernel
theorem dX2_walkSlope_100 : decode cX2_walkSlope 100 = .ok (.iconst 0, 1) := by decide +kernel
theorem dX2_walkSlope_101 : decode cX2_walkSlope 101 = .ok (.istore 11, 2) := by decide +kernel
theorem dX2_walkSlope_103 : decode cX2_walkSlope 103 = .ok (.iload 10, 2) := by decide +kernel
theorem dX2_walkSlope_105 : decode cX2_walkSlope 105 = .ok (.aload_n 0, 1) := by decide +kernel
theorem dX2_walkSlope_106 : decode cX2_walkSlope 106 = .ok (.getfield 24, 3) := by decide +kernel
theorem dX2_walkSlope_109 : decode cX2_walkSlope 109 = .ok (.iload 8, 2) := by decide +kernel
theorem dX2_walkSlope_111 : decode cX2_walkSlope 111 = .ok (.iconst 1, 1) := by decide +kernel
theorem dX2_walkSlope_112 : decode cX2_walkSlope 112 = .ok (.isub, 1) := by decide +kernel
theorem dX2_walkSlope_113 : decode cX2_walkSlope 113 = .ok (.iaload, 1) := by decide +kernel
theorem dX2_walkSlope_114 : decode cX2_walkSlope 114 = .ok (.iload 11, 2) := by decide +kernel
theorem dX2_walkSlope_116 : decode cX2_walkSlope 116 = .ok (.ifCond .eq 10, 3) := by decide +kernel
theorem dX2_walkSlope_119 : decode cX2_walkSlope 119 = .ok (.aload_n 0, 1) := by decide +kernel
theorem dX2_walkSlope_120 : decode cX2_walkSlope 120 = .ok (.getfield 9, 3) := by decide +kernel
theorem dX2_walkSlope_123 : decode cX2_walkSlope 123 = .ok (.goto 8, 3) := by decide +kernel
theorem dX2_walkSlope_126 : decode cX2_walkSlope 126 = .ok (.aload_n 0, 1) := by decide +kernel
theorem dX2_walkSlope_127 : decode cX2_walkSlope 127 = .ok (.getfield 15, 3) := by decide +kernel
theorem dX2_walkSlope_130 : decode cX2_walkSlope 130 = .ok (.ineg, 1) := by decide +kernel
theorem dX2_walkSlope_131 : decode cX2_walkSlope 131 = .ok (.iadd, 1) := by decide +kernel
theorem dX2_walkSlope_132 : decode cX2_walkSlope 132 = .ok (.invokestatic 78, 3) := by decide +kernel
theorem dX2_walkSlope_135 : decode cX2_walkSlope 135 = .ok (.istore 10, 2) := by decide +kernel
theorem dX2_walkSlope_137 : decode cX2_walkSlope 137 = .ok (.iload 10, 2) := by decide +kernel
theorem dX2_walkSlope_139 : decode cX2_walkSlope 139 = .ok (.iload 6, 2) := by decide +kernel
theorem dX2_walkSlope_141 : decode cX2_walkSlope 141 = .ok (.if_icmp .lt 13, 3) := by decide +kernel
theorem dX2_walkSlope_144 : decode cX2_walkSlope 144 = .ok (.aload_n 0, 1) := by decide +kernel
theorem dX2_walkSlope_145 : decode cX2_walkSlope 145 = .ok (.iload 8, 2) := by decide +kernel
theorem dX2_walkSlope_147 : decode cX2_walkSlope 147 = .ok (.iload 9, 2) := by decide +kernel
theorem dX2_walkSlope_149 : decode cX2_walkSlope 149 = .ok (.iload 10, 2) := by decide +kernel
theorem dX2_walkSlope_151 : decode cX2_walkSlope 151 = .ok (.invokevirtual 88, 3) := by decide +kernel
theorem dX2_walkSlope_154 : decode cX2_walkSlope 154 = .ok (.iinc 8 1, 3) := by decide +kernel
theorem dX2_walkSlope_157 : decode cX2_walkSlope 157 = .ok (.goto (-117), 3) := by decide +kernel
theorem dX2_walkSlope_160 : decode cX2_walkSlope 160 = .ok (.return_, 1) := by decide +kernel
theorem dX2_gapScore_0 : decode cX2_gapScore 0 = .ok (.aload_n 0, 1) := by decide +kernel
theorem dX2_gapScore_1 : decode cX2_gapScore 1 = .ok (.getfield 28, 3) := by decide +kernel
theorem dX2_gapScore_4 : decode cX2_gapScore 4 = .ok (.iload_n 1, 1) := by decide +kernel
theorem dX2_gapScore_5 : decode cX2_gapScore 5 = .ok (.iaload, 1) := by decide +kernel
theorem dX2_gapScore_6 : decode cX2_gapScore 6 = .ok (.istore_n 2, 1) := by decide +kernel
theorem dX2_gapScore_7 : decode cX2_gapScore 7 = .ok (.iload_n 1, 1) := by decide +kernel
theorem dX2_gapScore_8 : decode cX2_gapScore 8 = .ok (.ifCond .le 16, 3) := by decide +kernel
theorem dX2_gapScore_11 : decode cX2_gapScore 11 = .ok (.iload_n 2, 1) := by decide +kernel
theorem dX2_gapScore_12 : decode cX2_gapScore 12 = .ok (.aload_n 0, 1) := by decide +kernel
theorem dX2_gapScore_13 : decode cX2_gapScore 13 = .ok (.getfield 28, 3) := by decide +kernel
theorem dX2_gapScore_16 : decode cX2_gapScore 16 = .ok (.iload_n 1, 1) := by decide +kernel
theorem dX2_gapScore_17 : decode cX2_gapScore 17 = .ok (.iconst 1, 1) := by decide +kernel
theorem dX2_gapScore_18 : decode cX2_gapScore 18 = .ok (.isub, 1) := by decide +kernel
theorem dX2_gapScore_19 : decode cX2_gapScore 19 = .ok (.iaload, 1) := by decide +kernel
theorem dX2_gapScore_20 : decode cX2_gapScore 20 = .ok (.invokestatic 78, 3) := by decide +kernel
theorem dX2_gapScore_23 : decode cX2_gapScore 23 = .ok (.istore_n 2, 1) := by decide +kernel
theorem dX2_gapScore_24 : decode cX2_gapScore 24 = .ok (.iload_n 2, 1) := by decide +kernel
theorem dX2_gapScore_25 : decode cX2_gapScore 25 = .ok (.aload_n 0, 1) := by decide +kernel
theorem dX2_gapScore_26 : decode cX2_gapScore 26 = .ok (.getfield 18, 3) := by decide +kernel
theorem dX2_gapScore_29 : decode cX2_gapScore 29 = .ok (.isub, 1) := by decide +kernel
theorem dX2_gapScore_30 : decode cX2_gapScore 30 = .ok (.ireturn, 1) := by decide +kernel
theorem dX2_keepAlive_0 : decode cX2_keepAlive 0 = .ok (.aload_n 0, 1) := by decide +kernel
theorem dX2_keepAlive_1 : decode cX2_keepAlive 1 = .ok (.getfield 31, 3) := by decide +kernel
theorem dX2_keepAlive_4 : decode cX2_keepAlive 4 = .ok (.iload_n 1, 1) := by decide +kernel
theorem dX2_keepAlive_5 : decode cX2_keepAlive 5 = .ok (.iload_n 3, 1) := by decide +kernel
theorem dX2_keepAlive_6 : decode cX2_keepAlive 6 = .ok (.iastore, 1) := by decide +kernel
theorem dX2_keepAlive_7 : decode cX2_keepAlive 7 = .ok (.aload_n 0, 1) := by decide +kernel
theorem dX2_keepAlive_8 : decode cX2_keepAlive 8 = .ok (.dup, 1) := by decide +kernel
theorem dX2_keepAlive_9 : decode cX2_keepAlive 9 = .ok (.getfield 43, 3) := by decide +kernel
theorem dX2_keepAlive_12 : decode cX2_keepAlive 12 = .ok (.iconst 1, 1) := by decide +kernel
theorem dX2_keepAlive_13 : decode cX2_keepAlive 13 = .ok (.iadd, 1) := by decide +kernel
theorem dX2_keepAlive_14 : decode cX2_keepAlive 14 = .ok (.putfield 43, 3) := by decide +kernel
theorem dX2_keepAlive_17 : decode cX2_keepAlive 17 = .ok (.aload_n 0, 1) := by decide +kernel
theorem dX2_keepAlive_18 : decode cX2_keepAlive 18 = .ok (.iload_n 1, 1) := by decide +kernel
theorem dX2_keepAlive_19 : decode cX2_keepAlive 19 = .ok (.iload_n 2, 1) := by decide +kernel
theorem dX2_keepAlive_20 : decode cX2_keepAlive 20 = .ok (.iadd, 1) := by decide +kernel
theorem dX2_keepAlive_21 : decode cX2_keepAlive 21 = .ok (.putfield 46, 3) := by decide +kernel
theorem dX2_keepAlive_24 : decode cX2_keepAlive 24 = .ok (.iload_n 3, 1) := by decide +kernel
theorem dX2_keepAlive_25 : decode cX2_keepAlive 25 = .ok (.aload_n 0, 1) := by decide +kernel
theorem dX2_keepAlive_26 : decode cX2_keepAlive 26 = .ok (.getfield 34, 3) := by decide +kernel
theorem dX2_keepAlive_29 : decode cX2_keepAlive 29 = .ok (.if_icmp .le 18, 3) := by decide +kernel
theorem dX2_keepAlive_32 : decode cX2_keepAlive 32 = .ok (.aload_n 0, 1) := by decide +kernel
theorem dX2_keepAlive_33 : decode cX2_keepAlive 33 = .ok (.iload_n 3, 1) := by decide +kernel
theorem dX2_keepAlive_34 : decode cX2_keepAlive 34 = .ok (.putfield 34, 3) := by decide +kernel
theorem dX2_keepAlive_37 : decode cX2_keepAlive 37 = .ok (.aload_n 0, 1) := by decide +kernel
theorem dX2_keepAlive_38 : decode cX2_keepAlive 38 = .ok (.iload_n 1, 1) := by decide +kernel
theorem dX2_keepAlive_39 : decode cX2_keepAlive 39 = .ok (.putfield 37, 3) := by decide +kernel
theorem dX2_keepAlive_42 : decode cX2_keepAlive 42 = .ok (.aload_n 0, 1) := by decide +kernel
theorem dX2_keepAlive_43 : decode cX2_keepAlive 43 = .ok (.iload_n 2, 1) := by decide +kernel
theorem dX2_keepAlive_44 : decode cX2_keepAlive 44 = .ok (.putfield 40, 3) := by decide +kernel
theorem dX2_keepAlive_47 : decode cX2_keepAlive 47 = .ok (.return_, 1) := by decide +kernel
theorem dX2_endScore_0 : decode cX2_endScore 0 = .ok (.aload_n 0, 1) := by decide +kernel
theorem dX2_endScore_1 : decode cX2_endScore 1 = .ok (.getfield 34, 3) := by decide +kernel
theorem dX2_endScore_4 : decode cX2_endScore 4 = .ok (.ireturn, 1) := by decide +kernel
theorem dX2_outcome_0 : decode cX2_outcome 0 = .ok (.iload_n 1, 1) := by decide +kernel
theorem dX2_outcome_1 : decode cX2_outcome 1 = .ok (.tableswitch 51 0 3 #[31, 36, 41, 46], 31) := by decide +kernel
theorem dX2_outcome_32 : decode cX2_outcome 32 = .ok (.aload_n 0, 1) := by decide +kernel
theorem dX2_outcome_33 : decode cX2_outcome 33 = .ok (.getfield 37, 3) := by decide +kernel
theorem dX2_outcome_36 : decode cX2_outcome 36 = .ok (.ireturn, 1) := by decide +kernel
theorem dX2_outcome_37 : decode cX2_outcome 37 = .ok (.aload_n 0, 1) := by decide +kernel
theorem dX2_outcome_38 : decode cX2_outcome 38 = .ok (.getfield 40, 3) := by decide +kernel
theorem dX2_outcome_41 : decode cX2_outcome 41 = .ok (.ireturn, 1) := by decide +kernel
theorem dX2_outcome_42 : decode cX2_outcome 42 = .ok (.aload_n 0, 1) := by decide +kernel
theorem dX2_outcome_43 : decode cX2_outcome 43 = .ok (.getfield 43, 3) := by decide +kernel
theorem dX2_outcome_46 : decode cX2_outcome 46 = .ok (.ireturn, 1) := by decide +kernel
theorem dX2_outcome_47 : decode cX2_outcome 47 = .ok (.aload_n 0, 1) := by decide +kernel
theorem dX2_outcome_48 : decode cX2_outcome 48 = .ok (.getfield 46, 3) := by decide +kernel
theorem dX2_outcome_51 : decode cX2_outcome 51 = .ok (.ireturn, 1) := by decide +kernel
theorem dX2_outcome_52 : decode cX2_outcome 52 = .ok (.iconst (-1), 1) := by decide +kernel
theorem dX2_outcome_53 : decode cX2_outcome 53 = .ok (.ireturn, 1) := by decide +kernel
end
section
theorem dJ7_fill_0 : decode cJ7_fill 0 = .ok (.iconst 0, 1) := by decide +kernel
theorem dJ7_fill_1 : decode cJ7_fill 1 = .ok (.istore_n 2, 1) := by decide +kernel
theorem dJ7_fill_2 : decode cJ7_fill 2 = .ok (.aload_n 0, 1) := by decide +kernel
theorem dJ7_fill_3 : decode cJ7_fill 3 = .ok (.arraylength, 1) := by decide +kernel
theorem dJ7_fill_4 : decode cJ7_fill 4 = .ok (.istore_n 3, 1) := by decide +kernel
theorem dJ7_fill_5 : decode cJ7_fill 5 = .ok (.iload_n 2, 1) := by decide +kernel
theorem dJ7_fill_6 : decode cJ7_fill 6 = .ok (.iload_n 3, 1) := by decide +kernel
theorem dJ7_fill_7 : decode cJ7_fill 7 = .ok (.if_icmp .ge 13, 3) := by decide +kernel
theorem dJ7_fill_10 : decode cJ7_fill 10 = .ok (.aload_n 0, 1) := by decide +kernel
theorem dJ7_fill_11 : decode cJ7_fill 11 = .ok (.iload_n 2, 1) := by decide +kernel
theorem dJ7_fill_12 : decode cJ7_fill 12 = .ok (.iload_n 1, 1) := by decide +kernel
theorem dJ7_fill_13 : decode cJ7_fill 13 = .ok (.iastore, 1) := by decide +kernel
theorem dJ7_fill_14 : decode cJ7_fill 14 = .ok (.iinc 2 1, 3) := by decide +kernel
theorem dJ7_fill_17 : decode cJ7_fill 17 = .ok (.goto (-12), 3) := by decide +kernel
theorem dJ7_fill_20 : decode cJ7_fill 20 = .ok (.return_, 1) := by decide +kernel
end
section
theorem dX5_init_0 : decode cX5_init 0 = .ok (.aload_n 0, 1) := by decide +kernel
theorem dX5_init_1 : decode cX5_init 1 = .ok (.invokespecial 1, 3) := by decide +kernel
theorem dX5_init_4 : decode cX5_init 4 = .ok (.aload_n 0, 1) := by decide +kernel
theorem dX5_init_5 : decode cX5_init 5 = .ok (.bipush 96, 2) := by decide +kernel
theorem dX5_init_7 : decode cX5_init 7 = .ok (.newarray .int, 2) := by decide +kernel
theorem dX5_init_9 : decode cX5_init 9 = .ok (.putfield 7, 3) := by decide +kernel
theorem dX5_init_12 : decode cX5_init 12 = .ok (.aload_n 0, 1) := by decide +kernel
theorem dX5_init_13 : decode cX5_init 13 = .ok (.iconst 2, 1) := by decide +kernel
theorem dX5_init_14 : decode cX5_init 14 = .ok (.newarray .int, 2) := by decide +kernel
theorem dX5_init_16 : decode cX5_init 16 = .ok (.putfield 13, 3) := by decide +kernel
theorem dX5_init_19 : decode cX5_init 19 = .ok (.aload_n 0, 1) := by decide +kernel
theorem dX5_init_20 : decode cX5_init 20 = .ok (.iconst 2, 1) := by decide +kernel
theorem dX5_init_21 : decode cX5_init 21 = .ok (.putfield 16, 3) := by decide +kernel
theorem dX5_init_24 : decode cX5_init 24 = .ok (.aload_n 0, 1) := by decide +kernel
theorem dX5_init_25 : decode cX5_init 25 = .ok (.iconst 1, 1) := by decide +kernel
theorem dX5_init_26 : decode cX5_init 26 = .ok (.putfield 20, 3) := by decide +kernel
theorem dX5_init_29 : decode cX5_init 29 = .ok (.aload_n 0, 1) := by decide +kernel
theorem dX5_init_30 : decode cX5_init 30 = .ok (.iconst 2, 1) := by decide +kernel
theorem dX5_init_31 : decode cX5_init 31 = .ok (.putfield 23, 3) := by decide +kernel
theorem dX5_init_34 : decode cX5_init 34 = .ok (.aload_n 0, 1) := by decide +kernel
theorem dX5_init_35 : decode cX5_init 35 = .ok (.iconst 1, 1) := by decide +kernel
theorem dX5_init_36 : decode cX5_init 36 = .ok (.putfield 26, 3) := by decide +kernel
theorem dX5_init_39 : decode cX5_init 39 = .ok (.aload_n 0, 1) := by decide +kernel
theorem dX5_init_40 : decode cX5_init 40 = .ok (.iconst 2, 1) := by decide +kernel
theorem dX5_init_41 : decode cX5_init 41 = .ok (.putfield 29, 3) := by decide +kernel
theorem dX5_init_44 : decode cX5_init 44 = .ok (.aload_n 0, 1) := by decide +kernel
theorem dX5_init_45 : decode cX5_init 45 = .ok (.bipush 6, 2) := by decide +kernel
theorem dX5_init_47 : decode cX5_init 47 = .ok (.putfield 32, 3) := by decide +kernel
theorem dX5_init_50 : decode cX5_init 50 = .ok (.aload_n 0, 1) := by decide +kernel
theorem dX5_init_51 : decode cX5_init 51 = .ok (.sipush 2304, 3) := by decide +kernel
theorem dX5_init_54 : decode cX5_init 54 = .ok (.newarray .int, 2) := by decide +kernel
theorem dX5_init_56 : decode cX5_init 56 = .ok (.putfield 35, 3) := by decide +kernel
theorem dX5_init_59 : decode cX5_init 59 = .ok (.aload_n 0, 1) := by decide +kernel
theorem dX5_init_60 : decode cX5_init 60 = .ok (.sipush 2304, 3) := by decide +kernel
theorem dX5_init_63 : decode cX5_init 63 = .ok (.newarray .int, 2) := by decide +kernel
theorem dX5_init_65 : decode cX5_init 65 = .ok (.putfield 38, 3) := by decide +kernel
theorem dX5_init_68 : decode cX5_init 68 = .ok (.aload_n 0, 1) := by decide +kernel
theorem dX5_init_69 : decode cX5_init 69 = .ok (.sipush 2304, 3) := by decide +kernel
theorem dX5_init_72 : decode cX5_init 72 = .ok (.newarray .int, 2) := by decide +kernel
theorem dX5_init_74 : decode cX5_init 74 = .ok (.putfield 41, 3) := by decide +kernel
theorem dX5_init_77 : decode cX5_init 77 = .ok (.aload_n 0, 1) := by decide +kernel
theorem dX5_init_78 : decode cX5_init 78 = .ok (.bipush 48, 2) := by decide +kernel
theorem dX5_init_80 : decode cX5_init 80 = .ok (.newarray .int, 2) := by decide +kernel
theorem dX5_init_82 : decode cX5_init 82 = .ok (.putfield 44, 3) := by decide +kernel
theorem dX5_init_85 : decode cX5_init 85 = .ok (.aload_n 0, 1) := by decide +kernel
theorem dX5_init_86 : decode cX5_init 86 = .ok (.sipush 2401, 3) := by decide +kernel
theorem dX5_init_89 : decode cX5_init 89 = .ok (.newarray .int, 2) := by decide +kernel
theorem dX5_init_91 : decode cX5_init 91 = .ok (.putfield 47, 3) := by decide +kernel
theorem dX5_init_94 : decode cX5_init 94 = .ok (.return_, 1) := by decide +kernel
theorem dX5_put_0 : decode cX5_put 0 = .ok (.iload_n 1, 1) := by decide +kernel
theorem dX5_put_1 : decode cX5_put 1 = .ok (.invokestatic 50, 3) := by decide +kernel
theorem dX5_put_4 : decode cX5_put 4 = .ok (.ifCond .eq 23, 3) := by decide +kernel
theorem dX5_put_7 : decode cX5_put 7 = .ok (.iload_n 2, 1) := by decide +kernel
theorem dX5_put_8 : decode cX5_put 8 = .ok (.ifCond .lt 19, 3) := by decide +kernel
theorem dX5_put_11 : decode cX5_put 11 = .ok (.iload_n 2, 1) := by decide +kernel
theorem dX5_put_12 : decode cX5_put 12 = .ok (.iconst 3, 1) := by decide +kernel
theorem dX5_put_13 : decode cX5_put 13 = .ok (.if_icmp .gt 14, 3) := by decide +kernel
theorem dX5_put_16 : decode cX5_put 16 = .ok (.aload_n 0, 1) := by decide +kernel
theorem dX5_put_17 : decode cX5_put 17 = .ok (.getfield 13, 3) := by decide +kernel
theorem dX5_put_20 : decode cX5_put 20 = .ok (.iload_n 1, 1) := by decide +kernel
theorem dX5_put_21 : decode cX5_put 21 = .ok (.iaload, 1) := by decide +kernel
theorem dX5_put_22 : decode cX5_put 22 = .ok (.bipush 48, 2) := by decide +kernel
theorem dX5_put_24 : decode cX5_put 24 = .ok (.if_icmp .ne 5, 3) := by decide +kernel
theorem dX5_put_27 : decode cX5_put 27 = .ok (.iconst (-1), 1) := by decide +kernel
theorem dX5_put_28 : decode cX5_put 28 = .ok (.ireturn, 1) := by decide +kernel
theorem dX5_put_29 : decode cX5_put 29 = .ok (.aload_n 0, 1) := by decide +kernel
theorem dX5_put_30 : decode cX5_put 30 = .ok (.getfield 7, 3) := by decide +kernel
theorem dX5_put_33 : decode cX5_put 33 = .ok (.bipush 48, 2) := by decide +kernel
theorem dX5_put_35 : decode cX5_put 35 = .ok (.iload_n 1, 1) := by decide +kernel
theorem dX5_put_36 : decode cX5_put 36 = .ok (.imul, 1) := by decide +kernel
theorem dX5_put_37 : decode cX5_put 37 = .ok (.aload_n 0, 1) := by decide +kernel
theorem dX5_put_38 : decode cX5_put 38 = .ok (.getfield 13, 3) := by decide +kernel
theorem dX5_put_41 : decode cX5_put 41 = .ok (.iload_n 1, 1) := by decide +kernel
theorem dX5_put_42 : decode cX5_put 42 = .ok (.iaload, 1) := by decide +kernel
theorem dX5_put_43 : decode cX5_put 43 = .ok (.iadd, 1) := by decide +kernel
theorem dX5_put_44 : decode cX5_put 44 = .ok (.iload_n 2, 1) := by decide +kernel
theorem dX5_put_45 : decode cX5_put 45 = .ok (.iastore, 1) := by decide +kernel
theorem dX5_put_46 : decode cX5_put 46 = .ok (.aload_n 0, 1) := by decide +kernel
theorem dX5_put_47 : decode cX5_put 47 = .ok (.getfield 13, 3) := by decide +kernel
theorem dX5_put_50 : decode cX5_put 50 = .ok (.iload_n 1, 1) := by decide +kernel
theorem dX5_put_51 : decode cX5_put 51 = .ok (.dup2, 1) := by decide +kernel
theorem dX5_put_52 : decode cX5_put 52 = .ok (.iaload, 1) := by decide +kernel
theorem dX5_put_53 : decode cX5_put 53 = .ok (.iconst 1, 1) := by decide +kernel
theorem dX5_put_54 : decode cX5_put 54 = .ok (.iadd, 1) := by decide +kernel
theorem dX5_put_55 : decode cX5_put 55 = .ok (.iastore, 1) := by decide +kernel
theorem dX5_put_56 : decode cX5_put 56 = .ok (.aload_n 0, 1) := by decide +kernel
theorem dX5_put_57 : decode cX5_put 57 = .ok (.iconst 0, 1) := by decide +kernel
theorem dX5_put_58 : decode cX5_put 58 = .ok (.putfield 54, 3) := by decide +kernel
theorem dX5_put_61 : decode cX5_put 61 = .ok (.aload_n 0, 1) := by decide +kernel
theorem dX5_put_62 : decode cX5_put 62 = .ok (.getfield 13, 3) := by decide +kernel
theorem dX5_put_65 : decode cX5_put 65 = .ok (.iload_n 1, 1) := by decide +kernel
theorem dX5_put_66 : decode cX5_put 66 = .ok (.iaload, 1) := by decide +kernel
theorem dX5_put_67 : decode cX5_put 67 = .ok (.ireturn, 1) := by decide +kernel
theorem dX5_isRow_0 : decode cX5_isRow 0 = .ok (.iload_n 0, 1) := by decide +kernel
theorem dX5_isRow_1 : decode cX5_isRow 1 = .ok (.ifCond .eq 8, 3) := by decide +kernel
theorem dX5_isRow_4 : decode cX5_isRow 4 = .ok (.iload_n 0, 1) := by decide +kernel
theorem dX5_isRow_5 : decode cX5_isRow 5 = .ok (.iconst 1, 1) := by decide +kernel
theorem dX5_isRow_6 : decode cX5_isRow 6 = .ok (.if_icmp .ne 7, 3) := by decide +kernel
theorem dX5_isRow_9 : decode cX5_isRow 9 = .ok (.iconst 1, 1) := by decide +kernel
theorem dX5_isRow_10 : decode cX5_isRow 10 = .ok (.goto 4, 3) := by decide +kernel
theorem dX5_isRow_13 : decode cX5_isRow 13 = .ok (.iconst 0, 1) := by decide +kernel
theorem dX5_isRow_14 : decode cX5_isRow 14 = .ok (.ireturn, 1) := by decide +kernel
theorem dX5_cut_0 : decode cX5_cut 0 = .ok (.iload_n 1, 1) := by decide +kernel
theorem dX5_cut_1 : decode cX5_cut 1 = .ok (.invokestatic 50, 3) := by decide +kernel
theorem dX5_cut_4 : decode cX5_cut 4 = .ok (.ifCond .eq 12, 3) := by decide +kernel
theorem dX5_cut_7 : decode cX5_cut 7 = .ok (.aload_n 0, 1) := by decide +kernel
theorem dX5_cut_8 : decode cX5_cut 8 = .ok (.getfield 13, 3) := by decide +kernel
theorem dX5_cut_11 : decode cX5_cut 11 = .ok (.iload_n 1, 1) := by decide +kernel
theorem dX5_cut_12 : decode cX5_cut 12 = .ok (.iaload, 1) := by decide +kernel
theorem dX5_cut_13 : decode cX5_cut 13 = .ok (.ifCond .ne 5, 3) := by decide +kernel
theorem dX5_cut_16 : decode cX5_cut 16 = .ok (.iconst (-1), 1) := by decide +kernel
theorem dX5_cut_17 : decode cX5_cut 17 = .ok (.ireturn, 1) := by decide +kernel
theorem dX5_cut_18 : decode cX5_cut 18 = .ok (.aload_n 0, 1) := by decide +kernel
theorem dX5_cut_19 : decode cX5_cut 19 = .ok (.getfield 13, 3) := by decide +kernel
theorem dX5_cut_22 : decode cX5_cut 22 = .ok (.iload_n 1, 1) := by decide +kernel
theorem dX5_cut_23 : decode cX5_cut 23 = .ok (.dup2, 1) := by decide +kernel
theorem dX5_cut_24 : decode cX5_cut 24 = .ok (.iaload, 1) := by decide +kernel
theorem dX5_cut_25 : decode cX5_cut 25 = .ok (.iconst 1, 1) := by decide +kernel
theorem dX5_cut_26 : decode cX5_cut 26 = .ok (.isub, 1) := by decide +kernel
theorem dX5_cut_27 : decode cX5_cut 27 = .ok (.iastore, 1) := by decide +kernel
theorem dX5_cut_28 : decode cX5_cut 28 = .ok (.aload_n 0, 1) := by decide +kernel
theorem dX5_cut_29 : decode cX5_cut 29 = .ok (.iconst 0, 1) := by decide +kernel
theorem dX5_cut_30 : decode cX5_cut 30 = .ok (.putfield 54, 3) := by decide +kernel
theorem dX5_cut_33 : decode cX5_cut 33 = .ok (.aload_n 0, 1) := by decide +kernel
theorem dX5_cut_34 : decode cX5_cut 34 = .ok (.getfield 7, 3) := by decide +kernel
theorem dX5_cut_37 : decode cX5_cut 37 = .ok (.bipush 48, 2) := by decide +kernel
theorem dX5_cut_39 : decode cX5_cut 39 = .ok (.iload_n 1, 1) := by decide +kernel
theorem dX5_cut_40 : decode cX5_cut 40 = .ok (.imul, 1) := by decide +kernel
theorem dX5_cut_41 : decode cX5_cut 41 = .ok (.aload_n 0, 1) := by decide +kernel
theorem dX5_cut_42 : decode cX5_cut 42 = .ok (.getfield 13, 3) := by decide +kernel
theorem dX5_cut_45 : decode cX5_cut 45 = .ok (.iload_n 1, 1) := by decide +kernel
theorem dX5_cut_46 : decode cX5_cut 46 = .ok (.iaload, 1) := by decide +kernel
theorem dX5_cut_47 : decode cX5_cut 47 = .ok (.iadd, 1) := by decide +kernel
theorem dX5_cut_48 : decode cX5_cut 48 = .ok (.iaload, 1) := by decide +kernel
theorem dX5_cut_49 : decode cX5_cut 49 = .ok (.ireturn, 1) := by decide +kernel
theorem dX5_letter_0 : decode cX5_letter 0 = .ok (.iload_n 1, 1) := by decide +kernel
theorem dX5_letter_1 : decode cX5_letter 1 = .ok (.invokestatic 50, 3) := by decide +kernel
theorem dX5_letter_4 : decode cX5_letter 4 = .ok (.ifCond .eq 31, 3) := by decide +kernel
theorem dX5_letter_7 : decode cX5_letter 7 = .ok (.iload_n 2, 1) := by decide +kernel
theorem dX5_letter_8 : decode cX5_letter 8 = .ok (.ifCond .lt 27, 3) := by decide +kernel
theorem dX5_letter_11 : decode cX5_letter 11 = .ok (.iload_n 2, 1) := by decide +kernel
theorem dX5_letter_12 : decode cX5_letter 12 = .ok (.aload_n 0, 1) := by decide +kernel
theorem dX5_letter_13 : decode cX5_letter 13 = .ok (.getfield 13, 3) := by decide +kernel
theorem dX5_letter_16 : decode cX5_letter 16 = .ok (.iload_n 1, 1) := by decide +kernel
theorem dX5_letter_17 : decode cX5_letter 17 = .ok (.iaload, 1) := by decide +kernel
theorem dX5_letter_18 : decode cX5_letter 18 = .ok (.if_icmp .ge 17, 3) := by decide +kernel
theorem dX5_letter_21 : decode cX5_letter 21 = .ok (.aload_n 0, 1) := by decide +kernel
theorem dX5_letter_22 : decode cX5_letter 22 = .ok (.getfield 7, 3) := by decide +kernel
theorem dX5_letter_25 : decode cX5_letter 25 = .ok (.bipush 48, 2) := by decide +kernel
theorem dX5_letter_27 : decode cX5_letter 27 = .ok (.iload_n 1, 1) := by decide +kernel
theorem dX5_letter_28 : decode cX5_letter 28 = .ok (.imul, 1) := by decide +kernel
theorem dX5_letter_29 : decode cX5_letter 29 = .ok (.iload_n 2, 1) := by decide +kernel
theorem dX5_letter_30 : decode cX5_letter 30 = .ok (.iadd, 1) := by decide +kernel
theorem dX5_letter_31 : decode cX5_letter 31 = .ok (.iaload, 1) := by decide +kernel
theorem dX5_letter_32 : decode cX5_letter 32 = .ok (.goto 4, 3) := by decide +kernel
theorem dX5_letter_35 : decode cX5_letter 35 = .ok (.iconst (-1), 1) := by decide +kernel
theorem dX5_letter_36 : decode cX5_letter 36 = .ok (.ireturn, 1) := by decide +kernel
theorem dX5_seeds_0 : decode cX5_seeds 0 = .ok (.iload_n 1, 1) := by decide +kernel
theorem dX5_seeds_1 : decode cX5_seeds 1 = .ok (.iconst 1, 1) := by decide +kernel
theorem dX5_seeds_2 : decode cX5_seeds 2 = .ok (.if_icmp .lt 9, 3) := by decide +kernel
theorem dX5_seeds_5 : decode cX5_seeds 5 = .ok (.iload_n 1, 1) := by decide +kernel
theorem dX5_seeds_6 : decode cX5_seeds 6 = .ok (.bipush 6, 2) := by decide +kernel
theorem dX5_seeds_8 : decode cX5_seeds 8 = .ok (.if_icmp .le 5, 3) := by decide +kernel
theorem dX5_seeds_11 : decode cX5_seeds 11 = .ok (.iconst 0, 1) := by decide +kernel
theorem dX5_seeds_12 : decode cX5_seeds 12 = .ok (.ireturn, 1) := by decide +kernel
theorem dX5_seeds_13 : decode cX5_seeds 13 = .ok (.aload_n 0, 1) := by decide +kernel
theorem dX5_seeds_14 : decode cX5_seeds 14 = .ok (.iload_n 1, 1) := by decide +kernel
theorem dX5_seeds_15 : decode cX5_seeds 15 = .ok (.putfield 16, 3) := by decide +kernel
theorem dX5_seeds_18 : decode cX5_seeds 18 = .ok (.aload_n 0, 1) := by decide +kernel
theorem dX5_seeds_19 : decode cX5_seeds 19 = .ok (.iconst 0, 1) := by decide +kernel
theorem dX5_seeds_20 : decode cX5_seeds 20 = .ok (.putfield 54, 3) := by decide +kernel
theorem dX5_seeds_23 : decode cX5_seeds 23 = .ok (.iconst 1, 1) := by decide +kernel
theorem dX5_seeds_24 : decode cX5_seeds 24 = .ok (.ireturn, 1) := by decide +kernel
theorem dX5_penalty_0 : decode cX5_penalty 0 = .ok (.iload_n 1, 1) := by decide +kernel
theorem dX5_penalty_1 : decode cX5_penalty 1 = .ok (.ifCond .lt 9, 3) := by decide +kernel
theorem dX5_penalty_4 : decode cX5_penalty 4 = .ok (.iload_n 1, 1) := by decide +kernel
theorem dX5_penalty_5 : decode cX5_penalty 5 = .ok (.bipush 9, 2) := by decide +kernel
theorem dX5_penalty_7 : decode cX5_penalty 7 = .ok (.if_icmp .le 5, 3) := by decide +kernel
theorem dX5_penalty_10 : decode cX5_penalty 10 = .ok (.iconst 0, 1) := by decide +kernel
theorem dX5_penalty_11 : decode cX5_penalty 11 = .ok (.ireturn, 1) := by decide +kernel
theorem dX5_penalty_12 : decode cX5_penalty 12 = .ok (.aload_n 0, 1) := by decide +kernel
theorem dX5_penalty_13 : decode cX5_penalty 13 = .ok (.iload_n 1, 1) := by decide +kernel
theorem dX5_penalty_14 : decode cX5_penalty 14 = .ok (.putfield 20, 3) := by decide +kernel
theorem dX5_penalty_17 : decode cX5_penalty 17 = .ok (.aload_n 0, 1) := by decide +kernel
theorem dX5_penalty_18 : decode cX5_penalty 18 = .ok (.iconst 0, 1) := by decide +kernel
theorem dX5_penalty_19 : decode cX5_penalty 19 = .ok (.putfield 54, 3) := by decide +kernel
theorem dX5_penalty_22 : decode cX5_penalty 22 = .ok (.iconst 1, 1) := by decide +kernel
theorem dX5_penalty_23 : decode cX5_penalty 23 = .ok (.ireturn, 1) := by decide +kernel
theorem dX5_scores_0 : decode cX5_scores 0 = .ok (.iload_n 1, 1) := by decide +kernel
theorem dX5_scores_1 : decode cX5_scores 1 = .ok (.iconst 1, 1) := by decide +kernel
theorem dX5_scores_2 : decode cX5_scores 2 = .ok (.if_icmp .lt 42, 3) := by decide +kernel
theorem dX5_scores_5 : decode cX5_scores 5 = .ok (.iload_n 1, 1) := by decide +kernel
theorem dX5_scores_6 : decode cX5_scores 6 = .ok (.bipush 9, 2) := by decide +kernel
theorem dX5_scores_8 : decode cX5_scores 8 = .ok (.if_icmp .gt 36, 3) := by decide +kernel
theorem dX5_scores_11 : decode cX5_scores 11 = .ok (.iload_n 2, 1) := by decide +kernel
theorem dX5_scores_12 : decode cX5_scores 12 = .ok (.ifCond .lt 32, 3) := by decide +kernel
theorem dX5_scores_15 : decode cX5_scores 15 = .ok (.iload_n 2, 1) := by decide +kernel
theorem dX5_scores_16 : decode cX5_scores 16 = .ok (.bipush 9, 2) := by decide +kernel
theorem dX5_scores_18 : decode cX5_scores 18 = .ok (.if_icmp .gt 26, 3) := by decide +kernel
theorem dX5_scores_21 : decode cX5_scores 21 = .ok (.iload_n 3, 1) := by decide +kernel
theorem dX5_scores_22 : decode cX5_scores 22 = .ok (.iconst 1, 1) := by decide +kernel
theorem dX5_scores_23 : decode cX5_scores 23 = .ok (.if_icmp .lt 21, 3) := by decide +kernel
theorem dX5_scores_26 : decode cX5_scores 26 = .ok (.iload_n 3, 1) := by decide +kernel
theorem dX5_scores_27 : decode cX5_scores 27 = .ok (.bipush 9, 2) := by decide +kernel
theorem dX5_scores_29 : decode cX5_scores 29 = .ok (.if_icmp .gt 15, 3) := by decide +kernel
theorem dX5_scores_32 : decode cX5_scores 32 = .ok (.iload 4, 2) := by decide +kernel
theorem dX5_scores_34 : decode cX5_scores 34 = .ok (.ifCond .lt 10, 3) := by decide +kernel
theorem dX5_scores_37 : decode cX5_scores 37 = .ok (.iload 4, 2) := by decide +kernel
theorem dX5_scores_39 : decode cX5_scores 39 = .ok (.bipush 99, 2) := by decide +kernel
theorem dX5_scores_41 : decode cX5_scores 41 = .ok (.if_icmp .le 5, 3) := by decide +kernel
theorem dX5_scores_44 : decode cX5_scores 44 = .ok (.iconst 0, 1) := by decide +kernel
theorem dX5_scores_45 : decode cX5_scores 45 = .ok (.ireturn, 1) := by decide +kernel
theorem dX5_scores_46 : decode cX5_scores 46 = .ok (.aload_n 0, 1) := by decide +kernel
theorem dX5_scores_47 : decode cX5_scores 47 = .ok (.iload_n 1, 1) := by decide +kernel
theorem dX5_scores_48 : decode cX5_scores 48 = .ok (.putfield 23, 3) := by decide +kernel
theorem dX5_scores_51 : decode cX5_scores 51 = .ok (.aload_n 0, 1) := by decide +kernel
theorem dX5_scores_52 : decode cX5_scores 52 = .ok (.iload_n 2, 1) := by decide +kernel
theorem dX5_scores_53 : decode cX5_scores 53 = .ok (.putfield 26, 3) := by decide +kernel
theorem dX5_scores_56 : decode cX5_scores 56 = .ok (.aload_n 0, 1) := by decide +kernel
theorem dX5_scores_57 : decode cX5_scores 57 = .ok (.iload_n 3, 1) := by decide +kernel
theorem dX5_scores_58 : decode cX5_scores 58 = .ok (.putfield 29, 3) := by decide +kernel
theorem dX5_scores_61 : decode cX5_scores 61 = .ok (.aload_n 0, 1) := by decide +kernel
theorem dX5_scores_62 : decode cX5_scores 62 = .ok (.iload 4, 2) := by decide +kernel
theorem dX5_scores_64 : decode cX5_scores 64 = .ok (.putfield 32, 3) := by decide +kernel
theorem dX5_scores_67 : decode cX5_scores 67 = .ok (.iconst 1, 1) := by decide +kernel
theorem dX5_scores_68 : decode cX5_scores 68 = .ok (.ireturn, 1) := by decide +kernel
theorem dX5_anchors_0 : decode cX5_anchors 0 = .ok (.aload_n 0, 1) := by decide +kernel
theorem dX5_anchors_1 : decode cX5_anchors 1 = .ok (.invokevirtual 75, 3) := by decide +kernel
theorem dX5_anchors_4 : decode cX5_anchors 4 = .ok (.aload_n 0, 1) := by decide +kernel
theorem dX5_anchors_5 : decode cX5_anchors 5 = .ok (.getfield 58, 3) := by decide +kernel
theorem dX5_anchors_8 : decode cX5_anchors 8 = .ok (.ireturn, 1) := by decide +kernel
theorem dX5_learn_0 : decode cX5_learn 0 = .ok (.aload_n 0, 1) := by decide +kernel
theorem dX5_learn_1 : decode cX5_learn 1 = .ok (.getfield 54, 3) := by decide +kernel
theorem dX5_learn_4 : decode cX5_learn 4 = .ok (.ifCond .eq 4, 3) := by decide +kernel
theorem dX5_learn_7 : decode cX5_learn 7 = .ok (.return_, 1) := by decide +kernel
theorem dX5_learn_8 : decode cX5_learn 8 = .ok (.aload_n 0, 1) := by decide +kernel
theorem dX5_learn_9 : decode cX5_learn 9 = .ok (.iconst 1, 1) := by decide +kernel
theorem dX5_learn_10 : decode cX5_learn 10 = .ok (.putfield 54, 3) := by decide +kernel
theorem dX5_learn_13 : decode cX5_learn 13 = .ok (.aload_n 0, 1) := by decide +kernel
theorem dX5_learn_14 : decode cX5_learn 14 = .ok (.iconst 0, 1) := by decide +kernel
theorem dX5_learn_15 : decode cX5_learn 15 = .ok (.putfield 58, 3) := by decide +kernel
theorem dX5_learn_18 : decode cX5_learn 18 = .ok (.iconst 0, 1) := by decide +kernel
theorem dX5_learn_19 : decode cX5_learn 19 = .ok (.istore_n 1, 1) := by decide +kernel
theorem dX5_learn_20 : decode cX5_learn 20 = .ok (.iload_n 1, 1) := by decide +kernel
theorem dX5_learn_21 : decode cX5_learn 21 = .ok (.aload_n 0, 1) := by decide +kernel
theorem dX5_learn_22 : decode cX5_learn 22 = .ok (.getfield 13, 3) := by decide +kernel
theorem dX5_learn_25 : decode cX5_learn 25 = .ok (.iconst 0, 1) := by decide +kernel
theorem dX5_learn_26 : decode cX5_learn 26 = .ok (.iaload, 1) := by decide +kernel
theorem dX5_learn_27 : decode cX5_learn 27 = .ok (.if_icmp .ge 66, 3) := by decide +kernel
theorem dX5_learn_30 : decode cX5_learn 30 = .ok (.iconst 0, 1) := by decide +kernel
theorem dX5_learn_31 : decode cX5_learn 31 = .ok (.istore_n 2, 1) := by decide +kernel
theorem dX5_learn_32 : decode cX5_learn 32 = .ok (.iload_n 2, 1) := by decide +kernel
theorem dX5_learn_33 : decode cX5_learn 33 = .ok (.aload_n 0, 1) := by decide +kernel
theorem dX5_learn_34 : decode cX5_learn 34 = .ok (.getfield 13, 3) := by decide +kernel
theorem dX5_learn_37 : decode cX5_learn 37 = .ok (.iconst 1, 1) := by decide +kernel
theorem dX5_learn_38 : decode cX5_learn 38 = .ok (.iaload, 1) := by decide +kernel
theorem dX5_learn_39 : decode cX5_learn 39 = .ok (.if_icmp .ge 48, 3) := by decide +kernel
theorem dX5_learn_42 : decode cX5_learn 42 = .ok (.aload_n 0, 1) := by decide +kernel
theorem dX5_learn_43 : decode cX5_learn 43 = .ok (.iload_n 1, 1) := by decide +kernel
theorem dX5_learn_44 : decode cX5_learn 44 = .ok (.iload_n 2, 1) := by decide +kernel
theorem dX5_learn_45 : decode cX5_learn 45 = .ok (.invokevirtual 61, 3) := by decide +kernel
theorem dX5_learn_48 : decode cX5_learn 48 = .ok (.ifCond .eq 33, 3) := by decide +kernel
theorem dX5_learn_51 : decode cX5_learn 51 = .ok (.aload_n 0, 1) := by decide +kernel
theorem dX5_learn_52 : decode cX5_learn 52 = .ok (.getfield 35, 3) := by decide +kernel
theorem dX5_learn_55 : decode cX5_learn 55 = .ok (.aload_n 0, 1) := by decide +kernel
theorem dX5_learn_56 : decode cX5_learn 56 = .ok (.getfield 58, 3) := by decide +kernel
theorem dX5_learn_59 : decode cX5_learn 59 = .ok (.iload_n 1, 1) := by decide +kernel
theorem dX5_learn_60 : decode cX5_learn 60 = .ok (.iastore, 1) := by decide +kernel
theorem dX5_learn_61 : decode cX5_learn 61 = .ok (.aload_n 0, 1) := by decide +kernel
theorem dX5_learn_62 : decode cX5_learn 62 = .ok (.getfield 38, 3) := by decide +kernel
theorem dX5_learn_65 : decode cX5_learn 65 = .ok (.aload_n 0, 1) := by decide +kernel
theorem dX5_learn_66 : decode cX5_learn 66 = .ok (.getfield 58, 3) := by decide +kernel
theorem dX5_learn_69 : decode cX5_learn 69 = .ok (.iload_n 2, 1) := by decide +kernel
theorem dX5_learn_70 : decode cX5_learn 70 = .ok (.iastore, 1) := by decide +kernel
theorem dX5_learn_71 : decode cX5_learn 71 = .ok (.aload_n 0, 1) := by decide +kernel
theorem dX5_learn_72 : decode cX5_learn 72 = .ok (.dup, 1) := by decide +kernel
theorem dX5_learn_73 : decode cX5_learn 73 = .ok (.getfield 58, 3) := by decide +kernel
theorem dX5_learn_76 : decode cX5_learn 76 = .ok (.iconst 1, 1) := by decide +kernel
theorem dX5_learn_77 : decode cX5_learn 77 = .ok (.iadd, 1) := by decide +kernel
theorem dX5_learn_78 : decode cX5_learn 78 = .ok (.putfield 58, 3) := by decide +kernel
theorem dX5_learn_81 : decode cX5_learn 81 = .ok (.iinc 2 1, 3) := by decide +kernel
theorem dX5_learn_84 : decode cX5_learn 84 = .ok (.goto (-52), 3) := by decide +kernel
theorem dX5_learn_87 : decode cX5_learn 87 = .ok (.iinc 1 1, 3) := by decide +kernel
theorem dX5_learn_90 : decode cX5_learn 90 = .ok (.goto (-70), 3) := by decide +kernel
theorem dX5_learn_93 : decode cX5_learn 93 = .ok (.aload_n 0, 1) := by decide +kernel
theorem dX5_learn_94 : decode cX5_learn 94 = .ok (.iconst 0, 1) := by decide +kernel
theorem dX5_learn_95 : decode cX5_learn 95 = .ok (.putfield 65, 3) := by decide +kernel
theorem dX5_learn_98 : decode cX5_learn 98 = .ok (.aload_n 0, 1) := by decide +kernel
theorem dX5_learn_99 : decode cX5_learn 99 = .ok (.getfield 58, 3) := by decide +kernel
theorem dX5_learn_102 : decode cX5_learn 102 = .ok (.iconst 1, 1) := by decide +kernel
theorem dX5_learn_103 : decode cX5_learn 103 = .ok (.isub, 1) := by decide +kernel
theorem dX5_learn_104 : decode cX5_learn 104 = .ok (.istore_n 1, 1) := by decide +kernel
theorem dX5_learn_105 : decode cX5_learn 105 = .ok (.iload_n 1, 1) := by decide +kernel
theorem dX5_learn_106 : decode cX5_learn 106 = .ok (.ifCond .lt 120, 3) := by decide +kernel
theorem dX5_learn_109 : decode cX5_learn 109 = .ok (.iconst 0, 1) := by decide +kernel
theorem dX5_learn_110 : decode cX5_learn 110 = .ok (.istore_n 2, 1) := by decide +kernel
theorem dX5_learn_111 : decode cX5_learn 111 = .ok (.iload_n 1, 1) := by decide +kernel
theorem dX5_learn_112 : decode cX5_learn 112 = .ok (.iconst 1, 1) := by decide +kernel
theorem dX5_learn_113 : decode cX5_learn 113 = .ok (.iadd, 1) := by decide +kernel
theorem dX5_learn_114 : decode cX5_learn 114 = .ok (.istore_n 3, 1) := by decide +kernel
theorem dX5_learn_115 : decode cX5_learn 115 = .ok (.iload_n 3, 1) := by decide +kernel
theorem dX5_learn_116 : decode cX5_learn 116 = .ok (.aload_n 0, 1) := by decide +kernel
theorem dX5_learn_117 : decode cX5_learn 117 = .ok (.getfield 58, 3) := by decide +kernel
theorem dX5_learn_120 : decode cX5_learn 120 = .ok (.if_icmp .ge 55, 3) := by decide +kernel
theorem dX5_learn_123 : decode cX5_learn 123 = .ok (.aload_n 0, 1) := by decide +kernel
theorem dX5_learn_124 : decode cX5_learn 124 = .ok (.iload_n 1, 1) := by decide +kernel
theorem dX5_learn_125 : decode cX5_learn 125 = .ok (.iload_n 3, 1) := by decide +kernel
theorem dX5_learn_126 : decode cX5_learn 126 = .ok (.invokevirtual 68, 3) := by decide +kernel
theorem dX5_learn_129 : decode cX5_learn 129 = .ok (.istore 4, 2) := by decide +kernel
theorem dX5_learn_131 : decode cX5_learn 131 = .ok (.iload 4, 2) := by decide +kernel
theorem dX5_learn_133 : decode cX5_learn 133 = .ok (.ifCond .ge 7, 3) := by decide +kernel
theorem dX5_learn_136 : decode cX5_learn 136 = .ok (.iconst 0, 1) := by decide +kernel
theorem dX5_learn_137 : decode cX5_learn 137 = .ok (.goto 17, 3) := by decide +kernel
theorem dX5_learn_140 : decode cX5_learn 140 = .ok (.aload_n 0, 1) := by decide +kernel
theorem dX5_learn_141 : decode cX5_learn 141 = .ok (.getfield 41, 3) := by decide +kernel
theorem dX5_learn_144 : decode cX5_learn 144 = .ok (.iload_n 3, 1) := by decide +kernel
theorem dX5_learn_145 : decode cX5_learn 145 = .ok (.iaload, 1) := by decide +kernel
theorem dX5_learn_146 : decode cX5_learn 146 = .ok (.aload_n 0, 1) := by decide +kernel
theorem dX5_learn_147 : decode cX5_learn 147 = .ok (.getfield 20, 3) := by decide +kernel
theorem dX5_learn_150 : decode cX5_learn 150 = .ok (.iload 4, 2) := by decide +kernel
theorem dX5_learn_152 : decode cX5_learn 152 = .ok (.imul, 1) := by decide +kernel
theorem dX5_learn_153 : decode cX5_learn 153 = .ok (.isub, 1) := by decide +kernel
theorem dX5_learn_154 : decode cX5_learn 154 = .ok (.istore 5, 2) := by decide +kernel
theorem dX5_learn_156 : decode cX5_learn 156 = .ok (.iload 5, 2) := by decide +kernel
theorem dX5_learn_158 : decode cX5_learn 158 = .ok (.iload_n 2, 1) := by decide +kernel
theorem dX5_learn_159 : decode cX5_learn 159 = .ok (.if_icmp .le 8, 3) := by decide +kernel
theorem dX5_learn_162 : decode cX5_learn 162 = .ok (.iload 5, 2) := by decide +kernel
theorem dX5_learn_164 : decode cX5_learn 164 = .ok (.goto 4, 3) := by decide +kernel
theorem dX5_learn_167 : decode cX5_learn 167 = .ok (.iload_n 2, 1) := by decide +kernel
theorem dX5_learn_168 : decode cX5_learn 168 = .ok (.istore_n 2, 1) := by decide +kernel
theorem dX5_learn_169 : decode cX5_learn 169 = .ok (.iinc 3 1, 3) := by decide +kernel
theorem dX5_learn_172 : decode cX5_learn 172 = .ok (.goto (-57), 3) := by decide +kernel
theorem dX5_learn_175 : decode cX5_learn 175 = .ok (.aload_n 0, 1) := by decide +kernel
theorem dX5_learn_176 : decode cX5_learn 176 = .ok (.getfield 41, 3) := by decide +kernel
theorem dX5_learn_179 : decode cX5_learn 179 = .ok (.iload_n 1, 1) := by decide +kernel
theorem dX5_learn_180 : decode cX5_learn 180 = .ok (.bipush 10, 2) := by decide +kernel
theorem dX5_learn_182 : decode cX5_learn 182 = .ok (.aload_n 0, 1) := by decide +kernel
theorem dX5_learn_183 : decode cX5_learn 183 = .ok (.getfield 16, 3) := by decide +kernel
theorem dX5_learn_186 : decode cX5_learn 186 = .ok (.imul, 1) := by decide +kernel
theorem dX5_learn_187 : decode cX5_learn 187 = .ok (.iload_n 2, 1) := by decide +kernel
theorem dX5_learn_188 : decode cX5_learn 188 = .ok (.iadd, 1) := by decide +kernel
theorem dX5_learn_189 : decode cX5_learn 189 = .ok (.iastore, 1) := by decide +kernel
theorem dX5_learn_190 : decode cX5_learn 190 = .ok (.aload_n 0, 1) := by decide +kernel
theorem dX5_learn_191 : decode cX5_learn 191 = .ok (.aload_n 0, 1) := by decide +kernel
theorem dX5_learn_192 : decode cX5_learn 192 = .ok (.getfield 41, 3) := by decide +kernel
theorem dX5_learn_195 : decode cX5_learn 195 = .ok (.iload_n 1, 1) := by decide +kernel
theorem dX5_learn_196 : decode cX5_learn 196 = .ok (.iaload, 1) := by decide +kernel
theorem dX5_learn_197 : decode cX5_learn 197 = .ok (.aload_n 0, 1) := by decide +kernel
theorem dX5_learn_198 : decode cX5_learn 198 = .ok (.getfield 65, 3) := by decide +kernel
theorem dX5_learn_201 : decode cX5_learn 201 = .ok (.if_icmp .le 12, 3) := by decide +kernel
theorem dX5_learn_204 : decode cX5_learn 204 = .ok (.aload_n 0, 1) := by decide +kernel
theorem dX5_learn_205 : decode cX5_learn 205 = .ok (.getfield 41, 3) := by decide +kernel
theorem dX5_learn_208 : decode cX5_learn 208 = .ok (.iload_n 1, 1) := by decide +kernel
theorem dX5_learn_209 : decode cX5_learn 209 = .ok (.iaload, 1) := by decide +kernel
theorem dX5_learn_210 : decode cX5_learn 210 = .ok (.goto 7, 3) := by decide +kernel
theorem dX5_learn_213 : decode cX5_learn 213 = .ok (.aload_n 0, 1) := by decide +kernel
theorem dX5_learn_214 : decode cX5_learn 214 = .ok (.getfield 65, 3) := by decide +kernel
theorem dX5_learn_217 : decode cX5_learn 217 = .ok (.putfield 65, 3) := by decide +kernel
theorem dX5_learn_220 : decode cX5_learn 220 = .ok (.iinc 1 (-1), 3) := by decide +kernel
theorem dX5_learn_223 : decode cX5_learn 223 = .ok (.goto (-118), 3) := by decide +kernel
theorem dX5_learn_226 : decode cX5_learn 226 = .ok (.aload_n 0, 1) := by decide +kernel
theorem dX5_learn_227 : decode cX5_learn 227 = .ok (.iconst 0, 1) := by decide +kernel
theorem dX5_learn_228 : decode cX5_learn 228 = .ok (.putfield 72, 3) := by decide +kernel
theorem dX5_learn_231 : decode cX5_learn 231 = .ok (.aload_n 0, 1) := by decide +kernel
theorem dX5_learn_232 : decode cX5_learn 232 = .ok (.getfield 65, 3) := by decide +kernel
theorem dX5_learn_235 : decode cX5_learn 235 = .ok (.istore_n 1, 1) := by decide +kernel
theorem dX5_learn_236 : decode cX5_learn 236 = .ok (.iconst (-1), 1) := by decide +kernel
theorem dX5_learn_237 : decode cX5_learn 237 = .ok (.istore_n 2, 1) := by decide +kernel
theorem dX5_learn_238 : decode cX5_learn 238 = .ok (.iconst 0, 1) := by decide +kernel
theorem dX5_learn_239 : decode cX5_learn 239 = .ok (.istore_n 3, 1) := by decide +kernel
theorem dX5_learn_240 : decode cX5_learn 240 = .ok (.iload_n 1, 1) := by decide +kernel
theorem dX5_learn_241 : decode cX5_learn 241 = .ok (.ifCond .le 85, 3) := by decide +kernel
theorem dX5_learn_244 : decode cX5_learn 244 = .ok (.iload_n 2, 1) := by decide +kernel
theorem dX5_learn_245 : decode cX5_learn 245 = .ok (.ifCond .ge 7, 3) := by decide +kernel
theorem dX5_learn_248 : decode cX5_learn 248 = .ok (.iconst 0, 1) := by decide +kernel
theorem dX5_learn_249 : decode cX5_learn 249 = .ok (.goto 9, 3) := by decide +kernel
theorem dX5_learn_252 : decode cX5_learn 252 = .ok (.aload_n 0, 1) := by decide +kernel
theorem dX5_learn_253 : decode cX5_learn 253 = .ok (.iload_n 2, 1) := by decide +kernel
theorem dX5_learn_254 : decode cX5_learn 254 = .ok (.iload_n 3, 1) := by decide +kernel
theorem dX5_learn_255 : decode cX5_learn 255 = .ok (.invokevirtual 68, 3) := by decide +kernel
theorem dX5_learn_258 : decode cX5_learn 258 = .ok (.istore 4, 2) := by decide +kernel
theorem dX5_learn_260 : decode cX5_learn 260 = .ok (.iload 4, 2) := by decide +kernel
theorem dX5_learn_262 : decode cX5_learn 262 = .ok (.ifCond .lt 58, 3) := by decide +kernel
theorem dX5_learn_265 : decode cX5_learn 265 = .ok (.aload_n 0, 1) := by decide +kernel
theorem dX5_learn_266 : decode cX5_learn 266 = .ok (.getfield 41, 3) := by decide +kernel
theorem dX5_learn_269 : decode cX5_learn 269 = .ok (.iload_n 3, 1) := by decide +kernel
theorem dX5_learn_270 : decode cX5_learn 270 = .ok (.iaload, 1) := by decide +kernel
theorem dX5_learn_271 : decode cX5_learn 271 = .ok (.aload_n 0, 1) := by decide +kernel
theorem dX5_learn_272 : decode cX5_learn 272 = .ok (.getfield 20, 3) := by decide +kernel
theorem dX5_learn_275 : decode cX5_learn 275 = .ok (.iload 4, 2) := by decide +kernel
theorem dX5_learn_277 : decode cX5_learn 277 = .ok (.imul, 1) := by decide +kernel
theorem dX5_learn_278 : decode cX5_learn 278 = .ok (.isub, 1) := by decide +kernel
theorem dX5_learn_279 : decode cX5_learn 279 = .ok (.iload_n 1, 1) := by decide +kernel
theorem dX5_learn_280 : decode cX5_learn 280 = .ok (.if_icmp .ne 40, 3) := by decide +kernel
theorem dX5_learn_283 : decode cX5_learn 283 = .ok (.aload_n 0, 1) := by decide +kernel
theorem dX5_learn_284 : decode cX5_learn 284 = .ok (.getfield 44, 3) := by decide +kernel
theorem dX5_learn_287 : decode cX5_learn 287 = .ok (.aload_n 0, 1) := by decide +kernel
theorem dX5_learn_288 : decode cX5_learn 288 = .ok (.getfield 72, 3) := by decide +kernel
theorem dX5_learn_291 : decode cX5_learn 291 = .ok (.iload_n 3, 1) := by decide +kernel
theorem dX5_learn_292 : decode cX5_learn 292 = .ok (.iastore, 1) := by decide +kernel
end
section
theorem dX5_learn_293 : decode cX5_learn 293 = .ok (.aload_n 0, 1) := by decide +kernel
theorem dX5_learn_294 : decode cX5_learn 294 = .ok (.dup, 1) := by decide +kernel
theorem dX5_learn_295 : decode cX5_learn 295 = .ok (.getfield 72, 3) := by decide +kernel
theorem dX5_learn_298 : decode cX5_learn 298 = .ok (.iconst 1, 1) := by decide +kernel
theorem dX5_learn_299 : decode cX5_learn 299 = .ok (.iadd, 1) := by decide +kernel
theorem dX5_learn_300 : decode cX5_learn 300 = .ok (.putfield 72, 3) := by decide +kernel
theorem dX5_learn_303 : decode cX5_learn 303 = .ok (.aload_n 0, 1) := by decide +kernel
theorem dX5_learn_304 : decode cX5_learn 304 = .ok (.getfield 41, 3) := by decide +kernel
theorem dX5_learn_307 : decode cX5_learn 307 = .ok (.iload_n 3, 1) := by decide +kernel
theorem dX5_learn_308 : decode cX5_learn 308 = .ok (.iaload, 1) := by decide +kernel
theorem dX5_learn_309 : decode cX5_learn 309 = .ok (.bipush 10, 2) := by decide +kernel
theorem dX5_learn_311 : decode cX5_learn 311 = .ok (.aload_n 0, 1) := by decide +kernel
theorem dX5_learn_312 : decode cX5_learn 312 = .ok (.getfield 16, 3) := by decide +kernel
theorem dX5_learn_315 : decode cX5_learn 315 = .ok (.imul, 1) := by decide +kernel
theorem dX5_learn_316 : decode cX5_learn 316 = .ok (.isub, 1) := by decide +kernel
theorem dX5_learn_317 : decode cX5_learn 317 = .ok (.istore_n 1, 1) := by decide +kernel
theorem dX5_learn_318 : decode cX5_learn 318 = .ok (.iload_n 3, 1) := by decide +kernel
theorem dX5_learn_319 : decode cX5_learn 319 = .ok (.istore_n 2, 1) := by decide +kernel
theorem dX5_learn_320 : decode cX5_learn 320 = .ok (.iinc 3 1, 3) := by decide +kernel
theorem dX5_learn_323 : decode cX5_learn 323 = .ok (.goto (-83), 3) := by decide +kernel
theorem dX5_learn_326 : decode cX5_learn 326 = .ok (.return_, 1) := by decide +kernel
theorem dX5_isAnchor_0 : decode cX5_isAnchor 0 = .ok (.iload_n 1, 1) := by decide +kernel
theorem dX5_isAnchor_1 : decode cX5_isAnchor 1 = .ok (.aload_n 0, 1) := by decide +kernel
theorem dX5_isAnchor_2 : decode cX5_isAnchor 2 = .ok (.getfield 16, 3) := by decide +kernel
theorem dX5_isAnchor_5 : decode cX5_isAnchor 5 = .ok (.iadd, 1) := by decide +kernel
theorem dX5_isAnchor_6 : decode cX5_isAnchor 6 = .ok (.aload_n 0, 1) := by decide +kernel
theorem dX5_isAnchor_7 : decode cX5_isAnchor 7 = .ok (.getfield 13, 3) := by decide +kernel
theorem dX5_isAnchor_10 : decode cX5_isAnchor 10 = .ok (.iconst 0, 1) := by decide +kernel
theorem dX5_isAnchor_11 : decode cX5_isAnchor 11 = .ok (.iaload, 1) := by decide +kernel
theorem dX5_isAnchor_12 : decode cX5_isAnchor 12 = .ok (.if_icmp .gt 22, 3) := by decide +kernel
theorem dX5_isAnchor_15 : decode cX5_isAnchor 15 = .ok (.iload_n 2, 1) := by decide +kernel
theorem dX5_isAnchor_16 : decode cX5_isAnchor 16 = .ok (.aload_n 0, 1) := by decide +kernel
theorem dX5_isAnchor_17 : decode cX5_isAnchor 17 = .ok (.getfield 16, 3) := by decide +kernel
theorem dX5_isAnchor_20 : decode cX5_isAnchor 20 = .ok (.iadd, 1) := by decide +kernel
theorem dX5_isAnchor_21 : decode cX5_isAnchor 21 = .ok (.aload_n 0, 1) := by decide +kernel
theorem dX5_isAnchor_22 : decode cX5_isAnchor 22 = .ok (.getfield 13, 3) := by decide +kernel
theorem dX5_isAnchor_25 : decode cX5_isAnchor 25 = .ok (.iconst 1, 1) := by decide +kernel
theorem dX5_isAnchor_26 : decode cX5_isAnchor 26 = .ok (.iaload, 1) := by decide +kernel
theorem dX5_isAnchor_27 : decode cX5_isAnchor 27 = .ok (.if_icmp .gt 7, 3) := by decide +kernel
theorem dX5_isAnchor_30 : decode cX5_isAnchor 30 = .ok (.iconst 1, 1) := by decide +kernel
theorem dX5_isAnchor_31 : decode cX5_isAnchor 31 = .ok (.goto 4, 3) := by decide +kernel
theorem dX5_isAnchor_34 : decode cX5_isAnchor 34 = .ok (.iconst 0, 1) := by decide +kernel
theorem dX5_isAnchor_35 : decode cX5_isAnchor 35 = .ok (.istore_n 3, 1) := by decide +kernel
theorem dX5_isAnchor_36 : decode cX5_isAnchor 36 = .ok (.iconst 0, 1) := by decide +kernel
theorem dX5_isAnchor_37 : decode cX5_isAnchor 37 = .ok (.istore 4, 2) := by decide +kernel
theorem dX5_isAnchor_39 : decode cX5_isAnchor 39 = .ok (.iload 4, 2) := by decide +kernel
theorem dX5_isAnchor_41 : decode cX5_isAnchor 41 = .ok (.aload_n 0, 1) := by decide +kernel
theorem dX5_isAnchor_42 : decode cX5_isAnchor 42 = .ok (.getfield 16, 3) := by decide +kernel
theorem dX5_isAnchor_45 : decode cX5_isAnchor 45 = .ok (.if_icmp .ge 43, 3) := by decide +kernel
theorem dX5_isAnchor_48 : decode cX5_isAnchor 48 = .ok (.iload_n 3, 1) := by decide +kernel
theorem dX5_isAnchor_49 : decode cX5_isAnchor 49 = .ok (.ifCond .eq 39, 3) := by decide +kernel
theorem dX5_isAnchor_52 : decode cX5_isAnchor 52 = .ok (.aload_n 0, 1) := by decide +kernel
theorem dX5_isAnchor_53 : decode cX5_isAnchor 53 = .ok (.getfield 7, 3) := by decide +kernel
theorem dX5_isAnchor_56 : decode cX5_isAnchor 56 = .ok (.iload_n 1, 1) := by decide +kernel
theorem dX5_isAnchor_57 : decode cX5_isAnchor 57 = .ok (.iload 4, 2) := by decide +kernel
theorem dX5_isAnchor_59 : decode cX5_isAnchor 59 = .ok (.iadd, 1) := by decide +kernel
theorem dX5_isAnchor_60 : decode cX5_isAnchor 60 = .ok (.iaload, 1) := by decide +kernel
theorem dX5_isAnchor_61 : decode cX5_isAnchor 61 = .ok (.aload_n 0, 1) := by decide +kernel
theorem dX5_isAnchor_62 : decode cX5_isAnchor 62 = .ok (.getfield 7, 3) := by decide +kernel
theorem dX5_isAnchor_65 : decode cX5_isAnchor 65 = .ok (.bipush 48, 2) := by decide +kernel
theorem dX5_isAnchor_67 : decode cX5_isAnchor 67 = .ok (.iload_n 2, 1) := by decide +kernel
theorem dX5_isAnchor_68 : decode cX5_isAnchor 68 = .ok (.iadd, 1) := by decide +kernel
theorem dX5_isAnchor_69 : decode cX5_isAnchor 69 = .ok (.iload 4, 2) := by decide +kernel
theorem dX5_isAnchor_71 : decode cX5_isAnchor 71 = .ok (.iadd, 1) := by decide +kernel
theorem dX5_isAnchor_72 : decode cX5_isAnchor 72 = .ok (.iaload, 1) := by decide +kernel
theorem dX5_isAnchor_73 : decode cX5_isAnchor 73 = .ok (.if_icmp .ne 7, 3) := by decide +kernel
theorem dX5_isAnchor_76 : decode cX5_isAnchor 76 = .ok (.iconst 1, 1) := by decide +kernel
theorem dX5_isAnchor_77 : decode cX5_isAnchor 77 = .ok (.goto 4, 3) := by decide +kernel
theorem dX5_isAnchor_80 : decode cX5_isAnchor 80 = .ok (.iconst 0, 1) := by decide +kernel
theorem dX5_isAnchor_81 : decode cX5_isAnchor 81 = .ok (.istore_n 3, 1) := by decide +kernel
theorem dX5_isAnchor_82 : decode cX5_isAnchor 82 = .ok (.iinc 4 1, 3) := by decide +kernel
theorem dX5_isAnchor_85 : decode cX5_isAnchor 85 = .ok (.goto (-46), 3) := by decide +kernel
theorem dX5_isAnchor_88 : decode cX5_isAnchor 88 = .ok (.iload_n 3, 1) := by decide +kernel
theorem dX5_isAnchor_89 : decode cX5_isAnchor 89 = .ok (.ireturn, 1) := by decide +kernel
theorem dX5_between_0 : decode cX5_between 0 = .ok (.aload_n 0, 1) := by decide +kernel
theorem dX5_between_1 : decode cX5_between 1 = .ok (.getfield 35, 3) := by decide +kernel
theorem dX5_between_4 : decode cX5_between 4 = .ok (.iload_n 2, 1) := by decide +kernel
theorem dX5_between_5 : decode cX5_between 5 = .ok (.iaload, 1) := by decide +kernel
theorem dX5_between_6 : decode cX5_between 6 = .ok (.aload_n 0, 1) := by decide +kernel
theorem dX5_between_7 : decode cX5_between 7 = .ok (.getfield 35, 3) := by decide +kernel
theorem dX5_between_10 : decode cX5_between 10 = .ok (.iload_n 1, 1) := by decide +kernel
theorem dX5_between_11 : decode cX5_between 11 = .ok (.iaload, 1) := by decide +kernel
theorem dX5_between_12 : decode cX5_between 12 = .ok (.isub, 1) := by decide +kernel
theorem dX5_between_13 : decode cX5_between 13 = .ok (.aload_n 0, 1) := by decide +kernel
theorem dX5_between_14 : decode cX5_between 14 = .ok (.getfield 16, 3) := by decide +kernel
theorem dX5_between_17 : decode cX5_between 17 = .ok (.isub, 1) := by decide +kernel
theorem dX5_between_18 : decode cX5_between 18 = .ok (.istore_n 3, 1) := by decide +kernel
theorem dX5_between_19 : decode cX5_between 19 = .ok (.aload_n 0, 1) := by decide +kernel
theorem dX5_between_20 : decode cX5_between 20 = .ok (.getfield 38, 3) := by decide +kernel
theorem dX5_between_23 : decode cX5_between 23 = .ok (.iload_n 2, 1) := by decide +kernel
theorem dX5_between_24 : decode cX5_between 24 = .ok (.iaload, 1) := by decide +kernel
theorem dX5_between_25 : decode cX5_between 25 = .ok (.aload_n 0, 1) := by decide +kernel
theorem dX5_between_26 : decode cX5_between 26 = .ok (.getfield 38, 3) := by decide +kernel
theorem dX5_between_29 : decode cX5_between 29 = .ok (.iload_n 1, 1) := by decide +kernel
theorem dX5_between_30 : decode cX5_between 30 = .ok (.iaload, 1) := by decide +kernel
theorem dX5_between_31 : decode cX5_between 31 = .ok (.isub, 1) := by decide +kernel
theorem dX5_between_32 : decode cX5_between 32 = .ok (.aload_n 0, 1) := by decide +kernel
theorem dX5_between_33 : decode cX5_between 33 = .ok (.getfield 16, 3) := by decide +kernel
theorem dX5_between_36 : decode cX5_between 36 = .ok (.isub, 1) := by decide +kernel
theorem dX5_between_37 : decode cX5_between 37 = .ok (.istore 4, 2) := by decide +kernel
theorem dX5_between_39 : decode cX5_between 39 = .ok (.iload_n 3, 1) := by decide +kernel
theorem dX5_between_40 : decode cX5_between 40 = .ok (.ifCond .lt 8, 3) := by decide +kernel
theorem dX5_between_43 : decode cX5_between 43 = .ok (.iload 4, 2) := by decide +kernel
theorem dX5_between_45 : decode cX5_between 45 = .ok (.ifCond .ge 7, 3) := by decide +kernel
theorem dX5_between_48 : decode cX5_between 48 = .ok (.iconst (-1), 1) := by decide +kernel
theorem dX5_between_49 : decode cX5_between 49 = .ok (.goto 7, 3) := by decide +kernel
theorem dX5_between_52 : decode cX5_between 52 = .ok (.iload_n 3, 1) := by decide +kernel
theorem dX5_between_53 : decode cX5_between 53 = .ok (.iload 4, 2) := by decide +kernel
theorem dX5_between_55 : decode cX5_between 55 = .ok (.iadd, 1) := by decide +kernel
theorem dX5_between_56 : decode cX5_between 56 = .ok (.ireturn, 1) := by decide +kernel
theorem dX5_anchor_0 : decode cX5_anchor 0 = .ok (.aload_n 0, 1) := by decide +kernel
theorem dX5_anchor_1 : decode cX5_anchor 1 = .ok (.invokevirtual 75, 3) := by decide +kernel
theorem dX5_anchor_4 : decode cX5_anchor 4 = .ok (.iload_n 1, 1) := by decide +kernel
theorem dX5_anchor_5 : decode cX5_anchor 5 = .ok (.ifCond .lt 20, 3) := by decide +kernel
theorem dX5_anchor_8 : decode cX5_anchor 8 = .ok (.iload_n 1, 1) := by decide +kernel
theorem dX5_anchor_9 : decode cX5_anchor 9 = .ok (.aload_n 0, 1) := by decide +kernel
theorem dX5_anchor_10 : decode cX5_anchor 10 = .ok (.getfield 58, 3) := by decide +kernel
theorem dX5_anchor_13 : decode cX5_anchor 13 = .ok (.if_icmp .ge 12, 3) := by decide +kernel
theorem dX5_anchor_16 : decode cX5_anchor 16 = .ok (.iload_n 2, 1) := by decide +kernel
theorem dX5_anchor_17 : decode cX5_anchor 17 = .ok (.ifCond .lt 8, 3) := by decide +kernel
theorem dX5_anchor_20 : decode cX5_anchor 20 = .ok (.iload_n 2, 1) := by decide +kernel
theorem dX5_anchor_21 : decode cX5_anchor 21 = .ok (.iconst 1, 1) := by decide +kernel
theorem dX5_anchor_22 : decode cX5_anchor 22 = .ok (.if_icmp .le 5, 3) := by decide +kernel
theorem dX5_anchor_25 : decode cX5_anchor 25 = .ok (.iconst (-1), 1) := by decide +kernel
theorem dX5_anchor_26 : decode cX5_anchor 26 = .ok (.ireturn, 1) := by decide +kernel
theorem dX5_anchor_27 : decode cX5_anchor 27 = .ok (.iload_n 2, 1) := by decide +kernel
theorem dX5_anchor_28 : decode cX5_anchor 28 = .ok (.ifCond .ne 12, 3) := by decide +kernel
theorem dX5_anchor_31 : decode cX5_anchor 31 = .ok (.aload_n 0, 1) := by decide +kernel
theorem dX5_anchor_32 : decode cX5_anchor 32 = .ok (.getfield 35, 3) := by decide +kernel
theorem dX5_anchor_35 : decode cX5_anchor 35 = .ok (.iload_n 1, 1) := by decide +kernel
theorem dX5_anchor_36 : decode cX5_anchor 36 = .ok (.iaload, 1) := by decide +kernel
theorem dX5_anchor_37 : decode cX5_anchor 37 = .ok (.goto 9, 3) := by decide +kernel
theorem dX5_anchor_40 : decode cX5_anchor 40 = .ok (.aload_n 0, 1) := by decide +kernel
theorem dX5_anchor_41 : decode cX5_anchor 41 = .ok (.getfield 38, 3) := by decide +kernel
theorem dX5_anchor_44 : decode cX5_anchor 44 = .ok (.iload_n 1, 1) := by decide +kernel
theorem dX5_anchor_45 : decode cX5_anchor 45 = .ok (.iaload, 1) := by decide +kernel
theorem dX5_anchor_46 : decode cX5_anchor 46 = .ok (.ireturn, 1) := by decide +kernel
theorem dX5_chain_0 : decode cX5_chain 0 = .ok (.aload_n 0, 1) := by decide +kernel
theorem dX5_chain_1 : decode cX5_chain 1 = .ok (.invokevirtual 75, 3) := by decide +kernel
theorem dX5_chain_4 : decode cX5_chain 4 = .ok (.aload_n 0, 1) := by decide +kernel
theorem dX5_chain_5 : decode cX5_chain 5 = .ok (.getfield 65, 3) := by decide +kernel
theorem dX5_chain_8 : decode cX5_chain 8 = .ok (.ireturn, 1) := by decide +kernel
theorem dX5_links_0 : decode cX5_links 0 = .ok (.aload_n 0, 1) := by decide +kernel
theorem dX5_links_1 : decode cX5_links 1 = .ok (.invokevirtual 75, 3) := by decide +kernel
theorem dX5_links_4 : decode cX5_links 4 = .ok (.aload_n 0, 1) := by decide +kernel
theorem dX5_links_5 : decode cX5_links 5 = .ok (.getfield 72, 3) := by decide +kernel
theorem dX5_links_8 : decode cX5_links 8 = .ok (.ireturn, 1) := by decide +kernel
theorem dX5_link_0 : decode cX5_link 0 = .ok (.aload_n 0, 1) := by decide +kernel
theorem dX5_link_1 : decode cX5_link 1 = .ok (.invokevirtual 75, 3) := by decide +kernel
theorem dX5_link_4 : decode cX5_link 4 = .ok (.iload_n 1, 1) := by decide +kernel
theorem dX5_link_5 : decode cX5_link 5 = .ok (.ifCond .lt 20, 3) := by decide +kernel
theorem dX5_link_8 : decode cX5_link 8 = .ok (.iload_n 1, 1) := by decide +kernel
theorem dX5_link_9 : decode cX5_link 9 = .ok (.aload_n 0, 1) := by decide +kernel
theorem dX5_link_10 : decode cX5_link 10 = .ok (.getfield 72, 3) := by decide +kernel
theorem dX5_link_13 : decode cX5_link 13 = .ok (.if_icmp .ge 12, 3) := by decide +kernel
theorem dX5_link_16 : decode cX5_link 16 = .ok (.iload_n 2, 1) := by decide +kernel
theorem dX5_link_17 : decode cX5_link 17 = .ok (.ifCond .lt 8, 3) := by decide +kernel
theorem dX5_link_20 : decode cX5_link 20 = .ok (.iload_n 2, 1) := by decide +kernel
theorem dX5_link_21 : decode cX5_link 21 = .ok (.iconst 1, 1) := by decide +kernel
theorem dX5_link_22 : decode cX5_link 22 = .ok (.if_icmp .le 5, 3) := by decide +kernel
theorem dX5_link_25 : decode cX5_link 25 = .ok (.iconst (-1), 1) := by decide +kernel
theorem dX5_link_26 : decode cX5_link 26 = .ok (.ireturn, 1) := by decide +kernel
theorem dX5_link_27 : decode cX5_link 27 = .ok (.iload_n 2, 1) := by decide +kernel
theorem dX5_link_28 : decode cX5_link 28 = .ok (.ifCond .ne 17, 3) := by decide +kernel
theorem dX5_link_31 : decode cX5_link 31 = .ok (.aload_n 0, 1) := by decide +kernel
theorem dX5_link_32 : decode cX5_link 32 = .ok (.getfield 35, 3) := by decide +kernel
theorem dX5_link_35 : decode cX5_link 35 = .ok (.aload_n 0, 1) := by decide +kernel
theorem dX5_link_36 : decode cX5_link 36 = .ok (.getfield 44, 3) := by decide +kernel
theorem dX5_link_39 : decode cX5_link 39 = .ok (.iload_n 1, 1) := by decide +kernel
theorem dX5_link_40 : decode cX5_link 40 = .ok (.iaload, 1) := by decide +kernel
theorem dX5_link_41 : decode cX5_link 41 = .ok (.iaload, 1) := by decide +kernel
theorem dX5_link_42 : decode cX5_link 42 = .ok (.goto 14, 3) := by decide +kernel
theorem dX5_link_45 : decode cX5_link 45 = .ok (.aload_n 0, 1) := by decide +kernel
theorem dX5_link_46 : decode cX5_link 46 = .ok (.getfield 38, 3) := by decide +kernel
theorem dX5_link_49 : decode cX5_link 49 = .ok (.aload_n 0, 1) := by decide +kernel
theorem dX5_link_50 : decode cX5_link 50 = .ok (.getfield 44, 3) := by decide +kernel
theorem dX5_link_53 : decode cX5_link 53 = .ok (.iload_n 1, 1) := by decide +kernel
theorem dX5_link_54 : decode cX5_link 54 = .ok (.iaload, 1) := by decide +kernel
theorem dX5_link_55 : decode cX5_link 55 = .ok (.iaload, 1) := by decide +kernel
theorem dX5_link_56 : decode cX5_link 56 = .ok (.ireturn, 1) := by decide +kernel
theorem dX5_reach_0 : decode cX5_reach 0 = .ok (.iload_n 1, 1) := by decide +kernel
theorem dX5_reach_1 : decode cX5_reach 1 = .ok (.ifCond .lt 27, 3) := by decide +kernel
theorem dX5_reach_4 : decode cX5_reach 4 = .ok (.iload_n 2, 1) := by decide +kernel
theorem dX5_reach_5 : decode cX5_reach 5 = .ok (.ifCond .lt 23, 3) := by decide +kernel
theorem dX5_reach_8 : decode cX5_reach 8 = .ok (.iload_n 1, 1) := by decide +kernel
theorem dX5_reach_9 : decode cX5_reach 9 = .ok (.aload_n 0, 1) := by decide +kernel
theorem dX5_reach_10 : decode cX5_reach 10 = .ok (.getfield 13, 3) := by decide +kernel
theorem dX5_reach_13 : decode cX5_reach 13 = .ok (.iconst 0, 1) := by decide +kernel
theorem dX5_reach_14 : decode cX5_reach 14 = .ok (.iaload, 1) := by decide +kernel
theorem dX5_reach_15 : decode cX5_reach 15 = .ok (.if_icmp .gt 13, 3) := by decide +kernel
theorem dX5_reach_18 : decode cX5_reach 18 = .ok (.iload_n 2, 1) := by decide +kernel
theorem dX5_reach_19 : decode cX5_reach 19 = .ok (.aload_n 0, 1) := by decide +kernel
theorem dX5_reach_20 : decode cX5_reach 20 = .ok (.getfield 13, 3) := by decide +kernel
theorem dX5_reach_23 : decode cX5_reach 23 = .ok (.iconst 1, 1) := by decide +kernel
theorem dX5_reach_24 : decode cX5_reach 24 = .ok (.iaload, 1) := by decide +kernel
theorem dX5_reach_25 : decode cX5_reach 25 = .ok (.if_icmp .le 5, 3) := by decide +kernel
theorem dX5_reach_28 : decode cX5_reach 28 = .ok (.iconst (-1), 1) := by decide +kernel
theorem dX5_reach_29 : decode cX5_reach 29 = .ok (.ireturn, 1) := by decide +kernel
theorem dX5_reach_30 : decode cX5_reach 30 = .ok (.aload_n 0, 1) := by decide +kernel
theorem dX5_reach_31 : decode cX5_reach 31 = .ok (.getfield 13, 3) := by decide +kernel
theorem dX5_reach_34 : decode cX5_reach 34 = .ok (.iconst 0, 1) := by decide +kernel
theorem dX5_reach_35 : decode cX5_reach 35 = .ok (.iaload, 1) := by decide +kernel
theorem dX5_reach_36 : decode cX5_reach 36 = .ok (.iload_n 1, 1) := by decide +kernel
theorem dX5_reach_37 : decode cX5_reach 37 = .ok (.isub, 1) := by decide +kernel
theorem dX5_reach_38 : decode cX5_reach 38 = .ok (.istore_n 3, 1) := by decide +kernel
theorem dX5_reach_39 : decode cX5_reach 39 = .ok (.aload_n 0, 1) := by decide +kernel
theorem dX5_reach_40 : decode cX5_reach 40 = .ok (.getfield 13, 3) := by decide +kernel
theorem dX5_reach_43 : decode cX5_reach 43 = .ok (.iconst 1, 1) := by decide +kernel
theorem dX5_reach_44 : decode cX5_reach 44 = .ok (.iaload, 1) := by decide +kernel
theorem dX5_reach_45 : decode cX5_reach 45 = .ok (.iload_n 2, 1) := by decide +kernel
theorem dX5_reach_46 : decode cX5_reach 46 = .ok (.isub, 1) := by decide +kernel
theorem dX5_reach_47 : decode cX5_reach 47 = .ok (.istore 4, 2) := by decide +kernel
theorem dX5_reach_49 : decode cX5_reach 49 = .ok (.aload_n 0, 1) := by decide +kernel
theorem dX5_reach_50 : decode cX5_reach 50 = .ok (.iconst 1, 1) := by decide +kernel
theorem dX5_reach_51 : decode cX5_reach 51 = .ok (.putfield 79, 3) := by decide +kernel
theorem dX5_reach_54 : decode cX5_reach 54 = .ok (.aload_n 0, 1) := by decide +kernel
theorem dX5_reach_55 : decode cX5_reach 55 = .ok (.iconst 0, 1) := by decide +kernel
theorem dX5_reach_56 : decode cX5_reach 56 = .ok (.putfield 82, 3) := by decide +kernel
theorem dX5_reach_59 : decode cX5_reach 59 = .ok (.aload_n 0, 1) := by decide +kernel
theorem dX5_reach_60 : decode cX5_reach 60 = .ok (.iconst 0, 1) := by decide +kernel
theorem dX5_reach_61 : decode cX5_reach 61 = .ok (.putfield 85, 3) := by decide +kernel
theorem dX5_reach_64 : decode cX5_reach 64 = .ok (.aload_n 0, 1) := by decide +kernel
theorem dX5_reach_65 : decode cX5_reach 65 = .ok (.iconst 1, 1) := by decide +kernel
theorem dX5_reach_66 : decode cX5_reach 66 = .ok (.putfield 88, 3) := by decide +kernel
theorem dX5_reach_69 : decode cX5_reach 69 = .ok (.aload_n 0, 1) := by decide +kernel
theorem dX5_reach_70 : decode cX5_reach 70 = .ok (.iconst 0, 1) := by decide +kernel
theorem dX5_reach_71 : decode cX5_reach 71 = .ok (.putfield 91, 3) := by decide +kernel
theorem dX5_reach_74 : decode cX5_reach 74 = .ok (.iconst 0, 1) := by decide +kernel
theorem dX5_reach_75 : decode cX5_reach 75 = .ok (.istore 5, 2) := by decide +kernel
theorem dX5_reach_77 : decode cX5_reach 77 = .ok (.iconst 0, 1) := by decide +kernel
theorem dX5_reach_78 : decode cX5_reach 78 = .ok (.istore 6, 2) := by decide +kernel
theorem dX5_reach_80 : decode cX5_reach 80 = .ok (.iload 6, 2) := by decide +kernel
theorem dX5_reach_82 : decode cX5_reach 82 = .ok (.iload_n 3, 1) := by decide +kernel
theorem dX5_reach_83 : decode cX5_reach 83 = .ok (.iload 4, 2) := by decide +kernel
theorem dX5_reach_85 : decode cX5_reach 85 = .ok (.iadd, 1) := by decide +kernel
theorem dX5_reach_86 : decode cX5_reach 86 = .ok (.if_icmp .gt 333, 3) := by decide +kernel
theorem dX5_reach_89 : decode cX5_reach 89 = .ok (.iload 5, 2) := by decide +kernel
theorem dX5_reach_91 : decode cX5_reach 91 = .ok (.istore 7, 2) := by decide +kernel
theorem dX5_reach_93 : decode cX5_reach 93 = .ok (.iconst 0, 1) := by decide +kernel
theorem dX5_reach_94 : decode cX5_reach 94 = .ok (.istore 8, 2) := by decide +kernel
theorem dX5_reach_96 : decode cX5_reach 96 = .ok (.iload 8, 2) := by decide +kernel
theorem dX5_reach_98 : decode cX5_reach 98 = .ok (.iload_n 3, 1) := by decide +kernel
theorem dX5_reach_99 : decode cX5_reach 99 = .ok (.if_icmp .gt 314, 3) := by decide +kernel
theorem dX5_reach_102 : decode cX5_reach 102 = .ok (.iload 8, 2) := by decide +kernel
theorem dX5_reach_104 : decode cX5_reach 104 = .ok (.iload 6, 2) := by decide +kernel
theorem dX5_reach_106 : decode cX5_reach 106 = .ok (.if_icmp .gt 307, 3) := by decide +kernel
theorem dX5_reach_109 : decode cX5_reach 109 = .ok (.iload 6, 2) := by decide +kernel
theorem dX5_reach_111 : decode cX5_reach 111 = .ok (.iload 8, 2) := by decide +kernel
theorem dX5_reach_113 : decode cX5_reach 113 = .ok (.isub, 1) := by decide +kernel
theorem dX5_reach_114 : decode cX5_reach 114 = .ok (.istore 9, 2) := by decide +kernel
theorem dX5_reach_116 : decode cX5_reach 116 = .ok (.iload 9, 2) := by decide +kernel
theorem dX5_reach_118 : decode cX5_reach 118 = .ok (.iload 4, 2) := by decide +kernel
theorem dX5_reach_120 : decode cX5_reach 120 = .ok (.if_icmp .le 6, 3) := by decide +kernel
theorem dX5_reach_123 : decode cX5_reach 123 = .ok (.goto 284, 3) := by decide +kernel
theorem dX5_reach_126 : decode cX5_reach 126 = .ok (.iload 6, 2) := by decide +kernel
theorem dX5_reach_128 : decode cX5_reach 128 = .ok (.ifCond .ne 7, 3) := by decide +kernel
theorem dX5_reach_131 : decode cX5_reach 131 = .ok (.iconst 0, 1) := by decide +kernel
theorem dX5_reach_132 : decode cX5_reach 132 = .ok (.goto 5, 3) := by decide +kernel
theorem dX5_reach_135 : decode cX5_reach 135 = .ok (.ldc 78, 2) := by decide +kernel
theorem dX5_reach_137 : decode cX5_reach 137 = .ok (.istore 10, 2) := by decide +kernel
theorem dX5_reach_139 : decode cX5_reach 139 = .ok (.iload 8, 2) := by decide +kernel
theorem dX5_reach_141 : decode cX5_reach 141 = .ok (.ifCond .le 92, 3) := by decide +kernel
theorem dX5_reach_144 : decode cX5_reach 144 = .ok (.iload 9, 2) := by decide +kernel
theorem dX5_reach_146 : decode cX5_reach 146 = .ok (.ifCond .le 87, 3) := by decide +kernel
theorem dX5_reach_149 : decode cX5_reach 149 = .ok (.aload_n 0, 1) := by decide +kernel
theorem dX5_reach_150 : decode cX5_reach 150 = .ok (.iload 8, 2) := by decide +kernel
theorem dX5_reach_152 : decode cX5_reach 152 = .ok (.iconst 1, 1) := by decide +kernel
theorem dX5_reach_153 : decode cX5_reach 153 = .ok (.isub, 1) := by decide +kernel
theorem dX5_reach_154 : decode cX5_reach 154 = .ok (.iload 9, 2) := by decide +kernel
theorem dX5_reach_156 : decode cX5_reach 156 = .ok (.iconst 1, 1) := by decide +kernel
theorem dX5_reach_157 : decode cX5_reach 157 = .ok (.isub, 1) := by decide +kernel
theorem dX5_reach_158 : decode cX5_reach 158 = .ok (.invokevirtual 94, 3) := by decide +kernel
theorem dX5_reach_161 : decode cX5_reach 161 = .ok (.ldc 78, 2) := by decide +kernel
theorem dX5_reach_163 : decode cX5_reach 163 = .ok (.if_icmp .le 70, 3) := by decide +kernel
theorem dX5_reach_166 : decode cX5_reach 166 = .ok (.aload_n 0, 1) := by decide +kernel
theorem dX5_reach_167 : decode cX5_reach 167 = .ok (.getfield 7, 3) := by decide +kernel
theorem dX5_reach_170 : decode cX5_reach 170 = .ok (.iload_n 1, 1) := by decide +kernel
theorem dX5_reach_171 : decode cX5_reach 171 = .ok (.iload 8, 2) := by decide +kernel
theorem dX5_reach_173 : decode cX5_reach 173 = .ok (.iadd, 1) := by decide +kernel
theorem dX5_reach_174 : decode cX5_reach 174 = .ok (.iconst 1, 1) := by decide +kernel
theorem dX5_reach_175 : decode cX5_reach 175 = .ok (.isub, 1) := by decide +kernel
theorem dX5_reach_176 : decode cX5_reach 176 = .ok (.iaload, 1) := by decide +kernel
theorem dX5_reach_177 : decode cX5_reach 177 = .ok (.aload_n 0, 1) := by decide +kernel
theorem dX5_reach_178 : decode cX5_reach 178 = .ok (.getfield 7, 3) := by decide +kernel
theorem dX5_reach_181 : decode cX5_reach 181 = .ok (.bipush 48, 2) := by decide +kernel
theorem dX5_reach_183 : decode cX5_reach 183 = .ok (.iload_n 2, 1) := by decide +kernel
theorem dX5_reach_184 : decode cX5_reach 184 = .ok (.iadd, 1) := by decide +kernel
theorem dX5_reach_185 : decode cX5_reach 185 = .ok (.iload 9, 2) := by decide +kernel
theorem dX5_reach_187 : decode cX5_reach 187 = .ok (.iadd, 1) := by decide +kernel
theorem dX5_reach_188 : decode cX5_reach 188 = .ok (.iconst 1, 1) := by decide +kernel
theorem dX5_reach_189 : decode cX5_reach 189 = .ok (.isub, 1) := by decide +kernel
theorem dX5_reach_190 : decode cX5_reach 190 = .ok (.iaload, 1) := by decide +kernel
theorem dX5_reach_191 : decode cX5_reach 191 = .ok (.if_icmp .ne 7, 3) := by decide +kernel
theorem dX5_reach_194 : decode cX5_reach 194 = .ok (.iconst 1, 1) := by decide +kernel
theorem dX5_reach_195 : decode cX5_reach 195 = .ok (.goto 4, 3) := by decide +kernel
theorem dX5_reach_198 : decode cX5_reach 198 = .ok (.iconst 0, 1) := by decide +kernel
theorem dX5_reach_199 : decode cX5_reach 199 = .ok (.istore 11, 2) := by decide +kernel
theorem dX5_reach_201 : decode cX5_reach 201 = .ok (.aload_n 0, 1) := by decide +kernel
theorem dX5_reach_202 : decode cX5_reach 202 = .ok (.iload 8, 2) := by decide +kernel
theorem dX5_reach_204 : decode cX5_reach 204 = .ok (.iconst 1, 1) := by decide +kernel
theorem dX5_reach_205 : decode cX5_reach 205 = .ok (.isub, 1) := by decide +kernel
theorem dX5_reach_206 : decode cX5_reach 206 = .ok (.iload 9, 2) := by decide +kernel
theorem dX5_reach_208 : decode cX5_reach 208 = .ok (.iconst 1, 1) := by decide +kernel
theorem dX5_reach_209 : decode cX5_reach 209 = .ok (.isub, 1) := by decide +kernel
theorem dX5_reach_210 : decode cX5_reach 210 = .ok (.invokevirtual 94, 3) := by decide +kernel
theorem dX5_reach_213 : decode cX5_reach 213 = .ok (.iload 11, 2) := by decide +kernel
theorem dX5_reach_215 : decode cX5_reach 215 = .ok (.ifCond .eq 10, 3) := by decide +kernel
theorem dX5_reach_218 : decode cX5_reach 218 = .ok (.aload_n 0, 1) := by decide +kernel
theorem dX5_reach_219 : decode cX5_reach 219 = .ok (.getfield 23, 3) := by decide +kernel
theorem dX5_reach_222 : decode cX5_reach 222 = .ok (.goto 8, 3) := by decide +kernel
theorem dX5_reach_225 : decode cX5_reach 225 = .ok (.aload_n 0, 1) := by decide +kernel
theorem dX5_reach_226 : decode cX5_reach 226 = .ok (.getfield 26, 3) := by decide +kernel
theorem dX5_reach_229 : decode cX5_reach 229 = .ok (.ineg, 1) := by decide +kernel
theorem dX5_reach_230 : decode cX5_reach 230 = .ok (.iadd, 1) := by decide +kernel
theorem dX5_reach_231 : decode cX5_reach 231 = .ok (.istore 10, 2) := by decide +kernel
theorem dX5_reach_233 : decode cX5_reach 233 = .ok (.aload_n 0, 1) := by decide +kernel
theorem dX5_reach_234 : decode cX5_reach 234 = .ok (.iload 8, 2) := by decide +kernel
theorem dX5_reach_236 : decode cX5_reach 236 = .ok (.iconst 1, 1) := by decide +kernel
theorem dX5_reach_237 : decode cX5_reach 237 = .ok (.isub, 1) := by decide +kernel
theorem dX5_reach_238 : decode cX5_reach 238 = .ok (.iload 9, 2) := by decide +kernel
theorem dX5_reach_240 : decode cX5_reach 240 = .ok (.invokevirtual 94, 3) := by decide +kernel
theorem dX5_reach_243 : decode cX5_reach 243 = .ok (.ldc 78, 2) := by decide +kernel
theorem dX5_reach_245 : decode cX5_reach 245 = .ok (.if_icmp .le 25, 3) := by decide +kernel
theorem dX5_reach_248 : decode cX5_reach 248 = .ok (.iload 10, 2) := by decide +kernel
theorem dX5_reach_250 : decode cX5_reach 250 = .ok (.aload_n 0, 1) := by decide +kernel
theorem dX5_reach_251 : decode cX5_reach 251 = .ok (.iload 8, 2) := by decide +kernel
theorem dX5_reach_253 : decode cX5_reach 253 = .ok (.iconst 1, 1) := by decide +kernel
theorem dX5_reach_254 : decode cX5_reach 254 = .ok (.isub, 1) := by decide +kernel
theorem dX5_reach_255 : decode cX5_reach 255 = .ok (.iload 9, 2) := by decide +kernel
theorem dX5_reach_257 : decode cX5_reach 257 = .ok (.invokevirtual 94, 3) := by decide +kernel
theorem dX5_reach_260 : decode cX5_reach 260 = .ok (.aload_n 0, 1) := by decide +kernel
theorem dX5_reach_261 : decode cX5_reach 261 = .ok (.getfield 29, 3) := by decide +kernel
theorem dX5_reach_264 : decode cX5_reach 264 = .ok (.isub, 1) := by decide +kernel
theorem dX5_reach_265 : decode cX5_reach 265 = .ok (.invokestatic 97, 3) := by decide +kernel
theorem dX5_reach_268 : decode cX5_reach 268 = .ok (.istore 10, 2) := by decide +kernel
theorem dX5_reach_270 : decode cX5_reach 270 = .ok (.aload_n 0, 1) := by decide +kernel
theorem dX5_reach_271 : decode cX5_reach 271 = .ok (.iload 8, 2) := by decide +kernel
theorem dX5_reach_273 : decode cX5_reach 273 = .ok (.iload 9, 2) := by decide +kernel
theorem dX5_reach_275 : decode cX5_reach 275 = .ok (.iconst 1, 1) := by decide +kernel
theorem dX5_reach_276 : decode cX5_reach 276 = .ok (.isub, 1) := by decide +kernel
theorem dX5_reach_277 : decode cX5_reach 277 = .ok (.invokevirtual 94, 3) := by decide +kernel
theorem dX5_reach_280 : decode cX5_reach 280 = .ok (.ldc 78, 2) := by decide +kernel
theorem dX5_reach_282 : decode cX5_reach 282 = .ok (.if_icmp .le 25, 3) := by decide +kernel
theorem dX5_reach_285 : decode cX5_reach 285 = .ok (.iload 10, 2) := by decide +kernel
theorem dX5_reach_287 : decode cX5_reach 287 = .ok (.aload_n 0, 1) := by decide +kernel
theorem dX5_reach_288 : decode cX5_reach 288 = .ok (.iload 8, 2) := by decide +kernel
theorem dX5_reach_290 : decode cX5_reach 290 = .ok (.iload 9, 2) := by decide +kernel
theorem dX5_reach_292 : decode cX5_reach 292 = .ok (.iconst 1, 1) := by decide +kernel
theorem dX5_reach_293 : decode cX5_reach 293 = .ok (.isub, 1) := by decide +kernel
theorem dX5_reach_294 : decode cX5_reach 294 = .ok (.invokevirtual 94, 3) := by decide +kernel
theorem dX5_reach_297 : decode cX5_reach 297 = .ok (.aload_n 0, 1) := by decide +kernel
theorem dX5_reach_298 : decode cX5_reach 298 = .ok (.getfield 29, 3) := by decide +kernel
theorem dX5_reach_301 : decode cX5_reach 301 = .ok (.isub, 1) := by decide +kernel
theorem dX5_reach_302 : decode cX5_reach 302 = .ok (.invokestatic 97, 3) := by decide +kernel
theorem dX5_reach_305 : decode cX5_reach 305 = .ok (.istore 10, 2) := by decide +kernel
theorem dX5_reach_307 : decode cX5_reach 307 = .ok (.iload 10, 2) := by decide +kernel
theorem dX5_reach_309 : decode cX5_reach 309 = .ok (.ldc 78, 2) := by decide +kernel
theorem dX5_reach_311 : decode cX5_reach 311 = .ok (.if_icmp .le 19, 3) := by decide +kernel
theorem dX5_reach_314 : decode cX5_reach 314 = .ok (.iload 10, 2) := by decide +kernel
theorem dX5_reach_316 : decode cX5_reach 316 = .ok (.iload 7, 2) := by decide +kernel
theorem dX5_reach_318 : decode cX5_reach 318 = .ok (.aload_n 0, 1) := by decide +kernel
theorem dX5_reach_319 : decode cX5_reach 319 = .ok (.getfield 32, 3) := by decide +kernel
theorem dX5_reach_322 : decode cX5_reach 322 = .ok (.isub, 1) := by decide +kernel
theorem dX5_reach_323 : decode cX5_reach 323 = .ok (.if_icmp .lt 7, 3) := by decide +kernel
theorem dX5_reach_326 : decode cX5_reach 326 = .ok (.iconst 1, 1) := by decide +kernel
theorem dX5_reach_327 : decode cX5_reach 327 = .ok (.goto 4, 3) := by decide +kernel
theorem dX5_reach_330 : decode cX5_reach 330 = .ok (.iconst 0, 1) := by decide +kernel
theorem dX5_reach_331 : decode cX5_reach 331 = .ok (.istore 11, 2) := by decide +kernel
theorem dX5_reach_333 : decode cX5_reach 333 = .ok (.aload_n 0, 1) := by decide +kernel
theorem dX5_reach_334 : decode cX5_reach 334 = .ok (.getfield 47, 3) := by decide +kernel
theorem dX5_reach_337 : decode cX5_reach 337 = .ok (.bipush 49, 2) := by decide +kernel
theorem dX5_reach_339 : decode cX5_reach 339 = .ok (.iload 8, 2) := by decide +kernel
theorem dX5_reach_341 : decode cX5_reach 341 = .ok (.imul, 1) := by decide +kernel
theorem dX5_reach_342 : decode cX5_reach 342 = .ok (.iload 9, 2) := by decide +kernel
theorem dX5_reach_344 : decode cX5_reach 344 = .ok (.iadd, 1) := by decide +kernel
theorem dX5_reach_345 : decode cX5_reach 345 = .ok (.iload 11, 2) := by decide +kernel
theorem dX5_reach_347 : decode cX5_reach 347 = .ok (.ifCond .eq 8, 3) := by decide +kernel
theorem dX5_reach_350 : decode cX5_reach 350 = .ok (.iload 10, 2) := by decide +kernel
theorem dX5_reach_352 : decode cX5_reach 352 = .ok (.goto 5, 3) := by decide +kernel
theorem dX5_reach_355 : decode cX5_reach 355 = .ok (.ldc 78, 2) := by decide +kernel
theorem dX5_reach_357 : decode cX5_reach 357 = .ok (.iastore, 1) := by decide +kernel
theorem dX5_reach_358 : decode cX5_reach 358 = .ok (.iload 11, 2) := by decide +kernel
theorem dX5_reach_360 : decode cX5_reach 360 = .ok (.ifCond .eq 47, 3) := by decide +kernel
theorem dX5_reach_363 : decode cX5_reach 363 = .ok (.iload 6, 2) := by decide +kernel
theorem dX5_reach_365 : decode cX5_reach 365 = .ok (.ifCond .le 42, 3) := by decide +kernel
theorem dX5_reach_368 : decode cX5_reach 368 = .ok (.aload_n 0, 1) := by decide +kernel
theorem dX5_reach_369 : decode cX5_reach 369 = .ok (.dup, 1) := by decide +kernel
theorem dX5_reach_370 : decode cX5_reach 370 = .ok (.getfield 88, 3) := by decide +kernel
theorem dX5_reach_373 : decode cX5_reach 373 = .ok (.iconst 1, 1) := by decide +kernel
theorem dX5_reach_374 : decode cX5_reach 374 = .ok (.iadd, 1) := by decide +kernel
theorem dX5_reach_375 : decode cX5_reach 375 = .ok (.putfield 88, 3) := by decide +kernel
theorem dX5_reach_378 : decode cX5_reach 378 = .ok (.aload_n 0, 1) := by decide +kernel
theorem dX5_reach_379 : decode cX5_reach 379 = .ok (.iload 6, 2) := by decide +kernel
theorem dX5_reach_381 : decode cX5_reach 381 = .ok (.putfield 91, 3) := by decide +kernel
theorem dX5_reach_384 : decode cX5_reach 384 = .ok (.iload 10, 2) := by decide +kernel
theorem dX5_reach_386 : decode cX5_reach 386 = .ok (.iload 5, 2) := by decide +kernel
theorem dX5_reach_388 : decode cX5_reach 388 = .ok (.if_icmp .le 19, 3) := by decide +kernel
theorem dX5_reach_391 : decode cX5_reach 391 = .ok (.iload 10, 2) := by decide +kernel
theorem dX5_reach_393 : decode cX5_reach 393 = .ok (.istore 5, 2) := by decide +kernel
theorem dX5_reach_395 : decode cX5_reach 395 = .ok (.aload_n 0, 1) := by decide +kernel
end
section
theorem dX5_reach_396 : decode cX5_reach 396 = .ok (.iload 8, 2) := by decide +kernel
theorem dX5_reach_398 : decode cX5_reach 398 = .ok (.putfield 82, 3) := by decide +kernel
theorem dX5_reach_401 : decode cX5_reach 401 = .ok (.aload_n 0, 1) := by decide +kernel
theorem dX5_reach_402 : decode cX5_reach 402 = .ok (.iload 9, 2) := by decide +kernel
theorem dX5_reach_404 : decode cX5_reach 404 = .ok (.putfield 85, 3) := by decide +kernel
theorem dX5_reach_407 : decode cX5_reach 407 = .ok (.iinc 8 1, 3) := by decide +kernel
theorem dX5_reach_410 : decode cX5_reach 410 = .ok (.goto (-314), 3) := by decide +kernel
theorem dX5_reach_413 : decode cX5_reach 413 = .ok (.iinc 6 1, 3) := by decide +kernel
theorem dX5_reach_416 : decode cX5_reach 416 = .ok (.goto (-336), 3) := by decide +kernel
theorem dX5_reach_419 : decode cX5_reach 419 = .ok (.iload 5, 2) := by decide +kernel
theorem dX5_reach_421 : decode cX5_reach 421 = .ok (.ireturn, 1) := by decide +kernel
theorem dX5_scoreAt_0 : decode cX5_scoreAt 0 = .ok (.iload_n 1, 1) := by decide +kernel
theorem dX5_scoreAt_1 : decode cX5_scoreAt 1 = .ok (.ifCond .lt 7, 3) := by decide +kernel
theorem dX5_scoreAt_4 : decode cX5_scoreAt 4 = .ok (.iload_n 2, 1) := by decide +kernel
theorem dX5_scoreAt_5 : decode cX5_scoreAt 5 = .ok (.ifCond .ge 8, 3) := by decide +kernel
theorem dX5_scoreAt_8 : decode cX5_scoreAt 8 = .ok (.ldc 78, 2) := by decide +kernel
theorem dX5_scoreAt_10 : decode cX5_scoreAt 10 = .ok (.goto 14, 3) := by decide +kernel
theorem dX5_scoreAt_13 : decode cX5_scoreAt 13 = .ok (.aload_n 0, 1) := by decide +kernel
theorem dX5_scoreAt_14 : decode cX5_scoreAt 14 = .ok (.getfield 47, 3) := by decide +kernel
theorem dX5_scoreAt_17 : decode cX5_scoreAt 17 = .ok (.bipush 49, 2) := by decide +kernel
theorem dX5_scoreAt_19 : decode cX5_scoreAt 19 = .ok (.iload_n 1, 1) := by decide +kernel
theorem dX5_scoreAt_20 : decode cX5_scoreAt 20 = .ok (.imul, 1) := by decide +kernel
theorem dX5_scoreAt_21 : decode cX5_scoreAt 21 = .ok (.iload_n 2, 1) := by decide +kernel
theorem dX5_scoreAt_22 : decode cX5_scoreAt 22 = .ok (.iadd, 1) := by decide +kernel
theorem dX5_scoreAt_23 : decode cX5_scoreAt 23 = .ok (.iaload, 1) := by decide +kernel
theorem dX5_scoreAt_24 : decode cX5_scoreAt 24 = .ok (.ireturn, 1) := by decide +kernel
theorem dX5_greater_0 : decode cX5_greater 0 = .ok (.iload_n 0, 1) := by decide +kernel
theorem dX5_greater_1 : decode cX5_greater 1 = .ok (.iload_n 1, 1) := by decide +kernel
theorem dX5_greater_2 : decode cX5_greater 2 = .ok (.if_icmp .le 7, 3) := by decide +kernel
theorem dX5_greater_5 : decode cX5_greater 5 = .ok (.iload_n 0, 1) := by decide +kernel
theorem dX5_greater_6 : decode cX5_greater 6 = .ok (.goto 4, 3) := by decide +kernel
theorem dX5_greater_9 : decode cX5_greater 9 = .ok (.iload_n 1, 1) := by decide +kernel
theorem dX5_greater_10 : decode cX5_greater 10 = .ok (.ireturn, 1) := by decide +kernel
theorem dX5_reached_0 : decode cX5_reached 0 = .ok (.aload_n 0, 1) := by decide +kernel
theorem dX5_reached_1 : decode cX5_reached 1 = .ok (.getfield 79, 3) := by decide +kernel
theorem dX5_reached_4 : decode cX5_reached 4 = .ok (.ifCond .ne 5, 3) := by decide +kernel
theorem dX5_reached_7 : decode cX5_reached 7 = .ok (.iconst (-1), 1) := by decide +kernel
theorem dX5_reached_8 : decode cX5_reached 8 = .ok (.ireturn, 1) := by decide +kernel
theorem dX5_reached_9 : decode cX5_reached 9 = .ok (.iload_n 1, 1) := by decide +kernel
theorem dX5_reached_10 : decode cX5_reached 10 = .ok (.ifCond .ne 10, 3) := by decide +kernel
theorem dX5_reached_13 : decode cX5_reached 13 = .ok (.aload_n 0, 1) := by decide +kernel
theorem dX5_reached_14 : decode cX5_reached 14 = .ok (.getfield 82, 3) := by decide +kernel
theorem dX5_reached_17 : decode cX5_reached 17 = .ok (.goto 40, 3) := by decide +kernel
theorem dX5_reached_20 : decode cX5_reached 20 = .ok (.iload_n 1, 1) := by decide +kernel
theorem dX5_reached_21 : decode cX5_reached 21 = .ok (.iconst 1, 1) := by decide +kernel
theorem dX5_reached_22 : decode cX5_reached 22 = .ok (.if_icmp .ne 10, 3) := by decide +kernel
theorem dX5_reached_25 : decode cX5_reached 25 = .ok (.aload_n 0, 1) := by decide +kernel
theorem dX5_reached_26 : decode cX5_reached 26 = .ok (.getfield 85, 3) := by decide +kernel
theorem dX5_reached_29 : decode cX5_reached 29 = .ok (.goto 28, 3) := by decide +kernel
theorem dX5_reached_32 : decode cX5_reached 32 = .ok (.iload_n 1, 1) := by decide +kernel
theorem dX5_reached_33 : decode cX5_reached 33 = .ok (.iconst 2, 1) := by decide +kernel
theorem dX5_reached_34 : decode cX5_reached 34 = .ok (.if_icmp .ne 10, 3) := by decide +kernel
theorem dX5_reached_37 : decode cX5_reached 37 = .ok (.aload_n 0, 1) := by decide +kernel
theorem dX5_reached_38 : decode cX5_reached 38 = .ok (.getfield 88, 3) := by decide +kernel
theorem dX5_reached_41 : decode cX5_reached 41 = .ok (.goto 16, 3) := by decide +kernel
theorem dX5_reached_44 : decode cX5_reached 44 = .ok (.iload_n 1, 1) := by decide +kernel
theorem dX5_reached_45 : decode cX5_reached 45 = .ok (.iconst 3, 1) := by decide +kernel
theorem dX5_reached_46 : decode cX5_reached 46 = .ok (.if_icmp .ne 10, 3) := by decide +kernel
theorem dX5_reached_49 : decode cX5_reached 49 = .ok (.aload_n 0, 1) := by decide +kernel
theorem dX5_reached_50 : decode cX5_reached 50 = .ok (.getfield 91, 3) := by decide +kernel
theorem dX5_reached_53 : decode cX5_reached 53 = .ok (.goto 4, 3) := by decide +kernel
theorem dX5_reached_56 : decode cX5_reached 56 = .ok (.iconst (-1), 1) := by decide +kernel
theorem dX5_reached_57 : decode cX5_reached 57 = .ok (.ireturn, 1) := by decide +kernel
end
section
/-! ===== rows that name words: Math.max, Math.min, Object.<init>, new, newarray, switch ===== -/
theorem jI_max {a b : Int} (ra : -2147483648 ≤ a ∧ a < 2147483648) (rb : -2147483648 ≤ b ∧ b < 2147483648) : (if jI a < jI b then jI b else jI a) = jI (max a b) := by
  by_cases h : a < b
  · rw [if_pos ((jI_lt ra rb).2 h), Int.max_eq_right (by omega)]
  · rw [if_neg (fun h2 => h ((jI_lt ra rb).1 h2)), Int.max_eq_left (by omega)]
theorem jI_min {a b : Int} (ra : -2147483648 ≤ a ∧ a < 2147483648) (rb : -2147483648 ≤ b ∧ b < 2147483648) : (if jI b < jI a then jI b else jI a) = jI (min a b) := by
  by_cases h : b < a
  · rw [if_pos ((jI_lt rb ra).2 h), Int.min_eq_right (by omega)]
  · rw [if_neg (fun h2 => h ((jI_lt rb ra).1 h2)), Int.min_eq_left (by omega)]
section JD
variable {p : Program} {l : Launch} {e : Env} {R : Room} {s : State} {m : MethodId} {args : Array Value} {below : List Frame} {meth : Method} {c : Code} {H : Heap} {locs : List Loc} {cells slots : Nat} {Q : State → Prop}
variable {pc : Nat} {ls : Array Slot} {rest : List Value} {A : Nat → Prop} {H0 : Heap} {D : va_G} {cA : ClassId} {Y : jY} {index : Nat} {lv : List (Nat × Value)} {ws : va_W} {a b : Int}
theorem jv_mmax (F : jF p s m args meth c Y D cA) (hw : Cond.methodLink Y.1.cls index Lib.Math.max.name ∈ gw) (hl : lv_has ls Y.2.2.1 lv) (hfr : 1 ≤ R.frames) (hlo : (rest.map fun v => v.category).sum + 13 ≤ R.locals) (hcs : cells ≤ R.cells ∧ slots ≤ R.slots) (ra : -2147483648 ≤ a ∧ a < 2147483648) (rb : -2147483648 ≤ b ∧ b < 2147483648) (hdg : decode Y.2.1 pc = .ok (.invokestatic index, 3))
    (kk : W p l e R s m args below meth c H locs cells slots Q (F0 m (pc + 3) ls (.int (jI (max a b)) :: rest))) : W p l e R s m args below meth c H locs cells slots Q (F0 m pc ls (.int (jI b) :: .int (jI a) :: rest)) :=
  va_mmax F.1 F.2.1 (F.2.2.2.2.1.trans hl.1.symm) F.own (F.wd hw) (F.wd wsJ8_max) (F.wd wzJ8) (F.wd wdJ8_max) hfr hlo hcs.1 hcs.2 hdg (by rw [jI_max ra rb]; exact kk)
theorem jv_mmin (F : jF p s m args meth c Y D cA) (hw : Cond.methodLink Y.1.cls index Lib.Math.min.name ∈ gw) (hl : lv_has ls Y.2.2.1 lv) (hfr : 1 ≤ R.frames) (hlo : (rest.map fun v => v.category).sum + 13 ≤ R.locals) (hcs : cells ≤ R.cells ∧ slots ≤ R.slots) (ra : -2147483648 ≤ a ∧ a < 2147483648) (rb : -2147483648 ≤ b ∧ b < 2147483648) (hdg : decode Y.2.1 pc = .ok (.invokestatic index, 3))
    (kk : W p l e R s m args below meth c H locs cells slots Q (F0 m (pc + 3) ls (.int (jI (min a b)) :: rest))) : W p l e R s m args below meth c H locs cells slots Q (F0 m pc ls (.int (jI b) :: .int (jI a) :: rest)) :=
  va_mmin F.1 F.2.1 (F.2.2.2.2.1.trans hl.1.symm) F.own (F.wd hw) (F.wd wsJ8_min) (F.wd wzJ8) (F.wd wdJ8_min) hfr hlo hcs.1 hcs.2 hdg (by rw [jI_min ra rb]; exact kk)
theorem jv_obj {q : Nat} (F : jF p s m args meth c Y D cA) (hw : Cond.methodLink Y.1.cls index objectInit ∈ gw) (hl : lv_has ls Y.2.2.1 lv) (hfr : 1 ≤ R.frames) (hlo : (rest.map fun v => v.category).sum + 12 ≤ R.locals) (hdg : decode Y.2.1 pc = .ok (.invokespecial index, 3))
    (kk : W p l e R s m args below meth c H locs cells slots Q (F0 m (pc + 3) ls rest)) : W p l e R s m args below meth c H locs cells slots Q (F0 m pc ls (.ref q :: rest)) :=
  W.objInit F.1 F.2.1 F.own (F.wd hw) (F.wd woJ0_init) (F.wd wdJ0_init) rfl (hl.1.trans F.2.2.2.2.1.symm) rfl hdg hfr (by show 2 * 0 + _ + 12 ≤ _; omega) (W.eq rfl kk)
theorem jv_newa {N' : Nat} (F : jF p s m args meth c Y D cA) (hP : va_P D cls ws H) (hD : va_D A ws) (hS : va_S A H0 H locs) (hA : ∀ q, H0.size ≤ q → A q) (hn : ¬ jI a < 0) (hN : (jI a).toNatClampNeg = N') (hcells : cells + 1 ≤ R.cells) (hslots : slots + N' ≤ R.slots ∧ N' ≤ 100000) (hdg : decode Y.2.1 pc = .ok (.newarray .int, 2))
    (kk : ∀ (q : Nat) (H1 : Heap), va_P D cls (ws ++ [(q, .inl (cA, N', .inl (jA fun _ => 0)))]) H1 → va_D A (ws ++ [(q, .inl (cA, N', .inl (jA fun _ => 0)))]) → va_S A H0 H1 locs →
      W p l e R s m args below meth c H1 locs (cells + 1) (slots + N') Q (F0 m (pc + 2) ls (.ref q :: rest))) : W p l e R s m args below meth c H locs cells slots Q (F0 m pc ls (.int (jI a) :: rest)) := by
  refine va_newa (atype := .int) (a0 := (N', .inl (jA fun _ => 0))) F.1 F.2.1 (F.wd wa_int) (ty := .int) rfl F.K hP hD hS hA (fun _ => rfl) hn hN (by show N' * 4 ≤ _; omega) hcells hslots.1 hdg (fun q cA' H1 hK' hP hD hS => ?_)
  have h1 : s.vm.findClass ("[" ++ FieldType.int.toString) = some cA := (F.K.2 0 _ rfl).2
  have h2 : s.vm.findClass ("[" ++ FieldType.int.toString) = some cA' := (hK'.2 1 _ rfl).2
  have e : cA' = cA := Option.some.inj (h2.symm.trans h1)
  subst e
  exact kk q H1 hP hD hS
theorem jv_new {C : String} {T : u_T} {N ci : Nat} {ty : Nat → FieldType} {fs : List Value} (F : jF p s m args meth c Y D cA) (hw : jNw Y.1.cls index ci C T N) (hp : jPf T N ty) (hP : va_P D cls ws H) (hD : va_D A ws) (hS : va_S A H0 H locs) (hA : ∀ q, H0.size ≤ q → A q) (hfs : ∀ j, j < N → defaultValue (ty j) = vp_V fs j) (hcells : cells + 1 ≤ R.cells) (hslots : slots + N ≤ R.slots) (hdg : decode Y.2.1 pc = .ok (.new index, 3))
    (kk : ∀ (q : Nat) (H1 : Heap), va_P D cls (ws ++ [(q, .inr (ci, fs))]) H1 → va_D A (ws ++ [(q, .inr (ci, fs))]) → va_S A H0 H1 locs →
      W p l e R s m args below meth c H1 locs (cells + 1) (slots + N) Q (F0 m (pc + 3) ls (.ref q :: rest))) : W p l e R s m args below meth c H locs cells slots Q (F0 m pc ls rest) :=
  va_new F.1 F.2.1 (Ts := gw) (fun w h => F.wd h) hw.1 ty hp.1 F.own (F.wd hw.2.2.1) (F.wd hw.2.2.2.1) (F.wd hw.2.2.2.2) F.K hP hD hS hA hw.2.1 hfs hcells hslots hdg kk
theorem jv_tabOut {cc : ByteArray} {dflt lo hi : Int} {offs : Array Int} {len tgt : Nat} (hx : p.tables.exec = Jvm.exec) (hb : c.code = cc) (hdg : decode cc pc = .ok (.tableswitch dflt lo hi offs, len)) (hr : -2147483648 ≤ a ∧ a < 2147483648) (h : a < lo ∨ hi < a) (ht : (pc : Int) + dflt = (tgt : Int))
    (k : W p l e R s m args below meth c H locs cells slots Q (F0 m tgt ls rest)) : W p l e R s m args below meth c H locs cells slots Q (F0 m pc ls (.int (jI a) :: rest)) :=
  lv_tableOut hx hb hdg (by rw [jI_toInt hr]; exact h) ht k
end JD
end
section
/-! ===== mathematics 1: truth as 0 and 1, anchors, how many stand before a place, the table of anchors ===== -/
noncomputable def jB (P : Prop) : Int := @ite Int P (Classical.propDecidable P) 1 0
theorem jB_t {P : Prop} (h : P) : jB P = 1 := @if_pos P (Classical.propDecidable P) h Int 1 0
theorem jB_f {P : Prop} (h : ¬ P) : jB P = 0 := @if_neg P (Classical.propDecidable P) h Int 1 0
theorem jB_01 (P : Prop) : jB P = 0 ∨ jB P = 1 := (Classical.em P).elim (fun h => Or.inr (jB_t h)) (fun h => Or.inl (jB_f h))
theorem jB_1 {P : Prop} (h : ¬ jB P = 0) : P := Classical.byContradiction fun n => h (jB_f n)
theorem jB_0 {P : Prop} (h : jB P = 0) : ¬ P := fun p => by rw [jB_t p] at h; omega
def atv (L : Int → Int) (n i : Int) : Int := if 0 ≤ i ∧ i < n then L i else -1
theorem atv_in {L : Int → Int} {n i : Int} (h : 0 ≤ i ∧ i < n) : atv L n i = L i := if_pos h
theorem atv_out {L : Int → Int} {n i : Int} (h : ¬ (0 ≤ i ∧ i < n)) : atv L n i = -1 := if_neg h
theorem atv_rg {L : Int → Int} (hL : ∀ x, 0 ≤ L x ∧ L x ≤ 3) (n i : Int) : -1 ≤ atv L n i ∧ atv L n i ≤ 3 := by
  by_cases h : 0 ≤ i ∧ i < n
  · rw [atv_in h]; have := hL i; omega
  · rw [atv_out h]; omega
/-- (i, j) is an anchor -/
def anc (L0 L1 : Int → Int) (n0 n1 K i j : Int) : Prop := 0 ≤ i ∧ 0 ≤ j ∧ i + K ≤ n0 ∧ j + K ≤ n1 ∧ ∀ s, 0 ≤ s → s < K → L0 (i + s) = L1 (j + s)
/-- of two places: comes before -/
abbrev bef (i j k l : Int) : Prop := i < k ∨ (i = k ∧ j < l)
/-- anchors lie within the rows -/
def inG (G : Int → Int → Prop) (n0 n1 K : Int) : Prop := ∀ i j, G i j → 0 ≤ i ∧ i + K ≤ n0 ∧ 0 ≤ j ∧ j + K ≤ n1
theorem anc_in {L0 L1 : Int → Int} {n0 n1 K : Int} : inG (anc L0 L1 n0 n1 K) n0 n1 K := fun i j h => ⟨h.1, h.2.2.1, h.2.1, h.2.2.2.1⟩
noncomputable def cR (G : Int → Int → Prop) (i : Int) : Nat → Int
  | 0 => 0
  | j + 1 => cR G i j + jB (G i (j : Int))
noncomputable def cT (G : Int → Int → Prop) (n1 : Nat) : Nat → Int
  | 0 => 0
  | i + 1 => cT G n1 i + cR G (i : Int) n1
/-- how many anchors stand before (i, j) -/
noncomputable def cnt (G : Int → Int → Prop) (n1 i j : Int) : Int := cT G n1.toNat i.toNat + cR G i j.toNat
section CNT
variable {G : Int → Int → Prop} {n0 n1 K : Int}
theorem cR_b (i : Int) (j : Nat) : 0 ≤ cR G i j ∧ cR G i j ≤ (j : Int) := by
  induction j with
  | zero => exact ⟨Int.le_refl _, Int.le_refl _⟩
  | succ j ih =>
    have h := jB_01 (G i (j : Int))
    have e : cR G i (j + 1) = cR G i j + jB (G i (j : Int)) := rfl
    rw [e]; omega
theorem cT_b (m : Nat) (hm : m ≤ 48) (i : Nat) : 0 ≤ cT G m i ∧ cT G m i ≤ 48 * (i : Int) := by
  induction i with
  | zero => exact ⟨Int.le_refl _, Int.le_refl _⟩
  | succ i ih =>
    have h := cR_b (G := G) (i : Int) m
    have e : cT G m (i + 1) = cT G m i + cR G (i : Int) m := rfl
    rw [e]; omega
theorem cR_mono (i : Int) {j j' : Nat} (h : j ≤ j') : cR G i j ≤ cR G i j' := by
  induction j' with
  | zero => have e : j = 0 := by omega
            subst e; exact Int.le_refl _
  | succ k ih =>
    by_cases hk : j ≤ k
    · have h1 := ih hk
      have h2 := jB_01 (G i (k : Int))
      have e : cR G i (k + 1) = cR G i k + jB (G i (k : Int)) := rfl
      rw [e]; omega
    · have e : j = k + 1 := by omega
      subst e; exact Int.le_refl _
theorem cT_mono (m : Nat) {i i' : Nat} (h : i ≤ i') : cT G m i ≤ cT G m i' := by
  induction i' with
  | zero => have e : i = 0 := by omega
            subst e; exact Int.le_refl _
  | succ k ih =>
    by_cases hk : i ≤ k
    · have h1 := ih hk
      have h2 := (cR_b (G := G) (k : Int) m).1
      have e : cT G m (k + 1) = cT G m k + cR G (k : Int) m := rfl
      rw [e]; omega
    · have e : i = k + 1 := by omega
      subst e; exact Int.le_refl _
theorem cnt_j {i j : Int} (hj : 0 ≤ j) : cnt G n1 i (j + 1) = cnt G n1 i j + jB (G i j) := by
  have e : (j + 1).toNat = j.toNat + 1 := by omega
  have e2 : ((j.toNat : Nat) : Int) = j := Int.toNat_of_nonneg hj
  have e3 : cR G i (j.toNat + 1) = cR G i j.toNat + jB (G i j) := by
    show cR G i j.toNat + jB (G i ((j.toNat : Nat) : Int)) = _
    rw [e2]
  unfold cnt
  rw [e, e3]; omega
theorem cnt_i {i : Int} (hi : 0 ≤ i) : cnt G n1 i n1 = cnt G n1 (i + 1) 0 := by
  have e : (i + 1).toNat = i.toNat + 1 := by omega
  have e2 : ((i.toNat : Nat) : Int) = i := Int.toNat_of_nonneg hi
  have e3 : cT G n1.toNat (i.toNat + 1) = cT G n1.toNat i.toNat + cR G i n1.toNat := by
    show cT G n1.toNat i.toNat + cR G ((i.toNat : Nat) : Int) n1.toNat = _
    rw [e2]
  have e4 : cR G (i + 1) (0 : Int).toNat = 0 := rfl
  unfold cnt
  rw [e, e3, e4]; omega
theorem cnt_00 : cnt G n1 0 0 = 0 := rfl
theorem cnt_b (h1 : n1 ≤ 48) {i j : Int} (hi : 0 ≤ i) (hj : 0 ≤ j) : 0 ≤ cnt G n1 i j ∧ cnt G n1 i j ≤ 48 * i + j := by
  have a := cT_b (G := G) n1.toNat (by omega) i.toNat
  have b := cR_b (G := G) i j.toNat
  unfold cnt
  omega
theorem cnt_lt {i j k l : Int} (hg : G i j) (hi : 0 ≤ i) (hj : 0 ≤ j) (hjn : j < n1) (hl : 0 ≤ l) (h : bef i j k l) : cnt G n1 i j < cnt G n1 k l := by
  have s1 := cnt_j (G := G) (n1 := n1) (i := i) hj
  rw [jB_t hg] at s1
  rcases h with h | ⟨rfl, h⟩
  · have a := cR_mono (G := G) i (j := (j + 1).toNat) (j' := n1.toNat) (by omega)
    have b := cT_mono (G := G) n1.toNat (i := (i + 1).toNat) (i' := k.toNat) (by omega)
    have c := (cR_b (G := G) k l.toNat).1
    have d := cnt_i (G := G) (n1 := n1) hi
    have e : cnt G n1 (i + 1) 0 = cT G n1.toNat (i + 1).toNat := by
      unfold cnt
      have e4 : cR G (i + 1) (0 : Int).toNat = 0 := rfl
      rw [e4]; omega
    unfold cnt at s1 d e ⊢
    omega
  · have a := cR_mono (G := G) i (j := (j + 1).toNat) (j' := l.toNat) (by omega)
    unfold cnt at s1 ⊢
    omega
theorem bef_tri {i j k l : Int} (h : ¬ bef i j k l) (h2 : ¬ bef k l i j) : i = k ∧ j = l := by
  unfold bef at h h2
  omega
/-- the table as far as (i, j) -/
def tabP (G : Int → Int → Prop) (n1 i j : Int) (f s : Int → Int) (T : Int) : Prop := T = cnt G n1 i j ∧ (∀ k l, G k l → bef k l i j → cnt G n1 k l < T ∧ f (cnt G n1 k l) = k ∧ s (cnt G n1 k l) = l) ∧ ∀ m, 0 ≤ m → m < T → ∃ k l, G k l ∧ bef k l i j ∧ cnt G n1 k l = m
/-- the table of all anchors -/
def tabOK (G : Int → Int → Prop) (n0 n1 : Int) (f s : Int → Int) (T : Int) : Prop := T = cnt G n1 n0 0 ∧ (∀ k l, G k l → cnt G n1 k l < T ∧ f (cnt G n1 k l) = k ∧ s (cnt G n1 k l) = l) ∧ ∀ m, 0 ≤ m → m < T → ∃ k l, G k l ∧ cnt G n1 k l = m
theorem tabP_0 (hG : inG G n0 n1 K) (f s : Int → Int) : tabP G n1 0 0 f s 0 := by
  refine ⟨rfl, fun k l hg hb => ?_, fun m h1 h2 => ?_⟩
  · have := hG k l hg
    unfold bef at hb
    omega
  · omega
theorem tabP_yes {f s : Int → Int} {T i j : Int} (hj : 0 ≤ j) (h : tabP G n1 i j f s T) (hg : G i j) : tabP G n1 i (j + 1) (jU f T i) (jU s T j) (T + 1) := by
  obtain ⟨h1, h2, h3⟩ := h
  have hc := cnt_j (G := G) (n1 := n1) (i := i) hj
  rw [jB_t hg] at hc
  refine ⟨by omega, fun k l hk hb => ?_, fun m m0 m1 => ?_⟩
  · by_cases hb2 : bef k l i j
    · obtain ⟨a, b, c⟩ := h2 k l hk hb2
      exact ⟨by omega, by rw [jU_n (by omega)]; exact b, by rw [jU_n (by omega)]; exact c⟩
    · have e : k = i ∧ l = j := by unfold bef at hb hb2; omega
      obtain ⟨rfl, rfl⟩ := e
      rw [← h1]
      exact ⟨by omega, jU_s, jU_s⟩
  · by_cases hm : m < T
    · obtain ⟨k, l, a, b, c⟩ := h3 m m0 hm
      exact ⟨k, l, a, by unfold bef at b ⊢; omega, c⟩
    · exact ⟨i, j, hg, by unfold bef; omega, by omega⟩
theorem tabP_no {f s : Int → Int} {T i j : Int} (hj : 0 ≤ j) (h : tabP G n1 i j f s T) (hg : ¬ G i j) : tabP G n1 i (j + 1) f s T := by
  obtain ⟨h1, h2, h3⟩ := h
  have hc := cnt_j (G := G) (n1 := n1) (i := i) hj
  rw [jB_f hg] at hc
  refine ⟨by omega, fun k l hk hb => ?_, fun m m0 m1 => ?_⟩
  · by_cases hb2 : bef k l i j
    · exact h2 k l hk hb2
    · have e : k = i ∧ l = j := by unfold bef at hb hb2; omega
      obtain ⟨rfl, rfl⟩ := e
      exact (hg hk).elim
  · obtain ⟨k, l, a, b, c⟩ := h3 m m0 m1
    exact ⟨k, l, a, by unfold bef at b ⊢; omega, c⟩
theorem tabP_row (hG : inG G n0 n1 K) (hK : 1 ≤ K) {f s : Int → Int} {T i j : Int} (hi : 0 ≤ i) (hj : j = n1) (h : tabP G n1 i j f s T) : tabP G n1 (i + 1) 0 f s T := by
  subst hj
  obtain ⟨h1, h2, h3⟩ := h
  have hc := cnt_i (G := G) (n1 := j) hi
  refine ⟨by omega, fun k l hk hb => ?_, fun m m0 m1 => ?_⟩
  · have := hG k l hk
    exact h2 k l hk (by unfold bef at hb ⊢; omega)
  · obtain ⟨k, l, a, b, c⟩ := h3 m m0 m1
    have := hG k l a
    exact ⟨k, l, a, by unfold bef at b ⊢; omega, c⟩
theorem tabP_all (hG : inG G n0 n1 K) (hK : 1 ≤ K) {f s : Int → Int} {T i : Int} (hi : i = n0) (h : tabP G n1 i 0 f s T) : tabOK G n0 n1 f s T := by
  subst hi
  obtain ⟨h1, h2, h3⟩ := h
  refine ⟨h1, fun k l hk => ?_, fun m m0 m1 => ?_⟩
  · have := hG k l hk
    exact h2 k l hk (by unfold bef; omega)
  · obtain ⟨k, l, a, b, c⟩ := h3 m m0 m1
    exact ⟨k, l, a, c⟩
theorem tabOK_b (hG : inG G n0 n1 K) (hK : 1 ≤ K) (h0 : 0 ≤ n0 ∧ n0 ≤ 48) (h1 : n1 ≤ 48) {f s : Int → Int} {T : Int} (h : tabOK G n0 n1 f s T) : 0 ≤ T ∧ T ≤ 2304 ∧ ∀ m, 0 ≤ m → m < T → G (f m) (s m) ∧ cnt G n1 (f m) (s m) = m := by
  have b := cnt_b (G := G) h1 h0.1 (Int.le_refl 0)
  have e := h.1
  refine ⟨by omega, by omega, fun m m0 m1 => ?_⟩
  obtain ⟨k, l, a, c⟩ := h.2.2 m m0 m1
  obtain ⟨-, x, y⟩ := h.2.1 k l a
  subst c
  rw [x, y]
  exact ⟨a, rfl⟩
end CNT
end
section
/-! ===== mathematics 2: the best chain ===== -/
/-- t is the greatest worth, or 0 -/
def isTop (G : Int → Int → Prop) (wt : Int → Int → Int) (t : Int) : Prop := 0 ≤ t ∧ (∀ i j, G i j → wt i j ≤ t) ∧ (t = 0 ∨ ∃ i j, G i j ∧ wt i j = t)
/-- M is the most that anchors at (a, b) or behind add, or 0 -/
def isMore (G : Int → Int → Prop) (wt : Int → Int → Int) (g a b M : Int) : Prop := 0 ≤ M ∧ (∀ k l, G k l → a ≤ k → b ≤ l → wt k l - g * (k - a + (l - b)) ≤ M) ∧ (M = 0 ∨ ∃ k l, G k l ∧ a ≤ k ∧ b ≤ l ∧ wt k l - g * (k - a + (l - b)) = M)
def WT (G : Int → Int → Prop) (K g : Int) (wt : Int → Int → Int) : Prop := ∀ i j, G i j → isMore G wt g (i + K) (j + K) (wt i j - 10 * K)
/-- (k, l) is the first anchor at (a, b) or behind that adds v -/
def isFst (G : Int → Int → Prop) (wt : Int → Int → Int) (g a b v k l : Int) : Prop := (G k l ∧ a ≤ k ∧ b ≤ l ∧ wt k l - g * (k - a + (l - b)) = v) ∧ ∀ k' l', G k' l' → a ≤ k' → b ≤ l' → bef k' l' k l → wt k' l' - g * (k' - a + (l' - b)) ≠ v
def isF0 (G : Int → Int → Prop) (wt : Int → Int → Int) (t k l : Int) : Prop := (G k l ∧ wt k l = t) ∧ ∀ k' l', G k' l' → bef k' l' k l → wt k' l' ≠ t
def isChn (G : Int → Int → Prop) (wt : Int → Int → Int) (K g t n : Int) (P Q : Int → Int) : Prop :=
  0 ≤ n ∧ (n = 0 → t = 0) ∧ (0 < n → 0 < t ∧ isF0 G wt t (P 0) (Q 0)) ∧ (∀ m, 0 ≤ m → m + 1 < n → 0 < wt (P m) (Q m) - 10 * K ∧ isFst G wt g (P m + K) (Q m + K) (wt (P m) (Q m) - 10 * K) (P (m + 1)) (Q (m + 1))) ∧ (0 < n → wt (P (n - 1)) (Q (n - 1)) - 10 * K ≤ 0)
section CHN
variable {G : Int → Int → Prop} {n0 n1 K g : Int}
theorem isTop_uniq {w1 w2 : Int → Int → Int} (hw : ∀ i j, G i j → w1 i j = w2 i j) {t1 t2 : Int} (h1 : isTop G w1 t1) (h2 : isTop G w2 t2) : t1 = t2 := by
  have a : t1 ≤ t2 := by
    rcases h1.2.2 with h | ⟨i, j, hg, h⟩
    · have := h2.1; omega
    · have := h2.2.1 i j hg; have := hw i j hg; omega
  have b : t2 ≤ t1 := by
    rcases h2.2.2 with h | ⟨i, j, hg, h⟩
    · have := h1.1; omega
    · have := h1.2.1 i j hg; have := hw i j hg; omega
  omega
theorem isMore_le {w1 w2 : Int → Int → Int} {a b M1 M2 : Int} (hw : ∀ k l, G k l → a ≤ k → b ≤ l → w1 k l = w2 k l) (h1 : isMore G w1 g a b M1) (h2 : isMore G w2 g a b M2) : M1 ≤ M2 := by
  rcases h1.2.2 with h | ⟨k, l, hg, ha, hb, h⟩
  · have := h2.1; omega
  · have x := h2.2.1 k l hg ha hb
    have y := hw k l hg ha hb
    rw [y] at h
    omega
theorem WT_uniq (hG : inG G n0 n1 K) (hK : 1 ≤ K) {w1 w2 : Int → Int → Int} (h1 : WT G K g w1) (h2 : WT G K g w2) : ∀ i j, G i j → w1 i j = w2 i j := by
  have key : ∀ (N : Nat) (i j : Int), G i j → n0 - i < (N : Int) → w1 i j = w2 i j := by
    intro N
    induction N with
    | zero => intro i j hg h; have := hG i j hg; omega
    | succ N ih =>
      intro i j hg h
      have e : ∀ k l, G k l → i + K ≤ k → j + K ≤ l → w1 k l = w2 k l := fun k l hk a b => ih k l hk (by omega)
      have a := isMore_le e (h1 i j hg) (h2 i j hg)
      have b := isMore_le (fun k l hk a b => (e k l hk a b).symm) (h2 i j hg) (h1 i j hg)
      omega
  intro i j hg
  exact key ((n0 - i).toNat + 1) i j hg (by omega)
theorem isFst_uniq {wt : Int → Int → Int} {a b v k l k' l' : Int} (h1 : isFst G wt g a b v k l) (h2 : isFst G wt g a b v k' l') : k = k' ∧ l = l' :=
  bef_tri (fun h => h2.2 k l h1.1.1 h1.1.2.1 h1.1.2.2.1 h h1.1.2.2.2) (fun h => h1.2 k' l' h2.1.1 h2.1.2.1 h2.1.2.2.1 h h2.1.2.2.2)
theorem isF0_uniq {wt : Int → Int → Int} {t k l k' l' : Int} (h1 : isF0 G wt t k l) (h2 : isF0 G wt t k' l') : k = k' ∧ l = l' :=
  bef_tri (fun h => h2.2 k l h1.1.1 h h1.1.2) (fun h => h1.2 k' l' h2.1.1 h h2.1.2)
theorem isChn_G {wt : Int → Int → Int} {t n : Int} {P Q : Int → Int} (h : isChn G wt K g t n P Q) : ∀ m, 0 ≤ m → m < n → G (P m) (Q m) := by
  intro m m0 m1
  by_cases hm : m = 0
  · subst hm; exact (h.2.2.1 m1).2.1.1
  · have e : m = (m - 1) + 1 := by omega
    rw [e]
    exact (h.2.2.2.1 (m - 1) (by omega) (by omega)).2.1.1
theorem isFst_congr {w1 w2 : Int → Int → Int} (hw : ∀ i j, G i j → w1 i j = w2 i j) {a b v k l : Int} (h : isFst G w1 g a b v k l) : isFst G w2 g a b v k l :=
  ⟨⟨h.1.1, h.1.2.1, h.1.2.2.1, by rw [← hw k l h.1.1]; exact h.1.2.2.2⟩, fun k' l' hg x y z => by rw [← hw k' l' hg]; exact h.2 k' l' hg x y z⟩
theorem isChn_congr {w1 w2 : Int → Int → Int} (hw : ∀ i j, G i j → w1 i j = w2 i j) {t n : Int} {P Q : Int → Int} (h : isChn G w1 K g t n P Q) : isChn G w2 K g t n P Q := by
  have hg := isChn_G h
  obtain ⟨a, b, c, d, e⟩ := h
  refine ⟨a, b, fun h => ⟨(c h).1, ⟨(c h).2.1.1, ?_⟩, fun k' l' x y => ?_⟩, fun m m0 m1 => ?_, fun h => ?_⟩
  · rw [← hw _ _ (c h).2.1.1]; exact (c h).2.1.2
  · rw [← hw _ _ x]; exact (c h).2.2 k' l' x y
  · have z := d m m0 m1
    rw [hw _ _ (hg m m0 (by omega))] at z
    exact ⟨z.1, isFst_congr hw z.2⟩
  · rw [← hw _ _ (hg (n - 1) (by omega) (by omega))]; exact e h
theorem isChn_le {wt : Int → Int → Int} {t n n' : Int} {P Q P' Q' : Int → Int} (h : isChn G wt K g t n P Q) (h' : isChn G wt K g t n' P' Q') : ∀ m : Nat, (m : Int) < n → (m : Int) < n' ∧ P m = P' m ∧ Q m = Q' m := by
  intro m
  induction m with
  | zero =>
    intro hm
    have c := h.2.2.1 (by omega)
    have z : ¬ n' = 0 := fun e => by have := h'.2.1 e; omega
    have hn : 0 < n' := by have := h'.1; omega
    have u := isF0_uniq c.2 (h'.2.2.1 hn).2
    exact ⟨by omega, u.1, u.2⟩
  | succ m ih =>
    intro hm
    obtain ⟨a, b, c⟩ := ih (by omega)
    have d := h.2.2.2.1 (m : Int) (by omega) (by omega)
    rw [b, c] at d
    have hn : (m : Int) + 1 < n' := by
      refine Classical.byContradiction fun x => ?_
      have e : n' - 1 = (m : Int) := by omega
      have z := h'.2.2.2.2 (by omega)
      rw [e] at z
      omega
    have d' := h'.2.2.2.1 (m : Int) (by omega) hn
    have u := isFst_uniq d.2 d'.2
    have e : ((m + 1 : Nat) : Int) = (m : Int) + 1 := by omega
    rw [e]
    exact ⟨hn, u.1, u.2⟩
theorem isChn_uniq {wt : Int → Int → Int} {t n n' : Int} {P Q P' Q' : Int → Int} (h : isChn G wt K g t n P Q) (h' : isChn G wt K g t n' P' Q') : n = n' ∧ ∀ m, 0 ≤ m → m < n → P m = P' m ∧ Q m = Q' m := by
  have a := isChn_le h h'
  have b := isChn_le h' h
  have p := h.1
  have q := h'.1
  refine ⟨?_, fun m m0 m1 => ?_⟩
  · by_cases x : n < n'
    · have := b n.toNat (by omega); omega
    · by_cases y : n' < n
      · have := a n'.toNat (by omega); omega
      · omega
  · have := a m.toNat (by omega)
    rw [Int.toNat_of_nonneg m0] at this
    exact this.2
/-! the class's table of what lies ahead -/
def wF (K : Int) (Ah : Int → Int) (x y : Int) : Int := 10 * K + max 0 (Ah ((x + K) * 49 + (y + K)))
def mOK (G : Int → Int → Prop) (n0 n1 K g : Int) (Ah : Int → Int) (a b v : Int) : Prop :=
  (a = n0 ∨ b = n1 → v = -1000000) ∧ (¬ (a = n0 ∨ b = n1) → (G a b → v = max (max (Ah ((a + 1) * 49 + b)) (Ah (a * 49 + (b + 1))) - g) (wF K Ah a b)) ∧ (¬ G a b → v = max (Ah ((a + 1) * 49 + b)) (Ah (a * 49 + (b + 1))) - g))
abbrev bnd (n0 n1 : Int) (a b v : Int) : Prop := -1000000 - 9 * ((n0 - a) + (n1 - b)) ≤ v ∧ v ≤ 10 * (n0 - a)
def aOK (G : Int → Int → Prop) (n0 n1 K g : Int) (Ah : Int → Int) (x y : Int) : Prop := mOK G n0 n1 K g Ah x y (Ah (x * 49 + y)) ∧ bnd n0 n1 x y (Ah (x * 49 + y))
theorem mOK_bnd (hG : inG G n0 n1 K) (hK : 1 ≤ K) (hg : 0 ≤ g ∧ g ≤ 9) {Ah : Int → Int} {a b v : Int} (ha : 0 ≤ a ∧ a ≤ n0) (hb : 0 ≤ b ∧ b ≤ n1) (h : mOK G n0 n1 K g Ah a b v)
    (h1 : a < n0 → b < n1 → bnd n0 n1 (a + 1) b (Ah ((a + 1) * 49 + b))) (h2 : a < n0 → b < n1 → bnd n0 n1 a (b + 1) (Ah (a * 49 + (b + 1)))) (h3 : G a b → bnd n0 n1 (a + K) (b + K) (Ah ((a + K) * 49 + (b + K)))) : bnd n0 n1 a b v := by
  by_cases e : a = n0 ∨ b = n1
  · rw [h.1 e]; unfold bnd; omega
  · have x := h1 (by omega) (by omega)
    have y := h2 (by omega) (by omega)
    by_cases hgg : G a b
    · have z := h3 hgg
      have i := hG a b hgg
      rw [(h.2 e).1 hgg]
      unfold bnd wF at *
      omega
    · rw [(h.2 e).2 hgg]
      unfold bnd at *
      omega
theorem mOK_upd (hG : inG G n0 n1 K) (hK : 1 ≤ K) (h1 : n1 ≤ 48) {Ah : Int → Int} {a b w x y v : Int} (hb : 0 ≤ b ∧ b ≤ n1) (hy : 0 ≤ y ∧ y ≤ n1) (hxa : bef a b x y ∨ (a = x ∧ b = y)) (h : mOK G n0 n1 K g Ah x y v) : mOK G n0 n1 K g (jU Ah (a * 49 + b) w) x y v := by
  refine ⟨h.1, fun e => ?_⟩
  have z := h.2 e
  unfold bef at hxa
  have e1 : jU Ah (a * 49 + b) w ((x + 1) * 49 + y) = Ah ((x + 1) * 49 + y) := jU_n (by omega)
  have e2 : jU Ah (a * 49 + b) w (x * 49 + (y + 1)) = Ah (x * 49 + (y + 1)) := jU_n (by omega)
  rw [e1, e2]
  refine ⟨fun hg => ?_, z.2⟩
  have i := hG x y hg
  have e3 : jU Ah (a * 49 + b) w ((x + K) * 49 + (y + K)) = Ah ((x + K) * 49 + (y + K)) := jU_n (by omega)
  unfold wF
  rw [e3]
  exact z.1 hg
theorem aOK_upd (hG : inG G n0 n1 K) (hK : 1 ≤ K) (h1 : n1 ≤ 48) {Ah : Int → Int} {a b w x y : Int} (hb : 0 ≤ b ∧ b ≤ n1) (hy : 0 ≤ y ∧ y ≤ n1) (hxa : bef a b x y) (h : aOK G n0 n1 K g Ah x y) : aOK G n0 n1 K g (jU Ah (a * 49 + b) w) x y := by
  have e : jU Ah (a * 49 + b) w (x * 49 + y) = Ah (x * 49 + y) := jU_n (by unfold bef at hxa; omega)
  unfold aOK
  rw [e]
  exact ⟨mOK_upd hG hK h1 hb hy (Or.inl hxa) h.1, h.2⟩
/-- the whole table -/
def aAll (G : Int → Int → Prop) (n0 n1 K g : Int) (Ah : Int → Int) : Prop := ∀ x y, 0 ≤ x → x ≤ n0 → 0 ≤ y → y ≤ n1 → aOK G n0 n1 K g Ah x y
theorem gmul (g d : Int) : g * (d + 1) = g * d + g := by rw [Int.mul_add, Int.mul_one]
theorem aAll_char (hG : inG G n0 n1 K) (hK : 1 ≤ K) (hg : 0 ≤ g ∧ g ≤ 9) {Ah : Int → Int} (h : aAll G n0 n1 K g Ah) : ∀ (N : Nat) (x y : Int), 0 ≤ x → x ≤ n0 → 0 ≤ y → y ≤ n1 → (n0 - x) + (n1 - y) < (N : Int) →
    (∀ k l, G k l → x ≤ k → y ≤ l → wF K Ah k l - g * (k - x + (l - y)) ≤ Ah (x * 49 + y)) ∧ (Ah (x * 49 + y) ≤ -900000 ∨ ∃ k l, G k l ∧ x ≤ k ∧ y ≤ l ∧ wF K Ah k l - g * (k - x + (l - y)) = Ah (x * 49 + y)) := by
  intro N
  induction N with
  | zero => intro x y a b c d e; omega
  | succ N ih =>
    intro x y x0 x1 y0 y1 hN
    have hA := (h x y x0 x1 y0 y1).1
    by_cases e : x = n0 ∨ y = n1
    · have v := hA.1 e
      refine ⟨fun k l hk a b => ?_, Or.inl (by omega)⟩
      have := hG k l hk
      omega
    · have a1 := ih (x + 1) y (by omega) (by omega) y0 y1 (by omega)
      have a2 := ih x (y + 1) x0 x1 (by omega) (by omega) (by omega)
      have hv := hA.2 e
      generalize hV : Ah (x * 49 + y) = V at hv ⊢
      have ge1 : Ah ((x + 1) * 49 + y) - g ≤ V ∧ Ah (x * 49 + (y + 1)) - g ≤ V := by
        by_cases hgg : G x y
        · have := hv.1 hgg; omega
        · have := hv.2 hgg; omega
      have d1 : ∀ k l : Int, g * (k - x + (l - y)) = g * (k - (x + 1) + (l - y)) + g := fun k l => by
        rw [← gmul]; congr 1; omega
      have d2 : ∀ k l : Int, g * (k - x + (l - y)) = g * (k - x + (l - (y + 1))) + g := fun k l => by
        rw [← gmul]; congr 1; omega
      refine ⟨fun k l hk a b => ?_, ?_⟩
      · by_cases c1 : x + 1 ≤ k
        · have z := a1.1 k l hk c1 b
          have := d1 k l
          omega
        · by_cases c2 : y + 1 ≤ l
          · have z := a2.1 k l hk a c2
            have := d2 k l
            omega
          · have e1 : k = x := by omega
            have e2 : l = y := by omega
            subst e1; subst e2
            have z := hv.1 hk
            have zz : g * (k - k + (l - l)) = 0 := by
              have : k - k + (l - l) = 0 := by omega
              rw [this, Int.mul_zero]
            omega
      · have cases3 : V = Ah ((x + 1) * 49 + y) - g ∨ V = Ah (x * 49 + (y + 1)) - g ∨ (G x y ∧ V = wF K Ah x y) := by
          by_cases hgg : G x y
          · have t := hv.1 hgg
            by_cases q : V = wF K Ah x y
            · exact Or.inr (Or.inr ⟨hgg, q⟩)
            · by_cases q1 : V = Ah ((x + 1) * 49 + y) - g
              · exact Or.inl q1
              · exact Or.inr (Or.inl (by omega))
          · have t := hv.2 hgg
            by_cases q1 : V = Ah ((x + 1) * 49 + y) - g
            · exact Or.inl q1
            · exact Or.inr (Or.inl (by omega))
        rcases cases3 with c | c | ⟨hgg, c⟩
        · rcases a1.2 with z | ⟨k, l, hk, ka, kb, z⟩
          · exact Or.inl (by omega)
          · exact Or.inr ⟨k, l, hk, by omega, kb, by have := d1 k l; omega⟩
        · rcases a2.2 with z | ⟨k, l, hk, ka, kb, z⟩
          · exact Or.inl (by omega)
          · exact Or.inr ⟨k, l, hk, ka, by omega, by have := d2 k l; omega⟩
        · refine Or.inr ⟨x, y, hgg, by omega, by omega, ?_⟩
          have zz : g * (x - x + (y - y)) = 0 := by
            have : x - x + (y - y) = 0 := by omega
            rw [this, Int.mul_zero]
          omega
theorem aAll_more (hG : inG G n0 n1 K) (hK : 1 ≤ K) (hg : 0 ≤ g ∧ g ≤ 9) {Ah : Int → Int} (h : aAll G n0 n1 K g Ah) {x y : Int} (x0 : 0 ≤ x) (x1 : x ≤ n0) (y0 : 0 ≤ y) (y1 : y ≤ n1) : isMore G (wF K Ah) g x y (max 0 (Ah (x * 49 + y))) := by
  have c := aAll_char hG hK hg h (((n0 - x) + (n1 - y)).toNat + 1) x y x0 x1 y0 y1 (by omega)
  refine ⟨by omega, fun k l hk a b => ?_, ?_⟩
  · have := c.1 k l hk a b; omega
  · by_cases p : 0 < Ah (x * 49 + y)
    · rcases c.2 with z | ⟨k, l, hk, a, b, z⟩
      · omega
      · exact Or.inr ⟨k, l, hk, a, b, by omega⟩
    · exact Or.inl (by omega)
theorem aAll_WT (hG : inG G n0 n1 K) (hK : 1 ≤ K) (hg : 0 ≤ g ∧ g ≤ 9) {Ah : Int → Int} (h : aAll G n0 n1 K g Ah) : WT G K g (wF K Ah) := by
  intro i j hij
  have b := hG i j hij
  have m := aAll_more hG hK hg h (x := i + K) (y := j + K) (by omega) (by omega) (by omega) (by omega)
  have e : wF K Ah i j - 10 * K = max 0 (Ah ((i + K) * 49 + (j + K))) := by unfold wF; omega
  rw [e]
  exact m
theorem wF_b (hG : inG G n0 n1 K) (hK : 1 ≤ K) {Ah : Int → Int} (h : aAll G n0 n1 K g Ah) {i j : Int} (hij : G i j) : 10 * K ≤ wF K Ah i j ∧ wF K Ah i j ≤ 10 * (n0 - i) := by
  have b := hG i j hij
  have z := (h (i + K) (j + K) (by omega) (by omega) (by omega) (by omega)).2
  unfold bnd at z
  unfold wF
  omega
end CHN
end
section
/-! ===== mathematics 3: reaching, slope by slope ===== -/
def smv (L0 L1 : Int → Int) (i j ga lo p q : Int) : Int := if L0 (i + p - 1) = L1 (j + q - 1) then ga else -lo
def rawC (sm : Int → Int → Int) (gp : Int) (one two : Int → Int) (p q : Int) : Int := if 0 < p then (if 0 < q then max (max (one p) (one (p - 1)) - gp) (two (p - 1) + sm p q) else max (one p) (one (p - 1)) - gp) else one p - gp
/-- a cell of slope d, from the slopes before -/
def nx (sm : Int → Int → Int) (P Q gp li d top : Int) (one two : Int → Int) (p : Int) : Int := if (0 ≤ p ∧ p ≤ P ∧ 0 ≤ d - p ∧ d - p ≤ Q) ∧ top - li ≤ rawC sm gp one two p (d - p) then rawC sm gp one two p (d - p) else -1000000
/-- greatest score, its p and q, how many are alive, the last slope -/
abbrev acc : Type := Int × Int × Int × Int × Int
def acc1 (v d p : Int) (t : acc) : acc := if v = -1000000 then t else if t.1 < v then (v, p, d - p, t.2.2.2.1 + 1, d) else (t.1, t.2.1, t.2.2.1, t.2.2.2.1 + 1, d)
def rowA (S : Int → Int) (d : Int) (t : acc) : Nat → acc
  | 0 => t
  | p + 1 => acc1 (S (p : Int)) d (p : Int) (rowA S d t p)
def rA (S : Int → Int) (d : Int) (t : acc) (p : Int) : acc := rowA S d t p.toNat
def Zf (sm : Int → Int → Int) (P Q gp li : Int) : Nat → (Int → Int) × (Int → Int) × acc
  | 0 => (fun _ => -1000000, fun p => if p = 0 then 0 else -1000000, (0, 0, 0, 1, 0))
  | d + 1 => ((Zf sm P Q gp li d).2.1, nx sm P Q gp li ((d : Int) + 1) (Zf sm P Q gp li d).2.2.1 (Zf sm P Q gp li d).2.1 (Zf sm P Q gp li d).1, rA (nx sm P Q gp li ((d : Int) + 1) (Zf sm P Q gp li d).2.2.1 (Zf sm P Q gp li d).2.1 (Zf sm P Q gp li d).1) ((d : Int) + 1) (Zf sm P Q gp li d).2.2 ((d : Int) + 2))
theorem acc1_dead {v d p : Int} {t : acc} (h : v = -1000000) : acc1 v d p t = t := if_pos h
theorem acc1_hi {v d p : Int} {t : acc} (h : v ≠ -1000000) (h2 : t.1 < v) : acc1 v d p t = (v, p, d - p, t.2.2.2.1 + 1, d) := (if_neg h).trans (if_pos h2)
theorem acc1_lo {v d p : Int} {t : acc} (h : v ≠ -1000000) (h2 : ¬ t.1 < v) : acc1 v d p t = (t.1, t.2.1, t.2.2.1, t.2.2.2.1 + 1, d) := (if_neg h).trans (if_neg h2)
theorem rA_0 {S : Int → Int} {d : Int} {t : acc} : rA S d t 0 = t := rfl
theorem rA_s {S : Int → Int} {d : Int} {t : acc} {p : Int} (h : 0 ≤ p) : rA S d t (p + 1) = acc1 (S p) d p (rA S d t p) := by
  unfold rA
  have e : (p + 1).toNat = p.toNat + 1 := by omega
  rw [e]
  show acc1 (S ((p.toNat : Nat) : Int)) d ((p.toNat : Nat) : Int) (rowA S d t p.toNat) = _
  rw [Int.toNat_of_nonneg h]
/-- cells that are dead change nothing -/
theorem rA_skip {S : Int → Int} {d : Int} {t : acc} {p : Int} (hp : 0 ≤ p) : ∀ (k : Nat), (∀ x, p ≤ x → x < p + (k : Int) → S x = -1000000) → rA S d t (p + (k : Int)) = rA S d t p := by
  intro k
  induction k with
  | zero => intro _; show rA S d t (p + 0) = _; rw [Int.add_zero]
  | succ k ih =>
    intro h
    have e : p + ((k + 1 : Nat) : Int) = (p + (k : Int)) + 1 := by omega
    rw [e, rA_s (by omega), acc1_dead (h _ (by omega) (by omega))]
    exact ih (fun x a b => h x a (by omega))
theorem rA_skip2 {S : Int → Int} {d : Int} {t : acc} {p q : Int} (hp : 0 ≤ p) (hq : p ≤ q) (h : ∀ x, p ≤ x → x < q → S x = -1000000) : rA S d t q = rA S d t p := by
  have := rA_skip (S := S) (d := d) (t := t) hp (q - p).toNat (fun x a b => h x a (by omega))
  rw [← this]; congr 1; omega
theorem rA_b {S : Int → Int} {d B : Int} {t : acc} (hS : ∀ x, S x = -1000000 ∨ S x ≤ B) : ∀ (k : Nat), (t.1 ≤ (rA S d t (k : Int)).1 ∧ (t.1 ≤ B → (rA S d t (k : Int)).1 ≤ B)) ∧ (t.2.2.2.1 ≤ (rA S d t (k : Int)).2.2.2.1 ∧ (rA S d t (k : Int)).2.2.2.1 ≤ t.2.2.2.1 + (k : Int)) ∧ ((∀ x, 0 ≤ x → x < (k : Int) → S x = -1000000) ∧ (rA S d t (k : Int)).2.2.2.2 = t.2.2.2.2 ∨ (rA S d t (k : Int)).2.2.2.2 = d) := by
  intro k
  induction k with
  | zero => exact ⟨⟨Int.le_refl _, fun h => h⟩, ⟨Int.le_refl _, by show t.2.2.2.1 ≤ t.2.2.2.1 + 0; omega⟩, Or.inl ⟨fun x a b => by omega, rfl⟩⟩
  | succ k ih =>
    obtain ⟨⟨a1, a2⟩, ⟨b1, b2⟩, cc⟩ := ih
    have e : ((k + 1 : Nat) : Int) = (k : Int) + 1 := by omega
    rw [e, rA_s (by omega)]
    by_cases h : S (k : Int) = -1000000
    · rw [acc1_dead h]
      refine ⟨⟨a1, a2⟩, ⟨b1, by omega⟩, ?_⟩
      rcases cc with ⟨x1, x2⟩ | x
      · refine Or.inl ⟨fun x y z => ?_, x2⟩
        by_cases hx : x = (k : Int)
        · rw [hx]; exact h
        · exact x1 x y (by omega)
      · exact Or.inr x
    · have hb := hS (k : Int)
      by_cases h2 : (rA S d t (k : Int)).1 < S (k : Int)
      · rw [acc1_hi h h2]
        refine ⟨⟨?_, fun _ => ?_⟩, ⟨?_, ?_⟩, Or.inr rfl⟩
        · show t.1 ≤ S (k : Int); omega
        · show S (k : Int) ≤ B; omega
        · show t.2.2.2.1 ≤ (rA S d t (k : Int)).2.2.2.1 + 1; omega
        · show (rA S d t (k : Int)).2.2.2.1 + 1 ≤ t.2.2.2.1 + ((k : Int) + 1); omega
      · rw [acc1_lo h h2]
        refine ⟨⟨a1, a2⟩, ⟨?_, ?_⟩, Or.inr rfl⟩
        · show t.2.2.2.1 ≤ (rA S d t (k : Int)).2.2.2.1 + 1; omega
        · show (rA S d t (k : Int)).2.2.2.1 + 1 ≤ t.2.2.2.1 + ((k : Int) + 1); omega
section RCH
variable {sm : Int → Int → Int} {P Q gp li : Int}
/-- a slope's cells: dead, or within and of a score that isn't far -/
def slo (P Q d : Int) (S : Int → Int) : Prop := ∀ x, S x = -1000000 ∨ ((0 ≤ x ∧ x ≤ P ∧ 0 ≤ d - x ∧ d - x ≤ Q) ∧ -99 ≤ S x ∧ S x ≤ 9 * d)
theorem nx_slo {d top : Int} {one two : Int → Int} (hsm : ∀ p q, -9 ≤ sm p q ∧ sm p q ≤ 9) (hgp : 1 ≤ gp ∧ gp ≤ 9) (hli : 0 ≤ li ∧ li ≤ 99) (hd : 1 ≤ d) (ht : 0 ≤ top) (h1 : slo P Q (d - 1) one) (h2 : slo P Q (d - 2) two ∨ ∀ x, two x = -1000000) : slo P Q d (nx sm P Q gp li d top one two) := by
  intro x
  by_cases h : (0 ≤ x ∧ x ≤ P ∧ 0 ≤ d - x ∧ d - x ≤ Q) ∧ top - li ≤ rawC sm gp one two x (d - x)
  · have e : nx sm P Q gp li d top one two x = rawC sm gp one two x (d - x) := if_pos h
    rw [e]
    refine Or.inr ⟨h.1, by omega, ?_⟩
    have a := h1 x
    have b := h1 (x - 1)
    have c : two (x - 1) ≤ 9 * d - 9 := by
      rcases h2 with h2 | h2
      · have := h2 (x - 1); omega
      · have := h2 (x - 1); omega
    have s := hsm x (d - x)
    unfold rawC
    by_cases p0 : 0 < x
    · by_cases q0 : 0 < d - x
      · rw [if_pos p0, if_pos q0]; omega
      · rw [if_pos p0, if_neg q0]; omega
    · rw [if_neg p0]; omega
  · exact Or.inl (if_neg h)
/-- what holds behind slope d -/
def ZI (P Q : Int) (d : Int) (z : (Int → Int) × (Int → Int) × acc) : Prop := slo P Q d z.2.1 ∧ (slo P Q (d - 1) z.1 ∨ ∀ x, z.1 x = -1000000) ∧ (0 ≤ z.2.2.1 ∧ z.2.2.1 ≤ 9 * d) ∧ (0 ≤ z.2.2.2.2.2.2 ∧ z.2.2.2.2.2.2 ≤ d) ∧ (1 ≤ z.2.2.2.2.2.1 ∧ z.2.2.2.2.2.1 ≤ 100 * (d + 1)) ∧ (z.2.2.2.2.2.2 < d → ∀ x, z.2.1 x = -1000000) ∧ (z.2.2.2.2.2.2 < d - 1 → ∀ x, z.1 x = -1000000)
theorem Zf_s (d : Nat) : Zf sm P Q gp li (d + 1) = ((Zf sm P Q gp li d).2.1, nx sm P Q gp li ((d : Int) + 1) (Zf sm P Q gp li d).2.2.1 (Zf sm P Q gp li d).2.1 (Zf sm P Q gp li d).1, rA (nx sm P Q gp li ((d : Int) + 1) (Zf sm P Q gp li d).2.2.1 (Zf sm P Q gp li d).2.1 (Zf sm P Q gp li d).1) ((d : Int) + 1) (Zf sm P Q gp li d).2.2 ((d : Int) + 2)) := rfl
theorem Zf_I (hsm : ∀ p q, -9 ≤ sm p q ∧ sm p q ≤ 9) (hgp : 1 ≤ gp ∧ gp ≤ 9) (hli : 0 ≤ li ∧ li ≤ 99) (hP : 0 ≤ P) (hQ : 0 ≤ Q) : ∀ d : Nat, (d : Int) ≤ 97 → ZI P Q (d : Int) (Zf sm P Q gp li d) := by
  intro d
  induction d with
  | zero =>
    intro _
    refine ⟨fun x => ?_, Or.inr fun x => rfl, ⟨by show (0 : Int) ≤ 0; omega, by show (0 : Int) ≤ 9 * ((0 : Nat) : Int); omega⟩, ⟨by show (0 : Int) ≤ 0; omega, by show (0 : Int) ≤ ((0 : Nat) : Int); omega⟩, ⟨by show (1 : Int) ≤ 1; omega, by show (1 : Int) ≤ 100 * (((0 : Nat) : Int) + 1); omega⟩, fun h => ?_, fun h x => rfl⟩
    · show (if x = 0 then (0 : Int) else -1000000) = -1000000 ∨ _ ∧ -99 ≤ (if x = 0 then (0 : Int) else -1000000) ∧ (if x = 0 then (0 : Int) else -1000000) ≤ 9 * ((0 : Nat) : Int)
      by_cases hx : x = 0
      · rw [if_pos hx]; exact Or.inr ⟨by omega, by omega, by omega⟩
      · exact Or.inl (if_neg hx)
    · have h : (0 : Int) < ((0 : Nat) : Int) := h
      omega
  | succ d ih =>
    intro hd
    have e : ((d + 1 : Nat) : Int) = (d : Int) + 1 := by omega
    obtain ⟨i1, i2, i3, i4, i5, i6, i7⟩ := ih (by omega)
    rw [e, Zf_s]
    generalize Zf sm P Q gp li d = z at i1 i2 i3 i4 i5 i6 i7 ⊢
    have n1 : slo P Q ((d : Int) + 1) (nx sm P Q gp li ((d : Int) + 1) z.2.2.1 z.2.1 z.1) := nx_slo hsm hgp hli (by omega) i3.1 (by rw [show (d : Int) + 1 - 1 = d by omega]; exact i1) (by rw [show (d : Int) + 1 - 2 = (d : Int) - 1 by omega]; exact i2)
    have hb := rA_b (S := nx sm P Q gp li ((d : Int) + 1) z.2.2.1 z.2.1 z.1) (d := (d : Int) + 1) (B := 9 * ((d : Int) + 1)) (t := z.2.2) (fun x => by have := n1 x; omega) (d + 2)
    rw [show ((d + 2 : Nat) : Int) = (d : Int) + 2 by omega] at hb
    obtain ⟨⟨b1, b2⟩, ⟨b3, b4⟩, b5⟩ := hb
    refine ⟨n1, Or.inl (by rw [show (d : Int) + 1 - 1 = d by omega]; exact i1), ⟨?_, ?_⟩, ⟨?_, ?_⟩, ⟨?_, ?_⟩, ?_, ?_⟩
    · show 0 ≤ (rA _ _ _ _).1; omega
    · exact b2 (by omega)
    · show 0 ≤ (rA _ _ _ _).2.2.2.2; omega
    · show (rA _ _ _ _).2.2.2.2 ≤ _; omega
    · show 1 ≤ (rA _ _ _ _).2.2.2.1; omega
    · show (rA _ _ _ _).2.2.2.1 ≤ _; omega
    · intro h x
      have h : (rA (nx sm P Q gp li ((d : Int) + 1) z.2.2.1 z.2.1 z.1) ((d : Int) + 1) z.2.2 ((d : Int) + 2)).2.2.2.2 < (d : Int) + 1 := h
      show nx sm P Q gp li ((d : Int) + 1) z.2.2.1 z.2.1 z.1 x = _
      rcases n1 x with y | y
      · exact y
      · rcases b5 with ⟨w, -⟩ | w
        · exact w x (by omega) (by omega)
        · omega
    · intro h
      have h : (rA (nx sm P Q gp li ((d : Int) + 1) z.2.2.1 z.2.1 z.1) ((d : Int) + 1) z.2.2 ((d : Int) + 2)).2.2.2.2 < (d : Int) + 1 - 1 := h
      refine i6 ?_
      rcases b5 with ⟨-, w⟩ | w
      · omega
      · omega
/-- behind two dead slopes nothing changes -/
theorem Zf_stop (hli : 0 ≤ li ∧ li ≤ 99) (hgp : 1 ≤ gp ∧ gp ≤ 9) (hsm : ∀ p q, -9 ≤ sm p q ∧ sm p q ≤ 9) {d : Nat} (ht : 0 ≤ (Zf sm P Q gp li d).2.2.1) (h1 : ∀ x, (Zf sm P Q gp li d).1 x = -1000000) (h2 : ∀ x, (Zf sm P Q gp li d).2.1 x = -1000000) : ∀ k : Nat, (Zf sm P Q gp li (d + k)).2.2 = (Zf sm P Q gp li d).2.2 ∧ (∀ x, (Zf sm P Q gp li (d + k)).1 x = -1000000) ∧ ∀ x, (Zf sm P Q gp li (d + k)).2.1 x = -1000000 := by
  intro k
  induction k with
  | zero => exact ⟨rfl, h1, h2⟩
  | succ k ih =>
    obtain ⟨a, b, c⟩ := ih
    have e : d + (k + 1) = (d + k) + 1 := by omega
    rw [e, Zf_s]
    have dead : ∀ x, nx sm P Q gp li (((d + k : Nat) : Int) + 1) (Zf sm P Q gp li (d + k)).2.2.1 (Zf sm P Q gp li (d + k)).2.1 (Zf sm P Q gp li (d + k)).1 x = -1000000 := by
      intro x
      refine if_neg fun h => ?_
      have g := h.2
      rw [a] at g
      have s := hsm x (((d + k : Nat) : Int) + 1 - x)
      have b1 := b (x - 1)
      have c0 := c x
      have c1 := c (x - 1)
      unfold rawC at g
      by_cases p0 : 0 < x
      · by_cases q0 : 0 < ((d + k : Nat) : Int) + 1 - x
        · rw [if_pos p0, if_pos q0] at g; omega
        · rw [if_pos p0, if_neg q0] at g; omega
      · rw [if_neg p0] at g; omega
    refine ⟨?_, c, dead⟩
    show rA _ _ (Zf sm P Q gp li (d + k)).2.2 (((d + k : Nat) : Int) + 2) = _
    rw [rA_skip2 (p := 0) (by omega) (by omega) (fun x _ _ => dead x), rA_0]
    exact a
end RCH
end
section
/-! ===== mathematics 4: a chain link by link; the reference's tables by number ===== -/
def chp (G : Int → Int → Prop) (wt : Int → Int → Int) (K g t n : Int) (P Q : Int → Int) : Prop :=
  0 ≤ n ∧ (0 < n → 0 < t ∧ isF0 G wt t (P 0) (Q 0)) ∧ (∀ m, 0 ≤ m → m + 1 < n → 0 < wt (P m) (Q m) - 10 * K ∧ isFst G wt g (P m + K) (Q m + K) (wt (P m) (Q m) - 10 * K) (P (m + 1)) (Q (m + 1))) ∧ (0 < n → n - 1 ≤ P (n - 1))
/-- (k, l) is the next link -/
def nxl (G : Int → Int → Prop) (wt : Int → Int → Int) (K g t n : Int) (P Q : Int → Int) (k l : Int) : Prop :=
  (n = 0 → 0 < t ∧ isF0 G wt t k l) ∧ (0 < n → 0 < wt (P (n - 1)) (Q (n - 1)) - 10 * K ∧ isFst G wt g (P (n - 1) + K) (Q (n - 1) + K) (wt (P (n - 1)) (Q (n - 1)) - 10 * K) k l)
/-- there is no next link -/
def nol (wt : Int → Int → Int) (K t n : Int) (P Q : Int → Int) : Prop := (n = 0 → t = 0) ∧ (0 < n → wt (P (n - 1)) (Q (n - 1)) - 10 * K ≤ 0)
section CHP
variable {G : Int → Int → Prop} {n0 n1 K g t n : Int} {wt : Int → Int → Int} {P Q P' Q' : Int → Int}
theorem chp_0 : chp G wt K g t 0 P Q := ⟨Int.le_refl _, fun h => by omega, fun m a b => by omega, fun h => by omega⟩
theorem nxl_G (hn : 0 ≤ n) {k l : Int} (h : nxl G wt K g t n P Q k l) : G k l := by
  by_cases e : n = 0
  · exact (h.1 e).2.1.1
  · exact (h.2 (by omega)).2.1.1
theorem chp_in (h : chp G wt K g t n P Q) {m : Int} (m0 : 0 ≤ m) (m1 : m < n) : G (P m) (Q m) := by
  by_cases hm : m = 0
  · subst hm; exact (h.2.1 m1).2.1.1
  · have e : m = (m - 1) + 1 := by omega
    rw [e]
    exact (h.2.2.1 (m - 1) (by omega) (by omega)).2.1.1
theorem nxl_b (hG : inG G n0 n1 K) (hK : 1 ≤ K) (h0 : n0 ≤ 48) (h : chp G wt K g t n P Q) {k l : Int} (hx : nxl G wt K g t n P Q k l) : n ≤ k ∧ n < 48 := by
  have b := hG k l (nxl_G h.1 hx)
  have hn := h.1
  by_cases e : n = 0
  · omega
  · have a := h.2.2.2 (by omega)
    have c := (hx.2 (by omega)).2.1.2.1
    omega
theorem chp_push (hG : inG G n0 n1 K) (hK : 1 ≤ K) (h : chp G wt K g t n P Q) {k l : Int} (hx : nxl G wt K g t n P Q k l) (hP : ∀ m, m ≠ n → P' m = P m) (hQ : ∀ m, m ≠ n → Q' m = Q m) (hk : P' n = k) (hl : Q' n = l) : chp G wt K g t (n + 1) P' Q' := by
  have hn := h.1
  refine ⟨by omega, fun _ => ?_, fun m m0 m1 => ?_, fun _ => ?_⟩
  · by_cases e : n = 0
    · have z := hx.1 e
      rw [e] at hk hl
      rw [hk, hl]
      exact z
    · rw [hP 0 (by omega), hQ 0 (by omega)]
      exact h.2.1 (by omega)
  · by_cases e : m + 1 = n
    · have z := hx.2 (by omega)
      have e2 : n - 1 = m := by omega
      rw [e2] at z
      rw [hP m (by omega), hQ m (by omega), e, hk, hl]
      exact z
    · rw [hP m (by omega), hQ m (by omega), hP (m + 1) e, hQ (m + 1) e]
      exact h.2.2.1 m m0 (by omega)
  · rw [show n + 1 - 1 = n by omega, hk]
    have b := hG k l (nxl_G h.1 hx)
    by_cases e : n = 0
    · omega
    · have a := h.2.2.2 (by omega)
      have c := (hx.2 (by omega)).2.1.2.1
      omega
theorem chp_end (h : chp G wt K g t n P Q) (hx : nol wt K t n P Q) : isChn G wt K g t n P Q := ⟨h.1, hx.1, h.2.1, h.2.2.1, hx.2⟩
end CHP
/-! the reference -/
def btw (f s : Int → Int) (K a b : Int) : Int := if f b - f a - K < 0 ∨ s b - s a - K < 0 then -1 else f b - f a - K + (s b - s a - K)
theorem btw_in {f s : Int → Int} {K a b : Int} (h : ¬ (f b - f a - K < 0 ∨ s b - s a - K < 0)) : btw f s K a b = f b - f a - K + (s b - s a - K) := if_neg h
theorem btw_out {f s : Int → Int} {K a b : Int} (h : f b - f a - K < 0 ∨ s b - s a - K < 0) : btw f s K a b = -1 := if_pos h
/-- the most that anchors behind the a-th (up to the e-th) add, or 0 -/
def moreIx (f s w : Int → Int) (K g a e M : Int) : Prop := 0 ≤ M ∧ (∀ b, a < b → b < e → 0 ≤ btw f s K a b → w b - g * btw f s K a b ≤ M) ∧ (M = 0 ∨ ∃ b, a < b ∧ b < e ∧ 0 ≤ btw f s K a b ∧ w b - g * btw f s K a b = M)
def topIx (w : Int → Int) (a e t : Int) : Prop := 0 ≤ t ∧ (∀ m, a ≤ m → m < e → w m ≤ t) ∧ (t = 0 ∨ ∃ m, a ≤ m ∧ m < e ∧ w m = t)
section IX
variable {G : Int → Int → Prop} {n0 n1 K g T : Int} {f s w : Int → Int}
noncomputable def wI (G : Int → Int → Prop) (n1 : Int) (w : Int → Int) (i j : Int) : Int := w (cnt G n1 i j)
theorem moreIx_upd {a e M x v : Int} (hx : x ≤ a) (h : moreIx f s w K g a e M) : moreIx f s (jU w x v) K g a e M := by
  refine ⟨h.1, fun b b0 b1 b2 => ?_, ?_⟩
  · rw [jU_n (by omega)]; exact h.2.1 b b0 b1 b2
  · rcases h.2.2 with z | ⟨b, b0, b1, b2, z⟩
    · exact Or.inl z
    · exact Or.inr ⟨b, b0, b1, b2, by rw [jU_n (by omega)]; exact z⟩
theorem moreIx_0 {a : Int} : moreIx f s w K g a (a + 1) 0 := ⟨Int.le_refl _, fun b b0 b1 => by omega, Or.inl rfl⟩
theorem moreIx_s {a b M M' : Int} (hb : a < b) (h : moreIx f s w K g a b M) (h1 : 0 ≤ btw f s K a b → M' = max M (w b - g * btw f s K a b)) (h2 : ¬ 0 ≤ btw f s K a b → M' = M) : moreIx f s w K g a (b + 1) M' := by
  have hM := h.1
  have le : M ≤ M' := by
    by_cases c : 0 ≤ btw f s K a b
    · have := h1 c; omega
    · have := h2 c; omega
  refine ⟨by omega, fun x x0 x1 x2 => ?_, ?_⟩
  · by_cases e : x = b
    · subst e; have := h1 x2; omega
    · have := h.2.1 x x0 (by omega) x2; omega
  · have old : M' = M → (M' = 0 ∨ ∃ x, a < x ∧ x < b + 1 ∧ 0 ≤ btw f s K a x ∧ w x - g * btw f s K a x = M') := fun e => by
      rcases h.2.2 with z | ⟨x, x0, x1, x2, z⟩
      · exact Or.inl (by omega)
      · exact Or.inr ⟨x, x0, by omega, x2, by omega⟩
    by_cases c : 0 ≤ btw f s K a b
    · by_cases q : M' = M
      · exact old q
      · exact Or.inr ⟨b, hb, by omega, c, by have := h1 c; omega⟩
    · exact old (h2 c)
theorem topIx_s {a e t t' v : Int} (h : topIx w (a + 1) e t) (he : a < e) (ht : t' = max t v) (hv : 0 ≤ v) : topIx (jU w a v) a e t' := by
  have h0 := h.1
  refine ⟨by omega, fun m m0 m1 => ?_, ?_⟩
  · by_cases q : m = a
    · subst q; rw [jU_s]; omega
    · rw [jU_n q]; have := h.2.1 m (by omega) m1; omega
  · by_cases q : t' = t
    · rcases h.2.2 with z | ⟨m, m0, m1, z⟩
      · exact Or.inl (by omega)
      · exact Or.inr ⟨m, by omega, m1, by rw [jU_n (by omega)]; omega⟩
    · exact Or.inr ⟨a, by omega, he, by rw [jU_s]; omega⟩
theorem ix_lt (hG : inG G n0 n1 K) (hK : 1 ≤ K) {i j k l : Int} (hg : G i j) (hg2 : G k l) (hb : bef i j k l) : cnt G n1 i j < cnt G n1 k l := by
  have a := hG i j hg
  have b := hG k l hg2
  exact cnt_lt hg (by omega) (by omega) (by omega) (by omega) hb
theorem wI_WT (hG : inG G n0 n1 K) (hK : 1 ≤ K) (h1 : n1 ≤ 48) (hT : tabOK G n0 n1 f s T) (h : ∀ m, 0 ≤ m → m < T → moreIx f s w K g m T (w m - 10 * K)) : WT G K g (wI G n1 w) := by
  intro i j hij
  have bi := hG i j hij
  obtain ⟨c1, c2, c3⟩ := hT.2.1 i j hij
  have c0 := (cnt_b (G := G) h1 (i := i) (j := j) (by omega) (by omega)).1
  have z := h (cnt G n1 i j) c0 c1
  have key : ∀ k l, G k l → i + K ≤ k → j + K ≤ l → cnt G n1 i j < cnt G n1 k l ∧ cnt G n1 k l < T ∧ btw f s K (cnt G n1 i j) (cnt G n1 k l) = k - (i + K) + (l - (j + K)) := by
    intro k l hk a b
    obtain ⟨d1, d2, d3⟩ := hT.2.1 k l hk
    refine ⟨ix_lt hG hK hij hk (Or.inl (by omega)), d1, ?_⟩
    rw [btw_in (by rw [c2, c3, d2, d3]; omega), c2, c3, d2, d3]
    omega
  refine ⟨z.1, fun k l hk a b => ?_, ?_⟩
  · obtain ⟨x, y, e⟩ := key k l hk a b
    have q := z.2.1 (cnt G n1 k l) x y (by rw [e]; omega)
    rw [e] at q
    exact q
  · rcases z.2.2 with q | ⟨b, b0, b1, b2, q⟩
    · exact Or.inl q
    · obtain ⟨k, l, hk, e⟩ := hT.2.2 b (by omega) b1
      subst e
      obtain ⟨d1, d2, d3⟩ := hT.2.1 k l hk
      have in1 : ¬ (f (cnt G n1 k l) - f (cnt G n1 i j) - K < 0 ∨ s (cnt G n1 k l) - s (cnt G n1 i j) - K < 0) := fun o => by rw [btw_out o] at b2; omega
      rw [c2, c3, d2, d3] at in1
      obtain ⟨x, y, e⟩ := key k l hk (by omega) (by omega)
      rw [e] at q
      exact Or.inr ⟨k, l, hk, by omega, by omega, q⟩
theorem wI_top (hG : inG G n0 n1 K) (hK : 1 ≤ K) (h1 : n1 ≤ 48) (hT : tabOK G n0 n1 f s T) {t : Int} (h : topIx w 0 T t) : isTop G (wI G n1 w) t := by
  refine ⟨h.1, fun i j hij => ?_, ?_⟩
  · have bi := hG i j hij
    have c0 := (cnt_b (G := G) h1 (i := i) (j := j) (by omega) (by omega)).1
    exact h.2.1 _ c0 (hT.2.1 i j hij).1
  · rcases h.2.2 with z | ⟨m, m0, m1, z⟩
    · exact Or.inl z
    · obtain ⟨k, l, hk, e⟩ := hT.2.2 m m0 m1
      subst e
      exact Or.inr ⟨k, l, hk, z⟩
/-- where the search for the next link stands: n links, the last is the la-th anchor, le is due, no anchor before the b-th is the next link -/
def srch (f s w : Int → Int) (K g t n la le b : Int) : Prop := 0 ≤ b ∧ (n = 0 → la = -1 ∧ le = t ∧ ∀ m, 0 ≤ m → m < b → w m ≠ t) ∧ (0 < n → 0 ≤ la ∧ la < b ∧ le = w la - 10 * K ∧ ∀ m, la < m → m < b → 0 ≤ btw f s K la m → w m - g * btw f s K la m ≠ le)
theorem srch_lt (hG : inG G n0 n1 K) (hK : 1 ≤ K) (h0 : 0 ≤ n0 ∧ n0 ≤ 48) (h1 : n1 ≤ 48) (hT : tabOK G n0 n1 f s T) {t n la le b : Int} (hw : ∀ m, 0 ≤ m → m < T → moreIx f s w K g m T (w m - 10 * K)) (ht : topIx w 0 T t) (hn : 0 ≤ n) (hla : la < T) (h : srch f s w K g t n la le b) (hle : 0 < le) : b < T := by
  by_cases e : n = 0
  · obtain ⟨a1, a2, a3⟩ := h.2.1 e
    rcases ht.2.2 with z | ⟨m, m0, m1, z⟩
    · omega
    · by_cases q : m < b
      · exact (a3 m m0 q z).elim
      · omega
  · obtain ⟨a0, a1, a2, a3⟩ := h.2.2 (by omega)
    rcases (hw la a0 hla).2.2 with z | ⟨m, m0, m1, m2, z⟩
    · omega
    · by_cases q : m < b
      · exact (a3 m m0 q m2 (by omega)).elim
      · omega
theorem srch_no {t n la le b : Int} (h : srch f s w K g t n la le b) (hn : n = 0 → w b ≠ t) (hn2 : 0 < n → 0 ≤ btw f s K la b → w b - g * btw f s K la b ≠ le) : srch f s w K g t n la le (b + 1) := by
  have hb := h.1
  refine ⟨by omega, fun e => ?_, fun e => ?_⟩
  · obtain ⟨a1, a2, a3⟩ := h.2.1 e
    refine ⟨a1, a2, fun m m0 m1 => ?_⟩
    by_cases q : m = b
    · subst q; exact hn e
    · exact a3 m m0 (by omega)
  · obtain ⟨a0, a1, a2, a3⟩ := h.2.2 e
    refine ⟨a0, by omega, a2, fun m m0 m1 m2 => ?_⟩
    by_cases q : m = b
    · subst q; exact hn2 e m2
    · exact a3 m m0 (by omega) m2
theorem srch_yes (hG : inG G n0 n1 K) (hK : 1 ≤ K) (h0 : 0 ≤ n0 ∧ n0 ≤ 48) (h1 : n1 ≤ 48) (hT : tabOK G n0 n1 f s T) {t n la le b : Int} {lk : Int → Int} (h : srch f s w K g t n la le b) (hb : b < T) (hle : 0 < le) (hlk : 0 < n → lk (n - 1) = la) (hla : la < T) (hn0 : n = 0 → w b = t) (hn2 : 0 < n → 0 ≤ btw f s K la b ∧ w b - g * btw f s K la b = le) :
    nxl G (wI G n1 w) K g t n (fun m => f (lk m)) (fun m => s (lk m)) (f b) (s b) := by
  have tb := (tabOK_b hG hK h0 h1 hT).2.2
  obtain ⟨gb, cb⟩ := tb b h.1 hb
  have wb : wI G n1 w (f b) (s b) = w b := by unfold wI; rw [cb]
  refine ⟨fun e => ?_, fun e => ?_⟩
  · obtain ⟨a1, a2, a3⟩ := h.2.1 e
    refine ⟨by omega, ⟨gb, by rw [wb]; exact hn0 e⟩, fun k l hk hbf => ?_⟩
    have lt := ix_lt hG hK hk gb hbf
    rw [cb] at lt
    have bi := hG k l hk
    exact a3 _ (cnt_b (G := G) h1 (i := k) (j := l) (by omega) (by omega)).1 lt
  · obtain ⟨a0, a1, a2, a3⟩ := h.2.2 e
    obtain ⟨y1, y2⟩ := hn2 e
    obtain ⟨ga, ca⟩ := tb la a0 hla
    have wa : wI G n1 w (f la) (s la) = w la := by unfold wI; rw [ca]
    show 0 < wI G n1 w (f (lk (n - 1))) (s (lk (n - 1))) - 10 * K ∧ isFst G (wI G n1 w) g (f (lk (n - 1)) + K) (s (lk (n - 1)) + K) (wI G n1 w (f (lk (n - 1))) (s (lk (n - 1))) - 10 * K) (f b) (s b)
    rw [hlk e, wa]
    have in1 : ¬ (f b - f la - K < 0 ∨ s b - s la - K < 0) := fun o => by rw [btw_out o] at y1; omega
    have eb := btw_in in1
    have e1 : f b - (f la + K) + (s b - (s la + K)) = btw f s K la b := by rw [eb]; omega
    refine ⟨by omega, ⟨gb, by omega, by omega, by rw [wb, e1]; omega⟩, fun k l hk ka kb hbf => ?_⟩
    obtain ⟨d1, d2, d3⟩ := hT.2.1 k l hk
    have lt := ix_lt hG hK hk gb hbf
    rw [cb] at lt
    have gt : la < cnt G n1 k l := by
      have := ix_lt hG hK ga hk (Or.inl (by omega))
      rw [ca] at this
      exact this
    have in2 : ¬ (f (cnt G n1 k l) - f la - K < 0 ∨ s (cnt G n1 k l) - s la - K < 0) := by rw [d2, d3]; omega
    have e2 : btw f s K la (cnt G n1 k l) = k - (f la + K) + (l - (s la + K)) := by rw [btw_in in2, d2, d3]; omega
    have q := a3 (cnt G n1 k l) gt lt (by rw [e2]; omega)
    rw [e2, a2] at q
    exact q
end IX
end
section
/-! ===== mathematics 5: the search for the first pair and for the next one ===== -/
/-- z is the first of the best so far, mo its worth -/
def fpP (G : Int → Int → Prop) (wt : Int → Int → Int) (z mo i j : Int) : Prop := (z = -1 ∧ mo = 0 ∧ ∀ k l, G k l → ¬ bef k l i j) ∨ ∃ x y, z = x * 48 + y ∧ G x y ∧ bef x y i j ∧ mo = wt x y ∧ (∀ k l, G k l → bef k l i j → wt k l ≤ mo) ∧ ∀ k l, G k l → bef k l x y → wt k l < mo
def fpR (G : Int → Int → Prop) (wt : Int → Int → Int) (z : Int) : Prop := (z = -1 ∧ ∀ i j, ¬ G i j) ∨ ∃ i j, z = i * 48 + j ∧ G i j ∧ (∀ k l, G k l → wt k l ≤ wt i j) ∧ ∀ k l, G k l → bef k l i j → wt k l < wt i j
section FP
variable {G : Int → Int → Prop} {n0 n1 K g : Int} {wt : Int → Int → Int} {z mo i j : Int}
theorem fp_0 (hG : inG G n0 n1 K) : fpP G wt (-1) 0 0 0 := Or.inl ⟨rfl, rfl, fun k l hk h => by have := hG k l hk; omega⟩
theorem fp_yes (hg : G i j) (hw : mo < wt i j) (h : fpP G wt z mo i j) : fpP G wt (i * 48 + j) (wt i j) i (j + 1) := by
  refine Or.inr ⟨i, j, rfl, hg, by omega, rfl, fun k l hk hb => ?_, fun k l hk hb => ?_⟩
  · by_cases e : bef k l i j
    · rcases h with ⟨-, -, h⟩ | ⟨x, y, -, -, -, -, h, -⟩
      · exact (h k l hk e).elim
      · have := h k l hk e; omega
    · have e2 : k = i ∧ l = j := by omega
      obtain ⟨rfl, rfl⟩ := e2
      exact Int.le_refl _
  · rcases h with ⟨-, -, h⟩ | ⟨x, y, -, -, -, -, h, -⟩
    · exact (h k l hk hb).elim
    · have := h k l hk hb; omega
theorem fp_no (hg : G i j → wt i j ≤ mo) (hp : ∀ k l, G k l → 0 < wt k l) (h : fpP G wt z mo i j) : fpP G wt z mo i (j + 1) := by
  rcases h with ⟨h1, h2, h⟩ | ⟨x, y, a, b, c, d, h, h2⟩
  · refine Or.inl ⟨h1, h2, fun k l hk hb => ?_⟩
    by_cases e : bef k l i j
    · exact h k l hk e
    · have e2 : k = i ∧ l = j := by omega
      obtain ⟨rfl, rfl⟩ := e2
      have := hg hk
      have := hp k l hk
      omega
  · refine Or.inr ⟨x, y, a, b, by omega, d, fun k l hk hb => ?_, h2⟩
    by_cases e : bef k l i j
    · exact h k l hk e
    · have e2 : k = i ∧ l = j := by omega
      obtain ⟨rfl, rfl⟩ := e2
      exact hg hk
theorem fp_row (hG : inG G n0 n1 K) (hK : 1 ≤ K) (hj : n1 ≤ j) (h : fpP G wt z mo i j) : fpP G wt z mo (i + 1) 0 := by
  rcases h with ⟨h1, h2, h⟩ | ⟨x, y, a, b, c, d, h, h2⟩
  · exact Or.inl ⟨h1, h2, fun k l hk hb => h k l hk (by have := hG k l hk; omega)⟩
  · exact Or.inr ⟨x, y, a, b, by have := hG x y b; omega, d, fun k l hk hb => h k l hk (by have := hG k l hk; omega), h2⟩
theorem fp_end (hG : inG G n0 n1 K) (hK : 1 ≤ K) (hi : n0 ≤ i) (h : fpP G wt z mo i 0) : fpR G wt z := by
  rcases h with ⟨h1, h2, h⟩ | ⟨x, y, a, b, c, d, h, h2⟩
  · exact Or.inl ⟨h1, fun k l hk => h k l hk (by have := hG k l hk; omega)⟩
  · subst d
    exact Or.inr ⟨x, y, a, b, fun k l hk => h k l hk (by have := hG k l hk; omega), h2⟩
/-- none before (i, j) of those at (a, b) or behind adds v -/
def nnP (G : Int → Int → Prop) (wt : Int → Int → Int) (g a b v i j : Int) : Prop := ∀ k l, G k l → a ≤ k → b ≤ l → bef k l i j → wt k l - g * (k - a + (l - b)) ≠ v
def npR (G : Int → Int → Prop) (wt : Int → Int → Int) (g a b v z : Int) : Prop := (v ≤ 0 ∧ z = -1) ∨ (0 < v ∧ ((∃ i j, z = i * 48 + j ∧ isFst G wt g a b v i j) ∨ (z = -1 ∧ ∀ k l, G k l → a ≤ k → b ≤ l → wt k l - g * (k - a + (l - b)) ≠ v)))
variable {a b v : Int}
theorem nn_0 : nnP G wt g a b v a b := fun k l hk ha hb h => by omega
theorem nn_no (hg : G i j → wt i j - g * (i - a + (j - b)) ≠ v) (h : nnP G wt g a b v i j) : nnP G wt g a b v i (j + 1) := by
  intro k l hk ha hb hbf
  by_cases e : bef k l i j
  · exact h k l hk ha hb e
  · have e2 : k = i ∧ l = j := by omega
    obtain ⟨rfl, rfl⟩ := e2
    exact hg hk
theorem nn_row (hG : inG G n0 n1 K) (hK : 1 ≤ K) (hj : n1 ≤ j) (h : nnP G wt g a b v i j) : nnP G wt g a b v (i + 1) b := by
  intro k l hk ha hb hbf
  exact h k l hk ha hb (by have := hG k l hk; omega)
theorem nn_end (hG : inG G n0 n1 K) (hK : 1 ≤ K) (hi : n0 ≤ i) (h : nnP G wt g a b v i b) : ∀ k l, G k l → a ≤ k → b ≤ l → wt k l - g * (k - a + (l - b)) ≠ v :=
  fun k l hk ha hb => h k l hk ha hb (by have := hG k l hk; omega)
theorem gmul_b {g d : Int} (hg : 0 ≤ g ∧ g ≤ 9) (hd : 0 ≤ d ∧ d ≤ 10000) : 0 ≤ g * d ∧ g * d ≤ 90000 := by
  have h1 := Int.mul_nonneg hg.1 hd.1
  have h2 : g * d ≤ 9 * 10000 := Int.mul_le_mul hg.2 hd.2 hd.1 (by omega)
  omega
/-- the pair pr is what comes behind n links -/
def prN (G : Int → Int → Prop) (wt : Int → Int → Int) (K g t n : Int) (P Q : Int → Int) (pr : Int) : Prop := (pr = -1 ∧ nol wt K t n P Q) ∨ ∃ k l, pr = k * 48 + l ∧ nxl G wt K g t n P Q k l
theorem prN_first (hG : inG G n0 n1 K) (hK : 1 ≤ K) (hp : ∀ k l, G k l → 10 * K ≤ wt k l) {P Q : Int → Int} {pr t : Int} (h : fpR G wt pr) (ht : (pr = -1 → t = 0) ∧ ∀ k l, G k l → pr = k * 48 + l → t = wt k l) : prN G wt K g t 0 P Q pr ∧ isTop G wt t := by
  rcases h with ⟨h1, h2⟩ | ⟨i, j, h1, h2, h3, h4⟩
  · have t0 := ht.1 h1
    exact ⟨Or.inl ⟨h1, fun _ => t0, fun h => by omega⟩, by omega, fun k l hk => (h2 k l hk).elim, Or.inl t0⟩
  · have te := ht.2 i j h2 h1
    have tp := hp i j h2
    refine ⟨Or.inr ⟨i, j, h1, fun _ => ⟨by omega, ⟨h2, te.symm⟩, fun k l hk hb => ?_⟩, fun h => by omega⟩, by omega, fun k l hk => ?_, Or.inr ⟨i, j, h2, te.symm⟩⟩
    · have := h4 k l hk hb; omega
    · have := h3 k l hk; omega
theorem prN_next (hG : inG G n0 n1 K) (hK : 1 ≤ K) {P Q : Int → Int} {n t k l v pr : Int} (hn : 0 < n) (hP : P (n - 1) = k) (hQ : Q (n - 1) = l) (hm : isMore G wt g (k + K) (l + K) (wt k l - 10 * K)) (hv : wt k l - 10 * K = max 0 v) (h : npR G wt g (k + K) (l + K) v pr) : prN G wt K g t n P Q pr := by
  rcases h with ⟨h1, h2⟩ | ⟨h1, h2⟩
  · refine Or.inl ⟨h2, fun h => by omega, fun _ => ?_⟩
    rw [hP, hQ]; omega
  · have e : wt k l - 10 * K = v := by rw [hv]; exact Int.max_eq_right (Int.le_of_lt h1)
    rcases h2 with ⟨i, j, h3, h4⟩ | ⟨h3, h4⟩
    · refine Or.inr ⟨i, j, h3, fun h => by omega, fun _ => ?_⟩
      rw [hP, hQ, e]
      exact ⟨h1, h4⟩
    · rw [e] at hm
      rcases hm.2.2 with z | ⟨x, y, q1, q2, q3, q4⟩
      · omega
      · exact (h4 x y q1 q2 q3 q4).elim
end FP
end
section
/-! ===== mathematics 6: a cell of the reference's table is a cell of the slope ===== -/
theorem mc_eq {sm : Int → Int → Int} {P Q gp li d top p A B C s1 s2 s3 : Int} {one two : Int → Int} (hsm : ∀ p q, -9 ≤ sm p q ∧ sm p q ≤ 9) (hgp : 1 ≤ gp ∧ gp ≤ 9) (hli : 0 ≤ li ∧ li ≤ 99) (hd : 1 ≤ d) (ht : 0 ≤ top) (h1 : slo P Q (d - 1) one) (h2 : slo P Q (d - 2) two ∨ ∀ x, two x = -1000000) (hd2 : d ≤ 97)
    (hp : 0 ≤ p ∧ p ≤ P ∧ 0 ≤ d - p ∧ d - p ≤ Q) (hA : 0 < p → 0 < d - p → A = two (p - 1)) (hB : B = -1000000 ∧ p = 0 ∨ 0 < p ∧ B = one (p - 1)) (hC : C = -1000000 ∧ d - p = 0 ∨ 0 < d - p ∧ C = one p)
    (e1 : 0 < p ∧ 0 < d - p ∧ -1000000 < A ∧ s1 = A + sm p (d - p) ∨ ¬ (0 < p ∧ 0 < d - p ∧ -1000000 < A) ∧ s1 = -1000000) (e2 : -1000000 < B ∧ s2 = max s1 (B - gp) ∨ ¬ -1000000 < B ∧ s2 = s1) (e3 : -1000000 < C ∧ s3 = max s2 (C - gp) ∨ ¬ -1000000 < C ∧ s3 = s2) :
    (-1000000 < s3 ∧ top - li ≤ s3 → s3 = nx sm P Q gp li d top one two p ∧ s3 ≠ -1000000) ∧ (¬ (-1000000 < s3 ∧ top - li ≤ s3) → nx sm P Q gp li d top one two p = -1000000) := by
  have a := h1 p
  have b := h1 (p - 1)
  have c : two (p - 1) = -1000000 ∨ (-99 ≤ two (p - 1) ∧ two (p - 1) ≤ 900) := by
    rcases h2 with h2 | h2
    · have := h2 (p - 1); omega
    · exact Or.inl (h2 (p - 1))
  have s := hsm p (d - p)
  have key : ∀ r, rawC sm gp one two p (d - p) = r → (-1000000 < s3 ∧ top - li ≤ s3 → s3 = r) ∧ (¬ (-1000000 < s3 ∧ top - li ≤ s3) → r < top - li) := by
    intro r hr
    unfold rawC at hr
    by_cases p0 : 0 < p
    · by_cases q0 : 0 < d - p
      · rw [if_pos p0, if_pos q0] at hr
        have := hA p0 q0
        omega
      · rw [if_pos p0, if_neg q0] at hr
        omega
    · rw [if_neg p0] at hr
      omega
  have k := key _ rfl
  refine ⟨fun h => ?_, fun h => ?_⟩
  · have e := k.1 h
    have n : nx sm P Q gp li d top one two p = rawC sm gp one two p (d - p) := if_pos ⟨hp, by omega⟩
    rw [n]
    exact ⟨e, by omega⟩
  · exact if_neg (fun h5 => by have := k.2 h; have := h5.2; omega)
end
section
set_option maxHeartbeats 4000000 in
set_option maxRecDepth 100000 in
theorem kX1_size (l : Launch) (D : va_G) (cA : ClassId) (h a : Nat) (n : Int) (L : Int → Int)  : jR l YX1_size (rmk 0 0 0 0) D cA [.ref h] [(h, .inr (1, [.ref a, .int (jI n)])), (a, .inl (cA, 48, .inl (jA L)))] (fun v => v = .int (jI n)) := by
  refine jR.intro (by decide +kernel) (Nat.le_of_ble_eq_true rfl) ?_
  intro p e s m args below meth c ls Q F hQ hP hl
  have hx := F.1
  have hb := F.2.1
  have hl : lv_has ls 1 [(0, .ref h)] := hl
  refine lv_aload_n hx hb dX1_size_0 rfl (lv_at hl 0 rfl) ?_
  refine jv_get (v := .int (jI n)) F hP 0 rfl flX1_15 rfl dX1_size_1 ?_
  exact jR.ri F hQ rfl dX1_size_4 (by rfl)
set_option maxHeartbeats 4000000 in
set_option maxRecDepth 100000 in
theorem kX1_isFull (l : Launch) (D : va_G) (cA : ClassId) (h a : Nat) (n : Int) (L : Int → Int) (hn : 0 ≤ n ∧ n ≤ 48) : jR l YX1_isFull (rmk 0 0 0 0) D cA [.ref h] [(h, .inr (1, [.ref a, .int (jI n)])), (a, .inl (cA, 48, .inl (jA L)))] (fun v => ∃ z : Int, v = .int (jI z) ∧ (z = 1 ∧ n = 48 ∨ z = 0 ∧ n ≠ 48)) := by
  refine jR.intro (by decide +kernel) (Nat.le_of_ble_eq_true rfl) ?_
  intro p e s m args below meth c ls Q F hQ hP hl
  have hx := F.1
  have hb := F.2.1
  have hl : lv_has ls 1 [(0, .ref h)] := hl
  refine lv_aload_n hx hb dX1_isFull_0 rfl (lv_at hl 0 rfl) ?_
  refine jv_get (v := .int (jI n)) F hP 0 rfl flX1_15 rfl dX1_isFull_1 ?_
  refine lv_bipush (v := jI 48) hx hb dX1_isFull_4 (by decide +kernel) ?_
  refine jv_icmp_ne (tgt := 13) hx hb dX1_isFull_6 rfl (by omega) (by omega) (fun c6 => ?_) (fun c6 => ?_)
  · refine lv_iconst (v := jI 0) hx hb dX1_isFull_13 rfl ?_
    exact jR.rz F hQ rfl (by omega) dX1_isFull_14 (by exact ⟨_, rfl, by omega⟩)
  · refine lv_iconst (v := jI 1) hx hb dX1_isFull_9 rfl ?_
    refine lv_goto (tgt := 14) hx hb dX1_isFull_10 rfl ?_
    exact jR.rz F hQ rfl (by omega) dX1_isFull_14 (by exact ⟨_, rfl, by omega⟩)
set_option maxHeartbeats 4000000 in
set_option maxRecDepth 100000 in
theorem kX1_append (l : Launch) (D : va_G) (cA : ClassId) (h a : Nat) (n : Int) (L : Int → Int) (x : Int) (hn : 0 ≤ n ∧ n < 48) : jM l YX1_append (rmk 1 0 0 20) D cA [.ref h, .int (jI x)] [(h, .inr (1, [.ref a, .int (jI n)])), (a, .inl (cA, 48, .inl (jA L)))] (fun v w => v = none ∧ w = [(h, .inr (1, [.ref a, .int (jI (n + 1))])), (a, .inl (cA, 48, .inl (jA (jU L n x))))]) 0 0 := by
  refine jM.intro (by decide +kernel) (Nat.le_of_ble_eq_true rfl) ?_
  intro p e s m args below meth c ls Q A F hQ hA hP hD hS hl
  have hx := F.1
  have hb := F.2.1
  have hl : lv_has ls 2 [(0, .ref h), (1, .int (jI x))] := hl
  refine lv_aload_n hx hb dX1_append_0 rfl (lv_at hl 0 rfl) ?_
  refine jr_V F (kX1_isFull l D cA h a n L (by omega)) cvX1_19 hP [0, 1] rfl 0 rfl rfl hl ⟨rfl, rfl, by decide, by decide⟩ rfl rfl (by decide) dX1_append_1 ⟨by decide, by decide⟩ (fun v hv => ?_)
  obtain ⟨z1, rfl, hz1⟩ := hv
  refine jv_if_ne (tgt := 27) hx hb dX1_append_4 rfl (by omega) (fun c4 => ?_) (fun c4 => ?_)
  · exfalso
    omega
  · refine lv_aload_n hx hb dX1_append_7 rfl (lv_at hl 0 rfl) ?_
    refine jv_get (v := .ref a) F hP 0 rfl flX1_9 rfl dX1_append_8 ?_
    refine lv_aload_n hx hb dX1_append_11 rfl (lv_at hl 0 rfl) ?_
    refine jv_get (v := .int (jI n)) F hP 0 rfl flX1_15 rfl dX1_append_12 ?_
    refine lv_iload_n hx hb dX1_append_15 rfl (lv_at hl 1 rfl) ?_
    refine jv_iast (fa := L) F hP hD hS 1 rfl (by omega) (by decide) dX1_append_16 (fun H locs hP hD hS => ?_)
    have hP : va_P D cls [(h, .inr (1, [.ref a, .int (jI n)])), (a, .inl (cA, 48, .inl (jA (jU L n x))))] H := hP
    have hD : va_D A [(h, .inr (1, [.ref a, .int (jI n)])), (a, .inl (cA, 48, .inl (jA (jU L n x))))] := hD
    refine lv_aload_n hx hb dX1_append_17 rfl (lv_at hl 0 rfl) ?_
    refine lv_dup hx hb dX1_append_18 rfl ?_
    refine jv_get (v := .int (jI n)) F hP 0 rfl flX1_15 rfl dX1_append_19 ?_
    refine lv_iconst (v := jI 1) hx hb dX1_append_22 rfl ?_
    refine jv_iadd hx hb dX1_append_23 ?_
    refine jv_put (v := .int (jI (n + 1))) F hP hD hS 0 rfl flX1_15 pfX1 (by decide +kernel) rfl rfl (Nat.le_of_ble_eq_true rfl) dX1_append_24 (fun H locs hP hD hS => ?_)
    have hP : va_P D cls [(h, .inr (1, [.ref a, .int (jI (n + 1))])), (a, .inl (cA, 48, .inl (jA (jU L n x))))] H := hP
    have hD : va_D A [(h, .inr (1, [.ref a, .int (jI (n + 1))])), (a, .inl (cA, 48, .inl (jA (jU L n x))))] := hD
    exact jM.rv F hQ rfl dX1_append_27 hS hP hD (by exact ⟨rfl, rfl⟩)
set_option maxHeartbeats 4000000 in
set_option maxRecDepth 100000 in
theorem kX1_dropLast (l : Launch) (D : va_G) (cA : ClassId) (h a : Nat) (n : Int) (L : Int → Int) (hn : 0 < n ∧ n ≤ 48) : jM l YX1_dropLast (rmk 0 0 0 0) D cA [.ref h] [(h, .inr (1, [.ref a, .int (jI n)])), (a, .inl (cA, 48, .inl (jA L)))] (fun v w => v = some (.int (jI (L (n - 1)))) ∧ w = [(h, .inr (1, [.ref a, .int (jI (n - 1))])), (a, .inl (cA, 48, .inl (jA L)))]) 0 0 := by
  refine jM.intro (by decide +kernel) (Nat.le_of_ble_eq_true rfl) ?_
  intro p e s m args below meth c ls Q A F hQ hA hP hD hS hl
  have hx := F.1
  have hb := F.2.1
  have hl : lv_has ls 1 [(0, .ref h)] := hl
  refine lv_aload_n hx hb dX1_dropLast_0 rfl (lv_at hl 0 rfl) ?_
  refine jv_get (v := .int (jI n)) F hP 0 rfl flX1_15 rfl dX1_dropLast_1 ?_
  refine jv_if_ne (tgt := 9) hx hb dX1_dropLast_4 rfl (by omega) (fun c4 => ?_) (fun c4 => ?_)
  · refine lv_aload_n hx hb dX1_dropLast_9 rfl (lv_at hl 0 rfl) ?_
    refine lv_dup hx hb dX1_dropLast_10 rfl ?_
    refine jv_get (v := .int (jI n)) F hP 0 rfl flX1_15 rfl dX1_dropLast_11 ?_
    refine lv_iconst (v := jI 1) hx hb dX1_dropLast_14 rfl ?_
    refine jv_isub hx hb dX1_dropLast_15 ?_
    refine jv_put (v := .int (jI (n - 1))) F hP hD hS 0 rfl flX1_15 pfX1 (by decide +kernel) rfl rfl (Nat.le_of_ble_eq_true rfl) dX1_dropLast_16 (fun H locs hP hD hS => ?_)
    have hP : va_P D cls [(h, .inr (1, [.ref a, .int (jI (n - 1))])), (a, .inl (cA, 48, .inl (jA L)))] H := hP
    have hD : va_D A [(h, .inr (1, [.ref a, .int (jI (n - 1))])), (a, .inl (cA, 48, .inl (jA L)))] := hD
    refine lv_aload_n hx hb dX1_dropLast_19 rfl (lv_at hl 0 rfl) ?_
    refine jv_get (v := .ref a) F hP 0 rfl flX1_9 rfl dX1_dropLast_20 ?_
    refine lv_aload_n hx hb dX1_dropLast_23 rfl (lv_at hl 0 rfl) ?_
    refine jv_get (v := .int (jI (n - 1))) F hP 0 rfl flX1_15 rfl dX1_dropLast_24 ?_
    refine jv_iald (fa := L) F hP 1 rfl (by omega) (by decide) dX1_dropLast_27 ?_
    exact jM.ri F hQ rfl dX1_dropLast_28 hS hP hD (by exact ⟨rfl, rfl⟩)
  · exfalso
    omega
set_option maxHeartbeats 4000000 in
set_option maxRecDepth 100000 in
theorem kX1_at (l : Launch) (D : va_G) (cA : ClassId) (h a : Nat) (n : Int) (L : Int → Int) (i : Int) (hn : 0 ≤ n ∧ n ≤ 48) (hi : -2147483648 ≤ i ∧ i < 2147483648) : jR l YX1_at (rmk 0 0 0 0) D cA [.ref h, .int (jI i)] [(h, .inr (1, [.ref a, .int (jI n)])), (a, .inl (cA, 48, .inl (jA L)))] (fun v => v = .int (jI (atv L n i))) := by
  refine jR.intro (by decide +kernel) (Nat.le_of_ble_eq_true rfl) ?_
  intro p e s m args below meth c ls Q F hQ hP hl
  have hx := F.1
  have hb := F.2.1
  have hl : lv_has ls 2 [(0, .ref h), (1, .int (jI i))] := hl
  refine lv_iload_n hx hb dX1_at_0 rfl (lv_at hl 1 rfl) ?_
  refine jv_if_lt (tgt := 21) hx hb dX1_at_1 rfl (by omega) (fun c1 => ?_) (fun c1 => ?_)
  · refine lv_iconst (v := jI (-1)) hx hb dX1_at_21 rfl ?_
    exact jR.ri F hQ rfl dX1_at_22 (by rw [atv_out (by omega)])
  · refine lv_iload_n hx hb dX1_at_4 rfl (lv_at hl 1 rfl) ?_
    refine lv_aload_n hx hb dX1_at_5 rfl (lv_at hl 0 rfl) ?_
    refine jv_get (v := .int (jI n)) F hP 0 rfl flX1_15 rfl dX1_at_6 ?_
    refine jv_icmp_ge (tgt := 21) hx hb dX1_at_9 rfl (by omega) (by omega) (fun c9 => ?_) (fun c9 => ?_)
    · refine lv_iconst (v := jI (-1)) hx hb dX1_at_21 rfl ?_
      exact jR.ri F hQ rfl dX1_at_22 (by rw [atv_out (by omega)])
    · refine lv_aload_n hx hb dX1_at_12 rfl (lv_at hl 0 rfl) ?_
      refine jv_get (v := .ref a) F hP 0 rfl flX1_9 rfl dX1_at_13 ?_
      refine lv_iload_n hx hb dX1_at_16 rfl (lv_at hl 1 rfl) ?_
      refine jv_iald (fa := L) F hP 1 rfl (by omega) (by decide) dX1_at_17 ?_
      refine lv_goto (tgt := 22) hx hb dX1_at_18 rfl ?_
      exact jR.ri F hQ rfl dX1_at_22 (by rw [atv_in (by omega)])
end
section
def plc (pr wh : Int) : Int := if pr = -1 ∨ (wh < 0 ∨ 1 < wh) then -1 else if wh = 0 then pr / 48 else pr % 48
theorem plc_n {pr wh : Int} (h : pr = -1 ∨ (wh < 0 ∨ 1 < wh)) : plc pr wh = -1 := if_pos h
theorem plc_0 {pr wh : Int} (h : pr ≠ -1) (h0 : wh = 0) : plc pr wh = pr / 48 := by subst h0; exact (if_neg (by omega)).trans (if_pos rfl)
theorem plc_1 {pr wh : Int} (h : pr ≠ -1) (h0 : wh = 1) : plc pr wh = pr % 48 := by subst h0; exact (if_neg (by omega)).trans (if_neg (by omega))
set_option maxHeartbeats 4000000 in
set_option maxRecDepth 100000 in
theorem kX4_isBetween (l : Launch) (D : va_G) (cA : ClassId) (x a b : Int) (hx0 : -2147483648 ≤ x ∧ x < 2147483648) (ha : -2147483648 ≤ a ∧ a < 2147483648) (hb0 : -2147483648 ≤ b ∧ b < 2147483648) : jR l YX4_isBetween (rmk 0 0 0 0) D cA [.int (jI x), .int (jI a), .int (jI b)] [] (fun v => ∃ z : Int, v = .int (jI z) ∧ (z = 1 ∧ a ≤ x ∧ x ≤ b ∨ z = 0 ∧ (x < a ∨ b < x))) := by
  refine jR.intro (by decide +kernel) (Nat.le_of_ble_eq_true rfl) ?_
  intro p e s m args below meth c ls Q F hQ hP hl
  have hx := F.1
  have hb := F.2.1
  have hl : lv_has ls 3 [(0, .int (jI x)), (1, .int (jI a)), (2, .int (jI b))] := hl
  refine lv_iload_n hx hb dX4_isBetween_0 rfl (lv_at hl 0 rfl) ?_
  refine lv_iload_n hx hb dX4_isBetween_1 rfl (lv_at hl 1 rfl) ?_
  refine jv_icmp_lt (tgt := 14) hx hb dX4_isBetween_2 rfl (by omega) (by omega) (fun c2 => ?_) (fun c2 => ?_)
  · refine lv_iconst (v := jI 0) hx hb dX4_isBetween_14 rfl ?_
    exact jR.rz F hQ rfl (by omega) dX4_isBetween_15 (by exact ⟨_, rfl, by omega⟩)
  · refine lv_iload_n hx hb dX4_isBetween_5 rfl (lv_at hl 0 rfl) ?_
    refine lv_iload_n hx hb dX4_isBetween_6 rfl (lv_at hl 2 rfl) ?_
    refine jv_icmp_gt (tgt := 14) hx hb dX4_isBetween_7 rfl (by omega) (by omega) (fun c7 => ?_) (fun c7 => ?_)
    · refine lv_iconst (v := jI 0) hx hb dX4_isBetween_14 rfl ?_
      exact jR.rz F hQ rfl (by omega) dX4_isBetween_15 (by exact ⟨_, rfl, by omega⟩)
    · refine lv_iconst (v := jI 1) hx hb dX4_isBetween_10 rfl ?_
      refine lv_goto (tgt := 15) hx hb dX4_isBetween_11 rfl ?_
      exact jR.rz F hQ rfl (by omega) dX4_isBetween_15 (by exact ⟨_, rfl, by omega⟩)
set_option maxHeartbeats 4000000 in
set_option maxRecDepth 100000 in
theorem kX4_pairOf (l : Launch) (D : va_G) (cA : ClassId) (i j : Int)  : jR l YX4_pairOf (rmk 0 0 0 0) D cA [.int (jI i), .int (jI j)] [] (fun v => v = .int (jI (i * 48 + j))) := by
  refine jR.intro (by decide +kernel) (Nat.le_of_ble_eq_true rfl) ?_
  intro p e s m args below meth c ls Q F hQ hP hl
  have hx := F.1
  have hb := F.2.1
  have hl : lv_has ls 2 [(0, .int (jI i)), (1, .int (jI j))] := hl
  refine lv_iload_n hx hb dX4_pairOf_0 rfl (lv_at hl 0 rfl) ?_
  refine lv_bipush (v := jI 48) hx hb dX4_pairOf_1 (by decide +kernel) ?_
  refine jv_imul hx hb dX4_pairOf_3 ?_
  refine lv_iload_n hx hb dX4_pairOf_4 rfl (lv_at hl 1 rfl) ?_
  refine jv_iadd hx hb dX4_pairOf_5 ?_
  exact jR.ri F hQ rfl dX4_pairOf_6 (by rfl)
set_option maxHeartbeats 4000000 in
set_option maxRecDepth 100000 in
theorem kX4_placeOf (l : Launch) (D : va_G) (cA : ClassId) (pr wh : Int) (hp : -1 ≤ pr ∧ pr < 2147483648) (hw : -2147483648 ≤ wh ∧ wh < 2147483648) : jR l YX4_placeOf (rmk 1 0 0 22) D cA [.int (jI pr), .int (jI wh)] [] (fun v => v = .int (jI (plc pr wh))) := by
  refine jR.intro (by decide +kernel) (Nat.le_of_ble_eq_true rfl) ?_
  intro p e s m args below meth c ls Q F hQ hP hl
  have hx := F.1
  have hb := F.2.1
  have hl : lv_has ls 2 [(0, .int (jI pr)), (1, .int (jI wh))] := hl
  refine lv_iload_n hx hb dX4_placeOf_0 rfl (lv_at hl 0 rfl) ?_
  refine lv_iconst (v := jI (-1)) hx hb dX4_placeOf_1 rfl ?_
  refine jv_icmp_eq (tgt := 14) hx hb dX4_placeOf_2 rfl (by omega) (by omega) (fun c2 => ?_) (fun c2 => ?_)
  · refine lv_iconst (v := jI (-1)) hx hb dX4_placeOf_14 rfl ?_
    exact jR.ri F hQ rfl dX4_placeOf_15 (by rw [plc_n (by omega)])
  · refine lv_iload_n hx hb dX4_placeOf_5 rfl (lv_at hl 1 rfl) ?_
    refine lv_iconst (v := jI 0) hx hb dX4_placeOf_6 rfl ?_
    refine lv_iconst (v := jI 1) hx hb dX4_placeOf_7 rfl ?_
    refine jr_S F (kX4_isBetween l D cA wh 0 1 (by omega) (by omega) (by omega)) csX4_54 hP [] rfl hl ⟨rfl, rfl, by decide, by decide⟩ rfl rfl (by decide) dX4_placeOf_8 ⟨by decide, by decide⟩ (fun v hv => ?_)
    obtain ⟨z8, rfl, hz8⟩ := hv
    refine jv_if_ne (tgt := 16) hx hb dX4_placeOf_11 rfl (by omega) (fun c11 => ?_) (fun c11 => ?_)
    · refine lv_iload_n hx hb dX4_placeOf_16 rfl (lv_at hl 1 rfl) ?_
      refine jv_if_ne (tgt := 27) hx hb dX4_placeOf_17 rfl (by omega) (fun c17 => ?_) (fun c17 => ?_)
      · refine lv_iload_n hx hb dX4_placeOf_27 rfl (lv_at hl 0 rfl) ?_
        refine lv_bipush (v := jI 48) hx hb dX4_placeOf_28 (by decide +kernel) ?_
        refine jv_irem hx hb dX4_placeOf_30 (by omega) (by omega) ?_
        exact jR.ri F hQ rfl dX4_placeOf_31 (by first | rw [plc_0 (by omega) (by omega)] | rw [plc_1 (by omega) (by omega)])
      · refine lv_iload_n hx hb dX4_placeOf_20 rfl (lv_at hl 0 rfl) ?_
        refine lv_bipush (v := jI 48) hx hb dX4_placeOf_21 (by decide +kernel) ?_
        refine jv_idiv hx hb dX4_placeOf_23 (by omega) (by omega) ?_
        refine lv_goto (tgt := 31) hx hb dX4_placeOf_24 rfl ?_
        exact jR.ri F hQ rfl dX4_placeOf_31 (by first | rw [plc_0 (by omega) (by omega)] | rw [plc_1 (by omega) (by omega)])
    · refine lv_iconst (v := jI (-1)) hx hb dX4_placeOf_14 rfl ?_
      exact jR.ri F hQ rfl dX4_placeOf_15 (by rw [plc_n (by omega)])
end
section
set_option maxHeartbeats 4000000 in
set_option maxRecDepth 100000 in
theorem kX3_length (l : Launch) (D : va_G) (cA : ClassId) (sp r0 r1 : Nat) (K : Int)  : jR l YX3_length (rmk 0 0 0 0) D cA [.ref sp] [(sp, .inr (3, [.ref r0, .ref r1, .int (jI K)]))] (fun v => v = .int (jI K)) := by
  refine jR.intro (by decide +kernel) (Nat.le_of_ble_eq_true rfl) ?_
  intro p e s m args below meth c ls Q F hQ hP hl
  have hx := F.1
  have hb := F.2.1
  have hl : lv_has ls 1 [(0, .ref sp)] := hl
  refine lv_aload_n hx hb dX3_length_0 rfl (lv_at hl 0 rfl) ?_
  refine jv_get (v := .int (jI K)) F hP 0 rfl flX3_9 rfl dX3_length_1 ?_
  exact jR.ri F hQ rfl dX3_length_4 (by rfl)
set_option maxHeartbeats 4000000 in
set_option maxRecDepth 100000 in
theorem kX3_useLength (l : Launch) (D : va_G) (cA : ClassId) (sp r0 r1 : Nat) (K k : Int)  : jM l YX3_useLength (rmk 0 0 0 0) D cA [.ref sp, .int (jI k)] [(sp, .inr (3, [.ref r0, .ref r1, .int (jI K)]))] (fun v w => v = none ∧ w = [(sp, .inr (3, [.ref r0, .ref r1, .int (jI k)]))]) 0 0 := by
  refine jM.intro (by decide +kernel) (Nat.le_of_ble_eq_true rfl) ?_
  intro p e s m args below meth c ls Q A F hQ hA hP hD hS hl
  have hx := F.1
  have hb := F.2.1
  have hl : lv_has ls 2 [(0, .ref sp), (1, .int (jI k))] := hl
  refine lv_aload_n hx hb dX3_useLength_0 rfl (lv_at hl 0 rfl) ?_
  refine lv_iload_n hx hb dX3_useLength_1 rfl (lv_at hl 1 rfl) ?_
  refine jv_put (v := .int (jI k)) F hP hD hS 0 rfl flX3_9 pfX3 (by decide +kernel) rfl rfl (Nat.le_of_ble_eq_true rfl) dX3_useLength_2 (fun H locs hP hD hS => ?_)
  have hP : va_P D cls [(sp, .inr (3, [.ref r0, .ref r1, .int (jI k)]))] H := hP
  have hD : va_D A [(sp, .inr (3, [.ref r0, .ref r1, .int (jI k)]))] := hD
  exact jM.rv F hQ rfl dX3_useLength_5 hS hP hD (by exact ⟨rfl, rfl⟩)
set_option maxHeartbeats 4000000 in
set_option maxRecDepth 100000 in
theorem kX3_firstSize (l : Launch) (D : va_G) (cA : ClassId) (sp r0 r1 a0 : Nat) (K n0 : Int) (L0 : Int → Int)  : jR l YX3_firstSize (rmk 1 0 0 20) D cA [.ref sp] [(sp, .inr (3, [.ref r0, .ref r1, .int (jI K)])), (r0, .inr (1, [.ref a0, .int (jI n0)])), (a0, .inl (cA, 48, .inl (jA L0)))] (fun v => v = .int (jI n0)) := by
  refine jR.intro (by decide +kernel) (Nat.le_of_ble_eq_true rfl) ?_
  intro p e s m args below meth c ls Q F hQ hP hl
  have hx := F.1
  have hb := F.2.1
  have hl : lv_has ls 1 [(0, .ref sp)] := hl
  refine lv_aload_n hx hb dX3_firstSize_0 rfl (lv_at hl 0 rfl) ?_
  refine jv_get (v := .ref r0) F hP 0 rfl flX3_15 rfl dX3_firstSize_1 ?_
  refine jr_V F (kX1_size l D cA r0 a0 n0 L0) cvX3_22 hP [1, 2] rfl 1 rfl rfl hl ⟨rfl, rfl, by decide, by decide⟩ rfl rfl (Nat.le_of_ble_eq_true rfl) dX3_firstSize_4 ⟨by decide, by decide⟩ (fun v hv => ?_)
  subst hv
  exact jR.ri F hQ rfl dX3_firstSize_7 (by rfl)
set_option maxHeartbeats 4000000 in
set_option maxRecDepth 100000 in
theorem kX3_secondSize (l : Launch) (D : va_G) (cA : ClassId) (sp r0 r1 a1 : Nat) (K n1 : Int) (L1 : Int → Int)  : jR l YX3_secondSize (rmk 1 0 0 20) D cA [.ref sp] [(sp, .inr (3, [.ref r0, .ref r1, .int (jI K)])), (r1, .inr (1, [.ref a1, .int (jI n1)])), (a1, .inl (cA, 48, .inl (jA L1)))] (fun v => v = .int (jI n1)) := by
  refine jR.intro (by decide +kernel) (Nat.le_of_ble_eq_true rfl) ?_
  intro p e s m args below meth c ls Q F hQ hP hl
  have hx := F.1
  have hb := F.2.1
  have hl : lv_has ls 1 [(0, .ref sp)] := hl
  refine lv_aload_n hx hb dX3_secondSize_0 rfl (lv_at hl 0 rfl) ?_
  refine jv_get (v := .ref r1) F hP 0 rfl flX3_19 rfl dX3_secondSize_1 ?_
  refine jr_V F (kX1_size l D cA r1 a1 n1 L1) cvX3_22 hP [1, 2] rfl 1 rfl rfl hl ⟨rfl, rfl, by decide, by decide⟩ rfl rfl (Nat.le_of_ble_eq_true rfl) dX3_secondSize_4 ⟨by decide, by decide⟩ (fun v hv => ?_)
  subst hv
  exact jR.ri F hQ rfl dX3_secondSize_7 (by rfl)
set_option maxHeartbeats 4000000 in
set_option maxRecDepth 100000 in
theorem kX3_isSeed (l : Launch) (D : va_G) (cA : ClassId) (sp r0 a0 r1 a1 : Nat) (n0 n1 K : Int) (L0 L1 : Int → Int) (i j : Int) (hn0 : 0 ≤ n0 ∧ n0 ≤ 48) (hn1 : 0 ≤ n1 ∧ n1 ≤ 48) (hK : 1 ≤ K ∧ K ≤ 6) (hL0 : ∀ x, 0 ≤ L0 x ∧ L0 x ≤ 3) (hL1 : ∀ x, 0 ≤ L1 x ∧ L1 x ≤ 3) (hi : 0 ≤ i ∧ i ≤ 48) (hj : 0 ≤ j ∧ j ≤ 48) : jR l YX3_isSeed (rmk 1 0 0 21) D cA [.ref sp, .int (jI i), .int (jI j)] [(sp, .inr (3, [.ref r0, .ref r1, .int (jI K)])), (r0, .inr (1, [.ref a0, .int (jI n0)])), (a0, .inl (cA, 48, .inl (jA L0))), (r1, .inr (1, [.ref a1, .int (jI n1)])), (a1, .inl (cA, 48, .inl (jA L1)))] (fun v => v = .int (jI (jB (anc L0 L1 n0 n1 K i j)))) := by
  refine jR.intro (by decide +kernel) (Nat.le_of_ble_eq_true rfl) ?_
  intro p e s m args below meth c ls Q F hQ hP hl
  have hx := F.1
  have hb := F.2.1
  have hl : lv_has ls 4 [(0, .ref sp), (1, .int (jI i)), (2, .int (jI j))] := hl
  refine lv_iload_n hx hb dX3_isSeed_0 rfl (lv_at hl 1 rfl) ?_
  refine lv_aload_n hx hb dX3_isSeed_1 rfl (lv_at hl 0 rfl) ?_
  refine jv_get (v := .int (jI K)) F hP 0 rfl flX3_9 rfl dX3_isSeed_2 ?_
  refine jv_iadd hx hb dX3_isSeed_5 ?_
  refine lv_aload_n hx hb dX3_isSeed_6 rfl (lv_at hl 0 rfl) ?_
  refine jv_get (v := .ref r0) F hP 0 rfl flX3_15 rfl dX3_isSeed_7 ?_
  refine jr_V F (kX1_size l D cA r0 a0 n0 L0) cvX3_22 hP [1, 2] rfl 1 rfl rfl hl ⟨rfl, rfl, by decide, by decide⟩ rfl rfl (Nat.le_of_ble_eq_true rfl) dX3_isSeed_10 ⟨by decide, by decide⟩ (fun v hv => ?_)
  subst hv
  refine jv_icmp_gt (tgt := 32) hx hb dX3_isSeed_13 rfl (by omega) (by omega) (fun c13 => ?_) (fun c13 => ?_)
  · refine lv_iconst (v := jI 0) hx hb dX3_isSeed_32 rfl ?_
    exact jR.rz F hQ rfl (by omega) dX3_isSeed_33 (by rw [jB_f (fun h => by have := h.2.2.1; have := h.2.2.2.1; omega)])
  · refine lv_iload_n hx hb dX3_isSeed_16 rfl (lv_at hl 2 rfl) ?_
    refine lv_aload_n hx hb dX3_isSeed_17 rfl (lv_at hl 0 rfl) ?_
    refine jv_get (v := .int (jI K)) F hP 0 rfl flX3_9 rfl dX3_isSeed_18 ?_
    refine jv_iadd hx hb dX3_isSeed_21 ?_
    refine lv_aload_n hx hb dX3_isSeed_22 rfl (lv_at hl 0 rfl) ?_
    refine jv_get (v := .ref r1) F hP 0 rfl flX3_19 rfl dX3_isSeed_23 ?_
    refine jr_V F (kX1_size l D cA r1 a1 n1 L1) cvX3_22 hP [3, 4] rfl 3 rfl rfl hl ⟨rfl, rfl, by decide, by decide⟩ rfl rfl (Nat.le_of_ble_eq_true rfl) dX3_isSeed_26 ⟨by decide, by decide⟩ (fun v hv => ?_)
    subst hv
    refine jv_icmp_le (tgt := 34) hx hb dX3_isSeed_29 rfl (by omega) (by omega) (fun c29 => ?_) (fun c29 => ?_)
    · refine lv_iconst (v := jI 0) hx hb dX3_isSeed_34 rfl ?_
      refine lv_istore_n (lv' := [(3, .int (jI 0)), (0, .ref sp), (1, .int (jI i)), (2, .int (jI j))]) hx hb dX3_isSeed_35 rfl hl (by decide) rfl (fun ls hl => ?_)
      have lp36 : ∀ (fu : Nat) (s0 : Int) (ls : Array Slot), K - s0 < (fu : Int) → (0 ≤ s0 ∧ s0 ≤ K) → (∀ t, 0 ≤ t → t < s0 → L0 (i + t) = L1 (j + t)) → lv_has ls 4 [(3, .int (jI s0)), (0, .ref sp), (1, .int (jI i)), (2, .int (jI j))] → W p l e (rmk 1 0 0 21) s m args below meth c s.heap [] 0 0 Q (F0 m 36 ls []) := by
        intro fu
        induction fu with
        | zero => intro s0 ls hfu hs he hl; exfalso; omega
        | succ fu ih36 =>
          intro s0 ls hfu hs he hl
          refine lv_iload_n hx hb dX3_isSeed_36 rfl (lv_at hl 0 rfl) ?_
          refine lv_aload_n hx hb dX3_isSeed_37 rfl (lv_at hl 1 rfl) ?_
          refine jv_get (v := .int (jI K)) F hP 0 rfl flX3_9 rfl dX3_isSeed_38 ?_
          refine jv_icmp_ge (tgt := 75) hx hb dX3_isSeed_41 rfl (by omega) (by omega) (fun c41 => ?_) (fun c41 => ?_)
          · refine lv_iconst (v := jI 1) hx hb dX3_isSeed_75 rfl ?_
            exact jR.rz F hQ rfl (by omega) dX3_isSeed_76 (by rw [jB_t ⟨hi.1, hj.1, by omega, by omega, fun t t0 t1 => he t t0 (by omega)⟩])
          · refine lv_aload_n hx hb dX3_isSeed_44 rfl (lv_at hl 1 rfl) ?_
            refine jv_get (v := .ref r0) F hP 0 rfl flX3_15 rfl dX3_isSeed_45 ?_
            refine lv_iload_n hx hb dX3_isSeed_48 rfl (lv_at hl 2 rfl) ?_
            refine lv_iload_n hx hb dX3_isSeed_49 rfl (lv_at hl 0 rfl) ?_
            refine jv_iadd hx hb dX3_isSeed_50 ?_
            refine jr_V F (kX1_at l D cA r0 a0 n0 L0 (i + s0) (by omega) (by omega)) cvX3_28 hP [1, 2] rfl 1 rfl rfl hl ⟨rfl, rfl, by decide, by decide⟩ rfl rfl (Nat.le_of_ble_eq_true rfl) dX3_isSeed_51 ⟨by decide, by decide⟩ (fun v hv => ?_)
            subst hv
            refine lv_aload_n hx hb dX3_isSeed_54 rfl (lv_at hl 1 rfl) ?_
            refine jv_get (v := .ref r1) F hP 0 rfl flX3_19 rfl dX3_isSeed_55 ?_
            refine lv_iload_n hx hb dX3_isSeed_58 rfl (lv_at hl 3 rfl) ?_
            refine lv_iload_n hx hb dX3_isSeed_59 rfl (lv_at hl 0 rfl) ?_
            refine jv_iadd hx hb dX3_isSeed_60 ?_
            refine jr_V F (kX1_at l D cA r1 a1 n1 L1 (j + s0) (by omega) (by omega)) cvX3_28 hP [3, 4] rfl 3 rfl rfl hl ⟨rfl, rfl, by decide, by decide⟩ rfl rfl (Nat.le_of_ble_eq_true rfl) dX3_isSeed_61 ⟨by decide, by decide⟩ (fun v hv => ?_)
            subst hv
            have ra0 := atv_rg hL0 n0 (i + s0)
            have ra1 := atv_rg hL1 n1 (j + s0)
            refine jv_icmp_eq (tgt := 69) hx hb dX3_isSeed_64 rfl (by omega) (by omega) (fun c64 => ?_) (fun c64 => ?_)
            · refine lv_iinc (k := 0) (v := jI (s0 + 1)) (lv' := [(3, .int (jI (s0 + 1))), (0, .ref sp), (1, .int (jI i)), (2, .int (jI j))]) hx hb dX3_isSeed_69 hl rfl (jI_add _ _) (by decide) rfl (fun ls hl => ?_)
              refine lv_goto (tgt := 36) hx hb dX3_isSeed_72 rfl ?_
              refine ih36 (s0 + 1) ls  (by omega) ?_ ?_ (lv_sub hl [0, 1, 2, 3] rfl)
              · omega
              · intro t t0 t1
                by_cases ht : t < s0
                · exact he t t0 ht
                · have et : t = s0 := by omega
                  subst et
                  rw [atv_in (by omega), atv_in (by omega)] at c64
                  exact c64
            · refine lv_iconst (v := jI 0) hx hb dX3_isSeed_67 rfl ?_
              exact jR.rz F hQ rfl (by omega) dX3_isSeed_68 (by rw [jB_f (fun h => c64 (by rw [atv_in (by omega), atv_in (by omega)]; exact h.2.2.2.2 s0 (by omega) (by omega)))])
      refine lp36 ((K - 0).toNat + 1) 0 ls  (by omega) ?_ ?_ (lv_sub hl [0, 1, 2, 3] rfl)
      · omega
      · intro t t0 t1; omega
    · refine lv_iconst (v := jI 0) hx hb dX3_isSeed_32 rfl ?_
      exact jR.rz F hQ rfl (by omega) dX3_isSeed_33 (by rw [jB_f (fun h => by have := h.2.2.1; have := h.2.2.2.1; omega)])
set_option maxHeartbeats 4000000 in
set_option maxRecDepth 100000 in
theorem kX3_count (l : Launch) (D : va_G) (cA : ClassId) (sp r0 a0 r1 a1 : Nat) (n0 n1 K : Int) (L0 L1 : Int → Int) (hn0 : 0 ≤ n0 ∧ n0 ≤ 48) (hn1 : 0 ≤ n1 ∧ n1 ≤ 48) (hK : 1 ≤ K ∧ K ≤ 6) (hL0 : ∀ x, 0 ≤ L0 x ∧ L0 x ≤ 3) (hL1 : ∀ x, 0 ≤ L1 x ∧ L1 x ≤ 3) : jR l YX3_count (rmk 2 0 0 44) D cA [.ref sp] [(sp, .inr (3, [.ref r0, .ref r1, .int (jI K)])), (r0, .inr (1, [.ref a0, .int (jI n0)])), (a0, .inl (cA, 48, .inl (jA L0))), (r1, .inr (1, [.ref a1, .int (jI n1)])), (a1, .inl (cA, 48, .inl (jA L1)))] (fun v => v = .int (jI (cnt (anc L0 L1 n0 n1 K) n1 n0 0))) := by
  refine jR.intro (by decide +kernel) (Nat.le_of_ble_eq_true rfl) ?_
  intro p e s m args below meth c ls Q F hQ hP hl
  have hx := F.1
  have hb := F.2.1
  have hl : lv_has ls 4 [(0, .ref sp)] := hl
  refine lv_iconst (v := jI 0) hx hb dX3_count_0 rfl ?_
  refine lv_istore_n (lv' := [(1, .int (jI 0)), (0, .ref sp)]) hx hb dX3_count_1 rfl hl (by decide) rfl (fun ls hl => ?_)
  refine lv_iconst (v := jI 0) hx hb dX3_count_2 rfl ?_
  refine lv_istore_n (lv' := [(2, .int (jI 0)), (1, .int (jI 0)), (0, .ref sp)]) hx hb dX3_count_3 rfl hl (by decide) rfl (fun ls hl => ?_)
  have lp4 : ∀ (fu : Nat) (se : Int) (i : Int) (ls : Array Slot), n0 - i < (fu : Int) → (0 ≤ i ∧ i ≤ n0) → (se = cnt (anc L0 L1 n0 n1 K) n1 i 0) → lv_has ls 4 [(2, .int (jI i)), (1, .int (jI se)), (0, .ref sp)] → W p l e (rmk 2 0 0 44) s m args below meth c s.heap [] 0 0 Q (F0 m 4 ls []) := by
    intro fu
    induction fu with
    | zero => intro se i ls hfu hi hse hl; exfalso; omega
    | succ fu ih4 =>
      intro se i ls hfu hi hse hl
      refine lv_iload_n hx hb dX3_count_4 rfl (lv_at hl 0 rfl) ?_
      refine lv_aload_n hx hb dX3_count_5 rfl (lv_at hl 2 rfl) ?_
      refine jv_get (v := .ref r0) F hP 0 rfl flX3_15 rfl dX3_count_6 ?_
      refine jr_V F (kX1_size l D cA r0 a0 n0 L0) cvX3_22 hP [1, 2] rfl 1 rfl rfl hl ⟨rfl, rfl, by decide, by decide⟩ rfl rfl (Nat.le_of_ble_eq_true rfl) dX3_count_9 ⟨by decide, by decide⟩ (fun v hv => ?_)
      subst hv
      refine jv_icmp_ge (tgt := 52) hx hb dX3_count_12 rfl (by omega) (by omega) (fun c12 => ?_) (fun c12 => ?_)
      · refine lv_iload_n hx hb dX3_count_52 rfl (lv_at hl 1 rfl) ?_
        exact jR.ri F hQ rfl dX3_count_53 (by rw [hse, show i = n0 by omega])
      · refine lv_iconst (v := jI 0) hx hb dX3_count_15 rfl ?_
        refine lv_istore_n (lv' := [(3, .int (jI 0)), (2, .int (jI i)), (1, .int (jI se)), (0, .ref sp)]) hx hb dX3_count_16 rfl hl (by decide) rfl (fun ls hl => ?_)
        have lp17 : ∀ (fu : Nat) (sj : Int) (j : Int) (ls : Array Slot), n1 - j < (fu : Int) → (0 ≤ j ∧ j ≤ n1) → (sj = cnt (anc L0 L1 n0 n1 K) n1 i j) → lv_has ls 4 [(3, .int (jI j)), (2, .int (jI i)), (1, .int (jI sj)), (0, .ref sp)] → W p l e (rmk 2 0 0 44) s m args below meth c s.heap [] 0 0 Q (F0 m 17 ls []) := by
          intro fu
          induction fu with
          | zero => intro sj j ls hfu hj hsj hl; exfalso; omega
          | succ fu ih17 =>
            intro sj j ls hfu hj hsj hl
            refine lv_iload_n hx hb dX3_count_17 rfl (lv_at hl 0 rfl) ?_
            refine lv_aload_n hx hb dX3_count_18 rfl (lv_at hl 3 rfl) ?_
            refine jv_get (v := .ref r1) F hP 0 rfl flX3_19 rfl dX3_count_19 ?_
            refine jr_V F (kX1_size l D cA r1 a1 n1 L1) cvX3_22 hP [3, 4] rfl 3 rfl rfl hl ⟨rfl, rfl, by decide, by decide⟩ rfl rfl (Nat.le_of_ble_eq_true rfl) dX3_count_22 ⟨by decide, by decide⟩ (fun v hv => ?_)
            subst hv
            refine jv_icmp_ge (tgt := 46) hx hb dX3_count_25 rfl (by omega) (by omega) (fun c25 => ?_) (fun c25 => ?_)
            · refine lv_iinc (k := 1) (v := jI (i + 1)) (lv' := [(2, .int (jI (i + 1))), (3, .int (jI j)), (1, .int (jI sj)), (0, .ref sp)]) hx hb dX3_count_46 hl rfl (jI_add _ _) (by decide) rfl (fun ls hl => ?_)
              refine lv_goto (tgt := 4) hx hb dX3_count_49 rfl ?_
              refine ih4 sj (i + 1) ls  (by omega) ?_ ?_ (lv_sub hl [0, 2, 3] rfl)
              · omega
              · rw [← cnt_i (by omega), hsj]; congr 1; omega
            · refine lv_aload_n hx hb dX3_count_28 rfl (lv_at hl 3 rfl) ?_
              refine lv_iload_n hx hb dX3_count_29 rfl (lv_at hl 1 rfl) ?_
              refine lv_iload_n hx hb dX3_count_30 rfl (lv_at hl 0 rfl) ?_
              refine jr_V F (kX3_isSeed l D cA sp r0 a0 r1 a1 n0 n1 K L0 L1 i j (by omega) (by omega) (by omega) hL0 hL1 (by omega) (by omega)) cvX3_32 hP [0, 1, 2, 3, 4] rfl 0 rfl rfl hl ⟨rfl, rfl, by decide, by decide⟩ rfl rfl (Nat.le_of_ble_eq_true rfl) dX3_count_31 ⟨by decide, by decide⟩ (fun v hv => ?_)
              subst hv
              have hb31 := jB_01 (anc L0 L1 n0 n1 K i j)
              refine jv_if_eq (tgt := 40) hx hb dX3_count_34 rfl (by omega) (fun c34 => ?_) (fun c34 => ?_)
              · refine lv_iinc (k := 0) (v := jI (j + 1)) (lv' := [(3, .int (jI (j + 1))), (2, .int (jI i)), (1, .int (jI sj)), (0, .ref sp)]) hx hb dX3_count_40 hl rfl (jI_add _ _) (by decide) rfl (fun ls hl => ?_)
                refine lv_goto (tgt := 17) hx hb dX3_count_43 rfl ?_
                refine ih17 sj (j + 1) ls  (by omega) ?_ ?_ (lv_sub hl [0, 1, 2, 3] rfl)
                · omega
                · rw [cnt_j (by omega)]
                  first
                    | rw [jB_t (jB_1 c34)]; omega
                    | rw [jB_f (jB_0 c34)]; omega
              · refine lv_iinc (k := 2) (v := jI (sj + 1)) (lv' := [(1, .int (jI (sj + 1))), (3, .int (jI j)), (2, .int (jI i)), (0, .ref sp)]) hx hb dX3_count_37 hl rfl (jI_add _ _) (by decide) rfl (fun ls hl => ?_)
                refine lv_iinc (k := 1) (v := jI (j + 1)) (lv' := [(3, .int (jI (j + 1))), (1, .int (jI (sj + 1))), (2, .int (jI i)), (0, .ref sp)]) hx hb dX3_count_40 hl rfl (jI_add _ _) (by decide) rfl (fun ls hl => ?_)
                refine lv_goto (tgt := 17) hx hb dX3_count_43 rfl ?_
                refine ih17 (sj + 1) (j + 1) ls  (by omega) ?_ ?_ (lv_sub hl [0, 2, 1, 3] rfl)
                · omega
                · rw [cnt_j (by omega)]
                  first
                    | rw [jB_t (jB_1 c34)]; omega
                    | rw [jB_f (jB_0 c34)]; omega
        refine lp17 ((n1 - 0).toNat + 1) se 0 ls  (by omega) ?_ ?_ (lv_sub hl [0, 1, 2, 3] rfl)
        · omega
        · exact hse
  refine lp4 ((n0 - 0).toNat + 1) 0 0 ls  (by omega) ?_ ?_ (lv_sub hl [0, 1, 2] rfl)
  · omega
  · rfl
set_option maxHeartbeats 4000000 in
set_option maxRecDepth 100000 in
theorem kX3_pairAt (l : Launch) (D : va_G) (cA : ClassId) (sp r0 a0 r1 a1 : Nat) (n0 n1 K : Int) (L0 L1 : Int → Int) (x : Int) (hn0 : 0 ≤ n0 ∧ n0 ≤ 48) (hn1 : 0 ≤ n1 ∧ n1 ≤ 48) (hK : 1 ≤ K ∧ K ≤ 6) (hL0 : ∀ x, 0 ≤ L0 x ∧ L0 x ≤ 3) (hL1 : ∀ x, 0 ≤ L1 x ∧ L1 x ≤ 3) (hx0 : -2147483648 ≤ x ∧ x < 2147483648) : jR l YX3_pairAt (rmk 2 0 0 44) D cA [.ref sp, .int (jI x)] [(sp, .inr (3, [.ref r0, .ref r1, .int (jI K)])), (r0, .inr (1, [.ref a0, .int (jI n0)])), (a0, .inl (cA, 48, .inl (jA L0))), (r1, .inr (1, [.ref a1, .int (jI n1)])), (a1, .inl (cA, 48, .inl (jA L1)))] (fun v => ∃ z : Int, v = .int (jI z) ∧ ((∃ i j, anc L0 L1 n0 n1 K i j ∧ cnt (anc L0 L1 n0 n1 K) n1 i j = x ∧ z = i * 48 + j) ∨ ((∀ i j, anc L0 L1 n0 n1 K i j → cnt (anc L0 L1 n0 n1 K) n1 i j ≠ x) ∧ z = -1))) := by
  refine jR.intro (by decide +kernel) (Nat.le_of_ble_eq_true rfl) ?_
  intro p e s m args below meth c ls Q F hQ hP hl
  have hx := F.1
  have hb := F.2.1
  have hl : lv_has ls 5 [(0, .ref sp), (1, .int (jI x))] := hl
  refine lv_iconst (v := jI 0) hx hb dX3_pairAt_0 rfl ?_
  refine lv_istore_n (lv' := [(2, .int (jI 0)), (0, .ref sp), (1, .int (jI x))]) hx hb dX3_pairAt_1 rfl hl (by decide) rfl (fun ls hl => ?_)
  refine lv_iconst (v := jI 0) hx hb dX3_pairAt_2 rfl ?_
  refine lv_istore_n (lv' := [(3, .int (jI 0)), (2, .int (jI 0)), (0, .ref sp), (1, .int (jI x))]) hx hb dX3_pairAt_3 rfl hl (by decide) rfl (fun ls hl => ?_)
  have lp4 : ∀ (fu : Nat) (se : Int) (i : Int) (ls : Array Slot), n0 - i < (fu : Int) → (0 ≤ i ∧ i ≤ n0) → (se = cnt (anc L0 L1 n0 n1 K) n1 i 0) → (∀ k l, anc L0 L1 n0 n1 K k l → bef k l i 0 → cnt (anc L0 L1 n0 n1 K) n1 k l ≠ x) → lv_has ls 5 [(3, .int (jI i)), (2, .int (jI se)), (0, .ref sp), (1, .int (jI x))] → W p l e (rmk 2 0 0 44) s m args below meth c s.heap [] 0 0 Q (F0 m 4 ls []) := by
    intro fu
    induction fu with
    | zero => intro se i ls hfu hi hse hno hl; exfalso; omega
    | succ fu ih4 =>
      intro se i ls hfu hi hse hno hl
      refine lv_iload_n hx hb dX3_pairAt_4 rfl (lv_at hl 0 rfl) ?_
      refine lv_aload_n hx hb dX3_pairAt_5 rfl (lv_at hl 2 rfl) ?_
      refine jv_get (v := .ref r0) F hP 0 rfl flX3_15 rfl dX3_pairAt_6 ?_
      refine jr_V F (kX1_size l D cA r0 a0 n0 L0) cvX3_22 hP [1, 2] rfl 1 rfl rfl hl ⟨rfl, rfl, by decide, by decide⟩ rfl rfl (Nat.le_of_ble_eq_true rfl) dX3_pairAt_9 ⟨by decide, by decide⟩ (fun v hv => ?_)
      subst hv
      refine jv_icmp_ge (tgt := 67) hx hb dX3_pairAt_12 rfl (by omega) (by omega) (fun c12 => ?_) (fun c12 => ?_)
      · refine lv_iconst (v := jI (-1)) hx hb dX3_pairAt_67 rfl ?_
        exact jR.ri F hQ rfl dX3_pairAt_68 (by exact ⟨_, rfl, Or.inr ⟨fun k l hk => hno k l hk (by have := anc_in k l hk; unfold bef; omega), rfl⟩⟩)
      · refine lv_iconst (v := jI 0) hx hb dX3_pairAt_15 rfl ?_
        refine lv_istore (lv' := [(4, .int (jI 0)), (3, .int (jI i)), (2, .int (jI se)), (0, .ref sp), (1, .int (jI x))]) hx hb dX3_pairAt_16 hl (by decide) rfl (fun ls hl => ?_)
        have lp18 : ∀ (fu : Nat) (sj : Int) (j : Int) (ls : Array Slot), n1 - j < (fu : Int) → (0 ≤ j ∧ j ≤ n1) → (sj = cnt (anc L0 L1 n0 n1 K) n1 i j) → (∀ k l, anc L0 L1 n0 n1 K k l → bef k l i j → cnt (anc L0 L1 n0 n1 K) n1 k l ≠ x) → lv_has ls 5 [(4, .int (jI j)), (3, .int (jI i)), (2, .int (jI sj)), (0, .ref sp), (1, .int (jI x))] → W p l e (rmk 2 0 0 44) s m args below meth c s.heap [] 0 0 Q (F0 m 18 ls []) := by
          intro fu
          induction fu with
          | zero => intro sj j ls hfu hj hsj hnj hl; exfalso; omega
          | succ fu ih18 =>
            intro sj j ls hfu hj hsj hnj hl
            refine lv_iload hx hb dX3_pairAt_18 (lv_at hl 0 rfl) ?_
            refine lv_aload_n hx hb dX3_pairAt_20 rfl (lv_at hl 3 rfl) ?_
            refine jv_get (v := .ref r1) F hP 0 rfl flX3_19 rfl dX3_pairAt_21 ?_
            refine jr_V F (kX1_size l D cA r1 a1 n1 L1) cvX3_22 hP [3, 4] rfl 3 rfl rfl hl ⟨rfl, rfl, by decide, by decide⟩ rfl rfl (Nat.le_of_ble_eq_true rfl) dX3_pairAt_24 ⟨by decide, by decide⟩ (fun v hv => ?_)
            subst hv
            refine jv_icmp_ge (tgt := 61) hx hb dX3_pairAt_27 rfl (by omega) (by omega) (fun c27 => ?_) (fun c27 => ?_)
            · refine lv_iinc (k := 1) (v := jI (i + 1)) (lv' := [(3, .int (jI (i + 1))), (4, .int (jI j)), (2, .int (jI sj)), (0, .ref sp), (1, .int (jI x))]) hx hb dX3_pairAt_61 hl rfl (jI_add _ _) (by decide) rfl (fun ls hl => ?_)
              refine lv_goto (tgt := 4) hx hb dX3_pairAt_64 rfl ?_
              refine ih4 sj (i + 1) ls  (by omega) ?_ ?_ ?_ (lv_sub hl [0, 2, 3, 4] rfl)
              · omega
              · rw [← cnt_i (by omega), hsj]; congr 1; omega
              · intro k l hk hb2
                have hk2 := anc_in k l hk
                exact hnj k l hk (by unfold bef at hb2 ⊢; omega)
            · refine lv_aload_n hx hb dX3_pairAt_30 rfl (lv_at hl 3 rfl) ?_
              refine lv_iload_n hx hb dX3_pairAt_31 rfl (lv_at hl 1 rfl) ?_
              refine lv_iload hx hb dX3_pairAt_32 (lv_at hl 0 rfl) ?_
              refine jr_V F (kX3_isSeed l D cA sp r0 a0 r1 a1 n0 n1 K L0 L1 i j (by omega) (by omega) (by omega) hL0 hL1 (by omega) (by omega)) cvX3_32 hP [0, 1, 2, 3, 4] rfl 0 rfl rfl hl ⟨rfl, rfl, by decide, by decide⟩ rfl rfl (Nat.le_of_ble_eq_true rfl) dX3_pairAt_34 ⟨by decide, by decide⟩ (fun v hv => ?_)
              subst hv
              have hb34 := jB_01 (anc L0 L1 n0 n1 K i j)
              refine jv_if_eq (tgt := 55) hx hb dX3_pairAt_37 rfl (by omega) (fun c37 => ?_) (fun c37 => ?_)
              · refine lv_iinc (k := 0) (v := jI (j + 1)) (lv' := [(4, .int (jI (j + 1))), (3, .int (jI i)), (2, .int (jI sj)), (0, .ref sp), (1, .int (jI x))]) hx hb dX3_pairAt_55 hl rfl (jI_add _ _) (by decide) rfl (fun ls hl => ?_)
                refine lv_goto (tgt := 18) hx hb dX3_pairAt_58 rfl ?_
                refine ih18 sj (j + 1) ls  (by omega) ?_ ?_ ?_ (lv_sub hl [0, 1, 2, 3, 4] rfl)
                · omega
                · rw [cnt_j (by omega)]
                  first
                    | rw [jB_t (jB_1 c37)]; omega
                    | rw [jB_f (jB_0 c37)]; omega
                · intro k l hk hb2
                  by_cases hb3 : bef k l i j
                  · exact hnj k l hk hb3
                  · have e : k = i ∧ l = j := by unfold bef at hb2 hb3; omega
                    obtain ⟨rfl, rfl⟩ := e
                    first
                      | exact fun h => c42 (by omega)
                      | exact (jB_0 c37 hk).elim
              · refine lv_iload_n hx hb dX3_pairAt_40 rfl (lv_at hl 2 rfl) ?_
                refine lv_iload_n hx hb dX3_pairAt_41 rfl (lv_at hl 4 rfl) ?_
                have hcb := cnt_b (G := anc L0 L1 n0 n1 K) hn1.2 (i := i) (j := j) (by omega) (by omega)
                refine jv_icmp_ne (tgt := 52) hx hb dX3_pairAt_42 rfl (by omega) (by omega) (fun c42 => ?_) (fun c42 => ?_)
                · refine lv_iinc (k := 2) (v := jI (sj + 1)) (lv' := [(2, .int (jI (sj + 1))), (4, .int (jI j)), (3, .int (jI i)), (0, .ref sp), (1, .int (jI x))]) hx hb dX3_pairAt_52 hl rfl (jI_add _ _) (by decide) rfl (fun ls hl => ?_)
                  refine lv_iinc (k := 1) (v := jI (j + 1)) (lv' := [(4, .int (jI (j + 1))), (2, .int (jI (sj + 1))), (3, .int (jI i)), (0, .ref sp), (1, .int (jI x))]) hx hb dX3_pairAt_55 hl rfl (jI_add _ _) (by decide) rfl (fun ls hl => ?_)
                  refine lv_goto (tgt := 18) hx hb dX3_pairAt_58 rfl ?_
                  refine ih18 (sj + 1) (j + 1) ls  (by omega) ?_ ?_ ?_ (lv_sub hl [0, 2, 1, 3, 4] rfl)
                  · omega
                  · rw [cnt_j (by omega)]
                    first
                      | rw [jB_t (jB_1 c37)]; omega
                      | rw [jB_f (jB_0 c37)]; omega
                  · intro k l hk hb2
                    by_cases hb3 : bef k l i j
                    · exact hnj k l hk hb3
                    · have e : k = i ∧ l = j := by unfold bef at hb2 hb3; omega
                      obtain ⟨rfl, rfl⟩ := e
                      first
                        | exact fun h => c42 (by omega)
                        | exact (jB_0 c37 hk).elim
                · refine lv_iload_n hx hb dX3_pairAt_45 rfl (lv_at hl 1 rfl) ?_
                  refine lv_iload hx hb dX3_pairAt_46 (lv_at hl 0 rfl) ?_
                  refine jr_SN F (kX4_pairOf l D cA i j) cnX3_36 hP [] rfl hl ⟨rfl, rfl, by decide, by decide⟩ rfl rfl (Nat.le_of_ble_eq_true rfl) dX3_pairAt_48 ⟨by decide, by decide⟩ (fun v hv => ?_)
                  subst hv
                  exact jR.ri F hQ rfl dX3_pairAt_51 (by exact ⟨_, rfl, Or.inl ⟨i, j, jB_1 c37, by omega, rfl⟩⟩)
        refine lp18 ((n1 - 0).toNat + 1) se 0 ls  (by omega) ?_ ?_ ?_ (lv_sub hl [0, 1, 2, 3, 4] rfl)
        · omega
        · exact hse
        · exact hno
  refine lp4 ((n0 - 0).toNat + 1) 0 0 ls  (by omega) ?_ ?_ ?_ (lv_sub hl [0, 1, 2, 3] rfl)
  · omega
  · rfl
  · intro k l hk hb2
    have hk2 := anc_in k l hk
    unfold bef at hb2
    omega
end
section
set_option maxHeartbeats 4000000 in
set_option maxRecDepth 100000 in
theorem kX2_useScores (l : Launch) (D : va_G) (cA : ClassId) (re t2 t1 t0 : Nat) (ga lo gp li es ep eq al la : Int) (a1 a2 a3 a4 : Int)  : jM l YX2_useScores (rmk 0 0 0 0) D cA [.ref re, .int (jI a1), .int (jI a2), .int (jI a3), .int (jI a4)] [(re, .inr (2, [.int (jI ga), .int (jI lo), .int (jI gp), .int (jI li), .ref t2, .ref t1, .ref t0, .int (jI es), .int (jI ep), .int (jI eq), .int (jI al), .int (jI la)]))] (fun v w => v = none ∧ w = [(re, .inr (2, [.int (jI a1), .int (jI a2), .int (jI a3), .int (jI a4), .ref t2, .ref t1, .ref t0, .int (jI es), .int (jI ep), .int (jI eq), .int (jI al), .int (jI la)]))]) 0 0 := by
  refine jM.intro (by decide +kernel) (Nat.le_of_ble_eq_true rfl) ?_
  intro p e s m args below meth c ls Q A F hQ hA hP hD hS hl
  have hx := F.1
  have hb := F.2.1
  have hl : lv_has ls 5 [(0, .ref re), (1, .int (jI a1)), (2, .int (jI a2)), (3, .int (jI a3)), (4, .int (jI a4))] := hl
  refine lv_aload_n hx hb dX2_useScores_0 rfl (lv_at hl 0 rfl) ?_
  refine lv_iload_n hx hb dX2_useScores_1 rfl (lv_at hl 1 rfl) ?_
  refine jv_put (v := .int (jI a1)) F hP hD hS 0 rfl flX2_9 pfX2 (by decide +kernel) rfl rfl (Nat.le_of_ble_eq_true rfl) dX2_useScores_2 (fun H locs hP hD hS => ?_)
  have hP : va_P D cls [(re, .inr (2, [.int (jI a1), .int (jI lo), .int (jI gp), .int (jI li), .ref t2, .ref t1, .ref t0, .int (jI es), .int (jI ep), .int (jI eq), .int (jI al), .int (jI la)]))] H := hP
  have hD : va_D A [(re, .inr (2, [.int (jI a1), .int (jI lo), .int (jI gp), .int (jI li), .ref t2, .ref t1, .ref t0, .int (jI es), .int (jI ep), .int (jI eq), .int (jI al), .int (jI la)]))] := hD
  refine lv_aload_n hx hb dX2_useScores_5 rfl (lv_at hl 0 rfl) ?_
  refine lv_iload_n hx hb dX2_useScores_6 rfl (lv_at hl 2 rfl) ?_
  refine jv_put (v := .int (jI a2)) F hP hD hS 0 rfl flX2_15 pfX2 (by decide +kernel) rfl rfl (Nat.le_of_ble_eq_true rfl) dX2_useScores_7 (fun H locs hP hD hS => ?_)
  have hP : va_P D cls [(re, .inr (2, [.int (jI a1), .int (jI a2), .int (jI gp), .int (jI li), .ref t2, .ref t1, .ref t0, .int (jI es), .int (jI ep), .int (jI eq), .int (jI al), .int (jI la)]))] H := hP
  have hD : va_D A [(re, .inr (2, [.int (jI a1), .int (jI a2), .int (jI gp), .int (jI li), .ref t2, .ref t1, .ref t0, .int (jI es), .int (jI ep), .int (jI eq), .int (jI al), .int (jI la)]))] := hD
  refine lv_aload_n hx hb dX2_useScores_10 rfl (lv_at hl 0 rfl) ?_
  refine lv_iload_n hx hb dX2_useScores_11 rfl (lv_at hl 3 rfl) ?_
  refine jv_put (v := .int (jI a3)) F hP hD hS 0 rfl flX2_18 pfX2 (by decide +kernel) rfl rfl (Nat.le_of_ble_eq_true rfl) dX2_useScores_12 (fun H locs hP hD hS => ?_)
  have hP : va_P D cls [(re, .inr (2, [.int (jI a1), .int (jI a2), .int (jI a3), .int (jI li), .ref t2, .ref t1, .ref t0, .int (jI es), .int (jI ep), .int (jI eq), .int (jI al), .int (jI la)]))] H := hP
  have hD : va_D A [(re, .inr (2, [.int (jI a1), .int (jI a2), .int (jI a3), .int (jI li), .ref t2, .ref t1, .ref t0, .int (jI es), .int (jI ep), .int (jI eq), .int (jI al), .int (jI la)]))] := hD
  refine lv_aload_n hx hb dX2_useScores_15 rfl (lv_at hl 0 rfl) ?_
  refine lv_iload hx hb dX2_useScores_16 (lv_at hl 4 rfl) ?_
  refine jv_put (v := .int (jI a4)) F hP hD hS 0 rfl flX2_21 pfX2 (by decide +kernel) rfl rfl (Nat.le_of_ble_eq_true rfl) dX2_useScores_18 (fun H locs hP hD hS => ?_)
  have hP : va_P D cls [(re, .inr (2, [.int (jI a1), .int (jI a2), .int (jI a3), .int (jI a4), .ref t2, .ref t1, .ref t0, .int (jI es), .int (jI ep), .int (jI eq), .int (jI al), .int (jI la)]))] H := hP
  have hD : va_D A [(re, .inr (2, [.int (jI a1), .int (jI a2), .int (jI a3), .int (jI a4), .ref t2, .ref t1, .ref t0, .int (jI es), .int (jI ep), .int (jI eq), .int (jI al), .int (jI la)]))] := hD
  exact jM.rv F hQ rfl dX2_useScores_21 hS hP hD (by exact ⟨rfl, rfl⟩)
set_option maxHeartbeats 4000000 in
set_option maxRecDepth 100000 in
theorem kX2_endScore (l : Launch) (D : va_G) (cA : ClassId) (re t2 t1 t0 : Nat) (ga lo gp li es ep eq al la : Int)  : jR l YX2_endScore (rmk 0 0 0 0) D cA [.ref re] [(re, .inr (2, [.int (jI ga), .int (jI lo), .int (jI gp), .int (jI li), .ref t2, .ref t1, .ref t0, .int (jI es), .int (jI ep), .int (jI eq), .int (jI al), .int (jI la)]))] (fun v => v = .int (jI es)) := by
  refine jR.intro (by decide +kernel) (Nat.le_of_ble_eq_true rfl) ?_
  intro p e s m args below meth c ls Q F hQ hP hl
  have hx := F.1
  have hb := F.2.1
  have hl : lv_has ls 1 [(0, .ref re)] := hl
  refine lv_aload_n hx hb dX2_endScore_0 rfl (lv_at hl 0 rfl) ?_
  refine jv_get (v := .int (jI es)) F hP 0 rfl flX2_34 rfl dX2_endScore_1 ?_
  exact jR.ri F hQ rfl dX2_endScore_4 (by rfl)
set_option maxHeartbeats 4000000 in
set_option maxRecDepth 100000 in
theorem kX4_rowOf_0 (l : Launch) (D : va_G) (cA : ClassId) (h4 r0 r1 sp be re : Nat) (g fr : Int)  : jR l YX4_rowOf (rmk 0 0 0 0) D cA [.ref h4, .int (jI 0)] [(h4, .inr (4, [.ref r0, .ref r1, .ref sp, .ref be, .ref re, .int (jI g), .int (jI fr)]))] (fun v => v = .ref r0) := by
  refine jR.intro (by decide +kernel) (Nat.le_of_ble_eq_true rfl) ?_
  intro p e s m args below meth c ls Q F hQ hP hl
  have hx := F.1
  have hb := F.2.1
  have hl : lv_has ls 2 [(0, .ref h4), (1, .int (jI 0))] := hl
  refine lv_iload_n hx hb dX4_rowOf_0 rfl (lv_at hl 1 rfl) ?_
  refine jv_if_ne (tgt := 9) hx hb dX4_rowOf_1 rfl (by omega) (fun c1 => ?_) (fun c1 => ?_)
  · exfalso
    omega
  · refine lv_aload_n hx hb dX4_rowOf_4 rfl (lv_at hl 0 rfl) ?_
    refine jv_get (v := .ref r0) F hP 0 rfl flX4_10 rfl dX4_rowOf_5 ?_
    exact jR.ra F hQ rfl dX4_rowOf_8 (by rfl)
set_option maxHeartbeats 4000000 in
set_option maxRecDepth 100000 in
theorem kX4_rowOf_1 (l : Launch) (D : va_G) (cA : ClassId) (h4 r0 r1 sp be re : Nat) (g fr : Int)  : jR l YX4_rowOf (rmk 0 0 0 0) D cA [.ref h4, .int (jI 1)] [(h4, .inr (4, [.ref r0, .ref r1, .ref sp, .ref be, .ref re, .int (jI g), .int (jI fr)]))] (fun v => v = .ref r1) := by
  refine jR.intro (by decide +kernel) (Nat.le_of_ble_eq_true rfl) ?_
  intro p e s m args below meth c ls Q F hQ hP hl
  have hx := F.1
  have hb := F.2.1
  have hl : lv_has ls 2 [(0, .ref h4), (1, .int (jI 1))] := hl
  refine lv_iload_n hx hb dX4_rowOf_0 rfl (lv_at hl 1 rfl) ?_
  refine jv_if_ne (tgt := 9) hx hb dX4_rowOf_1 rfl (by omega) (fun c1 => ?_) (fun c1 => ?_)
  · refine lv_iload_n hx hb dX4_rowOf_9 rfl (lv_at hl 1 rfl) ?_
    refine lv_iconst (v := jI 1) hx hb dX4_rowOf_10 rfl ?_
    refine jv_icmp_ne (tgt := 21) hx hb dX4_rowOf_11 rfl (by omega) (by omega) (fun c11 => ?_) (fun c11 => ?_)
    · exfalso
      omega
    · refine lv_aload_n hx hb dX4_rowOf_14 rfl (lv_at hl 0 rfl) ?_
      refine jv_get (v := .ref r1) F hP 0 rfl flX4_16 rfl dX4_rowOf_15 ?_
      refine lv_goto (tgt := 22) hx hb dX4_rowOf_18 rfl ?_
      exact jR.ra F hQ rfl dX4_rowOf_22 (by rfl)
  · exfalso
    omega
set_option maxHeartbeats 4000000 in
set_option maxRecDepth 100000 in
theorem kX4_rowOf_n (l : Launch) (D : va_G) (cA : ClassId) (h4 r0 r1 sp be re : Nat) (g fr : Int) (row : Int) (hr : row ≠ 0 ∧ row ≠ 1) (hr2 : -2147483648 ≤ row ∧ row < 2147483648) : jR l YX4_rowOf (rmk 0 0 0 0) D cA [.ref h4, .int (jI row)] [(h4, .inr (4, [.ref r0, .ref r1, .ref sp, .ref be, .ref re, .int (jI g), .int (jI fr)]))] (fun v => v = .null) := by
  refine jR.intro (by decide +kernel) (Nat.le_of_ble_eq_true rfl) ?_
  intro p e s m args below meth c ls Q F hQ hP hl
  have hx := F.1
  have hb := F.2.1
  have hl : lv_has ls 2 [(0, .ref h4), (1, .int (jI row))] := hl
  refine lv_iload_n hx hb dX4_rowOf_0 rfl (lv_at hl 1 rfl) ?_
  refine jv_if_ne (tgt := 9) hx hb dX4_rowOf_1 rfl (by omega) (fun c1 => ?_) (fun c1 => ?_)
  · refine lv_iload_n hx hb dX4_rowOf_9 rfl (lv_at hl 1 rfl) ?_
    refine lv_iconst (v := jI 1) hx hb dX4_rowOf_10 rfl ?_
    refine jv_icmp_ne (tgt := 21) hx hb dX4_rowOf_11 rfl (by omega) (by omega) (fun c11 => ?_) (fun c11 => ?_)
    · refine lv_null hx hb dX4_rowOf_21 ?_
      exact jR.rn F hQ rfl dX4_rowOf_22 (by rfl)
    · exfalso
      omega
  · exfalso
    omega
set_option maxHeartbeats 4000000 in
set_option maxRecDepth 100000 in
theorem kX4_put_0 (l : Launch) (D : va_G) (cA : ClassId) (h4 r0 r1 sp be re : Nat) (g fr : Int) (a0 : Nat) (n : Int) (L : Int → Int) (x : Int) (hn : 0 ≤ n ∧ n ≤ 48) (hx0 : -2147483648 ≤ x ∧ x < 2147483648) : jM l YX4_put (rmk 2 0 0 41) D cA [.ref h4, .int (jI 0), .int (jI x)] [(h4, .inr (4, [.ref r0, .ref r1, .ref sp, .ref be, .ref re, .int (jI g), .int (jI fr)])), (r0, .inr (1, [.ref a0, .int (jI n)])), (a0, .inl (cA, 48, .inl (jA L)))] (fun v w => ((0 ≤ x ∧ x ≤ 3 ∧ n < 48) ∧ v = some (.int (jI (n + 1))) ∧ w = [(h4, .inr (4, [.ref r0, .ref r1, .ref sp, .ref be, .ref re, .int (jI g), .int (jI 0)])), (r0, .inr (1, [.ref a0, .int (jI (n + 1))])), (a0, .inl (cA, 48, .inl (jA (jU L n x))))]) ∨ (¬ (0 ≤ x ∧ x ≤ 3 ∧ n < 48) ∧ v = some (.int (jI (-1))) ∧ w = [(h4, .inr (4, [.ref r0, .ref r1, .ref sp, .ref be, .ref re, .int (jI g), .int (jI fr)])), (r0, .inr (1, [.ref a0, .int (jI n)])), (a0, .inl (cA, 48, .inl (jA L)))])) 0 0 := by
  refine jM.intro (by decide +kernel) (Nat.le_of_ble_eq_true rfl) ?_
  intro p e s m args below meth c ls Q A F hQ hA hP hD hS hl
  have hx := F.1
  have hb := F.2.1
  have hl : lv_has ls 4 [(0, .ref h4), (1, .int (jI 0)), (2, .int (jI x))] := hl
  refine lv_aload_n hx hb dX4_put_0 rfl (lv_at hl 0 rfl) ?_
  refine lv_iload_n hx hb dX4_put_1 rfl (lv_at hl 1 rfl) ?_
  refine jr_V F (kX4_rowOf_0 l D cA h4 r0 r1 sp be re g fr) cvX4_50 hP [0] rfl 0 rfl rfl hl ⟨rfl, rfl, by decide, by decide⟩ rfl rfl (Nat.le_of_ble_eq_true rfl) dX4_put_2 ⟨by decide, by decide⟩ (fun v hv => ?_)
  subst hv
  refine lv_astore_n (lv' := [(3, .ref r0), (0, .ref h4), (1, .int (jI 0)), (2, .int (jI x))]) hx hb dX4_put_5 rfl hl (by decide) rfl (fun ls hl => ?_)
  refine lv_aload_n hx hb dX4_put_6 rfl (lv_at hl 0 rfl) ?_
  refine lv_ifnull hx hb dX4_put_7 ?_
  refine lv_iload_n hx hb dX4_put_10 rfl (lv_at hl 3 rfl) ?_
  refine lv_iconst (v := jI 0) hx hb dX4_put_11 rfl ?_
  refine lv_iconst (v := jI 3) hx hb dX4_put_12 rfl ?_
  refine jr_S F (kX4_isBetween l D cA x 0 3 (by omega) (by omega) (by omega)) csX4_54 hP [] rfl hl ⟨rfl, rfl, by decide, by decide⟩ rfl rfl (Nat.le_of_ble_eq_true rfl) dX4_put_13 ⟨by decide, by decide⟩ (fun v hv => ?_)
  obtain ⟨z13, rfl, hz13⟩ := hv
  refine jv_if_eq (tgt := 26) hx hb dX4_put_16 rfl (by omega) (fun c16 => ?_) (fun c16 => ?_)
  · refine lv_iconst (v := jI (-1)) hx hb dX4_put_26 rfl ?_
    exact jM.ri F hQ rfl dX4_put_27 hS hP hD (by exact Or.inr ⟨by omega, rfl, rfl⟩)
  · refine lv_aload_n hx hb dX4_put_19 rfl (lv_at hl 0 rfl) ?_
    refine jr_V F (kX1_isFull l D cA r0 a0 n L (by omega)) cvX4_58 hP [1, 2] rfl 1 rfl rfl hl ⟨rfl, rfl, by decide, by decide⟩ rfl rfl (Nat.le_of_ble_eq_true rfl) dX4_put_20 ⟨by decide, by decide⟩ (fun v hv => ?_)
    obtain ⟨z20, rfl, hz20⟩ := hv
    refine jv_if_eq (tgt := 28) hx hb dX4_put_23 rfl (by omega) (fun c23 => ?_) (fun c23 => ?_)
    · refine lv_aload_n hx hb dX4_put_28 rfl (lv_at hl 1 rfl) ?_
      refine lv_iconst (v := jI 0) hx hb dX4_put_29 rfl ?_
      refine jv_put (v := .int (jI 0)) F hP hD hS 0 rfl flX4_46 pfX4 (by decide +kernel) (by decide +kernel) (by decide +kernel) (Nat.le_of_ble_eq_true rfl) dX4_put_30 (fun H locs hP hD hS => ?_)
      have hP : va_P D cls [(h4, .inr (4, [.ref r0, .ref r1, .ref sp, .ref be, .ref re, .int (jI g), .int (jI 0)])), (r0, .inr (1, [.ref a0, .int (jI n)])), (a0, .inl (cA, 48, .inl (jA L)))] H := hP
      have hD : va_D A [(h4, .inr (4, [.ref r0, .ref r1, .ref sp, .ref be, .ref re, .int (jI g), .int (jI 0)])), (r0, .inr (1, [.ref a0, .int (jI n)])), (a0, .inl (cA, 48, .inl (jA L)))] := hD
      refine lv_aload_n hx hb dX4_put_33 rfl (lv_at hl 0 rfl) ?_
      refine lv_iload_n hx hb dX4_put_34 rfl (lv_at hl 3 rfl) ?_
      refine jw_V (wr := [(h4, .inr (4, [.ref r0, .ref r1, .ref sp, .ref be, .ref re, .int (jI g), .int (jI 0)]))]) F (kX1_append l D cA r0 a0 n L x (by omega)) cvX4_62 hP hD hS hA [1, 2] [0] rfl rfl (by decide) (by decide) 1 rfl rfl hl ⟨rfl, rfl, by decide, by decide⟩ rfl rfl (Nat.le_of_ble_eq_true rfl) dX4_put_35 ⟨by decide, by decide⟩ (by decide) (fun v w1 H locs hw hP hD hS => ?_)
      obtain ⟨rfl, rfl⟩ := hw
      have hP : va_P D cls [(h4, .inr (4, [.ref r0, .ref r1, .ref sp, .ref be, .ref re, .int (jI g), .int (jI 0)])), (r0, .inr (1, [.ref a0, .int (jI (n + 1))])), (a0, .inl (cA, 48, .inl (jA (jU L n x))))] H := hP
      have hD : va_D A [(h4, .inr (4, [.ref r0, .ref r1, .ref sp, .ref be, .ref re, .int (jI g), .int (jI 0)])), (r0, .inr (1, [.ref a0, .int (jI (n + 1))])), (a0, .inl (cA, 48, .inl (jA (jU L n x))))] := hD
      refine W.eq (g2 := F0 m 38 ls []) rfl ?_
      refine lv_aload_n hx hb dX4_put_38 rfl (lv_at hl 0 rfl) ?_
      refine jr_V F (kX1_size l D cA r0 a0 (n + 1) (jU L n x)) cvX4_66 hP [1, 2] rfl 1 rfl rfl hl ⟨rfl, rfl, by decide, by decide⟩ rfl rfl (Nat.le_of_ble_eq_true rfl) dX4_put_39 ⟨by decide, by decide⟩ (fun v hv => ?_)
      subst hv
      exact jM.ri F hQ rfl dX4_put_42 hS hP hD (by exact Or.inl ⟨by omega, rfl, rfl⟩)
    · refine lv_iconst (v := jI (-1)) hx hb dX4_put_26 rfl ?_
      exact jM.ri F hQ rfl dX4_put_27 hS hP hD (by exact Or.inr ⟨by omega, rfl, rfl⟩)
set_option maxHeartbeats 4000000 in
set_option maxRecDepth 100000 in
theorem kX4_put_1 (l : Launch) (D : va_G) (cA : ClassId) (h4 r0 r1 sp be re : Nat) (g fr : Int) (a1 : Nat) (n : Int) (L : Int → Int) (x : Int) (hn : 0 ≤ n ∧ n ≤ 48) (hx0 : -2147483648 ≤ x ∧ x < 2147483648) : jM l YX4_put (rmk 2 0 0 41) D cA [.ref h4, .int (jI 1), .int (jI x)] [(h4, .inr (4, [.ref r0, .ref r1, .ref sp, .ref be, .ref re, .int (jI g), .int (jI fr)])), (r1, .inr (1, [.ref a1, .int (jI n)])), (a1, .inl (cA, 48, .inl (jA L)))] (fun v w => ((0 ≤ x ∧ x ≤ 3 ∧ n < 48) ∧ v = some (.int (jI (n + 1))) ∧ w = [(h4, .inr (4, [.ref r0, .ref r1, .ref sp, .ref be, .ref re, .int (jI g), .int (jI 0)])), (r1, .inr (1, [.ref a1, .int (jI (n + 1))])), (a1, .inl (cA, 48, .inl (jA (jU L n x))))]) ∨ (¬ (0 ≤ x ∧ x ≤ 3 ∧ n < 48) ∧ v = some (.int (jI (-1))) ∧ w = [(h4, .inr (4, [.ref r0, .ref r1, .ref sp, .ref be, .ref re, .int (jI g), .int (jI fr)])), (r1, .inr (1, [.ref a1, .int (jI n)])), (a1, .inl (cA, 48, .inl (jA L)))])) 0 0 := by
  refine jM.intro (by decide +kernel) (Nat.le_of_ble_eq_true rfl) ?_
  intro p e s m args below meth c ls Q A F hQ hA hP hD hS hl
  have hx := F.1
  have hb := F.2.1
  have hl : lv_has ls 4 [(0, .ref h4), (1, .int (jI 1)), (2, .int (jI x))] := hl
  refine lv_aload_n hx hb dX4_put_0 rfl (lv_at hl 0 rfl) ?_
  refine lv_iload_n hx hb dX4_put_1 rfl (lv_at hl 1 rfl) ?_
  refine jr_V F (kX4_rowOf_1 l D cA h4 r0 r1 sp be re g fr) cvX4_50 hP [0] rfl 0 rfl rfl hl ⟨rfl, rfl, by decide, by decide⟩ rfl rfl (Nat.le_of_ble_eq_true rfl) dX4_put_2 ⟨by decide, by decide⟩ (fun v hv => ?_)
  subst hv
  refine lv_astore_n (lv' := [(3, .ref r1), (0, .ref h4), (1, .int (jI 1)), (2, .int (jI x))]) hx hb dX4_put_5 rfl hl (by decide) rfl (fun ls hl => ?_)
  refine lv_aload_n hx hb dX4_put_6 rfl (lv_at hl 0 rfl) ?_
  refine lv_ifnull hx hb dX4_put_7 ?_
  refine lv_iload_n hx hb dX4_put_10 rfl (lv_at hl 3 rfl) ?_
  refine lv_iconst (v := jI 0) hx hb dX4_put_11 rfl ?_
  refine lv_iconst (v := jI 3) hx hb dX4_put_12 rfl ?_
  refine jr_S F (kX4_isBetween l D cA x 0 3 (by omega) (by omega) (by omega)) csX4_54 hP [] rfl hl ⟨rfl, rfl, by decide, by decide⟩ rfl rfl (Nat.le_of_ble_eq_true rfl) dX4_put_13 ⟨by decide, by decide⟩ (fun v hv => ?_)
  obtain ⟨z13, rfl, hz13⟩ := hv
  refine jv_if_eq (tgt := 26) hx hb dX4_put_16 rfl (by omega) (fun c16 => ?_) (fun c16 => ?_)
  · refine lv_iconst (v := jI (-1)) hx hb dX4_put_26 rfl ?_
    exact jM.ri F hQ rfl dX4_put_27 hS hP hD (by exact Or.inr ⟨by omega, rfl, rfl⟩)
  · refine lv_aload_n hx hb dX4_put_19 rfl (lv_at hl 0 rfl) ?_
    refine jr_V F (kX1_isFull l D cA r1 a1 n L (by omega)) cvX4_58 hP [1, 2] rfl 1 rfl rfl hl ⟨rfl, rfl, by decide, by decide⟩ rfl rfl (Nat.le_of_ble_eq_true rfl) dX4_put_20 ⟨by decide, by decide⟩ (fun v hv => ?_)
    obtain ⟨z20, rfl, hz20⟩ := hv
    refine jv_if_eq (tgt := 28) hx hb dX4_put_23 rfl (by omega) (fun c23 => ?_) (fun c23 => ?_)
    · refine lv_aload_n hx hb dX4_put_28 rfl (lv_at hl 1 rfl) ?_
      refine lv_iconst (v := jI 0) hx hb dX4_put_29 rfl ?_
      refine jv_put (v := .int (jI 0)) F hP hD hS 0 rfl flX4_46 pfX4 (by decide +kernel) (by decide +kernel) (by decide +kernel) (Nat.le_of_ble_eq_true rfl) dX4_put_30 (fun H locs hP hD hS => ?_)
      have hP : va_P D cls [(h4, .inr (4, [.ref r0, .ref r1, .ref sp, .ref be, .ref re, .int (jI g), .int (jI 0)])), (r1, .inr (1, [.ref a1, .int (jI n)])), (a1, .inl (cA, 48, .inl (jA L)))] H := hP
      have hD : va_D A [(h4, .inr (4, [.ref r0, .ref r1, .ref sp, .ref be, .ref re, .int (jI g), .int (jI 0)])), (r1, .inr (1, [.ref a1, .int (jI n)])), (a1, .inl (cA, 48, .inl (jA L)))] := hD
      refine lv_aload_n hx hb dX4_put_33 rfl (lv_at hl 0 rfl) ?_
      refine lv_iload_n hx hb dX4_put_34 rfl (lv_at hl 3 rfl) ?_
      refine jw_V (wr := [(h4, .inr (4, [.ref r0, .ref r1, .ref sp, .ref be, .ref re, .int (jI g), .int (jI 0)]))]) F (kX1_append l D cA r1 a1 n L x (by omega)) cvX4_62 hP hD hS hA [1, 2] [0] rfl rfl (by decide) (by decide) 1 rfl rfl hl ⟨rfl, rfl, by decide, by decide⟩ rfl rfl (Nat.le_of_ble_eq_true rfl) dX4_put_35 ⟨by decide, by decide⟩ (by decide) (fun v w1 H locs hw hP hD hS => ?_)
      obtain ⟨rfl, rfl⟩ := hw
      have hP : va_P D cls [(h4, .inr (4, [.ref r0, .ref r1, .ref sp, .ref be, .ref re, .int (jI g), .int (jI 0)])), (r1, .inr (1, [.ref a1, .int (jI (n + 1))])), (a1, .inl (cA, 48, .inl (jA (jU L n x))))] H := hP
      have hD : va_D A [(h4, .inr (4, [.ref r0, .ref r1, .ref sp, .ref be, .ref re, .int (jI g), .int (jI 0)])), (r1, .inr (1, [.ref a1, .int (jI (n + 1))])), (a1, .inl (cA, 48, .inl (jA (jU L n x))))] := hD
      refine W.eq (g2 := F0 m 38 ls []) rfl ?_
      refine lv_aload_n hx hb dX4_put_38 rfl (lv_at hl 0 rfl) ?_
      refine jr_V F (kX1_size l D cA r1 a1 (n + 1) (jU L n x)) cvX4_66 hP [1, 2] rfl 1 rfl rfl hl ⟨rfl, rfl, by decide, by decide⟩ rfl rfl (Nat.le_of_ble_eq_true rfl) dX4_put_39 ⟨by decide, by decide⟩ (fun v hv => ?_)
      subst hv
      exact jM.ri F hQ rfl dX4_put_42 hS hP hD (by exact Or.inl ⟨by omega, rfl, rfl⟩)
    · refine lv_iconst (v := jI (-1)) hx hb dX4_put_26 rfl ?_
      exact jM.ri F hQ rfl dX4_put_27 hS hP hD (by exact Or.inr ⟨by omega, rfl, rfl⟩)
set_option maxHeartbeats 4000000 in
set_option maxRecDepth 100000 in
theorem kX4_put_n (l : Launch) (D : va_G) (cA : ClassId) (h4 r0 r1 sp be re : Nat) (g fr : Int) (row : Int) (x : Int) (hr : row ≠ 0 ∧ row ≠ 1) (hr2 : -2147483648 ≤ row ∧ row < 2147483648) (hx0 : -2147483648 ≤ x ∧ x < 2147483648) : jM l YX4_put (rmk 1 0 0 21) D cA [.ref h4, .int (jI row), .int (jI x)] [(h4, .inr (4, [.ref r0, .ref r1, .ref sp, .ref be, .ref re, .int (jI g), .int (jI fr)]))] (fun v w => v = some (.int (jI (-1))) ∧ w = [(h4, .inr (4, [.ref r0, .ref r1, .ref sp, .ref be, .ref re, .int (jI g), .int (jI fr)]))]) 0 0 := by
  refine jM.intro (by decide +kernel) (Nat.le_of_ble_eq_true rfl) ?_
  intro p e s m args below meth c ls Q A F hQ hA hP hD hS hl
  have hx := F.1
  have hb := F.2.1
  have hl : lv_has ls 4 [(0, .ref h4), (1, .int (jI row)), (2, .int (jI x))] := hl
  refine lv_aload_n hx hb dX4_put_0 rfl (lv_at hl 0 rfl) ?_
  refine lv_iload_n hx hb dX4_put_1 rfl (lv_at hl 1 rfl) ?_
  refine jr_V F (kX4_rowOf_n l D cA h4 r0 r1 sp be re g fr row (by omega) (by omega)) cvX4_50 hP [0] rfl 0 rfl rfl hl ⟨rfl, rfl, by decide, by decide⟩ rfl rfl (Nat.le_of_ble_eq_true rfl) dX4_put_2 ⟨by decide, by decide⟩ (fun v hv => ?_)
  subst hv
  refine lv_astore_nN (lv' := [(3, .null), (0, .ref h4), (1, .int (jI row)), (2, .int (jI x))]) hx hb dX4_put_5 rfl hl (by decide) rfl (fun ls hl => ?_)
  refine lv_aload_nN hx hb dX4_put_6 rfl (lv_at hl 0 rfl) ?_
  refine lv_ifnullN (tgt := 26) hx hb dX4_put_7 rfl ?_
  refine lv_iconst (v := jI (-1)) hx hb dX4_put_26 rfl ?_
  exact jM.ri F hQ rfl dX4_put_27 hS hP hD (by exact ⟨rfl, rfl⟩)
set_option maxHeartbeats 4000000 in
set_option maxRecDepth 100000 in
theorem kX4_cut_0 (l : Launch) (D : va_G) (cA : ClassId) (h4 r0 r1 sp be re : Nat) (g fr : Int) (a0 : Nat) (n : Int) (L : Int → Int) (hn : 0 ≤ n ∧ n ≤ 48) : jM l YX4_cut (rmk 1 0 0 21) D cA [.ref h4, .int (jI 0)] [(h4, .inr (4, [.ref r0, .ref r1, .ref sp, .ref be, .ref re, .int (jI g), .int (jI fr)])), (r0, .inr (1, [.ref a0, .int (jI n)])), (a0, .inl (cA, 48, .inl (jA L)))] (fun v w => (0 < n ∧ v = some (.int (jI (L (n - 1)))) ∧ w = [(h4, .inr (4, [.ref r0, .ref r1, .ref sp, .ref be, .ref re, .int (jI g), .int (jI 0)])), (r0, .inr (1, [.ref a0, .int (jI (n - 1))])), (a0, .inl (cA, 48, .inl (jA L)))]) ∨ (n = 0 ∧ v = some (.int (jI (-1))) ∧ w = [(h4, .inr (4, [.ref r0, .ref r1, .ref sp, .ref be, .ref re, .int (jI g), .int (jI fr)])), (r0, .inr (1, [.ref a0, .int (jI n)])), (a0, .inl (cA, 48, .inl (jA L)))])) 0 0 := by
  refine jM.intro (by decide +kernel) (Nat.le_of_ble_eq_true rfl) ?_
  intro p e s m args below meth c ls Q A F hQ hA hP hD hS hl
  have hx := F.1
  have hb := F.2.1
  have hl : lv_has ls 3 [(0, .ref h4), (1, .int (jI 0))] := hl
  refine lv_aload_n hx hb dX4_cut_0 rfl (lv_at hl 0 rfl) ?_
  refine lv_iload_n hx hb dX4_cut_1 rfl (lv_at hl 1 rfl) ?_
  refine jr_V F (kX4_rowOf_0 l D cA h4 r0 r1 sp be re g fr) cvX4_50 hP [0] rfl 0 rfl rfl hl ⟨rfl, rfl, by decide, by decide⟩ rfl rfl (Nat.le_of_ble_eq_true rfl) dX4_cut_2 ⟨by decide, by decide⟩ (fun v hv => ?_)
  subst hv
  refine lv_astore_n (lv' := [(2, .ref r0), (0, .ref h4), (1, .int (jI 0))]) hx hb dX4_cut_5 rfl hl (by decide) rfl (fun ls hl => ?_)
  refine lv_aload_n hx hb dX4_cut_6 rfl (lv_at hl 0 rfl) ?_
  refine lv_ifnull hx hb dX4_cut_7 ?_
  refine lv_aload_n hx hb dX4_cut_10 rfl (lv_at hl 0 rfl) ?_
  refine jr_V F (kX1_size l D cA r0 a0 n L) cvX4_66 hP [1, 2] rfl 1 rfl rfl hl ⟨rfl, rfl, by decide, by decide⟩ rfl rfl (Nat.le_of_ble_eq_true rfl) dX4_cut_11 ⟨by decide, by decide⟩ (fun v hv => ?_)
  subst hv
  refine jv_if_ne (tgt := 19) hx hb dX4_cut_14 rfl (by omega) (fun c14 => ?_) (fun c14 => ?_)
  · refine lv_aload_n hx hb dX4_cut_19 rfl (lv_at hl 1 rfl) ?_
    refine lv_iconst (v := jI 0) hx hb dX4_cut_20 rfl ?_
    refine jv_put (v := .int (jI 0)) F hP hD hS 0 rfl flX4_46 pfX4 (by decide +kernel) (by decide +kernel) (by decide +kernel) (Nat.le_of_ble_eq_true rfl) dX4_cut_21 (fun H locs hP hD hS => ?_)
    have hP : va_P D cls [(h4, .inr (4, [.ref r0, .ref r1, .ref sp, .ref be, .ref re, .int (jI g), .int (jI 0)])), (r0, .inr (1, [.ref a0, .int (jI n)])), (a0, .inl (cA, 48, .inl (jA L)))] H := hP
    have hD : va_D A [(h4, .inr (4, [.ref r0, .ref r1, .ref sp, .ref be, .ref re, .int (jI g), .int (jI 0)])), (r0, .inr (1, [.ref a0, .int (jI n)])), (a0, .inl (cA, 48, .inl (jA L)))] := hD
    refine lv_aload_n hx hb dX4_cut_24 rfl (lv_at hl 0 rfl) ?_
    refine jw_V (wr := [(h4, .inr (4, [.ref r0, .ref r1, .ref sp, .ref be, .ref re, .int (jI g), .int (jI 0)]))]) F (kX1_dropLast l D cA r0 a0 n L (by omega)) cvX4_70 hP hD hS hA [1, 2] [0] rfl rfl (by decide) (by decide) 1 rfl rfl hl ⟨rfl, rfl, by decide, by decide⟩ rfl rfl (Nat.le_of_ble_eq_true rfl) dX4_cut_25 ⟨by decide, by decide⟩ (by decide) (fun v w1 H locs hw hP hD hS => ?_)
    obtain ⟨rfl, rfl⟩ := hw
    have hP : va_P D cls [(h4, .inr (4, [.ref r0, .ref r1, .ref sp, .ref be, .ref re, .int (jI g), .int (jI 0)])), (r0, .inr (1, [.ref a0, .int (jI (n - 1))])), (a0, .inl (cA, 48, .inl (jA L)))] H := hP
    have hD : va_D A [(h4, .inr (4, [.ref r0, .ref r1, .ref sp, .ref be, .ref re, .int (jI g), .int (jI 0)])), (r0, .inr (1, [.ref a0, .int (jI (n - 1))])), (a0, .inl (cA, 48, .inl (jA L)))] := hD
    refine W.eq (g2 := F0 m 28 ls [.int (jI (L (n - 1)))]) rfl ?_
    exact jM.ri F hQ rfl dX4_cut_28 hS hP hD (by exact Or.inl ⟨by omega, rfl, rfl⟩)
  · refine lv_iconst (v := jI (-1)) hx hb dX4_cut_17 rfl ?_
    exact jM.ri F hQ rfl dX4_cut_18 hS hP hD (by exact Or.inr ⟨by omega, rfl, rfl⟩)
set_option maxHeartbeats 4000000 in
set_option maxRecDepth 100000 in
theorem kX4_cut_1 (l : Launch) (D : va_G) (cA : ClassId) (h4 r0 r1 sp be re : Nat) (g fr : Int) (a1 : Nat) (n : Int) (L : Int → Int) (hn : 0 ≤ n ∧ n ≤ 48) : jM l YX4_cut (rmk 1 0 0 21) D cA [.ref h4, .int (jI 1)] [(h4, .inr (4, [.ref r0, .ref r1, .ref sp, .ref be, .ref re, .int (jI g), .int (jI fr)])), (r1, .inr (1, [.ref a1, .int (jI n)])), (a1, .inl (cA, 48, .inl (jA L)))] (fun v w => (0 < n ∧ v = some (.int (jI (L (n - 1)))) ∧ w = [(h4, .inr (4, [.ref r0, .ref r1, .ref sp, .ref be, .ref re, .int (jI g), .int (jI 0)])), (r1, .inr (1, [.ref a1, .int (jI (n - 1))])), (a1, .inl (cA, 48, .inl (jA L)))]) ∨ (n = 0 ∧ v = some (.int (jI (-1))) ∧ w = [(h4, .inr (4, [.ref r0, .ref r1, .ref sp, .ref be, .ref re, .int (jI g), .int (jI fr)])), (r1, .inr (1, [.ref a1, .int (jI n)])), (a1, .inl (cA, 48, .inl (jA L)))])) 0 0 := by
  refine jM.intro (by decide +kernel) (Nat.le_of_ble_eq_true rfl) ?_
  intro p e s m args below meth c ls Q A F hQ hA hP hD hS hl
  have hx := F.1
  have hb := F.2.1
  have hl : lv_has ls 3 [(0, .ref h4), (1, .int (jI 1))] := hl
  refine lv_aload_n hx hb dX4_cut_0 rfl (lv_at hl 0 rfl) ?_
  refine lv_iload_n hx hb dX4_cut_1 rfl (lv_at hl 1 rfl) ?_
  refine jr_V F (kX4_rowOf_1 l D cA h4 r0 r1 sp be re g fr) cvX4_50 hP [0] rfl 0 rfl rfl hl ⟨rfl, rfl, by decide, by decide⟩ rfl rfl (Nat.le_of_ble_eq_true rfl) dX4_cut_2 ⟨by decide, by decide⟩ (fun v hv => ?_)
  subst hv
  refine lv_astore_n (lv' := [(2, .ref r1), (0, .ref h4), (1, .int (jI 1))]) hx hb dX4_cut_5 rfl hl (by decide) rfl (fun ls hl => ?_)
  refine lv_aload_n hx hb dX4_cut_6 rfl (lv_at hl 0 rfl) ?_
  refine lv_ifnull hx hb dX4_cut_7 ?_
  refine lv_aload_n hx hb dX4_cut_10 rfl (lv_at hl 0 rfl) ?_
  refine jr_V F (kX1_size l D cA r1 a1 n L) cvX4_66 hP [1, 2] rfl 1 rfl rfl hl ⟨rfl, rfl, by decide, by decide⟩ rfl rfl (Nat.le_of_ble_eq_true rfl) dX4_cut_11 ⟨by decide, by decide⟩ (fun v hv => ?_)
  subst hv
  refine jv_if_ne (tgt := 19) hx hb dX4_cut_14 rfl (by omega) (fun c14 => ?_) (fun c14 => ?_)
  · refine lv_aload_n hx hb dX4_cut_19 rfl (lv_at hl 1 rfl) ?_
    refine lv_iconst (v := jI 0) hx hb dX4_cut_20 rfl ?_
    refine jv_put (v := .int (jI 0)) F hP hD hS 0 rfl flX4_46 pfX4 (by decide +kernel) (by decide +kernel) (by decide +kernel) (Nat.le_of_ble_eq_true rfl) dX4_cut_21 (fun H locs hP hD hS => ?_)
    have hP : va_P D cls [(h4, .inr (4, [.ref r0, .ref r1, .ref sp, .ref be, .ref re, .int (jI g), .int (jI 0)])), (r1, .inr (1, [.ref a1, .int (jI n)])), (a1, .inl (cA, 48, .inl (jA L)))] H := hP
    have hD : va_D A [(h4, .inr (4, [.ref r0, .ref r1, .ref sp, .ref be, .ref re, .int (jI g), .int (jI 0)])), (r1, .inr (1, [.ref a1, .int (jI n)])), (a1, .inl (cA, 48, .inl (jA L)))] := hD
    refine lv_aload_n hx hb dX4_cut_24 rfl (lv_at hl 0 rfl) ?_
    refine jw_V (wr := [(h4, .inr (4, [.ref r0, .ref r1, .ref sp, .ref be, .ref re, .int (jI g), .int (jI 0)]))]) F (kX1_dropLast l D cA r1 a1 n L (by omega)) cvX4_70 hP hD hS hA [1, 2] [0] rfl rfl (by decide) (by decide) 1 rfl rfl hl ⟨rfl, rfl, by decide, by decide⟩ rfl rfl (Nat.le_of_ble_eq_true rfl) dX4_cut_25 ⟨by decide, by decide⟩ (by decide) (fun v w1 H locs hw hP hD hS => ?_)
    obtain ⟨rfl, rfl⟩ := hw
    have hP : va_P D cls [(h4, .inr (4, [.ref r0, .ref r1, .ref sp, .ref be, .ref re, .int (jI g), .int (jI 0)])), (r1, .inr (1, [.ref a1, .int (jI (n - 1))])), (a1, .inl (cA, 48, .inl (jA L)))] H := hP
    have hD : va_D A [(h4, .inr (4, [.ref r0, .ref r1, .ref sp, .ref be, .ref re, .int (jI g), .int (jI 0)])), (r1, .inr (1, [.ref a1, .int (jI (n - 1))])), (a1, .inl (cA, 48, .inl (jA L)))] := hD
    refine W.eq (g2 := F0 m 28 ls [.int (jI (L (n - 1)))]) rfl ?_
    exact jM.ri F hQ rfl dX4_cut_28 hS hP hD (by exact Or.inl ⟨by omega, rfl, rfl⟩)
  · refine lv_iconst (v := jI (-1)) hx hb dX4_cut_17 rfl ?_
    exact jM.ri F hQ rfl dX4_cut_18 hS hP hD (by exact Or.inr ⟨by omega, rfl, rfl⟩)
set_option maxHeartbeats 4000000 in
set_option maxRecDepth 100000 in
theorem kX4_cut_n (l : Launch) (D : va_G) (cA : ClassId) (h4 r0 r1 sp be re : Nat) (g fr : Int) (row : Int) (hr : row ≠ 0 ∧ row ≠ 1) (hr2 : -2147483648 ≤ row ∧ row < 2147483648) : jM l YX4_cut (rmk 1 0 0 21) D cA [.ref h4, .int (jI row)] [(h4, .inr (4, [.ref r0, .ref r1, .ref sp, .ref be, .ref re, .int (jI g), .int (jI fr)]))] (fun v w => v = some (.int (jI (-1))) ∧ w = [(h4, .inr (4, [.ref r0, .ref r1, .ref sp, .ref be, .ref re, .int (jI g), .int (jI fr)]))]) 0 0 := by
  refine jM.intro (by decide +kernel) (Nat.le_of_ble_eq_true rfl) ?_
  intro p e s m args below meth c ls Q A F hQ hA hP hD hS hl
  have hx := F.1
  have hb := F.2.1
  have hl : lv_has ls 3 [(0, .ref h4), (1, .int (jI row))] := hl
  refine lv_aload_n hx hb dX4_cut_0 rfl (lv_at hl 0 rfl) ?_
  refine lv_iload_n hx hb dX4_cut_1 rfl (lv_at hl 1 rfl) ?_
  refine jr_V F (kX4_rowOf_n l D cA h4 r0 r1 sp be re g fr row (by omega) (by omega)) cvX4_50 hP [0] rfl 0 rfl rfl hl ⟨rfl, rfl, by decide, by decide⟩ rfl rfl (Nat.le_of_ble_eq_true rfl) dX4_cut_2 ⟨by decide, by decide⟩ (fun v hv => ?_)
  subst hv
  refine lv_astore_nN (lv' := [(2, .null), (0, .ref h4), (1, .int (jI row))]) hx hb dX4_cut_5 rfl hl (by decide) rfl (fun ls hl => ?_)
  refine lv_aload_nN hx hb dX4_cut_6 rfl (lv_at hl 0 rfl) ?_
  refine lv_ifnullN (tgt := 17) hx hb dX4_cut_7 rfl ?_
  refine lv_iconst (v := jI (-1)) hx hb dX4_cut_17 rfl ?_
  exact jM.ri F hQ rfl dX4_cut_18 hS hP hD (by exact ⟨rfl, rfl⟩)
set_option maxHeartbeats 4000000 in
set_option maxRecDepth 100000 in
theorem kX4_letter_0 (l : Launch) (D : va_G) (cA : ClassId) (h4 r0 r1 sp be re : Nat) (g fr : Int) (a0 : Nat) (n : Int) (L : Int → Int) (i : Int) (hn : 0 ≤ n ∧ n ≤ 48) (hi : -2147483648 ≤ i ∧ i < 2147483648) : jR l YX4_letter (rmk 1 0 0 21) D cA [.ref h4, .int (jI 0), .int (jI i)] [(h4, .inr (4, [.ref r0, .ref r1, .ref sp, .ref be, .ref re, .int (jI g), .int (jI fr)])), (r0, .inr (1, [.ref a0, .int (jI n)])), (a0, .inl (cA, 48, .inl (jA L)))] (fun v => v = .int (jI (atv L n i))) := by
  refine jR.intro (by decide +kernel) (Nat.le_of_ble_eq_true rfl) ?_
  intro p e s m args below meth c ls Q F hQ hP hl
  have hx := F.1
  have hb := F.2.1
  have hl : lv_has ls 4 [(0, .ref h4), (1, .int (jI 0)), (2, .int (jI i))] := hl
  refine lv_aload_n hx hb dX4_letter_0 rfl (lv_at hl 0 rfl) ?_
  refine lv_iload_n hx hb dX4_letter_1 rfl (lv_at hl 1 rfl) ?_
  refine jr_V F (kX4_rowOf_0 l D cA h4 r0 r1 sp be re g fr) cvX4_50 hP [0] rfl 0 rfl rfl hl ⟨rfl, rfl, by decide, by decide⟩ rfl rfl (Nat.le_of_ble_eq_true rfl) dX4_letter_2 ⟨by decide, by decide⟩ (fun v hv => ?_)
  subst hv
  refine lv_astore_n (lv' := [(3, .ref r0), (0, .ref h4), (1, .int (jI 0)), (2, .int (jI i))]) hx hb dX4_letter_5 rfl hl (by decide) rfl (fun ls hl => ?_)
  refine lv_aload_n hx hb dX4_letter_6 rfl (lv_at hl 0 rfl) ?_
  refine lv_ifnonnull (tgt := 14) hx hb dX4_letter_7 rfl ?_
  refine lv_aload_n hx hb dX4_letter_14 rfl (lv_at hl 0 rfl) ?_
  refine lv_iload_n hx hb dX4_letter_15 rfl (lv_at hl 3 rfl) ?_
  refine jr_V F (kX1_at l D cA r0 a0 n L i (by omega) (by omega)) cvX4_73 hP [1, 2] rfl 1 rfl rfl hl ⟨rfl, rfl, by decide, by decide⟩ rfl rfl (Nat.le_of_ble_eq_true rfl) dX4_letter_16 ⟨by decide, by decide⟩ (fun v hv => ?_)
  subst hv
  exact jR.ri F hQ rfl dX4_letter_19 (by rfl)
set_option maxHeartbeats 4000000 in
set_option maxRecDepth 100000 in
theorem kX4_letter_1 (l : Launch) (D : va_G) (cA : ClassId) (h4 r0 r1 sp be re : Nat) (g fr : Int) (a1 : Nat) (n : Int) (L : Int → Int) (i : Int) (hn : 0 ≤ n ∧ n ≤ 48) (hi : -2147483648 ≤ i ∧ i < 2147483648) : jR l YX4_letter (rmk 1 0 0 21) D cA [.ref h4, .int (jI 1), .int (jI i)] [(h4, .inr (4, [.ref r0, .ref r1, .ref sp, .ref be, .ref re, .int (jI g), .int (jI fr)])), (r1, .inr (1, [.ref a1, .int (jI n)])), (a1, .inl (cA, 48, .inl (jA L)))] (fun v => v = .int (jI (atv L n i))) := by
  refine jR.intro (by decide +kernel) (Nat.le_of_ble_eq_true rfl) ?_
  intro p e s m args below meth c ls Q F hQ hP hl
  have hx := F.1
  have hb := F.2.1
  have hl : lv_has ls 4 [(0, .ref h4), (1, .int (jI 1)), (2, .int (jI i))] := hl
  refine lv_aload_n hx hb dX4_letter_0 rfl (lv_at hl 0 rfl) ?_
  refine lv_iload_n hx hb dX4_letter_1 rfl (lv_at hl 1 rfl) ?_
  refine jr_V F (kX4_rowOf_1 l D cA h4 r0 r1 sp be re g fr) cvX4_50 hP [0] rfl 0 rfl rfl hl ⟨rfl, rfl, by decide, by decide⟩ rfl rfl (Nat.le_of_ble_eq_true rfl) dX4_letter_2 ⟨by decide, by decide⟩ (fun v hv => ?_)
  subst hv
  refine lv_astore_n (lv' := [(3, .ref r1), (0, .ref h4), (1, .int (jI 1)), (2, .int (jI i))]) hx hb dX4_letter_5 rfl hl (by decide) rfl (fun ls hl => ?_)
  refine lv_aload_n hx hb dX4_letter_6 rfl (lv_at hl 0 rfl) ?_
  refine lv_ifnonnull (tgt := 14) hx hb dX4_letter_7 rfl ?_
  refine lv_aload_n hx hb dX4_letter_14 rfl (lv_at hl 0 rfl) ?_
  refine lv_iload_n hx hb dX4_letter_15 rfl (lv_at hl 3 rfl) ?_
  refine jr_V F (kX1_at l D cA r1 a1 n L i (by omega) (by omega)) cvX4_73 hP [1, 2] rfl 1 rfl rfl hl ⟨rfl, rfl, by decide, by decide⟩ rfl rfl (Nat.le_of_ble_eq_true rfl) dX4_letter_16 ⟨by decide, by decide⟩ (fun v hv => ?_)
  subst hv
  exact jR.ri F hQ rfl dX4_letter_19 (by rfl)
set_option maxHeartbeats 4000000 in
set_option maxRecDepth 100000 in
theorem kX4_letter_n (l : Launch) (D : va_G) (cA : ClassId) (h4 r0 r1 sp be re : Nat) (g fr : Int) (row : Int) (i : Int) (hr : row ≠ 0 ∧ row ≠ 1) (hr2 : -2147483648 ≤ row ∧ row < 2147483648) (hi : -2147483648 ≤ i ∧ i < 2147483648) : jR l YX4_letter (rmk 1 0 0 21) D cA [.ref h4, .int (jI row), .int (jI i)] [(h4, .inr (4, [.ref r0, .ref r1, .ref sp, .ref be, .ref re, .int (jI g), .int (jI fr)]))] (fun v => v = .int (jI (-1))) := by
  refine jR.intro (by decide +kernel) (Nat.le_of_ble_eq_true rfl) ?_
  intro p e s m args below meth c ls Q F hQ hP hl
  have hx := F.1
  have hb := F.2.1
  have hl : lv_has ls 4 [(0, .ref h4), (1, .int (jI row)), (2, .int (jI i))] := hl
  refine lv_aload_n hx hb dX4_letter_0 rfl (lv_at hl 0 rfl) ?_
  refine lv_iload_n hx hb dX4_letter_1 rfl (lv_at hl 1 rfl) ?_
  refine jr_V F (kX4_rowOf_n l D cA h4 r0 r1 sp be re g fr row (by omega) (by omega)) cvX4_50 hP [0] rfl 0 rfl rfl hl ⟨rfl, rfl, by decide, by decide⟩ rfl rfl (Nat.le_of_ble_eq_true rfl) dX4_letter_2 ⟨by decide, by decide⟩ (fun v hv => ?_)
  subst hv
  refine lv_astore_nN (lv' := [(3, .null), (0, .ref h4), (1, .int (jI row)), (2, .int (jI i))]) hx hb dX4_letter_5 rfl hl (by decide) rfl (fun ls hl => ?_)
  refine lv_aload_nN hx hb dX4_letter_6 rfl (lv_at hl 0 rfl) ?_
  refine lv_ifnonnullN hx hb dX4_letter_7 ?_
  refine lv_iconst (v := jI (-1)) hx hb dX4_letter_10 rfl ?_
  refine lv_goto (tgt := 19) hx hb dX4_letter_11 rfl ?_
  exact jR.ri F hQ rfl dX4_letter_19 (by rfl)
set_option maxHeartbeats 4000000 in
set_option maxRecDepth 100000 in
theorem kX4_seeds (l : Launch) (D : va_G) (cA : ClassId) (h4 r0 r1 sp be re : Nat) (g fr : Int) (K k : Int) (hk : -2147483648 ≤ k ∧ k < 2147483648) : jM l YX4_seeds (rmk 1 0 0 22) D cA [.ref h4, .int (jI k)] [(h4, .inr (4, [.ref r0, .ref r1, .ref sp, .ref be, .ref re, .int (jI g), .int (jI fr)])), (sp, .inr (3, [.ref r0, .ref r1, .int (jI K)]))] (fun v w => ((1 ≤ k ∧ k ≤ 6) ∧ v = some (.int (jI 1)) ∧ w = [(h4, .inr (4, [.ref r0, .ref r1, .ref sp, .ref be, .ref re, .int (jI g), .int (jI 0)])), (sp, .inr (3, [.ref r0, .ref r1, .int (jI k)]))]) ∨ (¬ (1 ≤ k ∧ k ≤ 6) ∧ v = some (.int (jI 0)) ∧ w = [(h4, .inr (4, [.ref r0, .ref r1, .ref sp, .ref be, .ref re, .int (jI g), .int (jI fr)])), (sp, .inr (3, [.ref r0, .ref r1, .int (jI K)]))])) 0 0 := by
  refine jM.intro (by decide +kernel) (Nat.le_of_ble_eq_true rfl) ?_
  intro p e s m args below meth c ls Q A F hQ hA hP hD hS hl
  have hx := F.1
  have hb := F.2.1
  have hl : lv_has ls 2 [(0, .ref h4), (1, .int (jI k))] := hl
  refine lv_iload_n hx hb dX4_seeds_0 rfl (lv_at hl 1 rfl) ?_
  refine lv_iconst (v := jI 1) hx hb dX4_seeds_1 rfl ?_
  refine lv_bipush (v := jI 6) hx hb dX4_seeds_2 (by decide +kernel) ?_
  refine jr_S F (kX4_isBetween l D cA k 1 6 (by omega) (by omega) (by omega)) csX4_54 hP [] rfl hl ⟨rfl, rfl, by decide, by decide⟩ rfl rfl (Nat.le_of_ble_eq_true rfl) dX4_seeds_4 ⟨by decide, by decide⟩ (fun v hv => ?_)
  obtain ⟨z4, rfl, hz4⟩ := hv
  refine jv_if_ne (tgt := 12) hx hb dX4_seeds_7 rfl (by omega) (fun c7 => ?_) (fun c7 => ?_)
  · refine lv_aload_n hx hb dX4_seeds_12 rfl (lv_at hl 0 rfl) ?_
    refine lv_iconst (v := jI 0) hx hb dX4_seeds_13 rfl ?_
    refine jv_put (v := .int (jI 0)) F hP hD hS 0 rfl flX4_46 pfX4 (by decide +kernel) (by decide +kernel) (by decide +kernel) (Nat.le_of_ble_eq_true rfl) dX4_seeds_14 (fun H locs hP hD hS => ?_)
    have hP : va_P D cls [(h4, .inr (4, [.ref r0, .ref r1, .ref sp, .ref be, .ref re, .int (jI g), .int (jI 0)])), (sp, .inr (3, [.ref r0, .ref r1, .int (jI K)]))] H := hP
    have hD : va_D A [(h4, .inr (4, [.ref r0, .ref r1, .ref sp, .ref be, .ref re, .int (jI g), .int (jI 0)])), (sp, .inr (3, [.ref r0, .ref r1, .int (jI K)]))] := hD
    refine lv_aload_n hx hb dX4_seeds_17 rfl (lv_at hl 0 rfl) ?_
    refine jv_get (v := .ref sp) F hP 0 rfl flX4_24 rfl dX4_seeds_18 ?_
    refine lv_iload_n hx hb dX4_seeds_21 rfl (lv_at hl 1 rfl) ?_
    refine jw_V (wr := [(h4, .inr (4, [.ref r0, .ref r1, .ref sp, .ref be, .ref re, .int (jI g), .int (jI 0)]))]) F (kX3_useLength l D cA sp r0 r1 K k) cvX4_77 hP hD hS hA [1] [0] rfl rfl (by decide) (by decide) 1 rfl rfl hl ⟨rfl, rfl, by decide, by decide⟩ rfl rfl (Nat.le_of_ble_eq_true rfl) dX4_seeds_22 ⟨by decide, by decide⟩ (by decide) (fun v w1 H locs hw hP hD hS => ?_)
    obtain ⟨rfl, rfl⟩ := hw
    have hP : va_P D cls [(h4, .inr (4, [.ref r0, .ref r1, .ref sp, .ref be, .ref re, .int (jI g), .int (jI 0)])), (sp, .inr (3, [.ref r0, .ref r1, .int (jI k)]))] H := hP
    have hD : va_D A [(h4, .inr (4, [.ref r0, .ref r1, .ref sp, .ref be, .ref re, .int (jI g), .int (jI 0)])), (sp, .inr (3, [.ref r0, .ref r1, .int (jI k)]))] := hD
    refine W.eq (g2 := F0 m 25 ls []) rfl ?_
    refine lv_iconst (v := jI 1) hx hb dX4_seeds_25 rfl ?_
    exact jM.rz F hQ rfl (by omega) dX4_seeds_26 hS hP hD (by exact Or.inl ⟨by omega, rfl, rfl⟩)
  · refine lv_iconst (v := jI 0) hx hb dX4_seeds_10 rfl ?_
    exact jM.rz F hQ rfl (by omega) dX4_seeds_11 hS hP hD (by exact Or.inr ⟨by omega, rfl, rfl⟩)
set_option maxHeartbeats 4000000 in
set_option maxRecDepth 100000 in
theorem kX4_penalty (l : Launch) (D : va_G) (cA : ClassId) (h4 r0 r1 sp be re : Nat) (g fr : Int) (k : Int) (hk : -2147483648 ≤ k ∧ k < 2147483648) : jM l YX4_penalty (rmk 1 0 0 22) D cA [.ref h4, .int (jI k)] [(h4, .inr (4, [.ref r0, .ref r1, .ref sp, .ref be, .ref re, .int (jI g), .int (jI fr)]))] (fun v w => ((0 ≤ k ∧ k ≤ 9) ∧ v = some (.int (jI 1)) ∧ w = [(h4, .inr (4, [.ref r0, .ref r1, .ref sp, .ref be, .ref re, .int (jI k), .int (jI 0)]))]) ∨ (¬ (0 ≤ k ∧ k ≤ 9) ∧ v = some (.int (jI 0)) ∧ w = [(h4, .inr (4, [.ref r0, .ref r1, .ref sp, .ref be, .ref re, .int (jI g), .int (jI fr)]))])) 0 0 := by
  refine jM.intro (by decide +kernel) (Nat.le_of_ble_eq_true rfl) ?_
  intro p e s m args below meth c ls Q A F hQ hA hP hD hS hl
  have hx := F.1
  have hb := F.2.1
  have hl : lv_has ls 2 [(0, .ref h4), (1, .int (jI k))] := hl
  refine lv_iload_n hx hb dX4_penalty_0 rfl (lv_at hl 1 rfl) ?_
  refine lv_iconst (v := jI 0) hx hb dX4_penalty_1 rfl ?_
  refine lv_bipush (v := jI 9) hx hb dX4_penalty_2 (by decide +kernel) ?_
  refine jr_S F (kX4_isBetween l D cA k 0 9 (by omega) (by omega) (by omega)) csX4_54 hP [] rfl hl ⟨rfl, rfl, by decide, by decide⟩ rfl rfl (Nat.le_of_ble_eq_true rfl) dX4_penalty_4 ⟨by decide, by decide⟩ (fun v hv => ?_)
  obtain ⟨z4, rfl, hz4⟩ := hv
  refine jv_if_ne (tgt := 12) hx hb dX4_penalty_7 rfl (by omega) (fun c7 => ?_) (fun c7 => ?_)
  · refine lv_aload_n hx hb dX4_penalty_12 rfl (lv_at hl 0 rfl) ?_
    refine lv_iconst (v := jI 0) hx hb dX4_penalty_13 rfl ?_
    refine jv_put (v := .int (jI 0)) F hP hD hS 0 rfl flX4_46 pfX4 (by decide +kernel) (by decide +kernel) (by decide +kernel) (Nat.le_of_ble_eq_true rfl) dX4_penalty_14 (fun H locs hP hD hS => ?_)
    have hP : va_P D cls [(h4, .inr (4, [.ref r0, .ref r1, .ref sp, .ref be, .ref re, .int (jI g), .int (jI 0)]))] H := hP
    have hD : va_D A [(h4, .inr (4, [.ref r0, .ref r1, .ref sp, .ref be, .ref re, .int (jI g), .int (jI 0)]))] := hD
    refine lv_aload_n hx hb dX4_penalty_17 rfl (lv_at hl 0 rfl) ?_
    refine lv_iload_n hx hb dX4_penalty_18 rfl (lv_at hl 1 rfl) ?_
    refine jv_put (v := .int (jI k)) F hP hD hS 0 rfl flX4_42 pfX4 (by decide +kernel) rfl rfl (Nat.le_of_ble_eq_true rfl) dX4_penalty_19 (fun H locs hP hD hS => ?_)
    have hP : va_P D cls [(h4, .inr (4, [.ref r0, .ref r1, .ref sp, .ref be, .ref re, .int (jI k), .int (jI 0)]))] H := hP
    have hD : va_D A [(h4, .inr (4, [.ref r0, .ref r1, .ref sp, .ref be, .ref re, .int (jI k), .int (jI 0)]))] := hD
    refine lv_iconst (v := jI 1) hx hb dX4_penalty_22 rfl ?_
    exact jM.rz F hQ rfl (by omega) dX4_penalty_23 hS hP hD (by exact Or.inl ⟨by omega, rfl, rfl⟩)
  · refine lv_iconst (v := jI 0) hx hb dX4_penalty_10 rfl ?_
    exact jM.rz F hQ rfl (by omega) dX4_penalty_11 hS hP hD (by exact Or.inr ⟨by omega, rfl, rfl⟩)
set_option maxHeartbeats 4000000 in
set_option maxRecDepth 100000 in
theorem kX4_scores (l : Launch) (D : va_G) (cA : ClassId) (h4 r0 r1 sp be : Nat) (g fr : Int) (re t2 t1 t0 : Nat) (ga lo gp li es ep eq al la : Int) (a1 a2 a3 a4 : Int) (hr1 : -2147483648 ≤ a1 ∧ a1 < 2147483648) (hr2 : -2147483648 ≤ a2 ∧ a2 < 2147483648) (hr3 : -2147483648 ≤ a3 ∧ a3 < 2147483648) (hr4 : -2147483648 ≤ a4 ∧ a4 < 2147483648) : jM l YX4_scores (rmk 1 0 0 24) D cA [.ref h4, .int (jI a1), .int (jI a2), .int (jI a3), .int (jI a4)] [(h4, .inr (4, [.ref r0, .ref r1, .ref sp, .ref be, .ref re, .int (jI g), .int (jI fr)])), (re, .inr (2, [.int (jI ga), .int (jI lo), .int (jI gp), .int (jI li), .ref t2, .ref t1, .ref t0, .int (jI es), .int (jI ep), .int (jI eq), .int (jI al), .int (jI la)]))] (fun v w => (((1 ≤ a1 ∧ a1 ≤ 9) ∧ (0 ≤ a2 ∧ a2 ≤ 9) ∧ (1 ≤ a3 ∧ a3 ≤ 9) ∧ (0 ≤ a4 ∧ a4 ≤ 99)) ∧ v = some (.int (jI 1)) ∧ w = [(h4, .inr (4, [.ref r0, .ref r1, .ref sp, .ref be, .ref re, .int (jI g), .int (jI fr)])), (re, .inr (2, [.int (jI a1), .int (jI a2), .int (jI a3), .int (jI a4), .ref t2, .ref t1, .ref t0, .int (jI es), .int (jI ep), .int (jI eq), .int (jI al), .int (jI la)]))]) ∨ (¬ ((1 ≤ a1 ∧ a1 ≤ 9) ∧ (0 ≤ a2 ∧ a2 ≤ 9) ∧ (1 ≤ a3 ∧ a3 ≤ 9) ∧ (0 ≤ a4 ∧ a4 ≤ 99)) ∧ v = some (.int (jI 0)) ∧ w = [(h4, .inr (4, [.ref r0, .ref r1, .ref sp, .ref be, .ref re, .int (jI g), .int (jI fr)])), (re, .inr (2, [.int (jI ga), .int (jI lo), .int (jI gp), .int (jI li), .ref t2, .ref t1, .ref t0, .int (jI es), .int (jI ep), .int (jI eq), .int (jI al), .int (jI la)]))])) 0 0 := by
  refine jM.intro (by decide +kernel) (Nat.le_of_ble_eq_true rfl) ?_
  intro p e s m args below meth c ls Q A F hQ hA hP hD hS hl
  have hx := F.1
  have hb := F.2.1
  have hl : lv_has ls 5 [(0, .ref h4), (1, .int (jI a1)), (2, .int (jI a2)), (3, .int (jI a3)), (4, .int (jI a4))] := hl
  refine lv_iload_n hx hb dX4_scores_0 rfl (lv_at hl 1 rfl) ?_
  refine lv_iconst (v := jI 1) hx hb dX4_scores_1 rfl ?_
  refine lv_bipush (v := jI 9) hx hb dX4_scores_2 (by decide +kernel) ?_
  refine jr_S F (kX4_isBetween l D cA a1 1 9 (by omega) (by omega) (by omega)) csX4_54 hP [] rfl hl ⟨rfl, rfl, by decide, by decide⟩ rfl rfl (Nat.le_of_ble_eq_true rfl) dX4_scores_4 ⟨by decide, by decide⟩ (fun v hv => ?_)
  obtain ⟨z4, rfl, hz4⟩ := hv
  refine jv_if_eq (tgt := 41) hx hb dX4_scores_7 rfl (by omega) (fun c7 => ?_) (fun c7 => ?_)
  · refine lv_iconst (v := jI 0) hx hb dX4_scores_41 rfl ?_
    exact jM.rz F hQ rfl (by omega) dX4_scores_42 hS hP hD (by exact Or.inr ⟨by omega, rfl, rfl⟩)
  · refine lv_iload_n hx hb dX4_scores_10 rfl (lv_at hl 2 rfl) ?_
    refine lv_iconst (v := jI 0) hx hb dX4_scores_11 rfl ?_
    refine lv_bipush (v := jI 9) hx hb dX4_scores_12 (by decide +kernel) ?_
    refine jr_S F (kX4_isBetween l D cA a2 0 9 (by omega) (by omega) (by omega)) csX4_54 hP [] rfl hl ⟨rfl, rfl, by decide, by decide⟩ rfl rfl (Nat.le_of_ble_eq_true rfl) dX4_scores_14 ⟨by decide, by decide⟩ (fun v hv => ?_)
    obtain ⟨z14, rfl, hz14⟩ := hv
    refine jv_if_eq (tgt := 41) hx hb dX4_scores_17 rfl (by omega) (fun c17 => ?_) (fun c17 => ?_)
    · refine lv_iconst (v := jI 0) hx hb dX4_scores_41 rfl ?_
      exact jM.rz F hQ rfl (by omega) dX4_scores_42 hS hP hD (by exact Or.inr ⟨by omega, rfl, rfl⟩)
    · refine lv_iload_n hx hb dX4_scores_20 rfl (lv_at hl 3 rfl) ?_
      refine lv_iconst (v := jI 1) hx hb dX4_scores_21 rfl ?_
      refine lv_bipush (v := jI 9) hx hb dX4_scores_22 (by decide +kernel) ?_
      refine jr_S F (kX4_isBetween l D cA a3 1 9 (by omega) (by omega) (by omega)) csX4_54 hP [] rfl hl ⟨rfl, rfl, by decide, by decide⟩ rfl rfl (Nat.le_of_ble_eq_true rfl) dX4_scores_24 ⟨by decide, by decide⟩ (fun v hv => ?_)
      obtain ⟨z24, rfl, hz24⟩ := hv
      refine jv_if_eq (tgt := 41) hx hb dX4_scores_27 rfl (by omega) (fun c27 => ?_) (fun c27 => ?_)
      · refine lv_iconst (v := jI 0) hx hb dX4_scores_41 rfl ?_
        exact jM.rz F hQ rfl (by omega) dX4_scores_42 hS hP hD (by exact Or.inr ⟨by omega, rfl, rfl⟩)
      · refine lv_iload hx hb dX4_scores_30 (lv_at hl 4 rfl) ?_
        refine lv_iconst (v := jI 0) hx hb dX4_scores_32 rfl ?_
        refine lv_bipush (v := jI 99) hx hb dX4_scores_33 (by decide +kernel) ?_
        refine jr_S F (kX4_isBetween l D cA a4 0 99 (by omega) (by omega) (by omega)) csX4_54 hP [] rfl hl ⟨rfl, rfl, by decide, by decide⟩ rfl rfl (Nat.le_of_ble_eq_true rfl) dX4_scores_35 ⟨by decide, by decide⟩ (fun v hv => ?_)
        obtain ⟨z35, rfl, hz35⟩ := hv
        refine jv_if_ne (tgt := 43) hx hb dX4_scores_38 rfl (by omega) (fun c38 => ?_) (fun c38 => ?_)
        · refine lv_aload_n hx hb dX4_scores_43 rfl (lv_at hl 0 rfl) ?_
          refine jv_get (v := .ref re) F hP 0 rfl flX4_38 rfl dX4_scores_44 ?_
          refine lv_iload_n hx hb dX4_scores_47 rfl (lv_at hl 1 rfl) ?_
          refine lv_iload_n hx hb dX4_scores_48 rfl (lv_at hl 2 rfl) ?_
          refine lv_iload_n hx hb dX4_scores_49 rfl (lv_at hl 3 rfl) ?_
          refine lv_iload hx hb dX4_scores_50 (lv_at hl 4 rfl) ?_
          refine jw_V (wr := [(h4, .inr (4, [.ref r0, .ref r1, .ref sp, .ref be, .ref re, .int (jI g), .int (jI fr)]))]) F (kX2_useScores l D cA re t2 t1 t0 ga lo gp li es ep eq al la a1 a2 a3 a4) cvX4_80 hP hD hS hA [1] [0] rfl rfl (by decide) (by decide) 1 rfl rfl hl ⟨rfl, rfl, by decide, by decide⟩ rfl rfl (Nat.le_of_ble_eq_true rfl) dX4_scores_52 ⟨by decide, by decide⟩ (by decide) (fun v w1 H locs hw hP hD hS => ?_)
          obtain ⟨rfl, rfl⟩ := hw
          have hP : va_P D cls [(h4, .inr (4, [.ref r0, .ref r1, .ref sp, .ref be, .ref re, .int (jI g), .int (jI fr)])), (re, .inr (2, [.int (jI a1), .int (jI a2), .int (jI a3), .int (jI a4), .ref t2, .ref t1, .ref t0, .int (jI es), .int (jI ep), .int (jI eq), .int (jI al), .int (jI la)]))] H := hP
          have hD : va_D A [(h4, .inr (4, [.ref r0, .ref r1, .ref sp, .ref be, .ref re, .int (jI g), .int (jI fr)])), (re, .inr (2, [.int (jI a1), .int (jI a2), .int (jI a3), .int (jI a4), .ref t2, .ref t1, .ref t0, .int (jI es), .int (jI ep), .int (jI eq), .int (jI al), .int (jI la)]))] := hD
          refine W.eq (g2 := F0 m 55 ls []) rfl ?_
          refine lv_iconst (v := jI 1) hx hb dX4_scores_55 rfl ?_
          exact jM.rz F hQ rfl (by omega) dX4_scores_56 hS hP hD (by exact Or.inl ⟨by omega, rfl, rfl⟩)
        · refine lv_iconst (v := jI 0) hx hb dX4_scores_41 rfl ?_
          exact jM.rz F hQ rfl (by omega) dX4_scores_42 hS hP hD (by exact Or.inr ⟨by omega, rfl, rfl⟩)
set_option maxHeartbeats 4000000 in
set_option maxRecDepth 100000 in
theorem kX4_anchors (l : Launch) (D : va_G) (cA : ClassId) (h4 be re : Nat) (g fr : Int) (sp r0 a0 r1 a1 : Nat) (n0 n1 K : Int) (L0 L1 : Int → Int) (hn0 : 0 ≤ n0 ∧ n0 ≤ 48) (hn1 : 0 ≤ n1 ∧ n1 ≤ 48) (hK : 1 ≤ K ∧ K ≤ 6) (hL0 : ∀ x, 0 ≤ L0 x ∧ L0 x ≤ 3) (hL1 : ∀ x, 0 ≤ L1 x ∧ L1 x ≤ 3) : jR l YX4_anchors (rmk 3 0 0 67) D cA [.ref h4] [(h4, .inr (4, [.ref r0, .ref r1, .ref sp, .ref be, .ref re, .int (jI g), .int (jI fr)])), (sp, .inr (3, [.ref r0, .ref r1, .int (jI K)])), (r0, .inr (1, [.ref a0, .int (jI n0)])), (a0, .inl (cA, 48, .inl (jA L0))), (r1, .inr (1, [.ref a1, .int (jI n1)])), (a1, .inl (cA, 48, .inl (jA L1)))] (fun v => v = .int (jI (cnt (anc L0 L1 n0 n1 K) n1 n0 0))) := by
  refine jR.intro (by decide +kernel) (Nat.le_of_ble_eq_true rfl) ?_
  intro p e s m args below meth c ls Q F hQ hP hl
  have hx := F.1
  have hb := F.2.1
  have hl : lv_has ls 1 [(0, .ref h4)] := hl
  refine lv_aload_n hx hb dX4_anchors_0 rfl (lv_at hl 0 rfl) ?_
  refine jv_get (v := .ref sp) F hP 0 rfl flX4_24 rfl dX4_anchors_1 ?_
  refine jr_V F (kX3_count l D cA sp r0 a0 r1 a1 n0 n1 K L0 L1 (by omega) (by omega) (by omega) hL0 hL1) cvX4_84 hP [1, 2, 3, 4, 5] rfl 1 rfl rfl hl ⟨rfl, rfl, by decide, by decide⟩ rfl rfl (Nat.le_of_ble_eq_true rfl) dX4_anchors_4 ⟨by decide, by decide⟩ (fun v hv => ?_)
  subst hv
  exact jR.ri F hQ rfl dX4_anchors_7 (by rfl)
set_option maxHeartbeats 4000000 in
set_option maxRecDepth 100000 in
theorem kX4_anchor (l : Launch) (D : va_G) (cA : ClassId) (h4 be re : Nat) (g fr : Int) (sp r0 a0 r1 a1 : Nat) (n0 n1 K : Int) (L0 L1 : Int → Int) (x wh : Int) (hn0 : 0 ≤ n0 ∧ n0 ≤ 48) (hn1 : 0 ≤ n1 ∧ n1 ≤ 48) (hK : 1 ≤ K ∧ K ≤ 6) (hL0 : ∀ x, 0 ≤ L0 x ∧ L0 x ≤ 3) (hL1 : ∀ x, 0 ≤ L1 x ∧ L1 x ≤ 3) (hx0 : -2147483648 ≤ x ∧ x < 2147483648) (hw : -2147483648 ≤ wh ∧ wh < 2147483648) : jR l YX4_anchor (rmk 3 0 0 68) D cA [.ref h4, .int (jI x), .int (jI wh)] [(h4, .inr (4, [.ref r0, .ref r1, .ref sp, .ref be, .ref re, .int (jI g), .int (jI fr)])), (sp, .inr (3, [.ref r0, .ref r1, .int (jI K)])), (r0, .inr (1, [.ref a0, .int (jI n0)])), (a0, .inl (cA, 48, .inl (jA L0))), (r1, .inr (1, [.ref a1, .int (jI n1)])), (a1, .inl (cA, 48, .inl (jA L1)))] (fun v => ∃ z : Int, v = .int (jI (plc z wh)) ∧ ((∃ i j, anc L0 L1 n0 n1 K i j ∧ cnt (anc L0 L1 n0 n1 K) n1 i j = x ∧ z = i * 48 + j) ∨ ((∀ i j, anc L0 L1 n0 n1 K i j → cnt (anc L0 L1 n0 n1 K) n1 i j ≠ x) ∧ z = -1))) := by
  refine jR.intro (by decide +kernel) (Nat.le_of_ble_eq_true rfl) ?_
  intro p e s m args below meth c ls Q F hQ hP hl
  have hx := F.1
  have hb := F.2.1
  have hl : lv_has ls 3 [(0, .ref h4), (1, .int (jI x)), (2, .int (jI wh))] := hl
  refine lv_aload_n hx hb dX4_anchor_0 rfl (lv_at hl 0 rfl) ?_
  refine jv_get (v := .ref sp) F hP 0 rfl flX4_24 rfl dX4_anchor_1 ?_
  refine lv_iload_n hx hb dX4_anchor_4 rfl (lv_at hl 1 rfl) ?_
  refine jr_V F (kX3_pairAt l D cA sp r0 a0 r1 a1 n0 n1 K L0 L1 x (by omega) (by omega) (by omega) hL0 hL1 (by omega)) cvX4_87 hP [1, 2, 3, 4, 5] rfl 1 rfl rfl hl ⟨rfl, rfl, by decide, by decide⟩ rfl rfl (Nat.le_of_ble_eq_true rfl) dX4_anchor_5 ⟨by decide, by decide⟩ (fun v hv => ?_)
  obtain ⟨z5, rfl, hz5⟩ := hv
  refine lv_iload_n hx hb dX4_anchor_8 rfl (lv_at hl 2 rfl) ?_
  have rz5 : -1 ≤ z5 ∧ z5 < 3000 := by
    rcases hz5 with ⟨i, j, h1, -, h2⟩ | ⟨-, h2⟩
    · have := anc_in i j h1; omega
    · omega
  refine jr_S F (kX4_placeOf l D cA z5 wh (by omega) (by omega)) csX4_90 hP [] rfl hl ⟨rfl, rfl, by decide, by decide⟩ rfl rfl (Nat.le_of_ble_eq_true rfl) dX4_anchor_9 ⟨by decide, by decide⟩ (fun v hv => ?_)
  subst hv
  exact jR.ri F hQ rfl dX4_anchor_12 (by exact ⟨_, rfl, hz5⟩)
end
section
set_option maxHeartbeats 4000000 in
set_option maxRecDepth 100000 in
theorem kX1_init (l : Launch) (D : va_G) (cA : ClassId) (h : Nat)  : jM l YX1_init (rmk 1 1 48 12) D cA [.ref h] [(h, .inr (1, [.null, .int (jI 0)]))] (fun v w => v = none ∧ ∃ a : Nat, w = [(h, .inr (1, [.ref a, .int (jI 0)])), (a, .inl (cA, 48, .inl (jA (fun _ => 0))))]) 1 48 := by
  refine jM.intro (by decide +kernel) (Nat.le_of_ble_eq_true rfl) ?_
  intro p e s m args below meth c ls Q A F hQ hA hP hD hS hl
  have hx := F.1
  have hb := F.2.1
  have hl : lv_has ls 1 [(0, .ref h)] := hl
  refine lv_aload_n hx hb dX1_init_0 rfl (lv_at hl 0 rfl) ?_
  refine jv_obj F wmX1_3 hl (by decide) (Nat.le_of_ble_eq_true rfl) dX1_init_1 ?_
  refine lv_aload_n hx hb dX1_init_4 rfl (lv_at hl 0 rfl) ?_
  refine lv_bipush (v := jI 48) hx hb dX1_init_5 (by decide +kernel) ?_
  refine jv_newa (N' := 48) F hP hD hS hA (by decide +kernel) (by decide +kernel) (by decide) (by decide) dX1_init_7 (fun q7 H hP hD hS => ?_)
  have hP : va_P D cls [(h, .inr (1, [.null, .int (jI 0)])), (q7, .inl (cA, 48, .inl (jA (fun _ => 0))))] H := hP
  have hD : va_D A [(h, .inr (1, [.null, .int (jI 0)])), (q7, .inl (cA, 48, .inl (jA (fun _ => 0))))] := hD
  refine W.widen (k := 1) (n := 48) (by decide) (by decide) ?_
  refine jv_putF (v := .ref q7) F hP hD hS 0 rfl flX1_9 pfX1 (by decide +kernel) rfl rfl rfl rfl (Nat.le_of_ble_eq_true rfl) dX1_init_9 (fun H locs hP hD hS => ?_)
  have hP : va_P D cls [(h, .inr (1, [.ref q7, .int (jI 0)])), (q7, .inl (cA, 48, .inl (jA (fun _ => 0))))] H := hP
  have hD : va_D A [(h, .inr (1, [.ref q7, .int (jI 0)])), (q7, .inl (cA, 48, .inl (jA (fun _ => 0))))] := hD
  refine lv_aload_n hx hb dX1_init_12 rfl (lv_at hl 0 rfl) ?_
  refine lv_iconst (v := jI 0) hx hb dX1_init_13 rfl ?_
  refine jv_put (v := .int (jI 0)) F hP hD hS 0 rfl flX1_15 pfX1 (by decide +kernel) rfl rfl (Nat.le_of_ble_eq_true rfl) dX1_init_14 (fun H locs hP hD hS => ?_)
  have hP : va_P D cls [(h, .inr (1, [.ref q7, .int (jI 0)])), (q7, .inl (cA, 48, .inl (jA (fun _ => 0))))] H := hP
  have hD : va_D A [(h, .inr (1, [.ref q7, .int (jI 0)])), (q7, .inl (cA, 48, .inl (jA (fun _ => 0))))] := hD
  exact jM.rv F hQ rfl dX1_init_17 hS hP hD (by exact ⟨rfl, _, rfl⟩)
set_option maxHeartbeats 4000000 in
set_option maxRecDepth 100000 in
theorem kX3_init (l : Launch) (D : va_G) (cA : ClassId) (sp r0 r1 : Nat)  : jM l YX3_init (rmk 1 0 0 12) D cA [.ref sp, .ref r0, .ref r1] [(sp, .inr (3, [.null, .null, .int (jI 0)]))] (fun v w => v = none ∧ w = [(sp, .inr (3, [.ref r0, .ref r1, .int (jI 2)]))]) 0 0 := by
  refine jM.intro (by decide +kernel) (Nat.le_of_ble_eq_true rfl) ?_
  intro p e s m args below meth c ls Q A F hQ hA hP hD hS hl
  have hx := F.1
  have hb := F.2.1
  have hl : lv_has ls 3 [(0, .ref sp), (1, .ref r0), (2, .ref r1)] := hl
  refine lv_aload_n hx hb dX3_init_0 rfl (lv_at hl 0 rfl) ?_
  refine jv_obj F wmX3_3 hl (by decide) (Nat.le_of_ble_eq_true rfl) dX3_init_1 ?_
  refine lv_aload_n hx hb dX3_init_4 rfl (lv_at hl 0 rfl) ?_
  refine lv_iconst (v := jI 2) hx hb dX3_init_5 rfl ?_
  refine jv_put (v := .int (jI 2)) F hP hD hS 0 rfl flX3_9 pfX3 (by decide +kernel) rfl rfl (Nat.le_of_ble_eq_true rfl) dX3_init_6 (fun H locs hP hD hS => ?_)
  have hP : va_P D cls [(sp, .inr (3, [.null, .null, .int (jI 2)]))] H := hP
  have hD : va_D A [(sp, .inr (3, [.null, .null, .int (jI 2)]))] := hD
  refine lv_aload_n hx hb dX3_init_9 rfl (lv_at hl 0 rfl) ?_
  refine lv_aload_n hx hb dX3_init_10 rfl (lv_at hl 1 rfl) ?_
  refine jv_putF (v := .ref r0) F hP hD hS 0 rfl flX3_15 pfX3 (by decide +kernel) rfl rfl rfl rfl (Nat.le_of_ble_eq_true rfl) dX3_init_11 (fun H locs hP hD hS => ?_)
  have hP : va_P D cls [(sp, .inr (3, [.ref r0, .null, .int (jI 2)]))] H := hP
  have hD : va_D A [(sp, .inr (3, [.ref r0, .null, .int (jI 2)]))] := hD
  refine lv_aload_n hx hb dX3_init_14 rfl (lv_at hl 0 rfl) ?_
  refine lv_aload_n hx hb dX3_init_15 rfl (lv_at hl 2 rfl) ?_
  refine jv_putF (v := .ref r1) F hP hD hS 0 rfl flX3_19 pfX3 (by decide +kernel) rfl rfl rfl rfl (Nat.le_of_ble_eq_true rfl) dX3_init_16 (fun H locs hP hD hS => ?_)
  have hP : va_P D cls [(sp, .inr (3, [.ref r0, .ref r1, .int (jI 2)]))] H := hP
  have hD : va_D A [(sp, .inr (3, [.ref r0, .ref r1, .int (jI 2)]))] := hD
  exact jM.rv F hQ rfl dX3_init_19 hS hP hD (by exact ⟨rfl, rfl⟩)
set_option maxHeartbeats 4000000 in
set_option maxRecDepth 100000 in
theorem kX0_init (l : Launch) (D : va_G) (cA : ClassId) (be : Nat)  : jM l YX0_init (rmk 1 2 2449 12) D cA [.ref be] [(be, .inr (0, [.null, .null, .int (jI 0), .int (jI 0)]))] (fun v w => v = none ∧ ∃ ah pa : Nat, w = [(be, .inr (0, [.ref ah, .ref pa, .int (jI 0), .int (jI 0)])), (ah, .inl (cA, 2401, .inl (jA (fun _ => 0)))), (pa, .inl (cA, 48, .inl (jA (fun _ => 0))))]) 2 2449 := by
  refine jM.intro (by decide +kernel) (Nat.le_of_ble_eq_true rfl) ?_
  intro p e s m args below meth c ls Q A F hQ hA hP hD hS hl
  have hx := F.1
  have hb := F.2.1
  have hl : lv_has ls 1 [(0, .ref be)] := hl
  refine lv_aload_n hx hb dX0_init_0 rfl (lv_at hl 0 rfl) ?_
  refine jv_obj F wmX0_3 hl (by decide) (Nat.le_of_ble_eq_true rfl) dX0_init_1 ?_
  refine lv_aload_n hx hb dX0_init_4 rfl (lv_at hl 0 rfl) ?_
  refine lv_sipush (v := jI 2401) hx hb dX0_init_5 (by decide +kernel) ?_
  refine jv_newa (N' := 2401) F hP hD hS hA (by decide +kernel) (by decide +kernel) (by decide) (by decide) dX0_init_8 (fun q8 H hP hD hS => ?_)
  have hP : va_P D cls [(be, .inr (0, [.null, .null, .int (jI 0), .int (jI 0)])), (q8, .inl (cA, 2401, .inl (jA (fun _ => 0))))] H := hP
  have hD : va_D A [(be, .inr (0, [.null, .null, .int (jI 0), .int (jI 0)])), (q8, .inl (cA, 2401, .inl (jA (fun _ => 0))))] := hD
  refine W.widen (k := 1) (n := 2401) (by decide) (by decide) ?_
  refine jv_putF (v := .ref q8) F hP hD hS 0 rfl flX0_11 pfX0 (by decide +kernel) rfl rfl rfl rfl (Nat.le_of_ble_eq_true rfl) dX0_init_10 (fun H locs hP hD hS => ?_)
  have hP : va_P D cls [(be, .inr (0, [.ref q8, .null, .int (jI 0), .int (jI 0)])), (q8, .inl (cA, 2401, .inl (jA (fun _ => 0))))] H := hP
  have hD : va_D A [(be, .inr (0, [.ref q8, .null, .int (jI 0), .int (jI 0)])), (q8, .inl (cA, 2401, .inl (jA (fun _ => 0))))] := hD
  refine lv_aload_n hx hb dX0_init_13 rfl (lv_at hl 0 rfl) ?_
  refine lv_bipush (v := jI 48) hx hb dX0_init_14 (by decide +kernel) ?_
  refine jv_newa (N' := 48) F hP hD hS hA (by decide +kernel) (by decide +kernel) (by decide) (by decide) dX0_init_16 (fun q16 H hP hD hS => ?_)
  have hP : va_P D cls [(be, .inr (0, [.ref q8, .null, .int (jI 0), .int (jI 0)])), (q8, .inl (cA, 2401, .inl (jA (fun _ => 0)))), (q16, .inl (cA, 48, .inl (jA (fun _ => 0))))] H := hP
  have hD : va_D A [(be, .inr (0, [.ref q8, .null, .int (jI 0), .int (jI 0)])), (q8, .inl (cA, 2401, .inl (jA (fun _ => 0)))), (q16, .inl (cA, 48, .inl (jA (fun _ => 0))))] := hD
  refine W.widen (k := 2) (n := 2449) (by decide) (by decide) ?_
  refine jv_putF (v := .ref q16) F hP hD hS 0 rfl flX0_15 pfX0 (by decide +kernel) rfl rfl rfl rfl (Nat.le_of_ble_eq_true rfl) dX0_init_18 (fun H locs hP hD hS => ?_)
  have hP : va_P D cls [(be, .inr (0, [.ref q8, .ref q16, .int (jI 0), .int (jI 0)])), (q8, .inl (cA, 2401, .inl (jA (fun _ => 0)))), (q16, .inl (cA, 48, .inl (jA (fun _ => 0))))] H := hP
  have hD : va_D A [(be, .inr (0, [.ref q8, .ref q16, .int (jI 0), .int (jI 0)])), (q8, .inl (cA, 2401, .inl (jA (fun _ => 0)))), (q16, .inl (cA, 48, .inl (jA (fun _ => 0))))] := hD
  refine lv_aload_n hx hb dX0_init_21 rfl (lv_at hl 0 rfl) ?_
  refine lv_iconst (v := jI 0) hx hb dX0_init_22 rfl ?_
  refine jv_put (v := .int (jI 0)) F hP hD hS 0 rfl flX0_18 pfX0 (by decide +kernel) rfl rfl (Nat.le_of_ble_eq_true rfl) dX0_init_23 (fun H locs hP hD hS => ?_)
  have hP : va_P D cls [(be, .inr (0, [.ref q8, .ref q16, .int (jI 0), .int (jI 0)])), (q8, .inl (cA, 2401, .inl (jA (fun _ => 0)))), (q16, .inl (cA, 48, .inl (jA (fun _ => 0))))] H := hP
  have hD : va_D A [(be, .inr (0, [.ref q8, .ref q16, .int (jI 0), .int (jI 0)])), (q8, .inl (cA, 2401, .inl (jA (fun _ => 0)))), (q16, .inl (cA, 48, .inl (jA (fun _ => 0))))] := hD
  refine lv_aload_n hx hb dX0_init_26 rfl (lv_at hl 0 rfl) ?_
  refine lv_iconst (v := jI 0) hx hb dX0_init_27 rfl ?_
  refine jv_put (v := .int (jI 0)) F hP hD hS 0 rfl flX0_22 pfX0 (by decide +kernel) rfl rfl (Nat.le_of_ble_eq_true rfl) dX0_init_28 (fun H locs hP hD hS => ?_)
  have hP : va_P D cls [(be, .inr (0, [.ref q8, .ref q16, .int (jI 0), .int (jI 0)])), (q8, .inl (cA, 2401, .inl (jA (fun _ => 0)))), (q16, .inl (cA, 48, .inl (jA (fun _ => 0))))] H := hP
  have hD : va_D A [(be, .inr (0, [.ref q8, .ref q16, .int (jI 0), .int (jI 0)])), (q8, .inl (cA, 2401, .inl (jA (fun _ => 0)))), (q16, .inl (cA, 48, .inl (jA (fun _ => 0))))] := hD
  exact jM.rv F hQ rfl dX0_init_31 hS hP hD (by exact ⟨rfl, _, _, rfl⟩)
set_option maxHeartbeats 4000000 in
set_option maxRecDepth 100000 in
theorem kX2_init (l : Launch) (D : va_G) (cA : ClassId) (re : Nat)  : jM l YX2_init (rmk 1 3 147 12) D cA [.ref re] [(re, .inr (2, [.int (jI 0), .int (jI 0), .int (jI 0), .int (jI 0), .null, .null, .null, .int (jI 0), .int (jI 0), .int (jI 0), .int (jI 0), .int (jI 0)]))] (fun v w => v = none ∧ ∃ t2 t1 t0 : Nat, w = [(re, .inr (2, [.int (jI 2), .int (jI 1), .int (jI 2), .int (jI 6), .ref t2, .ref t1, .ref t0, .int (jI (-1)), .int (jI (-1)), .int (jI (-1)), .int (jI (-1)), .int (jI (-1))])), (t2, .inl (cA, 49, .inl (jA (fun _ => 0)))), (t1, .inl (cA, 49, .inl (jA (fun _ => 0)))), (t0, .inl (cA, 49, .inl (jA (fun _ => 0))))]) 3 147 := by
  refine jM.intro (by decide +kernel) (Nat.le_of_ble_eq_true rfl) ?_
  intro p e s m args below meth c ls Q A F hQ hA hP hD hS hl
  have hx := F.1
  have hb := F.2.1
  have hl : lv_has ls 1 [(0, .ref re)] := hl
  refine lv_aload_n hx hb dX2_init_0 rfl (lv_at hl 0 rfl) ?_
  refine jv_obj F wmX2_3 hl (by decide) (Nat.le_of_ble_eq_true rfl) dX2_init_1 ?_
  refine lv_aload_n hx hb dX2_init_4 rfl (lv_at hl 0 rfl) ?_
  refine lv_iconst (v := jI 2) hx hb dX2_init_5 rfl ?_
  refine jv_put (v := .int (jI 2)) F hP hD hS 0 rfl flX2_9 pfX2 (by decide +kernel) rfl rfl (Nat.le_of_ble_eq_true rfl) dX2_init_6 (fun H locs hP hD hS => ?_)
  have hP : va_P D cls [(re, .inr (2, [.int (jI 2), .int (jI 0), .int (jI 0), .int (jI 0), .null, .null, .null, .int (jI 0), .int (jI 0), .int (jI 0), .int (jI 0), .int (jI 0)]))] H := hP
  have hD : va_D A [(re, .inr (2, [.int (jI 2), .int (jI 0), .int (jI 0), .int (jI 0), .null, .null, .null, .int (jI 0), .int (jI 0), .int (jI 0), .int (jI 0), .int (jI 0)]))] := hD
  refine lv_aload_n hx hb dX2_init_9 rfl (lv_at hl 0 rfl) ?_
  refine lv_iconst (v := jI 1) hx hb dX2_init_10 rfl ?_
  refine jv_put (v := .int (jI 1)) F hP hD hS 0 rfl flX2_15 pfX2 (by decide +kernel) rfl rfl (Nat.le_of_ble_eq_true rfl) dX2_init_11 (fun H locs hP hD hS => ?_)
  have hP : va_P D cls [(re, .inr (2, [.int (jI 2), .int (jI 1), .int (jI 0), .int (jI 0), .null, .null, .null, .int (jI 0), .int (jI 0), .int (jI 0), .int (jI 0), .int (jI 0)]))] H := hP
  have hD : va_D A [(re, .inr (2, [.int (jI 2), .int (jI 1), .int (jI 0), .int (jI 0), .null, .null, .null, .int (jI 0), .int (jI 0), .int (jI 0), .int (jI 0), .int (jI 0)]))] := hD
  refine lv_aload_n hx hb dX2_init_14 rfl (lv_at hl 0 rfl) ?_
  refine lv_iconst (v := jI 2) hx hb dX2_init_15 rfl ?_
  refine jv_put (v := .int (jI 2)) F hP hD hS 0 rfl flX2_18 pfX2 (by decide +kernel) rfl rfl (Nat.le_of_ble_eq_true rfl) dX2_init_16 (fun H locs hP hD hS => ?_)
  have hP : va_P D cls [(re, .inr (2, [.int (jI 2), .int (jI 1), .int (jI 2), .int (jI 0), .null, .null, .null, .int (jI 0), .int (jI 0), .int (jI 0), .int (jI 0), .int (jI 0)]))] H := hP
  have hD : va_D A [(re, .inr (2, [.int (jI 2), .int (jI 1), .int (jI 2), .int (jI 0), .null, .null, .null, .int (jI 0), .int (jI 0), .int (jI 0), .int (jI 0), .int (jI 0)]))] := hD
  refine lv_aload_n hx hb dX2_init_19 rfl (lv_at hl 0 rfl) ?_
  refine lv_bipush (v := jI 6) hx hb dX2_init_20 (by decide +kernel) ?_
  refine jv_put (v := .int (jI 6)) F hP hD hS 0 rfl flX2_21 pfX2 (by decide +kernel) rfl rfl (Nat.le_of_ble_eq_true rfl) dX2_init_22 (fun H locs hP hD hS => ?_)
  have hP : va_P D cls [(re, .inr (2, [.int (jI 2), .int (jI 1), .int (jI 2), .int (jI 6), .null, .null, .null, .int (jI 0), .int (jI 0), .int (jI 0), .int (jI 0), .int (jI 0)]))] H := hP
  have hD : va_D A [(re, .inr (2, [.int (jI 2), .int (jI 1), .int (jI 2), .int (jI 6), .null, .null, .null, .int (jI 0), .int (jI 0), .int (jI 0), .int (jI 0), .int (jI 0)]))] := hD
  refine lv_aload_n hx hb dX2_init_25 rfl (lv_at hl 0 rfl) ?_
  refine lv_bipush (v := jI 49) hx hb dX2_init_26 (by decide +kernel) ?_
  refine jv_newa (N' := 49) F hP hD hS hA (by decide +kernel) (by decide +kernel) (by decide) (by decide) dX2_init_28 (fun q28 H hP hD hS => ?_)
  have hP : va_P D cls [(re, .inr (2, [.int (jI 2), .int (jI 1), .int (jI 2), .int (jI 6), .null, .null, .null, .int (jI 0), .int (jI 0), .int (jI 0), .int (jI 0), .int (jI 0)])), (q28, .inl (cA, 49, .inl (jA (fun _ => 0))))] H := hP
  have hD : va_D A [(re, .inr (2, [.int (jI 2), .int (jI 1), .int (jI 2), .int (jI 6), .null, .null, .null, .int (jI 0), .int (jI 0), .int (jI 0), .int (jI 0), .int (jI 0)])), (q28, .inl (cA, 49, .inl (jA (fun _ => 0))))] := hD
  refine W.widen (k := 1) (n := 49) (by decide) (by decide) ?_
  refine jv_put (v := .ref q28) F hP hD hS 0 rfl flX2_24 pfX2 (by decide +kernel) rfl rfl (Nat.le_of_ble_eq_true rfl) dX2_init_30 (fun H locs hP hD hS => ?_)
  have hP : va_P D cls [(re, .inr (2, [.int (jI 2), .int (jI 1), .int (jI 2), .int (jI 6), .ref q28, .null, .null, .int (jI 0), .int (jI 0), .int (jI 0), .int (jI 0), .int (jI 0)])), (q28, .inl (cA, 49, .inl (jA (fun _ => 0))))] H := hP
  have hD : va_D A [(re, .inr (2, [.int (jI 2), .int (jI 1), .int (jI 2), .int (jI 6), .ref q28, .null, .null, .int (jI 0), .int (jI 0), .int (jI 0), .int (jI 0), .int (jI 0)])), (q28, .inl (cA, 49, .inl (jA (fun _ => 0))))] := hD
  refine lv_aload_n hx hb dX2_init_33 rfl (lv_at hl 0 rfl) ?_
  refine lv_bipush (v := jI 49) hx hb dX2_init_34 (by decide +kernel) ?_
  refine jv_newa (N' := 49) F hP hD hS hA (by decide +kernel) (by decide +kernel) (by decide) (by decide) dX2_init_36 (fun q36 H hP hD hS => ?_)
  have hP : va_P D cls [(re, .inr (2, [.int (jI 2), .int (jI 1), .int (jI 2), .int (jI 6), .ref q28, .null, .null, .int (jI 0), .int (jI 0), .int (jI 0), .int (jI 0), .int (jI 0)])), (q28, .inl (cA, 49, .inl (jA (fun _ => 0)))), (q36, .inl (cA, 49, .inl (jA (fun _ => 0))))] H := hP
  have hD : va_D A [(re, .inr (2, [.int (jI 2), .int (jI 1), .int (jI 2), .int (jI 6), .ref q28, .null, .null, .int (jI 0), .int (jI 0), .int (jI 0), .int (jI 0), .int (jI 0)])), (q28, .inl (cA, 49, .inl (jA (fun _ => 0)))), (q36, .inl (cA, 49, .inl (jA (fun _ => 0))))] := hD
  refine W.widen (k := 2) (n := 98) (by decide) (by decide) ?_
  refine jv_put (v := .ref q36) F hP hD hS 0 rfl flX2_28 pfX2 (by decide +kernel) rfl rfl (Nat.le_of_ble_eq_true rfl) dX2_init_38 (fun H locs hP hD hS => ?_)
  have hP : va_P D cls [(re, .inr (2, [.int (jI 2), .int (jI 1), .int (jI 2), .int (jI 6), .ref q28, .ref q36, .null, .int (jI 0), .int (jI 0), .int (jI 0), .int (jI 0), .int (jI 0)])), (q28, .inl (cA, 49, .inl (jA (fun _ => 0)))), (q36, .inl (cA, 49, .inl (jA (fun _ => 0))))] H := hP
  have hD : va_D A [(re, .inr (2, [.int (jI 2), .int (jI 1), .int (jI 2), .int (jI 6), .ref q28, .ref q36, .null, .int (jI 0), .int (jI 0), .int (jI 0), .int (jI 0), .int (jI 0)])), (q28, .inl (cA, 49, .inl (jA (fun _ => 0)))), (q36, .inl (cA, 49, .inl (jA (fun _ => 0))))] := hD
  refine lv_aload_n hx hb dX2_init_41 rfl (lv_at hl 0 rfl) ?_
  refine lv_bipush (v := jI 49) hx hb dX2_init_42 (by decide +kernel) ?_
  refine jv_newa (N' := 49) F hP hD hS hA (by decide +kernel) (by decide +kernel) (by decide) (by decide) dX2_init_44 (fun q44 H hP hD hS => ?_)
  have hP : va_P D cls [(re, .inr (2, [.int (jI 2), .int (jI 1), .int (jI 2), .int (jI 6), .ref q28, .ref q36, .null, .int (jI 0), .int (jI 0), .int (jI 0), .int (jI 0), .int (jI 0)])), (q28, .inl (cA, 49, .inl (jA (fun _ => 0)))), (q36, .inl (cA, 49, .inl (jA (fun _ => 0)))), (q44, .inl (cA, 49, .inl (jA (fun _ => 0))))] H := hP
  have hD : va_D A [(re, .inr (2, [.int (jI 2), .int (jI 1), .int (jI 2), .int (jI 6), .ref q28, .ref q36, .null, .int (jI 0), .int (jI 0), .int (jI 0), .int (jI 0), .int (jI 0)])), (q28, .inl (cA, 49, .inl (jA (fun _ => 0)))), (q36, .inl (cA, 49, .inl (jA (fun _ => 0)))), (q44, .inl (cA, 49, .inl (jA (fun _ => 0))))] := hD
  refine W.widen (k := 3) (n := 147) (by decide) (by decide) ?_
  refine jv_put (v := .ref q44) F hP hD hS 0 rfl flX2_31 pfX2 (by decide +kernel) rfl rfl (Nat.le_of_ble_eq_true rfl) dX2_init_46 (fun H locs hP hD hS => ?_)
  have hP : va_P D cls [(re, .inr (2, [.int (jI 2), .int (jI 1), .int (jI 2), .int (jI 6), .ref q28, .ref q36, .ref q44, .int (jI 0), .int (jI 0), .int (jI 0), .int (jI 0), .int (jI 0)])), (q28, .inl (cA, 49, .inl (jA (fun _ => 0)))), (q36, .inl (cA, 49, .inl (jA (fun _ => 0)))), (q44, .inl (cA, 49, .inl (jA (fun _ => 0))))] H := hP
  have hD : va_D A [(re, .inr (2, [.int (jI 2), .int (jI 1), .int (jI 2), .int (jI 6), .ref q28, .ref q36, .ref q44, .int (jI 0), .int (jI 0), .int (jI 0), .int (jI 0), .int (jI 0)])), (q28, .inl (cA, 49, .inl (jA (fun _ => 0)))), (q36, .inl (cA, 49, .inl (jA (fun _ => 0)))), (q44, .inl (cA, 49, .inl (jA (fun _ => 0))))] := hD
  refine lv_aload_n hx hb dX2_init_49 rfl (lv_at hl 0 rfl) ?_
  refine lv_iconst (v := jI (-1)) hx hb dX2_init_50 rfl ?_
  refine jv_put (v := .int (jI (-1))) F hP hD hS 0 rfl flX2_34 pfX2 (by decide +kernel) rfl rfl (Nat.le_of_ble_eq_true rfl) dX2_init_51 (fun H locs hP hD hS => ?_)
  have hP : va_P D cls [(re, .inr (2, [.int (jI 2), .int (jI 1), .int (jI 2), .int (jI 6), .ref q28, .ref q36, .ref q44, .int (jI (-1)), .int (jI 0), .int (jI 0), .int (jI 0), .int (jI 0)])), (q28, .inl (cA, 49, .inl (jA (fun _ => 0)))), (q36, .inl (cA, 49, .inl (jA (fun _ => 0)))), (q44, .inl (cA, 49, .inl (jA (fun _ => 0))))] H := hP
  have hD : va_D A [(re, .inr (2, [.int (jI 2), .int (jI 1), .int (jI 2), .int (jI 6), .ref q28, .ref q36, .ref q44, .int (jI (-1)), .int (jI 0), .int (jI 0), .int (jI 0), .int (jI 0)])), (q28, .inl (cA, 49, .inl (jA (fun _ => 0)))), (q36, .inl (cA, 49, .inl (jA (fun _ => 0)))), (q44, .inl (cA, 49, .inl (jA (fun _ => 0))))] := hD
  refine lv_aload_n hx hb dX2_init_54 rfl (lv_at hl 0 rfl) ?_
  refine lv_iconst (v := jI (-1)) hx hb dX2_init_55 rfl ?_
  refine jv_put (v := .int (jI (-1))) F hP hD hS 0 rfl flX2_37 pfX2 (by decide +kernel) rfl rfl (Nat.le_of_ble_eq_true rfl) dX2_init_56 (fun H locs hP hD hS => ?_)
  have hP : va_P D cls [(re, .inr (2, [.int (jI 2), .int (jI 1), .int (jI 2), .int (jI 6), .ref q28, .ref q36, .ref q44, .int (jI (-1)), .int (jI (-1)), .int (jI 0), .int (jI 0), .int (jI 0)])), (q28, .inl (cA, 49, .inl (jA (fun _ => 0)))), (q36, .inl (cA, 49, .inl (jA (fun _ => 0)))), (q44, .inl (cA, 49, .inl (jA (fun _ => 0))))] H := hP
  have hD : va_D A [(re, .inr (2, [.int (jI 2), .int (jI 1), .int (jI 2), .int (jI 6), .ref q28, .ref q36, .ref q44, .int (jI (-1)), .int (jI (-1)), .int (jI 0), .int (jI 0), .int (jI 0)])), (q28, .inl (cA, 49, .inl (jA (fun _ => 0)))), (q36, .inl (cA, 49, .inl (jA (fun _ => 0)))), (q44, .inl (cA, 49, .inl (jA (fun _ => 0))))] := hD
  refine lv_aload_n hx hb dX2_init_59 rfl (lv_at hl 0 rfl) ?_
  refine lv_iconst (v := jI (-1)) hx hb dX2_init_60 rfl ?_
  refine jv_put (v := .int (jI (-1))) F hP hD hS 0 rfl flX2_40 pfX2 (by decide +kernel) rfl rfl (Nat.le_of_ble_eq_true rfl) dX2_init_61 (fun H locs hP hD hS => ?_)
  have hP : va_P D cls [(re, .inr (2, [.int (jI 2), .int (jI 1), .int (jI 2), .int (jI 6), .ref q28, .ref q36, .ref q44, .int (jI (-1)), .int (jI (-1)), .int (jI (-1)), .int (jI 0), .int (jI 0)])), (q28, .inl (cA, 49, .inl (jA (fun _ => 0)))), (q36, .inl (cA, 49, .inl (jA (fun _ => 0)))), (q44, .inl (cA, 49, .inl (jA (fun _ => 0))))] H := hP
  have hD : va_D A [(re, .inr (2, [.int (jI 2), .int (jI 1), .int (jI 2), .int (jI 6), .ref q28, .ref q36, .ref q44, .int (jI (-1)), .int (jI (-1)), .int (jI (-1)), .int (jI 0), .int (jI 0)])), (q28, .inl (cA, 49, .inl (jA (fun _ => 0)))), (q36, .inl (cA, 49, .inl (jA (fun _ => 0)))), (q44, .inl (cA, 49, .inl (jA (fun _ => 0))))] := hD
  refine lv_aload_n hx hb dX2_init_64 rfl (lv_at hl 0 rfl) ?_
  refine lv_iconst (v := jI (-1)) hx hb dX2_init_65 rfl ?_
  refine jv_put (v := .int (jI (-1))) F hP hD hS 0 rfl flX2_43 pfX2 (by decide +kernel) rfl rfl (Nat.le_of_ble_eq_true rfl) dX2_init_66 (fun H locs hP hD hS => ?_)
  have hP : va_P D cls [(re, .inr (2, [.int (jI 2), .int (jI 1), .int (jI 2), .int (jI 6), .ref q28, .ref q36, .ref q44, .int (jI (-1)), .int (jI (-1)), .int (jI (-1)), .int (jI (-1)), .int (jI 0)])), (q28, .inl (cA, 49, .inl (jA (fun _ => 0)))), (q36, .inl (cA, 49, .inl (jA (fun _ => 0)))), (q44, .inl (cA, 49, .inl (jA (fun _ => 0))))] H := hP
  have hD : va_D A [(re, .inr (2, [.int (jI 2), .int (jI 1), .int (jI 2), .int (jI 6), .ref q28, .ref q36, .ref q44, .int (jI (-1)), .int (jI (-1)), .int (jI (-1)), .int (jI (-1)), .int (jI 0)])), (q28, .inl (cA, 49, .inl (jA (fun _ => 0)))), (q36, .inl (cA, 49, .inl (jA (fun _ => 0)))), (q44, .inl (cA, 49, .inl (jA (fun _ => 0))))] := hD
  refine lv_aload_n hx hb dX2_init_69 rfl (lv_at hl 0 rfl) ?_
  refine lv_iconst (v := jI (-1)) hx hb dX2_init_70 rfl ?_
  refine jv_put (v := .int (jI (-1))) F hP hD hS 0 rfl flX2_46 pfX2 (by decide +kernel) rfl rfl (Nat.le_of_ble_eq_true rfl) dX2_init_71 (fun H locs hP hD hS => ?_)
  have hP : va_P D cls [(re, .inr (2, [.int (jI 2), .int (jI 1), .int (jI 2), .int (jI 6), .ref q28, .ref q36, .ref q44, .int (jI (-1)), .int (jI (-1)), .int (jI (-1)), .int (jI (-1)), .int (jI (-1))])), (q28, .inl (cA, 49, .inl (jA (fun _ => 0)))), (q36, .inl (cA, 49, .inl (jA (fun _ => 0)))), (q44, .inl (cA, 49, .inl (jA (fun _ => 0))))] H := hP
  have hD : va_D A [(re, .inr (2, [.int (jI 2), .int (jI 1), .int (jI 2), .int (jI 6), .ref q28, .ref q36, .ref q44, .int (jI (-1)), .int (jI (-1)), .int (jI (-1)), .int (jI (-1)), .int (jI (-1))])), (q28, .inl (cA, 49, .inl (jA (fun _ => 0)))), (q36, .inl (cA, 49, .inl (jA (fun _ => 0)))), (q44, .inl (cA, 49, .inl (jA (fun _ => 0))))] := hD
  exact jM.rv F hQ rfl dX2_init_74 hS hP hD (by exact ⟨rfl, _, _, _, rfl⟩)
set_option maxHeartbeats 4000000 in
set_option maxRecDepth 100000 in
theorem kX4_init (l : Launch) (D : va_G) (cA : ClassId) (h4 : Nat)  : jM l YX4_init (rmk 2 12 2715 34) D cA [.ref h4] [(h4, .inr (4, [.null, .null, .null, .null, .null, .int (jI 0), .int (jI 0)]))] (fun v w => v = none ∧ ∃ r0 a0 r1 a1 sp be ah pa re t2 t1 t0 : Nat, w = [(h4, .inr (4, [.ref r0, .ref r1, .ref sp, .ref be, .ref re, .int (jI 1), .int (jI 0)])), (r0, .inr (1, [.ref a0, .int (jI 0)])), (a0, .inl (cA, 48, .inl (jA (fun _ => 0)))), (r1, .inr (1, [.ref a1, .int (jI 0)])), (a1, .inl (cA, 48, .inl (jA (fun _ => 0)))), (sp, .inr (3, [.ref r0, .ref r1, .int (jI 2)])), (be, .inr (0, [.ref ah, .ref pa, .int (jI 0), .int (jI 0)])), (ah, .inl (cA, 2401, .inl (jA (fun _ => 0)))), (pa, .inl (cA, 48, .inl (jA (fun _ => 0)))), (re, .inr (2, [.int (jI 2), .int (jI 1), .int (jI 2), .int (jI 6), .ref t2, .ref t1, .ref t0, .int (jI (-1)), .int (jI (-1)), .int (jI (-1)), .int (jI (-1)), .int (jI (-1))])), (t2, .inl (cA, 49, .inl (jA (fun _ => 0)))), (t1, .inl (cA, 49, .inl (jA (fun _ => 0)))), (t0, .inl (cA, 49, .inl (jA (fun _ => 0))))]) 12 2715 := by
  refine jM.intro (by decide +kernel) (Nat.le_of_ble_eq_true rfl) ?_
  intro p e s m args below meth c ls Q A F hQ hA hP hD hS hl
  have hx := F.1
  have hb := F.2.1
  have hl : lv_has ls 1 [(0, .ref h4)] := hl
  refine lv_aload_n hx hb dX4_init_0 rfl (lv_at hl 0 rfl) ?_
  refine jv_obj F wmX4_1 hl (by decide) (Nat.le_of_ble_eq_true rfl) dX4_init_1 ?_
  refine lv_aload_n hx hb dX4_init_4 rfl (lv_at hl 0 rfl) ?_
  refine jv_new (ci := 1) (fs := [.null, .int (jI 0)]) F nwX4_7 pfX1 hP hD hS hA (fun j hj => by rcases (show j = 0 ∨ j = 1 by omega) with rfl | rfl <;> rfl) (by decide) (by decide) dX4_init_5 (fun q5 H hP hD hS => ?_)
  have hP : va_P D cls [(h4, .inr (4, [.null, .null, .null, .null, .null, .int (jI 0), .int (jI 0)])), (q5, .inr (1, [.null, .int (jI 0)]))] H := hP
  have hD : va_D A [(h4, .inr (4, [.null, .null, .null, .null, .null, .int (jI 0), .int (jI 0)])), (q5, .inr (1, [.null, .int (jI 0)]))] := hD
  refine W.widen (k := 1) (n := 2) (by decide) (by decide) ?_
  refine lv_dup hx hb dX4_init_8 rfl ?_
  refine jw_IN (wr := [(h4, .inr (4, [.null, .null, .null, .null, .null, .int (jI 0), .int (jI 0)]))]) F (kX1_init l D cA q5) cnX4_9 hP hD hS hA [1] [0] rfl rfl (by decide) (by decide) hl ⟨rfl, rfl, by decide, by decide⟩ rfl rfl (Nat.le_of_ble_eq_true rfl) dX4_init_9 ⟨by decide, by decide⟩ (by decide) (fun v w1 H locs hw hP hD hS => ?_)
  obtain ⟨rfl, a9, rfl⟩ := hw
  have hP : va_P D cls [(h4, .inr (4, [.null, .null, .null, .null, .null, .int (jI 0), .int (jI 0)])), (q5, .inr (1, [.ref a9, .int (jI 0)])), (a9, .inl (cA, 48, .inl (jA (fun _ => 0))))] H := hP
  have hD : va_D A [(h4, .inr (4, [.null, .null, .null, .null, .null, .int (jI 0), .int (jI 0)])), (q5, .inr (1, [.ref a9, .int (jI 0)])), (a9, .inl (cA, 48, .inl (jA (fun _ => 0))))] := hD
  refine W.widen (k := 2) (n := 50) (by decide) (by decide) ?_
  refine W.eq (g2 := F0 m 12 ls [.ref q5, .ref h4]) rfl ?_
  refine jv_putF (v := .ref q5) F hP hD hS 0 rfl flX4_10 pfX4 (by decide +kernel) rfl rfl rfl rfl (Nat.le_of_ble_eq_true rfl) dX4_init_12 (fun H locs hP hD hS => ?_)
  have hP : va_P D cls [(h4, .inr (4, [.ref q5, .null, .null, .null, .null, .int (jI 0), .int (jI 0)])), (q5, .inr (1, [.ref a9, .int (jI 0)])), (a9, .inl (cA, 48, .inl (jA (fun _ => 0))))] H := hP
  have hD : va_D A [(h4, .inr (4, [.ref q5, .null, .null, .null, .null, .int (jI 0), .int (jI 0)])), (q5, .inr (1, [.ref a9, .int (jI 0)])), (a9, .inl (cA, 48, .inl (jA (fun _ => 0))))] := hD
  refine lv_aload_n hx hb dX4_init_15 rfl (lv_at hl 0 rfl) ?_
  refine jv_new (ci := 1) (fs := [.null, .int (jI 0)]) F nwX4_7 pfX1 hP hD hS hA (fun j hj => by rcases (show j = 0 ∨ j = 1 by omega) with rfl | rfl <;> rfl) (by decide) (by decide) dX4_init_16 (fun q16 H hP hD hS => ?_)
  have hP : va_P D cls [(h4, .inr (4, [.ref q5, .null, .null, .null, .null, .int (jI 0), .int (jI 0)])), (q5, .inr (1, [.ref a9, .int (jI 0)])), (a9, .inl (cA, 48, .inl (jA (fun _ => 0)))), (q16, .inr (1, [.null, .int (jI 0)]))] H := hP
  have hD : va_D A [(h4, .inr (4, [.ref q5, .null, .null, .null, .null, .int (jI 0), .int (jI 0)])), (q5, .inr (1, [.ref a9, .int (jI 0)])), (a9, .inl (cA, 48, .inl (jA (fun _ => 0)))), (q16, .inr (1, [.null, .int (jI 0)]))] := hD
  refine W.widen (k := 3) (n := 52) (by decide) (by decide) ?_
  refine lv_dup hx hb dX4_init_19 rfl ?_
  refine jw_IN (wr := [(h4, .inr (4, [.ref q5, .null, .null, .null, .null, .int (jI 0), .int (jI 0)])), (q5, .inr (1, [.ref a9, .int (jI 0)])), (a9, .inl (cA, 48, .inl (jA (fun _ => 0))))]) F (kX1_init l D cA q16) cnX4_9 hP hD hS hA [3] [0, 1, 2] rfl rfl (by decide) (by decide) hl ⟨rfl, rfl, by decide, by decide⟩ rfl rfl (Nat.le_of_ble_eq_true rfl) dX4_init_20 ⟨by decide, by decide⟩ (by decide) (fun v w1 H locs hw hP hD hS => ?_)
  obtain ⟨rfl, a20, rfl⟩ := hw
  have hP : va_P D cls [(h4, .inr (4, [.ref q5, .null, .null, .null, .null, .int (jI 0), .int (jI 0)])), (q5, .inr (1, [.ref a9, .int (jI 0)])), (a9, .inl (cA, 48, .inl (jA (fun _ => 0)))), (q16, .inr (1, [.ref a20, .int (jI 0)])), (a20, .inl (cA, 48, .inl (jA (fun _ => 0))))] H := hP
  have hD : va_D A [(h4, .inr (4, [.ref q5, .null, .null, .null, .null, .int (jI 0), .int (jI 0)])), (q5, .inr (1, [.ref a9, .int (jI 0)])), (a9, .inl (cA, 48, .inl (jA (fun _ => 0)))), (q16, .inr (1, [.ref a20, .int (jI 0)])), (a20, .inl (cA, 48, .inl (jA (fun _ => 0))))] := hD
  refine W.widen (k := 4) (n := 100) (by decide) (by decide) ?_
  refine W.eq (g2 := F0 m 23 ls [.ref q16, .ref h4]) rfl ?_
  refine jv_putF (v := .ref q16) F hP hD hS 0 rfl flX4_16 pfX4 (by decide +kernel) rfl rfl rfl rfl (Nat.le_of_ble_eq_true rfl) dX4_init_23 (fun H locs hP hD hS => ?_)
  have hP : va_P D cls [(h4, .inr (4, [.ref q5, .ref q16, .null, .null, .null, .int (jI 0), .int (jI 0)])), (q5, .inr (1, [.ref a9, .int (jI 0)])), (a9, .inl (cA, 48, .inl (jA (fun _ => 0)))), (q16, .inr (1, [.ref a20, .int (jI 0)])), (a20, .inl (cA, 48, .inl (jA (fun _ => 0))))] H := hP
  have hD : va_D A [(h4, .inr (4, [.ref q5, .ref q16, .null, .null, .null, .int (jI 0), .int (jI 0)])), (q5, .inr (1, [.ref a9, .int (jI 0)])), (a9, .inl (cA, 48, .inl (jA (fun _ => 0)))), (q16, .inr (1, [.ref a20, .int (jI 0)])), (a20, .inl (cA, 48, .inl (jA (fun _ => 0))))] := hD
  refine lv_aload_n hx hb dX4_init_26 rfl (lv_at hl 0 rfl) ?_
  refine jv_new (ci := 3) (fs := [.null, .null, .int (jI 0)]) F nwX4_19 pfX3 hP hD hS hA (fun j hj => by rcases (show j = 0 ∨ j = 1 ∨ j = 2 by omega) with rfl | rfl | rfl <;> rfl) (by decide) (by decide) dX4_init_27 (fun q27 H hP hD hS => ?_)
  have hP : va_P D cls [(h4, .inr (4, [.ref q5, .ref q16, .null, .null, .null, .int (jI 0), .int (jI 0)])), (q5, .inr (1, [.ref a9, .int (jI 0)])), (a9, .inl (cA, 48, .inl (jA (fun _ => 0)))), (q16, .inr (1, [.ref a20, .int (jI 0)])), (a20, .inl (cA, 48, .inl (jA (fun _ => 0)))), (q27, .inr (3, [.null, .null, .int (jI 0)]))] H := hP
  have hD : va_D A [(h4, .inr (4, [.ref q5, .ref q16, .null, .null, .null, .int (jI 0), .int (jI 0)])), (q5, .inr (1, [.ref a9, .int (jI 0)])), (a9, .inl (cA, 48, .inl (jA (fun _ => 0)))), (q16, .inr (1, [.ref a20, .int (jI 0)])), (a20, .inl (cA, 48, .inl (jA (fun _ => 0)))), (q27, .inr (3, [.null, .null, .int (jI 0)]))] := hD
  refine W.widen (k := 5) (n := 103) (by decide) (by decide) ?_
  refine lv_dup hx hb dX4_init_30 rfl ?_
  refine lv_aload_n hx hb dX4_init_31 rfl (lv_at hl 0 rfl) ?_
  refine jv_get (v := .ref q5) F hP 0 rfl flX4_10 rfl dX4_init_32 ?_
  refine lv_aload_n hx hb dX4_init_35 rfl (lv_at hl 0 rfl) ?_
  refine jv_get (v := .ref q16) F hP 0 rfl flX4_16 rfl dX4_init_36 ?_
  refine jw_I (wr := [(h4, .inr (4, [.ref q5, .ref q16, .null, .null, .null, .int (jI 0), .int (jI 0)])), (q5, .inr (1, [.ref a9, .int (jI 0)])), (a9, .inl (cA, 48, .inl (jA (fun _ => 0)))), (q16, .inr (1, [.ref a20, .int (jI 0)])), (a20, .inl (cA, 48, .inl (jA (fun _ => 0))))]) F (kX3_init l D cA q27 q5 q16) ciX4_21 hP hD hS hA [5] [0, 1, 2, 3, 4] rfl rfl (by decide) (by decide) hl ⟨rfl, rfl, by decide, by decide⟩ rfl rfl (Nat.le_of_ble_eq_true rfl) dX4_init_39 ⟨by decide, by decide⟩ (by decide) (fun v w1 H locs hw hP hD hS => ?_)
  obtain ⟨rfl, rfl⟩ := hw
  have hP : va_P D cls [(h4, .inr (4, [.ref q5, .ref q16, .null, .null, .null, .int (jI 0), .int (jI 0)])), (q5, .inr (1, [.ref a9, .int (jI 0)])), (a9, .inl (cA, 48, .inl (jA (fun _ => 0)))), (q16, .inr (1, [.ref a20, .int (jI 0)])), (a20, .inl (cA, 48, .inl (jA (fun _ => 0)))), (q27, .inr (3, [.ref q5, .ref q16, .int (jI 2)]))] H := hP
  have hD : va_D A [(h4, .inr (4, [.ref q5, .ref q16, .null, .null, .null, .int (jI 0), .int (jI 0)])), (q5, .inr (1, [.ref a9, .int (jI 0)])), (a9, .inl (cA, 48, .inl (jA (fun _ => 0)))), (q16, .inr (1, [.ref a20, .int (jI 0)])), (a20, .inl (cA, 48, .inl (jA (fun _ => 0)))), (q27, .inr (3, [.ref q5, .ref q16, .int (jI 2)]))] := hD
  refine W.eq (g2 := F0 m 42 ls [.ref q27, .ref h4]) rfl ?_
  refine jv_putF (v := .ref q27) F hP hD hS 0 rfl flX4_24 pfX4 (by decide +kernel) rfl rfl rfl rfl (Nat.le_of_ble_eq_true rfl) dX4_init_42 (fun H locs hP hD hS => ?_)
  have hP : va_P D cls [(h4, .inr (4, [.ref q5, .ref q16, .ref q27, .null, .null, .int (jI 0), .int (jI 0)])), (q5, .inr (1, [.ref a9, .int (jI 0)])), (a9, .inl (cA, 48, .inl (jA (fun _ => 0)))), (q16, .inr (1, [.ref a20, .int (jI 0)])), (a20, .inl (cA, 48, .inl (jA (fun _ => 0)))), (q27, .inr (3, [.ref q5, .ref q16, .int (jI 2)]))] H := hP
  have hD : va_D A [(h4, .inr (4, [.ref q5, .ref q16, .ref q27, .null, .null, .int (jI 0), .int (jI 0)])), (q5, .inr (1, [.ref a9, .int (jI 0)])), (a9, .inl (cA, 48, .inl (jA (fun _ => 0)))), (q16, .inr (1, [.ref a20, .int (jI 0)])), (a20, .inl (cA, 48, .inl (jA (fun _ => 0)))), (q27, .inr (3, [.ref q5, .ref q16, .int (jI 2)]))] := hD
  refine lv_aload_n hx hb dX4_init_45 rfl (lv_at hl 0 rfl) ?_
  refine jv_new (ci := 0) (fs := [.null, .null, .int (jI 0), .int (jI 0)]) F nwX4_28 pfX0 hP hD hS hA (fun j hj => by rcases (show j = 0 ∨ j = 1 ∨ j = 2 ∨ j = 3 by omega) with rfl | rfl | rfl | rfl <;> rfl) (by decide) (by decide) dX4_init_46 (fun q46 H hP hD hS => ?_)
  have hP : va_P D cls [(h4, .inr (4, [.ref q5, .ref q16, .ref q27, .null, .null, .int (jI 0), .int (jI 0)])), (q5, .inr (1, [.ref a9, .int (jI 0)])), (a9, .inl (cA, 48, .inl (jA (fun _ => 0)))), (q16, .inr (1, [.ref a20, .int (jI 0)])), (a20, .inl (cA, 48, .inl (jA (fun _ => 0)))), (q27, .inr (3, [.ref q5, .ref q16, .int (jI 2)])), (q46, .inr (0, [.null, .null, .int (jI 0), .int (jI 0)]))] H := hP
  have hD : va_D A [(h4, .inr (4, [.ref q5, .ref q16, .ref q27, .null, .null, .int (jI 0), .int (jI 0)])), (q5, .inr (1, [.ref a9, .int (jI 0)])), (a9, .inl (cA, 48, .inl (jA (fun _ => 0)))), (q16, .inr (1, [.ref a20, .int (jI 0)])), (a20, .inl (cA, 48, .inl (jA (fun _ => 0)))), (q27, .inr (3, [.ref q5, .ref q16, .int (jI 2)])), (q46, .inr (0, [.null, .null, .int (jI 0), .int (jI 0)]))] := hD
  refine W.widen (k := 6) (n := 107) (by decide) (by decide) ?_
  refine lv_dup hx hb dX4_init_49 rfl ?_
  refine jw_IN (wr := [(h4, .inr (4, [.ref q5, .ref q16, .ref q27, .null, .null, .int (jI 0), .int (jI 0)])), (q5, .inr (1, [.ref a9, .int (jI 0)])), (a9, .inl (cA, 48, .inl (jA (fun _ => 0)))), (q16, .inr (1, [.ref a20, .int (jI 0)])), (a20, .inl (cA, 48, .inl (jA (fun _ => 0)))), (q27, .inr (3, [.ref q5, .ref q16, .int (jI 2)]))]) F (kX0_init l D cA q46) cnX4_30 hP hD hS hA [6] [0, 1, 2, 3, 4, 5] rfl rfl (by decide) (by decide) hl ⟨rfl, rfl, by decide, by decide⟩ rfl rfl (Nat.le_of_ble_eq_true rfl) dX4_init_50 ⟨by decide, by decide⟩ (by decide) (fun v w1 H locs hw hP hD hS => ?_)
  obtain ⟨rfl, ah50, pa50, rfl⟩ := hw
  have hP : va_P D cls [(h4, .inr (4, [.ref q5, .ref q16, .ref q27, .null, .null, .int (jI 0), .int (jI 0)])), (q5, .inr (1, [.ref a9, .int (jI 0)])), (a9, .inl (cA, 48, .inl (jA (fun _ => 0)))), (q16, .inr (1, [.ref a20, .int (jI 0)])), (a20, .inl (cA, 48, .inl (jA (fun _ => 0)))), (q27, .inr (3, [.ref q5, .ref q16, .int (jI 2)])), (q46, .inr (0, [.ref ah50, .ref pa50, .int (jI 0), .int (jI 0)])), (ah50, .inl (cA, 2401, .inl (jA (fun _ => 0)))), (pa50, .inl (cA, 48, .inl (jA (fun _ => 0))))] H := hP
  have hD : va_D A [(h4, .inr (4, [.ref q5, .ref q16, .ref q27, .null, .null, .int (jI 0), .int (jI 0)])), (q5, .inr (1, [.ref a9, .int (jI 0)])), (a9, .inl (cA, 48, .inl (jA (fun _ => 0)))), (q16, .inr (1, [.ref a20, .int (jI 0)])), (a20, .inl (cA, 48, .inl (jA (fun _ => 0)))), (q27, .inr (3, [.ref q5, .ref q16, .int (jI 2)])), (q46, .inr (0, [.ref ah50, .ref pa50, .int (jI 0), .int (jI 0)])), (ah50, .inl (cA, 2401, .inl (jA (fun _ => 0)))), (pa50, .inl (cA, 48, .inl (jA (fun _ => 0))))] := hD
  refine W.widen (k := 8) (n := 2556) (by decide) (by decide) ?_
  refine W.eq (g2 := F0 m 53 ls [.ref q46, .ref h4]) rfl ?_
  refine jv_putF (v := .ref q46) F hP hD hS 0 rfl flX4_31 pfX4 (by decide +kernel) rfl rfl rfl rfl (Nat.le_of_ble_eq_true rfl) dX4_init_53 (fun H locs hP hD hS => ?_)
  have hP : va_P D cls [(h4, .inr (4, [.ref q5, .ref q16, .ref q27, .ref q46, .null, .int (jI 0), .int (jI 0)])), (q5, .inr (1, [.ref a9, .int (jI 0)])), (a9, .inl (cA, 48, .inl (jA (fun _ => 0)))), (q16, .inr (1, [.ref a20, .int (jI 0)])), (a20, .inl (cA, 48, .inl (jA (fun _ => 0)))), (q27, .inr (3, [.ref q5, .ref q16, .int (jI 2)])), (q46, .inr (0, [.ref ah50, .ref pa50, .int (jI 0), .int (jI 0)])), (ah50, .inl (cA, 2401, .inl (jA (fun _ => 0)))), (pa50, .inl (cA, 48, .inl (jA (fun _ => 0))))] H := hP
  have hD : va_D A [(h4, .inr (4, [.ref q5, .ref q16, .ref q27, .ref q46, .null, .int (jI 0), .int (jI 0)])), (q5, .inr (1, [.ref a9, .int (jI 0)])), (a9, .inl (cA, 48, .inl (jA (fun _ => 0)))), (q16, .inr (1, [.ref a20, .int (jI 0)])), (a20, .inl (cA, 48, .inl (jA (fun _ => 0)))), (q27, .inr (3, [.ref q5, .ref q16, .int (jI 2)])), (q46, .inr (0, [.ref ah50, .ref pa50, .int (jI 0), .int (jI 0)])), (ah50, .inl (cA, 2401, .inl (jA (fun _ => 0)))), (pa50, .inl (cA, 48, .inl (jA (fun _ => 0))))] := hD
  refine lv_aload_n hx hb dX4_init_56 rfl (lv_at hl 0 rfl) ?_
  refine jv_new (ci := 2) (fs := [.int (jI 0), .int (jI 0), .int (jI 0), .int (jI 0), .null, .null, .null, .int (jI 0), .int (jI 0), .int (jI 0), .int (jI 0), .int (jI 0)]) F nwX4_35 pfX2 hP hD hS hA (fun j hj => by rcases (show j = 0 ∨ j = 1 ∨ j = 2 ∨ j = 3 ∨ j = 4 ∨ j = 5 ∨ j = 6 ∨ j = 7 ∨ j = 8 ∨ j = 9 ∨ j = 10 ∨ j = 11 by omega) with rfl | rfl | rfl | rfl | rfl | rfl | rfl | rfl | rfl | rfl | rfl | rfl <;> rfl) (by decide) (by decide) dX4_init_57 (fun q57 H hP hD hS => ?_)
  have hP : va_P D cls [(h4, .inr (4, [.ref q5, .ref q16, .ref q27, .ref q46, .null, .int (jI 0), .int (jI 0)])), (q5, .inr (1, [.ref a9, .int (jI 0)])), (a9, .inl (cA, 48, .inl (jA (fun _ => 0)))), (q16, .inr (1, [.ref a20, .int (jI 0)])), (a20, .inl (cA, 48, .inl (jA (fun _ => 0)))), (q27, .inr (3, [.ref q5, .ref q16, .int (jI 2)])), (q46, .inr (0, [.ref ah50, .ref pa50, .int (jI 0), .int (jI 0)])), (ah50, .inl (cA, 2401, .inl (jA (fun _ => 0)))), (pa50, .inl (cA, 48, .inl (jA (fun _ => 0)))), (q57, .inr (2, [.int (jI 0), .int (jI 0), .int (jI 0), .int (jI 0), .null, .null, .null, .int (jI 0), .int (jI 0), .int (jI 0), .int (jI 0), .int (jI 0)]))] H := hP
  have hD : va_D A [(h4, .inr (4, [.ref q5, .ref q16, .ref q27, .ref q46, .null, .int (jI 0), .int (jI 0)])), (q5, .inr (1, [.ref a9, .int (jI 0)])), (a9, .inl (cA, 48, .inl (jA (fun _ => 0)))), (q16, .inr (1, [.ref a20, .int (jI 0)])), (a20, .inl (cA, 48, .inl (jA (fun _ => 0)))), (q27, .inr (3, [.ref q5, .ref q16, .int (jI 2)])), (q46, .inr (0, [.ref ah50, .ref pa50, .int (jI 0), .int (jI 0)])), (ah50, .inl (cA, 2401, .inl (jA (fun _ => 0)))), (pa50, .inl (cA, 48, .inl (jA (fun _ => 0)))), (q57, .inr (2, [.int (jI 0), .int (jI 0), .int (jI 0), .int (jI 0), .null, .null, .null, .int (jI 0), .int (jI 0), .int (jI 0), .int (jI 0), .int (jI 0)]))] := hD
  refine W.widen (k := 9) (n := 2568) (by decide) (by decide) ?_
  refine lv_dup hx hb dX4_init_60 rfl ?_
  refine jw_IN (wr := [(h4, .inr (4, [.ref q5, .ref q16, .ref q27, .ref q46, .null, .int (jI 0), .int (jI 0)])), (q5, .inr (1, [.ref a9, .int (jI 0)])), (a9, .inl (cA, 48, .inl (jA (fun _ => 0)))), (q16, .inr (1, [.ref a20, .int (jI 0)])), (a20, .inl (cA, 48, .inl (jA (fun _ => 0)))), (q27, .inr (3, [.ref q5, .ref q16, .int (jI 2)])), (q46, .inr (0, [.ref ah50, .ref pa50, .int (jI 0), .int (jI 0)])), (ah50, .inl (cA, 2401, .inl (jA (fun _ => 0)))), (pa50, .inl (cA, 48, .inl (jA (fun _ => 0))))]) F (kX2_init l D cA q57) cnX4_37 hP hD hS hA [9] [0, 1, 2, 3, 4, 5, 6, 7, 8] rfl rfl (by decide) (by decide) hl ⟨rfl, rfl, by decide, by decide⟩ rfl rfl (Nat.le_of_ble_eq_true rfl) dX4_init_61 ⟨by decide, by decide⟩ (by decide) (fun v w1 H locs hw hP hD hS => ?_)
  obtain ⟨rfl, t2_61, t1_61, t0_61, rfl⟩ := hw
  have hP : va_P D cls [(h4, .inr (4, [.ref q5, .ref q16, .ref q27, .ref q46, .null, .int (jI 0), .int (jI 0)])), (q5, .inr (1, [.ref a9, .int (jI 0)])), (a9, .inl (cA, 48, .inl (jA (fun _ => 0)))), (q16, .inr (1, [.ref a20, .int (jI 0)])), (a20, .inl (cA, 48, .inl (jA (fun _ => 0)))), (q27, .inr (3, [.ref q5, .ref q16, .int (jI 2)])), (q46, .inr (0, [.ref ah50, .ref pa50, .int (jI 0), .int (jI 0)])), (ah50, .inl (cA, 2401, .inl (jA (fun _ => 0)))), (pa50, .inl (cA, 48, .inl (jA (fun _ => 0)))), (q57, .inr (2, [.int (jI 2), .int (jI 1), .int (jI 2), .int (jI 6), .ref t2_61, .ref t1_61, .ref t0_61, .int (jI (-1)), .int (jI (-1)), .int (jI (-1)), .int (jI (-1)), .int (jI (-1))])), (t2_61, .inl (cA, 49, .inl (jA (fun _ => 0)))), (t1_61, .inl (cA, 49, .inl (jA (fun _ => 0)))), (t0_61, .inl (cA, 49, .inl (jA (fun _ => 0))))] H := hP
  have hD : va_D A [(h4, .inr (4, [.ref q5, .ref q16, .ref q27, .ref q46, .null, .int (jI 0), .int (jI 0)])), (q5, .inr (1, [.ref a9, .int (jI 0)])), (a9, .inl (cA, 48, .inl (jA (fun _ => 0)))), (q16, .inr (1, [.ref a20, .int (jI 0)])), (a20, .inl (cA, 48, .inl (jA (fun _ => 0)))), (q27, .inr (3, [.ref q5, .ref q16, .int (jI 2)])), (q46, .inr (0, [.ref ah50, .ref pa50, .int (jI 0), .int (jI 0)])), (ah50, .inl (cA, 2401, .inl (jA (fun _ => 0)))), (pa50, .inl (cA, 48, .inl (jA (fun _ => 0)))), (q57, .inr (2, [.int (jI 2), .int (jI 1), .int (jI 2), .int (jI 6), .ref t2_61, .ref t1_61, .ref t0_61, .int (jI (-1)), .int (jI (-1)), .int (jI (-1)), .int (jI (-1)), .int (jI (-1))])), (t2_61, .inl (cA, 49, .inl (jA (fun _ => 0)))), (t1_61, .inl (cA, 49, .inl (jA (fun _ => 0)))), (t0_61, .inl (cA, 49, .inl (jA (fun _ => 0))))] := hD
  refine W.widen (k := 12) (n := 2715) (by decide) (by decide) ?_
  refine W.eq (g2 := F0 m 64 ls [.ref q57, .ref h4]) rfl ?_
  refine jv_putF (v := .ref q57) F hP hD hS 0 rfl flX4_38 pfX4 (by decide +kernel) rfl rfl rfl rfl (Nat.le_of_ble_eq_true rfl) dX4_init_64 (fun H locs hP hD hS => ?_)
  have hP : va_P D cls [(h4, .inr (4, [.ref q5, .ref q16, .ref q27, .ref q46, .ref q57, .int (jI 0), .int (jI 0)])), (q5, .inr (1, [.ref a9, .int (jI 0)])), (a9, .inl (cA, 48, .inl (jA (fun _ => 0)))), (q16, .inr (1, [.ref a20, .int (jI 0)])), (a20, .inl (cA, 48, .inl (jA (fun _ => 0)))), (q27, .inr (3, [.ref q5, .ref q16, .int (jI 2)])), (q46, .inr (0, [.ref ah50, .ref pa50, .int (jI 0), .int (jI 0)])), (ah50, .inl (cA, 2401, .inl (jA (fun _ => 0)))), (pa50, .inl (cA, 48, .inl (jA (fun _ => 0)))), (q57, .inr (2, [.int (jI 2), .int (jI 1), .int (jI 2), .int (jI 6), .ref t2_61, .ref t1_61, .ref t0_61, .int (jI (-1)), .int (jI (-1)), .int (jI (-1)), .int (jI (-1)), .int (jI (-1))])), (t2_61, .inl (cA, 49, .inl (jA (fun _ => 0)))), (t1_61, .inl (cA, 49, .inl (jA (fun _ => 0)))), (t0_61, .inl (cA, 49, .inl (jA (fun _ => 0))))] H := hP
  have hD : va_D A [(h4, .inr (4, [.ref q5, .ref q16, .ref q27, .ref q46, .ref q57, .int (jI 0), .int (jI 0)])), (q5, .inr (1, [.ref a9, .int (jI 0)])), (a9, .inl (cA, 48, .inl (jA (fun _ => 0)))), (q16, .inr (1, [.ref a20, .int (jI 0)])), (a20, .inl (cA, 48, .inl (jA (fun _ => 0)))), (q27, .inr (3, [.ref q5, .ref q16, .int (jI 2)])), (q46, .inr (0, [.ref ah50, .ref pa50, .int (jI 0), .int (jI 0)])), (ah50, .inl (cA, 2401, .inl (jA (fun _ => 0)))), (pa50, .inl (cA, 48, .inl (jA (fun _ => 0)))), (q57, .inr (2, [.int (jI 2), .int (jI 1), .int (jI 2), .int (jI 6), .ref t2_61, .ref t1_61, .ref t0_61, .int (jI (-1)), .int (jI (-1)), .int (jI (-1)), .int (jI (-1)), .int (jI (-1))])), (t2_61, .inl (cA, 49, .inl (jA (fun _ => 0)))), (t1_61, .inl (cA, 49, .inl (jA (fun _ => 0)))), (t0_61, .inl (cA, 49, .inl (jA (fun _ => 0))))] := hD
  refine lv_aload_n hx hb dX4_init_67 rfl (lv_at hl 0 rfl) ?_
  refine lv_iconst (v := jI 1) hx hb dX4_init_68 rfl ?_
  refine jv_put (v := .int (jI 1)) F hP hD hS 0 rfl flX4_42 pfX4 (by decide +kernel) rfl rfl (Nat.le_of_ble_eq_true rfl) dX4_init_69 (fun H locs hP hD hS => ?_)
  have hP : va_P D cls [(h4, .inr (4, [.ref q5, .ref q16, .ref q27, .ref q46, .ref q57, .int (jI 1), .int (jI 0)])), (q5, .inr (1, [.ref a9, .int (jI 0)])), (a9, .inl (cA, 48, .inl (jA (fun _ => 0)))), (q16, .inr (1, [.ref a20, .int (jI 0)])), (a20, .inl (cA, 48, .inl (jA (fun _ => 0)))), (q27, .inr (3, [.ref q5, .ref q16, .int (jI 2)])), (q46, .inr (0, [.ref ah50, .ref pa50, .int (jI 0), .int (jI 0)])), (ah50, .inl (cA, 2401, .inl (jA (fun _ => 0)))), (pa50, .inl (cA, 48, .inl (jA (fun _ => 0)))), (q57, .inr (2, [.int (jI 2), .int (jI 1), .int (jI 2), .int (jI 6), .ref t2_61, .ref t1_61, .ref t0_61, .int (jI (-1)), .int (jI (-1)), .int (jI (-1)), .int (jI (-1)), .int (jI (-1))])), (t2_61, .inl (cA, 49, .inl (jA (fun _ => 0)))), (t1_61, .inl (cA, 49, .inl (jA (fun _ => 0)))), (t0_61, .inl (cA, 49, .inl (jA (fun _ => 0))))] H := hP
  have hD : va_D A [(h4, .inr (4, [.ref q5, .ref q16, .ref q27, .ref q46, .ref q57, .int (jI 1), .int (jI 0)])), (q5, .inr (1, [.ref a9, .int (jI 0)])), (a9, .inl (cA, 48, .inl (jA (fun _ => 0)))), (q16, .inr (1, [.ref a20, .int (jI 0)])), (a20, .inl (cA, 48, .inl (jA (fun _ => 0)))), (q27, .inr (3, [.ref q5, .ref q16, .int (jI 2)])), (q46, .inr (0, [.ref ah50, .ref pa50, .int (jI 0), .int (jI 0)])), (ah50, .inl (cA, 2401, .inl (jA (fun _ => 0)))), (pa50, .inl (cA, 48, .inl (jA (fun _ => 0)))), (q57, .inr (2, [.int (jI 2), .int (jI 1), .int (jI 2), .int (jI 6), .ref t2_61, .ref t1_61, .ref t0_61, .int (jI (-1)), .int (jI (-1)), .int (jI (-1)), .int (jI (-1)), .int (jI (-1))])), (t2_61, .inl (cA, 49, .inl (jA (fun _ => 0)))), (t1_61, .inl (cA, 49, .inl (jA (fun _ => 0)))), (t0_61, .inl (cA, 49, .inl (jA (fun _ => 0))))] := hD
  refine lv_aload_n hx hb dX4_init_72 rfl (lv_at hl 0 rfl) ?_
  refine lv_iconst (v := jI 0) hx hb dX4_init_73 rfl ?_
  refine jv_put (v := .int (jI 0)) F hP hD hS 0 rfl flX4_46 pfX4 (by decide +kernel) (by decide +kernel) (by decide +kernel) (Nat.le_of_ble_eq_true rfl) dX4_init_74 (fun H locs hP hD hS => ?_)
  have hP : va_P D cls [(h4, .inr (4, [.ref q5, .ref q16, .ref q27, .ref q46, .ref q57, .int (jI 1), .int (jI 0)])), (q5, .inr (1, [.ref a9, .int (jI 0)])), (a9, .inl (cA, 48, .inl (jA (fun _ => 0)))), (q16, .inr (1, [.ref a20, .int (jI 0)])), (a20, .inl (cA, 48, .inl (jA (fun _ => 0)))), (q27, .inr (3, [.ref q5, .ref q16, .int (jI 2)])), (q46, .inr (0, [.ref ah50, .ref pa50, .int (jI 0), .int (jI 0)])), (ah50, .inl (cA, 2401, .inl (jA (fun _ => 0)))), (pa50, .inl (cA, 48, .inl (jA (fun _ => 0)))), (q57, .inr (2, [.int (jI 2), .int (jI 1), .int (jI 2), .int (jI 6), .ref t2_61, .ref t1_61, .ref t0_61, .int (jI (-1)), .int (jI (-1)), .int (jI (-1)), .int (jI (-1)), .int (jI (-1))])), (t2_61, .inl (cA, 49, .inl (jA (fun _ => 0)))), (t1_61, .inl (cA, 49, .inl (jA (fun _ => 0)))), (t0_61, .inl (cA, 49, .inl (jA (fun _ => 0))))] H := hP
  have hD : va_D A [(h4, .inr (4, [.ref q5, .ref q16, .ref q27, .ref q46, .ref q57, .int (jI 1), .int (jI 0)])), (q5, .inr (1, [.ref a9, .int (jI 0)])), (a9, .inl (cA, 48, .inl (jA (fun _ => 0)))), (q16, .inr (1, [.ref a20, .int (jI 0)])), (a20, .inl (cA, 48, .inl (jA (fun _ => 0)))), (q27, .inr (3, [.ref q5, .ref q16, .int (jI 2)])), (q46, .inr (0, [.ref ah50, .ref pa50, .int (jI 0), .int (jI 0)])), (ah50, .inl (cA, 2401, .inl (jA (fun _ => 0)))), (pa50, .inl (cA, 48, .inl (jA (fun _ => 0)))), (q57, .inr (2, [.int (jI 2), .int (jI 1), .int (jI 2), .int (jI 6), .ref t2_61, .ref t1_61, .ref t0_61, .int (jI (-1)), .int (jI (-1)), .int (jI (-1)), .int (jI (-1)), .int (jI (-1))])), (t2_61, .inl (cA, 49, .inl (jA (fun _ => 0)))), (t1_61, .inl (cA, 49, .inl (jA (fun _ => 0)))), (t0_61, .inl (cA, 49, .inl (jA (fun _ => 0))))] := hD
  exact jM.rv F hQ rfl dX4_init_77 hS hP hD (by exact ⟨rfl, _, _, _, _, _, _, _, _, _, _, _, _, rfl⟩)
end
section
set_option maxHeartbeats 4000000 in
set_option maxRecDepth 100000 in
theorem kX0_total (l : Launch) (D : va_G) (cA : ClassId) (be ah pa : Nat) (sz to : Int)  : jR l YX0_total (rmk 0 0 0 0) D cA [.ref be] [(be, .inr (0, [.ref ah, .ref pa, .int (jI sz), .int (jI to)]))] (fun v => v = .int (jI to)) := by
  refine jR.intro (by decide +kernel) (Nat.le_of_ble_eq_true rfl) ?_
  intro p e s m args below meth c ls Q F hQ hP hl
  have hx := F.1
  have hb := F.2.1
  have hl : lv_has ls 1 [(0, .ref be)] := hl
  refine lv_aload_n hx hb dX0_total_0 rfl (lv_at hl 0 rfl) ?_
  refine jv_get (v := .int (jI to)) F hP 0 rfl flX0_22 rfl dX0_total_1 ?_
  exact jR.ri F hQ rfl dX0_total_4 (by rfl)
set_option maxHeartbeats 4000000 in
set_option maxRecDepth 100000 in
theorem kX0_size (l : Launch) (D : va_G) (cA : ClassId) (be ah pa : Nat) (sz to : Int)  : jR l YX0_size (rmk 0 0 0 0) D cA [.ref be] [(be, .inr (0, [.ref ah, .ref pa, .int (jI sz), .int (jI to)]))] (fun v => v = .int (jI sz)) := by
  refine jR.intro (by decide +kernel) (Nat.le_of_ble_eq_true rfl) ?_
  intro p e s m args below meth c ls Q F hQ hP hl
  have hx := F.1
  have hb := F.2.1
  have hl : lv_has ls 1 [(0, .ref be)] := hl
  refine lv_aload_n hx hb dX0_size_0 rfl (lv_at hl 0 rfl) ?_
  refine jv_get (v := .int (jI sz)) F hP 0 rfl flX0_18 rfl dX0_size_1 ?_
  exact jR.ri F hQ rfl dX0_size_4 (by rfl)
set_option maxHeartbeats 4000000 in
set_option maxRecDepth 100000 in
theorem kX0_pairAt (l : Launch) (D : va_G) (cA : ClassId) (be ah pa : Nat) (sz to : Int) (Pa : Int → Int) (i : Int) (hz : 0 ≤ sz ∧ sz ≤ 48) (hi : -2147483648 ≤ i ∧ i < 2147483648) : jR l YX0_pairAt (rmk 0 0 0 0) D cA [.ref be, .int (jI i)] [(be, .inr (0, [.ref ah, .ref pa, .int (jI sz), .int (jI to)])), (pa, .inl (cA, 48, .inl (jA Pa)))] (fun v => v = .int (jI (atv Pa sz i))) := by
  refine jR.intro (by decide +kernel) (Nat.le_of_ble_eq_true rfl) ?_
  intro p e s m args below meth c ls Q F hQ hP hl
  have hx := F.1
  have hb := F.2.1
  have hl : lv_has ls 2 [(0, .ref be), (1, .int (jI i))] := hl
  refine lv_iload_n hx hb dX0_pairAt_0 rfl (lv_at hl 1 rfl) ?_
  refine jv_if_lt (tgt := 21) hx hb dX0_pairAt_1 rfl (by omega) (fun c1 => ?_) (fun c1 => ?_)
  · refine lv_iconst (v := jI (-1)) hx hb dX0_pairAt_21 rfl ?_
    exact jR.ri F hQ rfl dX0_pairAt_22 (by rw [atv_out (by omega)])
  · refine lv_iload_n hx hb dX0_pairAt_4 rfl (lv_at hl 1 rfl) ?_
    refine lv_aload_n hx hb dX0_pairAt_5 rfl (lv_at hl 0 rfl) ?_
    refine jv_get (v := .int (jI sz)) F hP 0 rfl flX0_18 rfl dX0_pairAt_6 ?_
    refine jv_icmp_ge (tgt := 21) hx hb dX0_pairAt_9 rfl (by omega) (by omega) (fun c9 => ?_) (fun c9 => ?_)
    · refine lv_iconst (v := jI (-1)) hx hb dX0_pairAt_21 rfl ?_
      exact jR.ri F hQ rfl dX0_pairAt_22 (by rw [atv_out (by omega)])
    · refine lv_aload_n hx hb dX0_pairAt_12 rfl (lv_at hl 0 rfl) ?_
      refine jv_get (v := .ref pa) F hP 0 rfl flX0_15 rfl dX0_pairAt_13 ?_
      refine lv_iload_n hx hb dX0_pairAt_16 rfl (lv_at hl 1 rfl) ?_
      refine jv_iald (fa := Pa) F hP 1 rfl (by omega) (by decide) dX0_pairAt_17 ?_
      refine lv_goto (tgt := 22) hx hb dX0_pairAt_18 rfl ?_
      exact jR.ri F hQ rfl dX0_pairAt_22 (by rw [atv_in (by omega)])
set_option maxHeartbeats 4000000 in
set_option maxRecDepth 100000 in
theorem kX0_worthFrom (l : Launch) (D : va_G) (cA : ClassId) (be ah pa : Nat) (sz to : Int) (Ah : Int → Int) (sp r0 r1 : Nat) (K i j : Int) (hK : 1 ≤ K ∧ K ≤ 6) (hi : 0 ≤ i ∧ i + K ≤ 48) (hj : 0 ≤ j ∧ j + K ≤ 48) (hv : -2000000 ≤ Ah ((i + K) * 49 + (j + K)) ∧ Ah ((i + K) * 49 + (j + K)) ≤ 2000000) : jR l YX0_worthFrom (rmk 1 0 0 20) D cA [.ref be, .ref sp, .int (jI i), .int (jI j)] [(be, .inr (0, [.ref ah, .ref pa, .int (jI sz), .int (jI to)])), (ah, .inl (cA, 2401, .inl (jA Ah))), (sp, .inr (3, [.ref r0, .ref r1, .int (jI K)]))] (fun v => v = .int (jI (wF K Ah i j))) := by
  refine jR.intro (by decide +kernel) (Nat.le_of_ble_eq_true rfl) ?_
  intro p e s m args below meth c ls Q F hQ hP hl
  have hx := F.1
  have hb := F.2.1
  have hl : lv_has ls 5 [(0, .ref be), (1, .ref sp), (2, .int (jI i)), (3, .int (jI j))] := hl
  refine lv_aload_n hx hb dX0_worthFrom_0 rfl (lv_at hl 1 rfl) ?_
  refine jr_V F (kX3_length l D cA sp r0 r1 K) cvX0_41 hP [2] rfl 2 rfl rfl hl ⟨rfl, rfl, by decide, by decide⟩ rfl rfl (Nat.le_of_ble_eq_true rfl) dX0_worthFrom_1 ⟨by decide, by decide⟩ (fun v hv => ?_)
  subst hv
  refine lv_istore (lv' := [(4, .int (jI K)), (0, .ref be), (1, .ref sp), (2, .int (jI i)), (3, .int (jI j))]) hx hb dX0_worthFrom_4 hl (by decide) rfl (fun ls hl => ?_)
  refine lv_bipush (v := jI 10) hx hb dX0_worthFrom_6 (by decide +kernel) ?_
  refine lv_iload hx hb dX0_worthFrom_8 (lv_at hl 0 rfl) ?_
  refine jv_imul hx hb dX0_worthFrom_10 ?_
  refine lv_iconst (v := jI 0) hx hb dX0_worthFrom_11 rfl ?_
  refine lv_aload_n hx hb dX0_worthFrom_12 rfl (lv_at hl 1 rfl) ?_
  refine jv_get (v := .ref ah) F hP 0 rfl flX0_11 rfl dX0_worthFrom_13 ?_
  refine lv_iload_n hx hb dX0_worthFrom_16 rfl (lv_at hl 3 rfl) ?_
  refine lv_iload hx hb dX0_worthFrom_17 (lv_at hl 0 rfl) ?_
  refine jv_iadd hx hb dX0_worthFrom_19 ?_
  refine lv_bipush (v := jI 49) hx hb dX0_worthFrom_20 (by decide +kernel) ?_
  refine jv_imul hx hb dX0_worthFrom_22 ?_
  refine lv_iload_n hx hb dX0_worthFrom_23 rfl (lv_at hl 4 rfl) ?_
  refine jv_iadd hx hb dX0_worthFrom_24 ?_
  refine lv_iload hx hb dX0_worthFrom_25 (lv_at hl 0 rfl) ?_
  refine jv_iadd hx hb dX0_worthFrom_27 ?_
  refine jv_iald (fa := Ah) F hP 1 rfl (by omega) (by decide) dX0_worthFrom_28 ?_
  rw [show (i + K) * 49 + j + K = (i + K) * 49 + (j + K) by omega]
  refine jv_mmax F wmX0_61 hl (by decide) (Nat.le_of_ble_eq_true rfl) ⟨by decide, by decide⟩ (by omega) (by omega) dX0_worthFrom_29 ?_
  refine jv_iadd hx hb dX0_worthFrom_32 ?_
  exact jR.ri F hQ rfl dX0_worthFrom_33 (by rfl)
set_option maxHeartbeats 4000000 in
set_option maxRecDepth 100000 in
theorem kX0_mostFrom (l : Launch) (D : va_G) (cA : ClassId) (be ah pa : Nat) (sz to : Int) (Ah : Int → Int) (sp r0 a0 r1 a1 : Nat) (n0 n1 K : Int) (L0 L1 : Int → Int) (g a b : Int) (hn0 : 0 ≤ n0 ∧ n0 ≤ 48) (hn1 : 0 ≤ n1 ∧ n1 ≤ 48) (hK : 1 ≤ K ∧ K ≤ 6) (hL0 : ∀ x, 0 ≤ L0 x ∧ L0 x ≤ 3) (hL1 : ∀ x, 0 ≤ L1 x ∧ L1 x ≤ 3) (hg : 0 ≤ g ∧ g ≤ 9) (ha : 0 ≤ a ∧ a ≤ n0) (hb0 : 0 ≤ b ∧ b ≤ n1) (h1 : a < n0 → b < n1 → bnd n0 n1 (a + 1) b (Ah ((a + 1) * 49 + b))) (h2 : a < n0 → b < n1 → bnd n0 n1 a (b + 1) (Ah (a * 49 + (b + 1)))) (h3 : anc L0 L1 n0 n1 K a b → bnd n0 n1 (a + K) (b + K) (Ah ((a + K) * 49 + (b + K)))) : jR l YX0_mostFrom (rmk 2 0 0 44) D cA [.ref be, .ref sp, .int (jI g), .int (jI a), .int (jI b)] [(be, .inr (0, [.ref ah, .ref pa, .int (jI sz), .int (jI to)])), (ah, .inl (cA, 2401, .inl (jA Ah))), (sp, .inr (3, [.ref r0, .ref r1, .int (jI K)])), (r0, .inr (1, [.ref a0, .int (jI n0)])), (a0, .inl (cA, 48, .inl (jA L0))), (r1, .inr (1, [.ref a1, .int (jI n1)])), (a1, .inl (cA, 48, .inl (jA L1)))] (fun v => ∃ z : Int, v = .int (jI z) ∧ mOK (anc L0 L1 n0 n1 K) n0 n1 K g Ah a b z) := by
  refine jR.intro (by decide +kernel) (Nat.le_of_ble_eq_true rfl) ?_
  intro p e s m args below meth c ls Q F hQ hP hl
  have hx := F.1
  have hb := F.2.1
  have hl : lv_has ls 6 [(0, .ref be), (1, .ref sp), (2, .int (jI g)), (3, .int (jI a)), (4, .int (jI b))] := hl
  refine lv_iload_n hx hb dX0_mostFrom_0 rfl (lv_at hl 3 rfl) ?_
  refine lv_aload_n hx hb dX0_mostFrom_1 rfl (lv_at hl 1 rfl) ?_
  refine jr_V F (kX3_firstSize l D cA sp r0 r1 a0 K n0 L0) cvX0_51 hP [2, 3, 4] rfl 2 rfl rfl hl ⟨rfl, rfl, by decide, by decide⟩ rfl rfl (Nat.le_of_ble_eq_true rfl) dX0_mostFrom_2 ⟨by decide, by decide⟩ (fun v hv => ?_)
  subst hv
  refine jv_icmp_eq (tgt := 17) hx hb dX0_mostFrom_5 rfl (by omega) (by omega) (fun c5 => ?_) (fun c5 => ?_)
  · refine lv_ldc (v := jI (-1000000)) hx hb F.own (F.wd wcX0_60) dX0_mostFrom_17 ?_
    exact jR.ri F hQ rfl dX0_mostFrom_19 (by exact ⟨_, rfl, fun _ => rfl, fun h => (h (by omega)).elim⟩)
  · refine lv_iload hx hb dX0_mostFrom_8 (lv_at hl 4 rfl) ?_
    refine lv_aload_n hx hb dX0_mostFrom_10 rfl (lv_at hl 1 rfl) ?_
    refine jr_V F (kX3_secondSize l D cA sp r0 r1 a1 K n1 L1) cvX0_54 hP [2, 5, 6] rfl 2 rfl rfl hl ⟨rfl, rfl, by decide, by decide⟩ rfl rfl (Nat.le_of_ble_eq_true rfl) dX0_mostFrom_11 ⟨by decide, by decide⟩ (fun v hv => ?_)
    subst hv
    refine jv_icmp_ne (tgt := 20) hx hb dX0_mostFrom_14 rfl (by omega) (by omega) (fun c14 => ?_) (fun c14 => ?_)
    · refine lv_aload_n hx hb dX0_mostFrom_20 rfl (lv_at hl 0 rfl) ?_
      refine jv_get (v := .ref ah) F hP 0 rfl flX0_11 rfl dX0_mostFrom_21 ?_
      refine lv_iload_n hx hb dX0_mostFrom_24 rfl (lv_at hl 3 rfl) ?_
      refine lv_iconst (v := jI 1) hx hb dX0_mostFrom_25 rfl ?_
      refine jv_iadd hx hb dX0_mostFrom_26 ?_
      refine lv_bipush (v := jI 49) hx hb dX0_mostFrom_27 (by decide +kernel) ?_
      refine jv_imul hx hb dX0_mostFrom_29 ?_
      refine lv_iload hx hb dX0_mostFrom_30 (lv_at hl 4 rfl) ?_
      refine jv_iadd hx hb dX0_mostFrom_32 ?_
      refine jv_iald (fa := Ah) F hP 1 rfl (by omega) (by decide) dX0_mostFrom_33 ?_
      refine lv_aload_n hx hb dX0_mostFrom_34 rfl (lv_at hl 0 rfl) ?_
      refine jv_get (v := .ref ah) F hP 0 rfl flX0_11 rfl dX0_mostFrom_35 ?_
      refine lv_iload_n hx hb dX0_mostFrom_38 rfl (lv_at hl 3 rfl) ?_
      refine lv_bipush (v := jI 49) hx hb dX0_mostFrom_39 (by decide +kernel) ?_
      refine jv_imul hx hb dX0_mostFrom_41 ?_
      refine lv_iload hx hb dX0_mostFrom_42 (lv_at hl 4 rfl) ?_
      refine jv_iadd hx hb dX0_mostFrom_44 ?_
      refine lv_iconst (v := jI 1) hx hb dX0_mostFrom_45 rfl ?_
      refine jv_iadd hx hb dX0_mostFrom_46 ?_
      refine jv_iald (fa := Ah) F hP 1 rfl (by omega) (by decide) dX0_mostFrom_47 ?_
      rw [show a * 49 + b + 1 = a * 49 + (b + 1) by omega]
      have b1 := h1 (by omega) (by omega)
      have b2 := h2 (by omega) (by omega)
      refine jv_mmax F wmX0_61 hl (by decide) (Nat.le_of_ble_eq_true rfl) ⟨by decide, by decide⟩ (by omega) (by omega) dX0_mostFrom_48 ?_
      refine lv_iload_n hx hb dX0_mostFrom_51 rfl (lv_at hl 2 rfl) ?_
      refine jv_isub hx hb dX0_mostFrom_52 ?_
      refine lv_istore (lv' := [(5, .int (jI ((max (Ah (((a + 1) * 49) + b)) (Ah (a * 49 + (b + 1)))) - g))), (0, .ref be), (1, .ref sp), (2, .int (jI g)), (3, .int (jI a)), (4, .int (jI b))]) hx hb dX0_mostFrom_53 hl (by decide) rfl (fun ls hl => ?_)
      refine lv_aload_n hx hb dX0_mostFrom_55 rfl (lv_at hl 2 rfl) ?_
      refine lv_iload_n hx hb dX0_mostFrom_56 rfl (lv_at hl 4 rfl) ?_
      refine lv_iload hx hb dX0_mostFrom_57 (lv_at hl 5 rfl) ?_
      refine jr_V F (kX3_isSeed l D cA sp r0 a0 r1 a1 n0 n1 K L0 L1 a b (by omega) (by omega) (by omega) hL0 hL1 (by omega) (by omega)) cvX0_66 hP [2, 3, 4, 5, 6] rfl 2 rfl rfl hl ⟨rfl, rfl, by decide, by decide⟩ rfl rfl (Nat.le_of_ble_eq_true rfl) dX0_mostFrom_59 ⟨by decide, by decide⟩ (fun v hv => ?_)
      subst hv
      have hb59 := jB_01 (anc L0 L1 n0 n1 K a b)
      refine jv_if_eq (tgt := 81) hx hb dX0_mostFrom_62 rfl (by omega) (fun c62 => ?_) (fun c62 => ?_)
      · refine lv_iload hx hb dX0_mostFrom_81 (lv_at hl 0 rfl) ?_
        exact jR.ri F hQ rfl dX0_mostFrom_83 (by exact ⟨_, rfl, fun h => by omega, fun _ => ⟨fun h => (jB_0 c62 h).elim, fun _ => rfl⟩⟩)
      · have hGa := jB_1 c62
        have hGi := anc_in a b hGa
        have b3 := h3 hGa
        refine lv_iload hx hb dX0_mostFrom_65 (lv_at hl 0 rfl) ?_
        refine lv_aload_n hx hb dX0_mostFrom_67 rfl (lv_at hl 1 rfl) ?_
        refine lv_aload_n hx hb dX0_mostFrom_68 rfl (lv_at hl 2 rfl) ?_
        refine lv_iload_n hx hb dX0_mostFrom_69 rfl (lv_at hl 4 rfl) ?_
        refine lv_iload hx hb dX0_mostFrom_70 (lv_at hl 5 rfl) ?_
        refine jr_V F (kX0_worthFrom l D cA be ah pa sz to Ah sp r0 r1 K a b (by omega) (by omega) (by omega) (by omega)) cvX0_37 hP [0, 1, 2] rfl 0 rfl rfl hl ⟨rfl, rfl, by decide, by decide⟩ rfl rfl (Nat.le_of_ble_eq_true rfl) dX0_mostFrom_72 ⟨by decide, by decide⟩ (fun v hv => ?_)
        subst hv
        refine jv_mmax F wmX0_61 hl (by decide) (Nat.le_of_ble_eq_true rfl) ⟨by decide, by decide⟩ (by omega) (by unfold wF; omega) dX0_mostFrom_75 ?_
        refine lv_goto (tgt := 83) hx hb dX0_mostFrom_78 rfl ?_
        exact jR.ri F hQ rfl dX0_mostFrom_83 (by exact ⟨_, rfl, fun h => by omega, fun _ => ⟨fun _ => rfl, fun h => (h (jB_1 c62)).elim⟩⟩)
    · refine lv_ldc (v := jI (-1000000)) hx hb F.own (F.wd wcX0_60) dX0_mostFrom_17 ?_
      exact jR.ri F hQ rfl dX0_mostFrom_19 (by exact ⟨_, rfl, fun _ => rfl, fun h => (h (by omega)).elim⟩)
set_option maxHeartbeats 4000000 in
set_option maxRecDepth 100000 in
theorem kX0_lookAhead (l : Launch) (D : va_G) (cA : ClassId) (be ah pa : Nat) (sz to : Int) (Ah : Int → Int) (sp r0 a0 r1 a1 : Nat) (n0 n1 K : Int) (L0 L1 : Int → Int) (g : Int) (hn0 : 0 ≤ n0 ∧ n0 ≤ 48) (hn1 : 0 ≤ n1 ∧ n1 ≤ 48) (hK : 1 ≤ K ∧ K ≤ 6) (hL0 : ∀ x, 0 ≤ L0 x ∧ L0 x ≤ 3) (hL1 : ∀ x, 0 ≤ L1 x ∧ L1 x ≤ 3) (hg : 0 ≤ g ∧ g ≤ 9) : jM l YX0_lookAhead (rmk 3 0 0 69) D cA [.ref be, .ref sp, .int (jI g)] [(be, .inr (0, [.ref ah, .ref pa, .int (jI sz), .int (jI to)])), (ah, .inl (cA, 2401, .inl (jA Ah))), (sp, .inr (3, [.ref r0, .ref r1, .int (jI K)])), (r0, .inr (1, [.ref a0, .int (jI n0)])), (a0, .inl (cA, 48, .inl (jA L0))), (r1, .inr (1, [.ref a1, .int (jI n1)])), (a1, .inl (cA, 48, .inl (jA L1)))] (fun v w => v = none ∧ ∃ A2 : Int → Int, aAll (anc L0 L1 n0 n1 K) n0 n1 K g A2 ∧ w = [(be, .inr (0, [.ref ah, .ref pa, .int (jI sz), .int (jI to)])), (ah, .inl (cA, 2401, .inl (jA A2))), (sp, .inr (3, [.ref r0, .ref r1, .int (jI K)])), (r0, .inr (1, [.ref a0, .int (jI n0)])), (a0, .inl (cA, 48, .inl (jA L0))), (r1, .inr (1, [.ref a1, .int (jI n1)])), (a1, .inl (cA, 48, .inl (jA L1)))]) 0 0 := by
  refine jM.intro (by decide +kernel) (Nat.le_of_ble_eq_true rfl) ?_
  intro p e s m args below meth c ls Q A F hQ hA hP hD hS hl
  have hx := F.1
  have hb := F.2.1
  have hl : lv_has ls 5 [(0, .ref be), (1, .ref sp), (2, .int (jI g))] := hl
  refine lv_aload_n hx hb dX0_lookAhead_0 rfl (lv_at hl 1 rfl) ?_
  refine jr_V F (kX3_firstSize l D cA sp r0 r1 a0 K n0 L0) cvX0_51 hP [2, 3, 4] rfl 2 rfl rfl hl ⟨rfl, rfl, by decide, by decide⟩ rfl rfl (Nat.le_of_ble_eq_true rfl) dX0_lookAhead_1 ⟨by decide, by decide⟩ (fun v hv => ?_)
  subst hv
  refine lv_istore_n (lv' := [(3, .int (jI n0)), (0, .ref be), (1, .ref sp), (2, .int (jI g))]) hx hb dX0_lookAhead_4 rfl hl (by decide) rfl (fun ls hl => ?_)
  have lp5 : ∀ (fu : Nat) (a : Int) (A0 : Int → Int) (ls : Array Slot) (H : Heap) (locs : List Loc), a + 1 < (fu : Int) → (-1 ≤ a ∧ a ≤ n0) → (∀ x y, a < x → x ≤ n0 → 0 ≤ y → y ≤ n1 → aOK (anc L0 L1 n0 n1 K) n0 n1 K g A0 x y) → lv_has ls 5 [(3, .int (jI a)), (0, .ref be), (1, .ref sp), (2, .int (jI g))] → va_P D cls [(be, .inr (0, [.ref ah, .ref pa, .int (jI sz), .int (jI to)])), (ah, .inl (cA, 2401, .inl (jA A0))), (sp, .inr (3, [.ref r0, .ref r1, .int (jI K)])), (r0, .inr (1, [.ref a0, .int (jI n0)])), (a0, .inl (cA, 48, .inl (jA L0))), (r1, .inr (1, [.ref a1, .int (jI n1)])), (a1, .inl (cA, 48, .inl (jA L1)))] H → va_D A [(be, .inr (0, [.ref ah, .ref pa, .int (jI sz), .int (jI to)])), (ah, .inl (cA, 2401, .inl (jA A0))), (sp, .inr (3, [.ref r0, .ref r1, .int (jI K)])), (r0, .inr (1, [.ref a0, .int (jI n0)])), (a0, .inl (cA, 48, .inl (jA L0))), (r1, .inr (1, [.ref a1, .int (jI n1)])), (a1, .inl (cA, 48, .inl (jA L1)))] → va_S A s.heap H locs → W p l e (rmk 3 0 0 69) s m args below meth c H locs 0 0 Q (F0 m 5 ls []) := by
    intro fu
    induction fu with
    | zero => intro a A0 ls H locs hfu ha hd hl hP hD hS; exfalso; omega
    | succ fu ih5 =>
      intro a A0 ls H locs hfu ha hd hl hP hD hS
      refine lv_iload_n hx hb dX0_lookAhead_5 rfl (lv_at hl 0 rfl) ?_
      refine jv_if_lt (tgt := 53) hx hb dX0_lookAhead_6 rfl (by omega) (fun c6 => ?_) (fun c6 => ?_)
      · exact jM.rv F hQ rfl dX0_lookAhead_53 hS hP hD (by exact ⟨rfl, _, fun x y x0 x1 y0 y1 => hd x y (by omega) x1 y0 y1, rfl⟩)
      · refine lv_aload_n hx hb dX0_lookAhead_9 rfl (lv_at hl 2 rfl) ?_
        refine jr_V F (kX3_secondSize l D cA sp r0 r1 a1 K n1 L1) cvX0_54 hP [2, 5, 6] rfl 2 rfl rfl hl ⟨rfl, rfl, by decide, by decide⟩ rfl rfl (Nat.le_of_ble_eq_true rfl) dX0_lookAhead_10 ⟨by decide, by decide⟩ (fun v hv => ?_)
        subst hv
        refine lv_istore (lv' := [(4, .int (jI n1)), (3, .int (jI a)), (0, .ref be), (1, .ref sp), (2, .int (jI g))]) hx hb dX0_lookAhead_13 hl (by decide) rfl (fun ls hl => ?_)
        have lp15 : ∀ (fu : Nat) (b : Int) (A1 : Int → Int) (ls : Array Slot) (H : Heap) (locs : List Loc), b + 1 < (fu : Int) → (-1 ≤ b ∧ b ≤ n1) → (∀ x y, a < x → x ≤ n0 → 0 ≤ y → y ≤ n1 → aOK (anc L0 L1 n0 n1 K) n0 n1 K g A1 x y) → (∀ y, b < y → y ≤ n1 → aOK (anc L0 L1 n0 n1 K) n0 n1 K g A1 a y) → lv_has ls 5 [(4, .int (jI b)), (3, .int (jI a)), (0, .ref be), (1, .ref sp), (2, .int (jI g))] → va_P D cls [(be, .inr (0, [.ref ah, .ref pa, .int (jI sz), .int (jI to)])), (ah, .inl (cA, 2401, .inl (jA A1))), (sp, .inr (3, [.ref r0, .ref r1, .int (jI K)])), (r0, .inr (1, [.ref a0, .int (jI n0)])), (a0, .inl (cA, 48, .inl (jA L0))), (r1, .inr (1, [.ref a1, .int (jI n1)])), (a1, .inl (cA, 48, .inl (jA L1)))] H → va_D A [(be, .inr (0, [.ref ah, .ref pa, .int (jI sz), .int (jI to)])), (ah, .inl (cA, 2401, .inl (jA A1))), (sp, .inr (3, [.ref r0, .ref r1, .int (jI K)])), (r0, .inr (1, [.ref a0, .int (jI n0)])), (a0, .inl (cA, 48, .inl (jA L0))), (r1, .inr (1, [.ref a1, .int (jI n1)])), (a1, .inl (cA, 48, .inl (jA L1)))] → va_S A s.heap H locs → W p l e (rmk 3 0 0 69) s m args below meth c H locs 0 0 Q (F0 m 15 ls []) := by
          intro fu
          induction fu with
          | zero => intro b A1 ls H locs hfu hb0 hd1 hd2 hl hP hD hS; exfalso; omega
          | succ fu ih15 =>
            intro b A1 ls H locs hfu hb0 hd1 hd2 hl hP hD hS
            refine lv_iload hx hb dX0_lookAhead_15 (lv_at hl 0 rfl) ?_
            refine jv_if_lt (tgt := 47) hx hb dX0_lookAhead_17 rfl (by omega) (fun c17 => ?_) (fun c17 => ?_)
            · refine lv_iinc (k := 1) (v := jI (a + (-1))) (lv' := [(3, .int (jI (a + (-1)))), (4, .int (jI b)), (0, .ref be), (1, .ref sp), (2, .int (jI g))]) hx hb dX0_lookAhead_47 hl rfl (jI_add _ _) (by decide) rfl (fun ls hl => ?_)
              refine lv_goto (tgt := 5) hx hb dX0_lookAhead_50 rfl ?_
              refine ih5 (a + (-1)) A1 ls H locs (by omega) ?_ ?_ (lv_sub hl [0, 2, 3, 4] rfl) hP hD hS
              · omega
              · intro x y x0 x1 y0 y1
                by_cases e : x = a
                · subst e; exact hd2 y (by omega) y1
                · exact hd1 x y (by omega) x1 y0 y1
            · refine lv_aload_n hx hb dX0_lookAhead_20 rfl (lv_at hl 2 rfl) ?_
              refine jv_get (v := .ref ah) F hP 0 rfl flX0_11 rfl dX0_lookAhead_21 ?_
              refine lv_iload_n hx hb dX0_lookAhead_24 rfl (lv_at hl 1 rfl) ?_
              refine lv_bipush (v := jI 49) hx hb dX0_lookAhead_25 (by decide +kernel) ?_
              refine jv_imul hx hb dX0_lookAhead_27 ?_
              refine lv_iload hx hb dX0_lookAhead_28 (lv_at hl 0 rfl) ?_
              refine jv_iadd hx hb dX0_lookAhead_30 ?_
              refine lv_aload_n hx hb dX0_lookAhead_31 rfl (lv_at hl 2 rfl) ?_
              refine lv_aload_n hx hb dX0_lookAhead_32 rfl (lv_at hl 3 rfl) ?_
              refine lv_iload_n hx hb dX0_lookAhead_33 rfl (lv_at hl 4 rfl) ?_
              refine lv_iload_n hx hb dX0_lookAhead_34 rfl (lv_at hl 1 rfl) ?_
              refine lv_iload hx hb dX0_lookAhead_35 (lv_at hl 0 rfl) ?_
              refine jr_V F (kX0_mostFrom l D cA be ah pa sz to A1 sp r0 a0 r1 a1 n0 n1 K L0 L1 g a b (by omega) (by omega) (by omega) hL0 hL1 (by omega) (by omega) (by omega) (fun h5 h6 => (hd1 _ _ (by omega) (by omega) (by omega) (by omega)).2) (fun h5 h6 => (hd2 _ (by omega) (by omega)).2) (fun h5 => (hd1 _ _ (by omega) (by have := anc_in a b h5; omega) (by omega) (by have := anc_in a b h5; omega)).2)) cvX0_57 hP [0, 1, 2, 3, 4, 5, 6] rfl 0 rfl rfl hl ⟨rfl, rfl, by decide, by decide⟩ rfl rfl (Nat.le_of_ble_eq_true rfl) dX0_lookAhead_37 ⟨by decide, by decide⟩ (fun v hv => ?_)
              obtain ⟨z37, rfl, hz37⟩ := hv
              refine jv_iast (fa := A1) F hP hD hS 1 rfl (by omega) (by decide) dX0_lookAhead_40 (fun H locs hP hD hS => ?_)
              have hP : va_P D cls [(be, .inr (0, [.ref ah, .ref pa, .int (jI sz), .int (jI to)])), (ah, .inl (cA, 2401, .inl (jA (jU A1 ((a * 49) + b) z37)))), (sp, .inr (3, [.ref r0, .ref r1, .int (jI K)])), (r0, .inr (1, [.ref a0, .int (jI n0)])), (a0, .inl (cA, 48, .inl (jA L0))), (r1, .inr (1, [.ref a1, .int (jI n1)])), (a1, .inl (cA, 48, .inl (jA L1)))] H := hP
              have hD : va_D A [(be, .inr (0, [.ref ah, .ref pa, .int (jI sz), .int (jI to)])), (ah, .inl (cA, 2401, .inl (jA (jU A1 ((a * 49) + b) z37)))), (sp, .inr (3, [.ref r0, .ref r1, .int (jI K)])), (r0, .inr (1, [.ref a0, .int (jI n0)])), (a0, .inl (cA, 48, .inl (jA L0))), (r1, .inr (1, [.ref a1, .int (jI n1)])), (a1, .inl (cA, 48, .inl (jA L1)))] := hD
              refine lv_iinc (k := 0) (v := jI (b + (-1))) (lv' := [(4, .int (jI (b + (-1)))), (3, .int (jI a)), (0, .ref be), (1, .ref sp), (2, .int (jI g))]) hx hb dX0_lookAhead_41 hl rfl (jI_add _ _) (by decide) rfl (fun ls hl => ?_)
              refine lv_goto (tgt := 15) hx hb dX0_lookAhead_44 rfl ?_
              refine ih15 (b + (-1)) (jU A1 ((a * 49) + b) z37) ls H locs (by omega) ?_ ?_ ?_ (lv_sub hl [0, 1, 2, 3, 4] rfl) hP hD hS
              · omega
              · intro x y x0 x1 y0 y1
                exact aOK_upd anc_in hK.1 hn1.2 (by omega) ⟨y0, y1⟩ (Or.inl (by omega)) (hd1 x y x0 x1 y0 y1)
              · intro y y0 y1
                by_cases e : y = b
                · subst e
                  have hm := mOK_upd (w := z37) anc_in hK.1 hn1.2 (a := a) (b := y) (by omega) (by omega) (Or.inr ⟨rfl, rfl⟩) hz37
                  have hbn : bnd n0 n1 a y z37 := mOK_bnd anc_in hK.1 hg (by omega) (by omega) hz37 (fun h5 h6 => (hd1 _ _ (by omega) (by omega) (by omega) (by omega)).2) (fun h5 h6 => (hd2 _ (by omega) (by omega)).2) (fun h5 => (hd1 _ _ (by omega) (by have := anc_in a y h5; omega) (by omega) (by have := anc_in a y h5; omega)).2)
                  unfold aOK
                  rw [jU_s]
                  exact ⟨hm, hbn⟩
                · exact aOK_upd anc_in hK.1 hn1.2 (by omega) (by omega) (Or.inr ⟨rfl, by omega⟩) (hd2 y (by omega) y1)
        refine lp15 (Int.toNat (n1 + 1) + 1) n1 A0 ls H locs (by omega) ?_ ?_ ?_ (lv_sub hl [0, 1, 2, 3, 4] rfl) hP hD hS
        · omega
        · exact hd
        · intro y; omega
  refine lp5 (Int.toNat (n0 + 1) + 1) n0 Ah ls s.heap [] (by omega) ?_ ?_ (lv_sub hl [0, 1, 2, 3] rfl) hP hD hS
  · omega
  · intro x y; omega
set_option maxHeartbeats 4000000 in
set_option maxRecDepth 100000 in
theorem kX0_firstPair (l : Launch) (D : va_G) (cA : ClassId) (be ah pa : Nat) (sz to : Int) (Ah : Int → Int) (sp r0 a0 r1 a1 : Nat) (n0 n1 K : Int) (L0 L1 : Int → Int) (g : Int) (hn0 : 0 ≤ n0 ∧ n0 ≤ 48) (hn1 : 0 ≤ n1 ∧ n1 ≤ 48) (hK : 1 ≤ K ∧ K ≤ 6) (hL0 : ∀ x, 0 ≤ L0 x ∧ L0 x ≤ 3) (hL1 : ∀ x, 0 ≤ L1 x ∧ L1 x ≤ 3) (hg : 0 ≤ g ∧ g ≤ 9) (hA : aAll (anc L0 L1 n0 n1 K) n0 n1 K g Ah) : jR l YX0_firstPair (rmk 2 0 0 44) D cA [.ref be, .ref sp] [(be, .inr (0, [.ref ah, .ref pa, .int (jI sz), .int (jI to)])), (ah, .inl (cA, 2401, .inl (jA Ah))), (sp, .inr (3, [.ref r0, .ref r1, .int (jI K)])), (r0, .inr (1, [.ref a0, .int (jI n0)])), (a0, .inl (cA, 48, .inl (jA L0))), (r1, .inr (1, [.ref a1, .int (jI n1)])), (a1, .inl (cA, 48, .inl (jA L1)))] (fun v => ∃ z : Int, v = .int (jI z) ∧ fpR (anc L0 L1 n0 n1 K) (wF K Ah) z) := by
  refine jR.intro (by decide +kernel) (Nat.le_of_ble_eq_true rfl) ?_
  intro p e s m args below meth c ls Q F hQ hP hl
  have hx := F.1
  have hb := F.2.1
  have hl : lv_has ls 6 [(0, .ref be), (1, .ref sp)] := hl
  refine lv_iconst (v := jI (-1)) hx hb dX0_firstPair_0 rfl ?_
  refine lv_istore_n (lv' := [(2, .int (jI (-1))), (0, .ref be), (1, .ref sp)]) hx hb dX0_firstPair_1 rfl hl (by decide) rfl (fun ls hl => ?_)
  refine lv_iconst (v := jI 0) hx hb dX0_firstPair_2 rfl ?_
  refine lv_istore_n (lv' := [(3, .int (jI 0)), (2, .int (jI (-1))), (0, .ref be), (1, .ref sp)]) hx hb dX0_firstPair_3 rfl hl (by decide) rfl (fun ls hl => ?_)
  refine lv_iconst (v := jI 0) hx hb dX0_firstPair_4 rfl ?_
  refine lv_istore (lv' := [(4, .int (jI 0)), (3, .int (jI 0)), (2, .int (jI (-1))), (0, .ref be), (1, .ref sp)]) hx hb dX0_firstPair_5 hl (by decide) rfl (fun ls hl => ?_)
  have lp7 : ∀ (fu : Nat) (fo : Int) (mo : Int) (i : Int) (ls : Array Slot), n0 - i < (fu : Int) → (0 ≤ i ∧ i ≤ n0) → (0 ≤ mo ∧ mo ≤ 1000) → (fpP (anc L0 L1 n0 n1 K) (wF K Ah) fo mo i 0) → lv_has ls 6 [(4, .int (jI i)), (3, .int (jI mo)), (2, .int (jI fo)), (0, .ref be), (1, .ref sp)] → W p l e (rmk 2 0 0 44) s m args below meth c s.heap [] 0 0 Q (F0 m 7 ls []) := by
    intro fu
    induction fu with
    | zero => intro fo mo i ls hfu hi hmo hf hl; exfalso; omega
    | succ fu ih7 =>
      intro fo mo i ls hfu hi hmo hf hl
      refine lv_iload hx hb dX0_firstPair_7 (lv_at hl 0 rfl) ?_
      refine lv_aload_n hx hb dX0_firstPair_9 rfl (lv_at hl 4 rfl) ?_
      refine jr_V F (kX3_firstSize l D cA sp r0 r1 a0 K n0 L0) cvX0_51 hP [2, 3, 4] rfl 2 rfl rfl hl ⟨rfl, rfl, by decide, by decide⟩ rfl rfl (Nat.le_of_ble_eq_true rfl) dX0_firstPair_10 ⟨by decide, by decide⟩ (fun v hv => ?_)
      subst hv
      refine jv_icmp_ge (tgt := 82) hx hb dX0_firstPair_13 rfl (by omega) (by omega) (fun c13 => ?_) (fun c13 => ?_)
      · refine lv_iload_n hx hb dX0_firstPair_82 rfl (lv_at hl 2 rfl) ?_
        exact jR.ri F hQ rfl dX0_firstPair_83 (by exact ⟨_, rfl, fp_end anc_in hK.1 (by omega) hf⟩)
      · refine lv_iconst (v := jI 0) hx hb dX0_firstPair_16 rfl ?_
        refine lv_istore (lv' := [(5, .int (jI 0)), (4, .int (jI i)), (3, .int (jI mo)), (2, .int (jI fo)), (0, .ref be), (1, .ref sp)]) hx hb dX0_firstPair_17 hl (by decide) rfl (fun ls hl => ?_)
        have lp19 : ∀ (fu : Nat) (f1 : Int) (m1 : Int) (j : Int) (ls : Array Slot), n1 - j < (fu : Int) → (0 ≤ j ∧ j ≤ n1) → (0 ≤ m1 ∧ m1 ≤ 1000) → (fpP (anc L0 L1 n0 n1 K) (wF K Ah) f1 m1 i j) → lv_has ls 6 [(5, .int (jI j)), (4, .int (jI i)), (3, .int (jI m1)), (2, .int (jI f1)), (0, .ref be), (1, .ref sp)] → W p l e (rmk 2 0 0 44) s m args below meth c s.heap [] 0 0 Q (F0 m 19 ls []) := by
          intro fu
          induction fu with
          | zero => intro f1 m1 j ls hfu hj hm1 hf1 hl; exfalso; omega
          | succ fu ih19 =>
            intro f1 m1 j ls hfu hj hm1 hf1 hl
            refine lv_iload hx hb dX0_firstPair_19 (lv_at hl 0 rfl) ?_
            refine lv_aload_n hx hb dX0_firstPair_21 rfl (lv_at hl 5 rfl) ?_
            refine jr_V F (kX3_secondSize l D cA sp r0 r1 a1 K n1 L1) cvX0_54 hP [2, 5, 6] rfl 2 rfl rfl hl ⟨rfl, rfl, by decide, by decide⟩ rfl rfl (Nat.le_of_ble_eq_true rfl) dX0_firstPair_22 ⟨by decide, by decide⟩ (fun v hv => ?_)
            subst hv
            refine jv_icmp_ge (tgt := 76) hx hb dX0_firstPair_25 rfl (by omega) (by omega) (fun c25 => ?_) (fun c25 => ?_)
            · refine lv_iinc (k := 1) (v := jI (i + 1)) (lv' := [(4, .int (jI (i + 1))), (5, .int (jI j)), (3, .int (jI m1)), (2, .int (jI f1)), (0, .ref be), (1, .ref sp)]) hx hb dX0_firstPair_76 hl rfl (jI_add _ _) (by decide) rfl (fun ls hl => ?_)
              refine lv_goto (tgt := 7) hx hb dX0_firstPair_79 rfl ?_
              refine ih7 f1 m1 (i + 1) ls  (by omega) ?_ ?_ ?_ (lv_sub hl [0, 2, 3, 4, 5] rfl)
              · omega
              · omega
              · exact fp_row anc_in hK.1 (by omega) hf1
            · refine lv_aload_n hx hb dX0_firstPair_28 rfl (lv_at hl 5 rfl) ?_
              refine lv_iload hx hb dX0_firstPair_29 (lv_at hl 1 rfl) ?_
              refine lv_iload hx hb dX0_firstPair_31 (lv_at hl 0 rfl) ?_
              refine jr_V F (kX3_isSeed l D cA sp r0 a0 r1 a1 n0 n1 K L0 L1 i j (by omega) (by omega) (by omega) hL0 hL1 (by omega) (by omega)) cvX0_66 hP [2, 3, 4, 5, 6] rfl 2 rfl rfl hl ⟨rfl, rfl, by decide, by decide⟩ rfl rfl (Nat.le_of_ble_eq_true rfl) dX0_firstPair_33 ⟨by decide, by decide⟩ (fun v hv => ?_)
              subst hv
              have hb33 := jB_01 (anc L0 L1 n0 n1 K i j)
              refine jv_if_eq (tgt := 70) hx hb dX0_firstPair_36 rfl (by omega) (fun c36 => ?_) (fun c36 => ?_)
              · refine lv_iinc (k := 0) (v := jI (j + 1)) (lv' := [(5, .int (jI (j + 1))), (4, .int (jI i)), (3, .int (jI m1)), (2, .int (jI f1)), (0, .ref be), (1, .ref sp)]) hx hb dX0_firstPair_70 hl rfl (jI_add _ _) (by decide) rfl (fun ls hl => ?_)
                refine lv_goto (tgt := 19) hx hb dX0_firstPair_73 rfl ?_
                refine ih19 f1 m1 (j + 1) ls  (by omega) ?_ ?_ ?_ (lv_sub hl [0, 1, 2, 3, 4, 5] rfl)
                · omega
                · omega
                · first
                    | exact fp_yes hGa (by omega) hf1
                    | exact fp_no (fun _ => by omega) (fun k l hk => by have := (wF_b anc_in hK.1 hA hk).1; omega) hf1
                    | exact fp_no (fun h5 => (jB_0 c36 h5).elim) (fun k l hk => by have := (wF_b anc_in hK.1 hA hk).1; omega) hf1
              · have hGa := jB_1 c36
                have hGi := anc_in _ _ hGa
                have hw0 := wF_b anc_in hK.1 hA hGa
                have hA3 := (hA (i + K) (j + K) (by omega) (by omega) (by omega) (by omega)).2
                refine lv_aload_n hx hb dX0_firstPair_39 rfl (lv_at hl 4 rfl) ?_
                refine lv_aload_n hx hb dX0_firstPair_40 rfl (lv_at hl 5 rfl) ?_
                refine lv_iload hx hb dX0_firstPair_41 (lv_at hl 1 rfl) ?_
                refine lv_iload hx hb dX0_firstPair_43 (lv_at hl 0 rfl) ?_
                refine jr_V F (kX0_worthFrom l D cA be ah pa sz to Ah sp r0 r1 K i j (by omega) (by omega) (by omega) (by omega)) cvX0_37 hP [0, 1, 2] rfl 0 rfl rfl hl ⟨rfl, rfl, by decide, by decide⟩ rfl rfl (Nat.le_of_ble_eq_true rfl) dX0_firstPair_45 ⟨by decide, by decide⟩ (fun v hv => ?_)
                subst hv
                refine lv_iload_n hx hb dX0_firstPair_48 rfl (lv_at hl 2 rfl) ?_
                refine jv_icmp_le (tgt := 70) hx hb dX0_firstPair_49 rfl (by omega) (by omega) (fun c49 => ?_) (fun c49 => ?_)
                · refine lv_iinc (k := 0) (v := jI (j + 1)) (lv' := [(5, .int (jI (j + 1))), (4, .int (jI i)), (3, .int (jI m1)), (2, .int (jI f1)), (0, .ref be), (1, .ref sp)]) hx hb dX0_firstPair_70 hl rfl (jI_add _ _) (by decide) rfl (fun ls hl => ?_)
                  refine lv_goto (tgt := 19) hx hb dX0_firstPair_73 rfl ?_
                  refine ih19 f1 m1 (j + 1) ls  (by omega) ?_ ?_ ?_ (lv_sub hl [0, 1, 2, 3, 4, 5] rfl)
                  · omega
                  · omega
                  · first
                      | exact fp_yes hGa (by omega) hf1
                      | exact fp_no (fun _ => by omega) (fun k l hk => by have := (wF_b anc_in hK.1 hA hk).1; omega) hf1
                      | exact fp_no (fun h5 => (jB_0 c36 h5).elim) (fun k l hk => by have := (wF_b anc_in hK.1 hA hk).1; omega) hf1
                · refine lv_iload hx hb dX0_firstPair_52 (lv_at hl 1 rfl) ?_
                  refine lv_iload hx hb dX0_firstPair_54 (lv_at hl 0 rfl) ?_
                  refine jr_SN F (kX4_pairOf l D cA i j) cnX0_70 hP [] rfl hl ⟨rfl, rfl, by decide, by decide⟩ rfl rfl (Nat.le_of_ble_eq_true rfl) dX0_firstPair_56 ⟨by decide, by decide⟩ (fun v hv => ?_)
                  subst hv
                  refine lv_istore_n (lv' := [(2, .int (jI (i * 48 + j))), (5, .int (jI j)), (4, .int (jI i)), (3, .int (jI m1)), (0, .ref be), (1, .ref sp)]) hx hb dX0_firstPair_59 rfl hl (by decide) rfl (fun ls hl => ?_)
                  refine lv_aload_n hx hb dX0_firstPair_60 rfl (lv_at hl 4 rfl) ?_
                  refine lv_aload_n hx hb dX0_firstPair_61 rfl (lv_at hl 5 rfl) ?_
                  refine lv_iload hx hb dX0_firstPair_62 (lv_at hl 2 rfl) ?_
                  refine lv_iload hx hb dX0_firstPair_64 (lv_at hl 1 rfl) ?_
                  refine jr_V F (kX0_worthFrom l D cA be ah pa sz to Ah sp r0 r1 K i j (by omega) (by omega) (by omega) (by omega)) cvX0_37 hP [0, 1, 2] rfl 0 rfl rfl hl ⟨rfl, rfl, by decide, by decide⟩ rfl rfl (Nat.le_of_ble_eq_true rfl) dX0_firstPair_66 ⟨by decide, by decide⟩ (fun v hv => ?_)
                  subst hv
                  refine lv_istore_n (lv' := [(3, .int (jI (wF K Ah i j))), (2, .int (jI (i * 48 + j))), (5, .int (jI j)), (4, .int (jI i)), (0, .ref be), (1, .ref sp)]) hx hb dX0_firstPair_69 rfl hl (by decide) rfl (fun ls hl => ?_)
                  refine lv_iinc (k := 2) (v := jI (j + 1)) (lv' := [(5, .int (jI (j + 1))), (3, .int (jI (wF K Ah i j))), (2, .int (jI (i * 48 + j))), (4, .int (jI i)), (0, .ref be), (1, .ref sp)]) hx hb dX0_firstPair_70 hl rfl (jI_add _ _) (by decide) rfl (fun ls hl => ?_)
                  refine lv_goto (tgt := 19) hx hb dX0_firstPair_73 rfl ?_
                  refine ih19 (i * 48 + j) (wF K Ah i j) (j + 1) ls  (by omega) ?_ ?_ ?_ (lv_sub hl [0, 3, 1, 2, 4, 5] rfl)
                  · omega
                  · omega
                  · first
                      | exact fp_yes hGa (by omega) hf1
                      | exact fp_no (fun _ => by omega) (fun k l hk => by have := (wF_b anc_in hK.1 hA hk).1; omega) hf1
                      | exact fp_no (fun h5 => (jB_0 c36 h5).elim) (fun k l hk => by have := (wF_b anc_in hK.1 hA hk).1; omega) hf1
        refine lp19 (Int.toNat (n1 - 0) + 1) fo mo 0 ls  (by omega) ?_ ?_ ?_ (lv_sub hl [0, 1, 2, 3, 4, 5] rfl)
        · omega
        · omega
        · exact hf
  refine lp7 (Int.toNat (n0 - 0) + 1) (-1) 0 0 ls  (by omega) ?_ ?_ ?_ (lv_sub hl [0, 1, 2, 3, 4] rfl)
  · omega
  · omega
  · exact fp_0 anc_in
set_option maxHeartbeats 4000000 in
set_option maxRecDepth 100000 in
theorem kX0_nextPair (l : Launch) (D : va_G) (cA : ClassId) (be ah pa : Nat) (sz to : Int) (Ah : Int → Int) (sp r0 a0 r1 a1 : Nat) (n0 n1 K : Int) (L0 L1 : Int → Int) (g a b : Int) (hn0 : 0 ≤ n0 ∧ n0 ≤ 48) (hn1 : 0 ≤ n1 ∧ n1 ≤ 48) (hK : 1 ≤ K ∧ K ≤ 6) (hL0 : ∀ x, 0 ≤ L0 x ∧ L0 x ≤ 3) (hL1 : ∀ x, 0 ≤ L1 x ∧ L1 x ≤ 3) (hg : 0 ≤ g ∧ g ≤ 9) (hA : aAll (anc L0 L1 n0 n1 K) n0 n1 K g Ah) (ha : 0 ≤ a ∧ a ≤ n0) (hb0 : 0 ≤ b ∧ b ≤ n1) : jR l YX0_nextPair (rmk 2 0 0 44) D cA [.ref be, .ref sp, .int (jI g), .int (jI a), .int (jI b)] [(be, .inr (0, [.ref ah, .ref pa, .int (jI sz), .int (jI to)])), (ah, .inl (cA, 2401, .inl (jA Ah))), (sp, .inr (3, [.ref r0, .ref r1, .int (jI K)])), (r0, .inr (1, [.ref a0, .int (jI n0)])), (a0, .inl (cA, 48, .inl (jA L0))), (r1, .inr (1, [.ref a1, .int (jI n1)])), (a1, .inl (cA, 48, .inl (jA L1)))] (fun v => ∃ z : Int, v = .int (jI z) ∧ npR (anc L0 L1 n0 n1 K) (wF K Ah) g a b (Ah (a * 49 + b)) z) := by
  refine jR.intro (by decide +kernel) (Nat.le_of_ble_eq_true rfl) ?_
  intro p e s m args below meth c ls Q F hQ hP hl
  have hx := F.1
  have hb := F.2.1
  have hl : lv_has ls 9 [(0, .ref be), (1, .ref sp), (2, .int (jI g)), (3, .int (jI a)), (4, .int (jI b))] := hl
  have hdu := (hA a b ha.1 ha.2 hb0.1 hb0.2).2
  refine lv_aload_n hx hb dX0_nextPair_0 rfl (lv_at hl 0 rfl) ?_
  refine jv_get (v := .ref ah) F hP 0 rfl flX0_11 rfl dX0_nextPair_1 ?_
  refine lv_iload_n hx hb dX0_nextPair_4 rfl (lv_at hl 3 rfl) ?_
  refine lv_bipush (v := jI 49) hx hb dX0_nextPair_5 (by decide +kernel) ?_
  refine jv_imul hx hb dX0_nextPair_7 ?_
  refine lv_iload hx hb dX0_nextPair_8 (lv_at hl 4 rfl) ?_
  refine jv_iadd hx hb dX0_nextPair_10 ?_
  refine jv_iald (fa := Ah) F hP 1 rfl (by omega) (by decide) dX0_nextPair_11 ?_
  refine lv_istore (lv' := [(5, .int (jI (Ah ((a * 49) + b)))), (0, .ref be), (1, .ref sp), (2, .int (jI g)), (3, .int (jI a)), (4, .int (jI b))]) hx hb dX0_nextPair_12 hl (by decide) rfl (fun ls hl => ?_)
  refine lv_iload hx hb dX0_nextPair_14 (lv_at hl 0 rfl) ?_
  refine jv_if_gt (tgt := 21) hx hb dX0_nextPair_16 rfl (by omega) (fun c16 => ?_) (fun c16 => ?_)
  · refine lv_iload_n hx hb dX0_nextPair_21 rfl (lv_at hl 4 rfl) ?_
    refine lv_istore (lv' := [(6, .int (jI a)), (5, .int (jI (Ah ((a * 49) + b)))), (0, .ref be), (1, .ref sp), (2, .int (jI g)), (3, .int (jI a)), (4, .int (jI b))]) hx hb dX0_nextPair_22 hl (by decide) rfl (fun ls hl => ?_)
    have lp24 : ∀ (fu : Nat) (i : Int) (ls : Array Slot), n0 - i < (fu : Int) → (a ≤ i ∧ i ≤ n0) → (nnP (anc L0 L1 n0 n1 K) (wF K Ah) g a b (Ah (a * 49 + b)) i b) → lv_has ls 9 [(6, .int (jI i)), (5, .int (jI (Ah ((a * 49) + b)))), (0, .ref be), (1, .ref sp), (2, .int (jI g)), (3, .int (jI a)), (4, .int (jI b))] → W p l e (rmk 2 0 0 44) s m args below meth c s.heap [] 0 0 Q (F0 m 24 ls []) := by
      intro fu
      induction fu with
      | zero => intro i ls hfu hi hf hl; exfalso; omega
      | succ fu ih24 =>
        intro i ls hfu hi hf hl
        refine lv_iload hx hb dX0_nextPair_24 (lv_at hl 0 rfl) ?_
        refine lv_aload_n hx hb dX0_nextPair_26 rfl (lv_at hl 3 rfl) ?_
        refine jr_V F (kX3_firstSize l D cA sp r0 r1 a0 K n0 L0) cvX0_51 hP [2, 3, 4] rfl 2 rfl rfl hl ⟨rfl, rfl, by decide, by decide⟩ rfl rfl (Nat.le_of_ble_eq_true rfl) dX0_nextPair_27 ⟨by decide, by decide⟩ (fun v hv => ?_)
        subst hv
        refine jv_icmp_ge (tgt := 108) hx hb dX0_nextPair_30 rfl (by omega) (by omega) (fun c30 => ?_) (fun c30 => ?_)
        · refine lv_iconst (v := jI (-1)) hx hb dX0_nextPair_108 rfl ?_
          exact jR.ri F hQ rfl dX0_nextPair_109 (by exact ⟨_, rfl, Or.inr ⟨by omega, Or.inr ⟨rfl, nn_end anc_in hK.1 (by omega) hf⟩⟩⟩)
        · refine lv_iload hx hb dX0_nextPair_33 (lv_at hl 6 rfl) ?_
          refine lv_istore (lv' := [(7, .int (jI b)), (6, .int (jI i)), (5, .int (jI (Ah ((a * 49) + b)))), (0, .ref be), (1, .ref sp), (2, .int (jI g)), (3, .int (jI a)), (4, .int (jI b))]) hx hb dX0_nextPair_35 hl (by decide) rfl (fun ls hl => ?_)
          have lp37 : ∀ (fu : Nat) (j : Int) (ls : Array Slot), n1 - j < (fu : Int) → (b ≤ j ∧ j ≤ n1) → (nnP (anc L0 L1 n0 n1 K) (wF K Ah) g a b (Ah (a * 49 + b)) i j) → lv_has ls 9 [(7, .int (jI j)), (6, .int (jI i)), (5, .int (jI (Ah ((a * 49) + b)))), (0, .ref be), (1, .ref sp), (2, .int (jI g)), (3, .int (jI a)), (4, .int (jI b))] → W p l e (rmk 2 0 0 44) s m args below meth c s.heap [] 0 0 Q (F0 m 37 ls []) := by
            intro fu
            induction fu with
            | zero => intro j ls hfu hj hf1 hl; exfalso; omega
            | succ fu ih37 =>
              intro j ls hfu hj hf1 hl
              refine lv_iload hx hb dX0_nextPair_37 (lv_at hl 0 rfl) ?_
              refine lv_aload_n hx hb dX0_nextPair_39 rfl (lv_at hl 4 rfl) ?_
              refine jr_V F (kX3_secondSize l D cA sp r0 r1 a1 K n1 L1) cvX0_54 hP [2, 5, 6] rfl 2 rfl rfl hl ⟨rfl, rfl, by decide, by decide⟩ rfl rfl (Nat.le_of_ble_eq_true rfl) dX0_nextPair_40 ⟨by decide, by decide⟩ (fun v hv => ?_)
              subst hv
              refine jv_icmp_ge (tgt := 102) hx hb dX0_nextPair_43 rfl (by omega) (by omega) (fun c43 => ?_) (fun c43 => ?_)
              · refine lv_iinc (k := 1) (v := jI (i + 1)) (lv' := [(6, .int (jI (i + 1))), (7, .int (jI j)), (5, .int (jI (Ah ((a * 49) + b)))), (0, .ref be), (1, .ref sp), (2, .int (jI g)), (3, .int (jI a)), (4, .int (jI b))]) hx hb dX0_nextPair_102 hl rfl (jI_add _ _) (by decide) rfl (fun ls hl => ?_)
                refine lv_goto (tgt := 24) hx hb dX0_nextPair_105 rfl ?_
                refine ih24 (i + 1) ls  (by omega) ?_ ?_ (lv_sub hl [0, 2, 3, 4, 5, 6, 7] rfl)
                · omega
                · exact nn_row anc_in hK.1 (by omega) hf1
              · refine lv_iload_n hx hb dX0_nextPair_46 rfl (lv_at hl 5 rfl) ?_
                refine lv_iload hx hb dX0_nextPair_47 (lv_at hl 1 rfl) ?_
                refine lv_iload_n hx hb dX0_nextPair_49 rfl (lv_at hl 6 rfl) ?_
                refine jv_isub hx hb dX0_nextPair_50 ?_
                refine lv_iload hx hb dX0_nextPair_51 (lv_at hl 0 rfl) ?_
                refine jv_iadd hx hb dX0_nextPair_53 ?_
                refine lv_iload hx hb dX0_nextPair_54 (lv_at hl 7 rfl) ?_
                refine jv_isub hx hb dX0_nextPair_56 ?_
                refine jv_imul hx hb dX0_nextPair_57 ?_
                rw [show i - a + j - b = i - a + (j - b) by omega]
                have hco := gmul_b (g := g) (d := i - a + (j - b)) hg (by omega)
                refine lv_istore (lv' := [(8, .int (jI (g * (i - a + (j - b))))), (7, .int (jI j)), (6, .int (jI i)), (5, .int (jI (Ah ((a * 49) + b)))), (0, .ref be), (1, .ref sp), (2, .int (jI g)), (3, .int (jI a)), (4, .int (jI b))]) hx hb dX0_nextPair_58 hl (by decide) rfl (fun ls hl => ?_)
                refine lv_aload_n hx hb dX0_nextPair_60 rfl (lv_at hl 5 rfl) ?_
                refine lv_iload hx hb dX0_nextPair_61 (lv_at hl 2 rfl) ?_
                refine lv_iload hx hb dX0_nextPair_63 (lv_at hl 1 rfl) ?_
                refine jr_V F (kX3_isSeed l D cA sp r0 a0 r1 a1 n0 n1 K L0 L1 i j (by omega) (by omega) (by omega) hL0 hL1 (by omega) (by omega)) cvX0_66 hP [2, 3, 4, 5, 6] rfl 2 rfl rfl hl ⟨rfl, rfl, by decide, by decide⟩ rfl rfl (Nat.le_of_ble_eq_true rfl) dX0_nextPair_65 ⟨by decide, by decide⟩ (fun v hv => ?_)
                subst hv
                have hb65 := jB_01 (anc L0 L1 n0 n1 K i j)
                refine jv_if_eq (tgt := 96) hx hb dX0_nextPair_68 rfl (by omega) (fun c68 => ?_) (fun c68 => ?_)
                · refine lv_iinc (k := 1) (v := jI (j + 1)) (lv' := [(7, .int (jI (j + 1))), (8, .int (jI (g * (i - a + (j - b))))), (6, .int (jI i)), (5, .int (jI (Ah ((a * 49) + b)))), (0, .ref be), (1, .ref sp), (2, .int (jI g)), (3, .int (jI a)), (4, .int (jI b))]) hx hb dX0_nextPair_96 hl rfl (jI_add _ _) (by decide) rfl (fun ls hl => ?_)
                  refine lv_goto (tgt := 37) hx hb dX0_nextPair_99 rfl ?_
                  refine ih37 (j + 1) ls  (by omega) ?_ ?_ (lv_sub hl [0, 2, 3, 4, 5, 6, 7, 8] rfl)
                  · omega
                  · first
                      | exact nn_no (fun h5 => (jB_0 c68 h5).elim) hf1
                      | exact nn_no (fun _ h6 => c85 h6) hf1
                · have hGa := jB_1 c68
                  have hGi := anc_in _ _ hGa
                  have hw0 := wF_b anc_in hK.1 hA hGa
                  have hA3 := (hA (i + K) (j + K) (by omega) (by omega) (by omega) (by omega)).2
                  refine lv_aload_n hx hb dX0_nextPair_71 rfl (lv_at hl 4 rfl) ?_
                  refine lv_aload_n hx hb dX0_nextPair_72 rfl (lv_at hl 5 rfl) ?_
                  refine lv_iload hx hb dX0_nextPair_73 (lv_at hl 2 rfl) ?_
                  refine lv_iload hx hb dX0_nextPair_75 (lv_at hl 1 rfl) ?_
                  refine jr_V F (kX0_worthFrom l D cA be ah pa sz to Ah sp r0 r1 K i j (by omega) (by omega) (by omega) (by omega)) cvX0_37 hP [0, 1, 2] rfl 0 rfl rfl hl ⟨rfl, rfl, by decide, by decide⟩ rfl rfl (Nat.le_of_ble_eq_true rfl) dX0_nextPair_77 ⟨by decide, by decide⟩ (fun v hv => ?_)
                  subst hv
                  refine lv_iload hx hb dX0_nextPair_80 (lv_at hl 0 rfl) ?_
                  refine jv_isub hx hb dX0_nextPair_82 ?_
                  refine lv_iload hx hb dX0_nextPair_83 (lv_at hl 3 rfl) ?_
                  refine jv_icmp_ne (tgt := 96) hx hb dX0_nextPair_85 rfl (by omega) (by omega) (fun c85 => ?_) (fun c85 => ?_)
                  · refine lv_iinc (k := 1) (v := jI (j + 1)) (lv' := [(7, .int (jI (j + 1))), (8, .int (jI (g * (i - a + (j - b))))), (6, .int (jI i)), (5, .int (jI (Ah ((a * 49) + b)))), (0, .ref be), (1, .ref sp), (2, .int (jI g)), (3, .int (jI a)), (4, .int (jI b))]) hx hb dX0_nextPair_96 hl rfl (jI_add _ _) (by decide) rfl (fun ls hl => ?_)
                    refine lv_goto (tgt := 37) hx hb dX0_nextPair_99 rfl ?_
                    refine ih37 (j + 1) ls  (by omega) ?_ ?_ (lv_sub hl [0, 2, 3, 4, 5, 6, 7, 8] rfl)
                    · omega
                    · first
                        | exact nn_no (fun h5 => (jB_0 c68 h5).elim) hf1
                        | exact nn_no (fun _ h6 => c85 h6) hf1
                  · refine lv_iload hx hb dX0_nextPair_88 (lv_at hl 2 rfl) ?_
                    refine lv_iload hx hb dX0_nextPair_90 (lv_at hl 1 rfl) ?_
                    refine jr_SN F (kX4_pairOf l D cA i j) cnX0_70 hP [] rfl hl ⟨rfl, rfl, by decide, by decide⟩ rfl rfl (Nat.le_of_ble_eq_true rfl) dX0_nextPair_92 ⟨by decide, by decide⟩ (fun v hv => ?_)
                    subst hv
                    exact jR.ri F hQ rfl dX0_nextPair_95 (by exact ⟨_, rfl, Or.inr ⟨by omega, Or.inl ⟨i, j, rfl, ⟨jB_1 c68, hi.1, hj.1, by omega⟩, hf1⟩⟩⟩)
          refine lp37 (Int.toNat (n1 - b) + 1) b ls  (by omega) ?_ ?_ (lv_sub hl [0, 1, 2, 3, 4, 5, 6, 7] rfl)
          · omega
          · exact hf
    refine lp24 (Int.toNat (n0 - a) + 1) a ls  (by omega) ?_ ?_ (lv_sub hl [0, 1, 2, 3, 4, 5, 6] rfl)
    · omega
    · exact nn_0
  · refine lv_iconst (v := jI (-1)) hx hb dX0_nextPair_19 rfl ?_
    exact jR.ri F hQ rfl dX0_nextPair_20 (by exact ⟨_, rfl, Or.inl ⟨by omega, rfl⟩⟩)
def fin (G : Int → Int → Prop) (K g n t : Int) (Pa : Int → Int) : Prop := ∃ wt, WT G K g wt ∧ isTop G wt t ∧ isChn G wt K g t n (fun m => Pa m / 48) (fun m => Pa m % 48) ∧ (0 ≤ n ∧ n ≤ 48) ∧ ∀ m, 0 ≤ m → m < n → 0 ≤ Pa m ∧ Pa m < 2304
set_option maxHeartbeats 4000000 in
set_option maxRecDepth 100000 in
theorem kX0_find (l : Launch) (D : va_G) (cA : ClassId) (be ah pa : Nat) (sz to : Int) (Ah : Int → Int) (Pa : Int → Int) (sp r0 a0 r1 a1 : Nat) (n0 n1 K : Int) (L0 L1 : Int → Int) (g : Int) (hn0 : 0 ≤ n0 ∧ n0 ≤ 48) (hn1 : 0 ≤ n1 ∧ n1 ≤ 48) (hK : 1 ≤ K ∧ K ≤ 6) (hL0 : ∀ x, 0 ≤ L0 x ∧ L0 x ≤ 3) (hL1 : ∀ x, 0 ≤ L1 x ∧ L1 x ≤ 3) (hg : 0 ≤ g ∧ g ≤ 9) : jM l YX0_find (rmk 4 0 0 93) D cA [.ref be, .ref sp, .int (jI g)] [(be, .inr (0, [.ref ah, .ref pa, .int (jI sz), .int (jI to)])), (ah, .inl (cA, 2401, .inl (jA Ah))), (pa, .inl (cA, 48, .inl (jA Pa))), (sp, .inr (3, [.ref r0, .ref r1, .int (jI K)])), (r0, .inr (1, [.ref a0, .int (jI n0)])), (a0, .inl (cA, 48, .inl (jA L0))), (r1, .inr (1, [.ref a1, .int (jI n1)])), (a1, .inl (cA, 48, .inl (jA L1)))] (fun v w => v = none ∧ ∃ (A2 P2 : Int → Int) (n2 t2 : Int), fin (anc L0 L1 n0 n1 K) K g n2 t2 P2 ∧ w = [(be, .inr (0, [.ref ah, .ref pa, .int (jI n2), .int (jI t2)])), (ah, .inl (cA, 2401, .inl (jA A2))), (pa, .inl (cA, 48, .inl (jA P2))), (sp, .inr (3, [.ref r0, .ref r1, .int (jI K)])), (r0, .inr (1, [.ref a0, .int (jI n0)])), (a0, .inl (cA, 48, .inl (jA L0))), (r1, .inr (1, [.ref a1, .int (jI n1)])), (a1, .inl (cA, 48, .inl (jA L1)))]) 0 0 := by
  refine jM.intro (by decide +kernel) (Nat.le_of_ble_eq_true rfl) ?_
  intro p e s m args below meth c ls Q A F hQ hA hP hD hS hl
  have hx := F.1
  have hb := F.2.1
  have hl : lv_has ls 6 [(0, .ref be), (1, .ref sp), (2, .int (jI g))] := hl
  refine lv_aload_n hx hb dX0_find_0 rfl (lv_at hl 0 rfl) ?_
  refine lv_aload_n hx hb dX0_find_1 rfl (lv_at hl 1 rfl) ?_
  refine lv_iload_n hx hb dX0_find_2 rfl (lv_at hl 2 rfl) ?_
  refine jw_V (wr := [(pa, .inl (cA, 48, .inl (jA Pa)))]) F (kX0_lookAhead l D cA be ah pa sz to Ah sp r0 a0 r1 a1 n0 n1 K L0 L1 g (by omega) (by omega) (by omega) hL0 hL1 (by omega)) cvX0_25 hP hD hS hA [0, 1, 3, 4, 5, 6, 7] [2] rfl rfl (by decide) (by decide) 0 rfl rfl hl ⟨rfl, rfl, by decide, by decide⟩ rfl rfl (Nat.le_of_ble_eq_true rfl) dX0_find_3 ⟨by decide, by decide⟩ (by decide) (fun v w1 H locs hw hP hD hS => ?_)
  obtain ⟨rfl, A2, hA2, rfl⟩ := hw
  have hP : va_P D cls [(pa, .inl (cA, 48, .inl (jA Pa))), (be, .inr (0, [.ref ah, .ref pa, .int (jI sz), .int (jI to)])), (ah, .inl (cA, 2401, .inl (jA A2))), (sp, .inr (3, [.ref r0, .ref r1, .int (jI K)])), (r0, .inr (1, [.ref a0, .int (jI n0)])), (a0, .inl (cA, 48, .inl (jA L0))), (r1, .inr (1, [.ref a1, .int (jI n1)])), (a1, .inl (cA, 48, .inl (jA L1)))] H := hP
  have hD : va_D A [(pa, .inl (cA, 48, .inl (jA Pa))), (be, .inr (0, [.ref ah, .ref pa, .int (jI sz), .int (jI to)])), (ah, .inl (cA, 2401, .inl (jA A2))), (sp, .inr (3, [.ref r0, .ref r1, .int (jI K)])), (r0, .inr (1, [.ref a0, .int (jI n0)])), (a0, .inl (cA, 48, .inl (jA L0))), (r1, .inr (1, [.ref a1, .int (jI n1)])), (a1, .inl (cA, 48, .inl (jA L1)))] := hD
  refine W.eq (g2 := F0 m 6 ls []) rfl ?_
  refine lv_aload_n hx hb dX0_find_6 rfl (lv_at hl 0 rfl) ?_
  refine lv_iconst (v := jI 0) hx hb dX0_find_7 rfl ?_
  refine jv_put (v := .int (jI 0)) F hP hD hS 1 rfl flX0_18 pfX0 (by decide +kernel) rfl rfl (Nat.le_of_ble_eq_true rfl) dX0_find_8 (fun H locs hP hD hS => ?_)
  have hP : va_P D cls [(pa, .inl (cA, 48, .inl (jA Pa))), (be, .inr (0, [.ref ah, .ref pa, .int (jI 0), .int (jI to)])), (ah, .inl (cA, 2401, .inl (jA A2))), (sp, .inr (3, [.ref r0, .ref r1, .int (jI K)])), (r0, .inr (1, [.ref a0, .int (jI n0)])), (a0, .inl (cA, 48, .inl (jA L0))), (r1, .inr (1, [.ref a1, .int (jI n1)])), (a1, .inl (cA, 48, .inl (jA L1)))] H := hP
  have hD : va_D A [(pa, .inl (cA, 48, .inl (jA Pa))), (be, .inr (0, [.ref ah, .ref pa, .int (jI 0), .int (jI to)])), (ah, .inl (cA, 2401, .inl (jA A2))), (sp, .inr (3, [.ref r0, .ref r1, .int (jI K)])), (r0, .inr (1, [.ref a0, .int (jI n0)])), (a0, .inl (cA, 48, .inl (jA L0))), (r1, .inr (1, [.ref a1, .int (jI n1)])), (a1, .inl (cA, 48, .inl (jA L1)))] := hD
  refine lv_aload_n hx hb dX0_find_11 rfl (lv_at hl 0 rfl) ?_
  refine lv_iconst (v := jI 0) hx hb dX0_find_12 rfl ?_
  refine jv_put (v := .int (jI 0)) F hP hD hS 1 rfl flX0_22 pfX0 (by decide +kernel) rfl rfl (Nat.le_of_ble_eq_true rfl) dX0_find_13 (fun H locs hP hD hS => ?_)
  have hP : va_P D cls [(pa, .inl (cA, 48, .inl (jA Pa))), (be, .inr (0, [.ref ah, .ref pa, .int (jI 0), .int (jI 0)])), (ah, .inl (cA, 2401, .inl (jA A2))), (sp, .inr (3, [.ref r0, .ref r1, .int (jI K)])), (r0, .inr (1, [.ref a0, .int (jI n0)])), (a0, .inl (cA, 48, .inl (jA L0))), (r1, .inr (1, [.ref a1, .int (jI n1)])), (a1, .inl (cA, 48, .inl (jA L1)))] H := hP
  have hD : va_D A [(pa, .inl (cA, 48, .inl (jA Pa))), (be, .inr (0, [.ref ah, .ref pa, .int (jI 0), .int (jI 0)])), (ah, .inl (cA, 2401, .inl (jA A2))), (sp, .inr (3, [.ref r0, .ref r1, .int (jI K)])), (r0, .inr (1, [.ref a0, .int (jI n0)])), (a0, .inl (cA, 48, .inl (jA L0))), (r1, .inr (1, [.ref a1, .int (jI n1)])), (a1, .inl (cA, 48, .inl (jA L1)))] := hD
  refine lv_aload_n hx hb dX0_find_16 rfl (lv_at hl 0 rfl) ?_
  refine lv_aload_n hx hb dX0_find_17 rfl (lv_at hl 1 rfl) ?_
  refine jr_V F (kX0_firstPair l D cA be ah pa 0 0 A2 sp r0 a0 r1 a1 n0 n1 K L0 L1 g (by omega) (by omega) (by omega) hL0 hL1 (by omega) hA2) cvX0_29 hP [1, 2, 3, 4, 5, 6, 7] rfl 1 rfl rfl hl ⟨rfl, rfl, by decide, by decide⟩ rfl rfl (Nat.le_of_ble_eq_true rfl) dX0_find_18 ⟨by decide, by decide⟩ (fun v hv => ?_)
  obtain ⟨z18, rfl, hz18⟩ := hv
  refine lv_istore_n (lv' := [(3, .int (jI z18)), (0, .ref be), (1, .ref sp), (2, .int (jI g))]) hx hb dX0_find_21 rfl hl (by decide) rfl (fun ls hl => ?_)
  have lp46 : ∀ (fu : Nat) (pr : Int) (n : Int) (t : Int) (P1 : Int → Int) (ls : Array Slot) (H : Heap) (locs : List Loc), 49 - n < (fu : Int) → (0 ≤ n ∧ n ≤ 48) → (-1 ≤ pr ∧ pr < 2400) → (chp (anc L0 L1 n0 n1 K) (wF K A2) K g t n (fun m => P1 m / 48) (fun m => P1 m % 48)) → (prN (anc L0 L1 n0 n1 K) (wF K A2) K g t n (fun m => P1 m / 48) (fun m => P1 m % 48) pr) → (isTop (anc L0 L1 n0 n1 K) (wF K A2) t) → (∀ m, 0 ≤ m → m < n → 0 ≤ P1 m ∧ P1 m < 2304) → lv_has ls 6 [(3, .int (jI pr)), (0, .ref be), (1, .ref sp), (2, .int (jI g))] → va_P D cls [(pa, .inl (cA, 48, .inl (jA P1))), (be, .inr (0, [.ref ah, .ref pa, .int (jI n), .int (jI t)])), (ah, .inl (cA, 2401, .inl (jA A2))), (sp, .inr (3, [.ref r0, .ref r1, .int (jI K)])), (r0, .inr (1, [.ref a0, .int (jI n0)])), (a0, .inl (cA, 48, .inl (jA L0))), (r1, .inr (1, [.ref a1, .int (jI n1)])), (a1, .inl (cA, 48, .inl (jA L1)))] H → va_D A [(pa, .inl (cA, 48, .inl (jA P1))), (be, .inr (0, [.ref ah, .ref pa, .int (jI n), .int (jI t)])), (ah, .inl (cA, 2401, .inl (jA A2))), (sp, .inr (3, [.ref r0, .ref r1, .int (jI K)])), (r0, .inr (1, [.ref a0, .int (jI n0)])), (a0, .inl (cA, 48, .inl (jA L0))), (r1, .inr (1, [.ref a1, .int (jI n1)])), (a1, .inl (cA, 48, .inl (jA L1)))] → va_S A s.heap H locs → W p l e (rmk 4 0 0 93) s m args below meth c H locs 0 0 Q (F0 m 46 ls []) := by
    intro fu
    induction fu with
    | zero => intro pr n t P1 ls H locs hfu hn hpr0 hch hpr htop hpa hl hP hD hS; exfalso; omega
    | succ fu ih46 =>
      intro pr n t P1 ls H locs hfu hn hpr0 hch hpr htop hpa hl hP hD hS
      refine lv_iload_n hx hb dX0_find_46 rfl (lv_at hl 0 rfl) ?_
      refine lv_iconst (v := jI (-1)) hx hb dX0_find_47 rfl ?_
      refine jv_icmp_eq (tgt := 118) hx hb dX0_find_48 rfl (by omega) (by omega) (fun c48 => ?_) (fun c48 => ?_)
      · exact jM.rv F hQ rfl dX0_find_118 hS (hP.sub (ws' := [(be, .inr (0, [.ref ah, .ref pa, .int (jI n), .int (jI t)])), (ah, .inl (cA, 2401, .inl (jA A2))), (pa, .inl (cA, 48, .inl (jA P1))), (sp, .inr (3, [.ref r0, .ref r1, .int (jI K)])), (r0, .inr (1, [.ref a0, .int (jI n0)])), (a0, .inl (cA, 48, .inl (jA L0))), (r1, .inr (1, [.ref a1, .int (jI n1)])), (a1, .inl (cA, 48, .inl (jA L1)))]) [1, 2, 0, 3, 4, 5, 6, 7] rfl) (hD.sub (ws' := [(be, .inr (0, [.ref ah, .ref pa, .int (jI n), .int (jI t)])), (ah, .inl (cA, 2401, .inl (jA A2))), (pa, .inl (cA, 48, .inl (jA P1))), (sp, .inr (3, [.ref r0, .ref r1, .int (jI K)])), (r0, .inr (1, [.ref a0, .int (jI n0)])), (a0, .inl (cA, 48, .inl (jA L0))), (r1, .inr (1, [.ref a1, .int (jI n1)])), (a1, .inl (cA, 48, .inl (jA L1)))]) [1, 2, 0, 3, 4, 5, 6, 7] (by decide) rfl) (by exact ⟨rfl, A2, _, _, _, ⟨_, aAll_WT anc_in hK.1 hg hA2, htop, chp_end hch (by rcases hpr with h5 | ⟨k, l1, h5, h6⟩; exact h5.2; have := anc_in _ _ (nxl_G hch.1 h6); omega), hn, hpa⟩, rfl⟩)
      · obtain ⟨k, l1, hk, hnx⟩ := hpr.resolve_left (fun h5 => c48 h5.1)
        have hGk := nxl_G hch.1 hnx
        have hGi := anc_in _ _ hGk
        have hnb := nxl_b anc_in hK.1 hn0.2 hch hnx
        have e0 : plc pr 0 = k := by rw [plc_0 c48 rfl]; omega
        have e1 : plc pr 1 = l1 := by rw [plc_1 c48 rfl]; omega
        refine lv_aload_n hx hb dX0_find_51 rfl (lv_at hl 1 rfl) ?_
        refine jv_get (v := .int (jI n)) F hP 1 rfl flX0_18 rfl dX0_find_52 ?_
        refine lv_bipush (v := jI 48) hx hb dX0_find_55 (by decide +kernel) ?_
        refine jv_icmp_ge (tgt := 118) hx hb dX0_find_57 rfl (by omega) (by omega) (fun c57 => ?_) (fun c57 => ?_)
        · exfalso
          omega
        · refine lv_aload_n hx hb dX0_find_60 rfl (lv_at hl 1 rfl) ?_
          refine jv_get (v := .ref pa) F hP 1 rfl flX0_15 rfl dX0_find_61 ?_
          refine lv_aload_n hx hb dX0_find_64 rfl (lv_at hl 1 rfl) ?_
          refine jv_get (v := .int (jI n)) F hP 1 rfl flX0_18 rfl dX0_find_65 ?_
          refine lv_iload_n hx hb dX0_find_68 rfl (lv_at hl 0 rfl) ?_
          refine jv_iast (fa := P1) F hP hD hS 0 rfl (by omega) (by decide) dX0_find_69 (fun H locs hP hD hS => ?_)
          have hP : va_P D cls [(pa, .inl (cA, 48, .inl (jA (jU P1 n pr)))), (be, .inr (0, [.ref ah, .ref pa, .int (jI n), .int (jI t)])), (ah, .inl (cA, 2401, .inl (jA A2))), (sp, .inr (3, [.ref r0, .ref r1, .int (jI K)])), (r0, .inr (1, [.ref a0, .int (jI n0)])), (a0, .inl (cA, 48, .inl (jA L0))), (r1, .inr (1, [.ref a1, .int (jI n1)])), (a1, .inl (cA, 48, .inl (jA L1)))] H := hP
          have hD : va_D A [(pa, .inl (cA, 48, .inl (jA (jU P1 n pr)))), (be, .inr (0, [.ref ah, .ref pa, .int (jI n), .int (jI t)])), (ah, .inl (cA, 2401, .inl (jA A2))), (sp, .inr (3, [.ref r0, .ref r1, .int (jI K)])), (r0, .inr (1, [.ref a0, .int (jI n0)])), (a0, .inl (cA, 48, .inl (jA L0))), (r1, .inr (1, [.ref a1, .int (jI n1)])), (a1, .inl (cA, 48, .inl (jA L1)))] := hD
          refine lv_aload_n hx hb dX0_find_70 rfl (lv_at hl 1 rfl) ?_
          refine lv_dup hx hb dX0_find_71 rfl ?_
          refine jv_get (v := .int (jI n)) F hP 1 rfl flX0_18 rfl dX0_find_72 ?_
          refine lv_iconst (v := jI 1) hx hb dX0_find_75 rfl ?_
          refine jv_iadd hx hb dX0_find_76 ?_
          refine jv_put (v := .int (jI (n + 1))) F hP hD hS 1 rfl flX0_18 pfX0 (by decide +kernel) rfl rfl (Nat.le_of_ble_eq_true rfl) dX0_find_77 (fun H locs hP hD hS => ?_)
          have hP : va_P D cls [(pa, .inl (cA, 48, .inl (jA (jU P1 n pr)))), (be, .inr (0, [.ref ah, .ref pa, .int (jI (n + 1)), .int (jI t)])), (ah, .inl (cA, 2401, .inl (jA A2))), (sp, .inr (3, [.ref r0, .ref r1, .int (jI K)])), (r0, .inr (1, [.ref a0, .int (jI n0)])), (a0, .inl (cA, 48, .inl (jA L0))), (r1, .inr (1, [.ref a1, .int (jI n1)])), (a1, .inl (cA, 48, .inl (jA L1)))] H := hP
          have hD : va_D A [(pa, .inl (cA, 48, .inl (jA (jU P1 n pr)))), (be, .inr (0, [.ref ah, .ref pa, .int (jI (n + 1)), .int (jI t)])), (ah, .inl (cA, 2401, .inl (jA A2))), (sp, .inr (3, [.ref r0, .ref r1, .int (jI K)])), (r0, .inr (1, [.ref a0, .int (jI n0)])), (a0, .inl (cA, 48, .inl (jA L0))), (r1, .inr (1, [.ref a1, .int (jI n1)])), (a1, .inl (cA, 48, .inl (jA L1)))] := hD
          refine lv_iload_n hx hb dX0_find_80 rfl (lv_at hl 0 rfl) ?_
          refine lv_iconst (v := jI 0) hx hb dX0_find_81 rfl ?_
          refine jr_SN F (kX4_placeOf l D cA pr 0 (by omega) (by omega)) cnX0_33 hP [] rfl hl ⟨rfl, rfl, by decide, by decide⟩ rfl rfl (Nat.le_of_ble_eq_true rfl) dX0_find_82 ⟨by decide, by decide⟩ (fun v hv => ?_)
          subst hv
          rw [e0]
          refine lv_aload_n hx hb dX0_find_85 rfl (lv_at hl 2 rfl) ?_
          refine jr_V F (kX3_length l D cA sp r0 r1 K) cvX0_41 hP [3] rfl 3 rfl rfl hl ⟨rfl, rfl, by decide, by decide⟩ rfl rfl (Nat.le_of_ble_eq_true rfl) dX0_find_86 ⟨by decide, by decide⟩ (fun v hv => ?_)
          subst hv
          refine jv_iadd hx hb dX0_find_89 ?_
          refine lv_istore (lv' := [(4, .int (jI (k + K))), (3, .int (jI pr)), (0, .ref be), (1, .ref sp), (2, .int (jI g))]) hx hb dX0_find_90 hl (by decide) rfl (fun ls hl => ?_)
          refine lv_iload_n hx hb dX0_find_92 rfl (lv_at hl 1 rfl) ?_
          refine lv_iconst (v := jI 1) hx hb dX0_find_93 rfl ?_
          refine jr_SN F (kX4_placeOf l D cA pr 1 (by omega) (by omega)) cnX0_33 hP [] rfl hl ⟨rfl, rfl, by decide, by decide⟩ rfl rfl (Nat.le_of_ble_eq_true rfl) dX0_find_94 ⟨by decide, by decide⟩ (fun v hv => ?_)
          subst hv
          rw [e1]
          refine lv_aload_n hx hb dX0_find_97 rfl (lv_at hl 3 rfl) ?_
          refine jr_V F (kX3_length l D cA sp r0 r1 K) cvX0_41 hP [3] rfl 3 rfl rfl hl ⟨rfl, rfl, by decide, by decide⟩ rfl rfl (Nat.le_of_ble_eq_true rfl) dX0_find_98 ⟨by decide, by decide⟩ (fun v hv => ?_)
          subst hv
          refine jv_iadd hx hb dX0_find_101 ?_
          refine lv_istore (lv' := [(5, .int (jI (l1 + K))), (4, .int (jI (k + K))), (3, .int (jI pr)), (0, .ref be), (1, .ref sp), (2, .int (jI g))]) hx hb dX0_find_102 hl (by decide) rfl (fun ls hl => ?_)
          refine lv_aload_n hx hb dX0_find_104 rfl (lv_at hl 3 rfl) ?_
          refine lv_aload_n hx hb dX0_find_105 rfl (lv_at hl 4 rfl) ?_
          refine lv_iload_n hx hb dX0_find_106 rfl (lv_at hl 5 rfl) ?_
          refine lv_iload hx hb dX0_find_107 (lv_at hl 1 rfl) ?_
          refine lv_iload hx hb dX0_find_109 (lv_at hl 0 rfl) ?_
          refine jr_V F (kX0_nextPair l D cA be ah pa (n + 1) t A2 sp r0 a0 r1 a1 n0 n1 K L0 L1 g (k + K) (l1 + K) (by omega) (by omega) (by omega) hL0 hL1 (by omega) hA2 (by omega) (by omega)) cvX0_47 hP [1, 2, 3, 4, 5, 6, 7] rfl 1 rfl rfl hl ⟨rfl, rfl, by decide, by decide⟩ rfl rfl (Nat.le_of_ble_eq_true rfl) dX0_find_111 ⟨by decide, by decide⟩ (fun v hv => ?_)
          obtain ⟨z111, rfl, hz111⟩ := hv
          have hb111 : -1 ≤ z111 ∧ z111 < 2400 := by
            rcases hz111 with h5 | ⟨-, ⟨i, j, h5, h6, -⟩ | h5⟩
            · omega
            · have := anc_in i j h6.1; omega
            · omega
          refine lv_istore_n (lv' := [(3, .int (jI z111)), (5, .int (jI (l1 + K))), (4, .int (jI (k + K))), (0, .ref be), (1, .ref sp), (2, .int (jI g))]) hx hb dX0_find_114 rfl hl (by decide) rfl (fun ls hl => ?_)
          refine lv_goto (tgt := 46) hx hb dX0_find_115 rfl ?_
          refine ih46 z111 (n + 1) t (jU P1 n pr) ls H locs (by omega) ?_ ?_ ?_ ?_ ?_ ?_ (lv_sub hl [0, 3, 4, 5] rfl) hP hD hS
          · omega
          · exact hb111
          · exact chp_push anc_in hK.1 hch hnx (fun m hm => by show jU P1 n pr m / 48 = P1 m / 48; rw [jU_n hm]) (fun m hm => by show jU P1 n pr m % 48 = P1 m % 48; rw [jU_n hm]) (by show jU P1 n pr n / 48 = k; rw [jU_s]; omega) (by show jU P1 n pr n % 48 = l1; rw [jU_s]; omega)
          · refine prN_next anc_in hK.1 (k := k) (l := l1) (by omega) (by show jU P1 n pr (n + 1 - 1) / 48 = k; rw [show n + 1 - 1 = n by omega, jU_s]; omega) (by show jU P1 n pr (n + 1 - 1) % 48 = l1; rw [show n + 1 - 1 = n by omega, jU_s]; omega) (aAll_WT anc_in hK.1 hg hA2 k l1 hGk) (by unfold wF; omega) hz111
          · exact htop
          · intro m m0 m1
            by_cases e : m = n
            · rw [e, jU_s]; omega
            · rw [jU_n e]; exact hpa m m0 (by omega)
  have hb18 : -1 ≤ z18 ∧ z18 < 2400 := by
    rcases hz18 with h5 | ⟨i, j, h5, h6, -⟩
    · omega
    · have := anc_in i j h6; omega
  refine lv_iload_n hx hb dX0_find_22 rfl (lv_at hl 0 rfl) ?_
  refine lv_iconst (v := jI (-1)) hx hb dX0_find_23 rfl ?_
  refine jv_icmp_eq (tgt := 46) hx hb dX0_find_24 rfl (by omega) (by omega) (fun c24 => ?_) (fun c24 => ?_)
  · refine lp46 (Int.toNat (49 - 0) + 1) z18 0 0 Pa ls H locs (by omega) ?_ ?_ ?_ ?_ ?_ ?_ (lv_sub hl [0, 1, 2, 3] rfl) hP hD hS
    · omega
    · exact hb18
    · exact chp_0
    · first
        | (have hpf := prN_first (g := g) (P := fun m => Pa m / 48) (Q := fun m => Pa m % 48) anc_in hK.1 (fun k l hk => (wF_b anc_in hK.1 hA2 hk).1) hz18 (t := 0) ⟨fun _ => rfl, fun k l hk h5 => by have := anc_in k l hk; omega⟩
           exact hpf.1)
        | (have hpf := prN_first (g := g) (P := fun m => Pa m / 48) (Q := fun m => Pa m % 48) anc_in hK.1 (fun k l hk => (wF_b anc_in hK.1 hA2 hk).1) hz18 (t := wF K A2 fi fj) ⟨fun h5 => (c24 h5).elim, fun k l hk h5 => by
               have := anc_in k l hk
               have ek : k = fi := by omega
               have el : l = fj := by omega
               rw [ek, el]⟩
           exact hpf.1)
    · first
        | (have hpf := prN_first (g := g) (P := fun m => Pa m / 48) (Q := fun m => Pa m % 48) anc_in hK.1 (fun k l hk => (wF_b anc_in hK.1 hA2 hk).1) hz18 (t := 0) ⟨fun _ => rfl, fun k l hk h5 => by have := anc_in k l hk; omega⟩
           exact hpf.2)
        | (have hpf := prN_first (g := g) (P := fun m => Pa m / 48) (Q := fun m => Pa m % 48) anc_in hK.1 (fun k l hk => (wF_b anc_in hK.1 hA2 hk).1) hz18 (t := wF K A2 fi fj) ⟨fun h5 => (c24 h5).elim, fun k l hk h5 => by
               have := anc_in k l hk
               have ek : k = fi := by omega
               have el : l = fj := by omega
               rw [ek, el]⟩
           exact hpf.2)
    · intro m; omega
  · have hex : ∃ fi fj, z18 = fi * 48 + fj ∧ anc L0 L1 n0 n1 K fi fj := by
      rcases hz18 with h5 | ⟨i, j, h5, h6, -⟩
      · exact (c24 h5.1).elim
      · exact ⟨i, j, h5, h6⟩
    obtain ⟨fi, fj, hfe, hGf⟩ := hex
    have hGi := anc_in _ _ hGf
    have e0 : plc z18 0 = fi := by rw [plc_0 c24 rfl]; omega
    have e1 : plc z18 1 = fj := by rw [plc_1 c24 rfl]; omega
    have hA3 := (hA2 (fi + K) (fj + K) (by omega) (by omega) (by omega) (by omega)).2
    refine lv_aload_n hx hb dX0_find_27 rfl (lv_at hl 1 rfl) ?_
    refine lv_aload_n hx hb dX0_find_28 rfl (lv_at hl 1 rfl) ?_
    refine lv_aload_n hx hb dX0_find_29 rfl (lv_at hl 2 rfl) ?_
    refine lv_iload_n hx hb dX0_find_30 rfl (lv_at hl 0 rfl) ?_
    refine lv_iconst (v := jI 0) hx hb dX0_find_31 rfl ?_
    refine jr_SN F (kX4_placeOf l D cA z18 0 (by omega) (by omega)) cnX0_33 hP [] rfl hl ⟨rfl, rfl, by decide, by decide⟩ rfl rfl (Nat.le_of_ble_eq_true rfl) dX0_find_32 ⟨by decide, by decide⟩ (fun v hv => ?_)
    subst hv
    rw [e0]
    refine lv_iload_n hx hb dX0_find_35 rfl (lv_at hl 0 rfl) ?_
    refine lv_iconst (v := jI 1) hx hb dX0_find_36 rfl ?_
    refine jr_SN F (kX4_placeOf l D cA z18 1 (by omega) (by omega)) cnX0_33 hP [] rfl hl ⟨rfl, rfl, by decide, by decide⟩ rfl rfl (Nat.le_of_ble_eq_true rfl) dX0_find_37 ⟨by decide, by decide⟩ (fun v hv => ?_)
    subst hv
    rw [e1]
    refine jr_V F (kX0_worthFrom l D cA be ah pa 0 0 A2 sp r0 r1 K fi fj (by omega) (by omega) (by omega) (by omega)) cvX0_37 hP [1, 2, 3] rfl 1 rfl rfl hl ⟨rfl, rfl, by decide, by decide⟩ rfl rfl (Nat.le_of_ble_eq_true rfl) dX0_find_40 ⟨by decide, by decide⟩ (fun v hv => ?_)
    subst hv
    refine jv_put (v := .int (jI (wF K A2 fi fj))) F hP hD hS 1 rfl flX0_22 pfX0 (by decide +kernel) rfl rfl (Nat.le_of_ble_eq_true rfl) dX0_find_43 (fun H locs hP hD hS => ?_)
    have hP : va_P D cls [(pa, .inl (cA, 48, .inl (jA Pa))), (be, .inr (0, [.ref ah, .ref pa, .int (jI 0), .int (jI (wF K A2 fi fj))])), (ah, .inl (cA, 2401, .inl (jA A2))), (sp, .inr (3, [.ref r0, .ref r1, .int (jI K)])), (r0, .inr (1, [.ref a0, .int (jI n0)])), (a0, .inl (cA, 48, .inl (jA L0))), (r1, .inr (1, [.ref a1, .int (jI n1)])), (a1, .inl (cA, 48, .inl (jA L1)))] H := hP
    have hD : va_D A [(pa, .inl (cA, 48, .inl (jA Pa))), (be, .inr (0, [.ref ah, .ref pa, .int (jI 0), .int (jI (wF K A2 fi fj))])), (ah, .inl (cA, 2401, .inl (jA A2))), (sp, .inr (3, [.ref r0, .ref r1, .int (jI K)])), (r0, .inr (1, [.ref a0, .int (jI n0)])), (a0, .inl (cA, 48, .inl (jA L0))), (r1, .inr (1, [.ref a1, .int (jI n1)])), (a1, .inl (cA, 48, .inl (jA L1)))] := hD
    refine lp46 (Int.toNat (49 - 0) + 1) z18 0 (wF K A2 fi fj) Pa ls H locs (by omega) ?_ ?_ ?_ ?_ ?_ ?_ (lv_sub hl [0, 1, 2, 3] rfl) hP hD hS
    · omega
    · exact hb18
    · exact chp_0
    · first
        | (have hpf := prN_first (g := g) (P := fun m => Pa m / 48) (Q := fun m => Pa m % 48) anc_in hK.1 (fun k l hk => (wF_b anc_in hK.1 hA2 hk).1) hz18 (t := 0) ⟨fun _ => rfl, fun k l hk h5 => by have := anc_in k l hk; omega⟩
           exact hpf.1)
        | (have hpf := prN_first (g := g) (P := fun m => Pa m / 48) (Q := fun m => Pa m % 48) anc_in hK.1 (fun k l hk => (wF_b anc_in hK.1 hA2 hk).1) hz18 (t := wF K A2 fi fj) ⟨fun h5 => (c24 h5).elim, fun k l hk h5 => by
               have := anc_in k l hk
               have ek : k = fi := by omega
               have el : l = fj := by omega
               rw [ek, el]⟩
           exact hpf.1)
    · first
        | (have hpf := prN_first (g := g) (P := fun m => Pa m / 48) (Q := fun m => Pa m % 48) anc_in hK.1 (fun k l hk => (wF_b anc_in hK.1 hA2 hk).1) hz18 (t := 0) ⟨fun _ => rfl, fun k l hk h5 => by have := anc_in k l hk; omega⟩
           exact hpf.2)
        | (have hpf := prN_first (g := g) (P := fun m => Pa m / 48) (Q := fun m => Pa m % 48) anc_in hK.1 (fun k l hk => (wF_b anc_in hK.1 hA2 hk).1) hz18 (t := wF K A2 fi fj) ⟨fun h5 => (c24 h5).elim, fun k l hk h5 => by
               have := anc_in k l hk
               have ek : k = fi := by omega
               have el : l = fj := by omega
               rw [ek, el]⟩
           exact hpf.2)
    · intro m; omega
end
section
def gsc (f : Int → Int) (gp pp : Int) : Int := if 0 < pp then max (f pp) (f (pp - 1)) - gp else f pp - gp
theorem gsc_1 {f : Int → Int} {gp pp : Int} (h : 0 < pp) : gsc f gp pp = max (f pp) (f (pp - 1)) - gp := if_pos h
theorem gsc_0 {f : Int → Int} {gp pp : Int} (h : ¬ 0 < pp) : gsc f gp pp = f pp - gp := if_neg h
theorem nx_out {sm : Int → Int → Int} {P Q gp li d top : Int} {one two : Int → Int} {p : Int} (h : ¬ (0 ≤ p ∧ p ≤ P ∧ 0 ≤ d - p ∧ d - p ≤ Q)) : nx sm P Q gp li d top one two p = -1000000 := if_neg (fun h2 => h h2.1)
theorem nx_lo {sm : Int → Int → Int} {P Q gp li d top : Int} {one two : Int → Int} {p : Int} (h : rawC sm gp one two p (d - p) < top - li) : nx sm P Q gp li d top one two p = -1000000 := if_neg (fun h2 => by have := h2.2; omega)
theorem nx_in {sm : Int → Int → Int} {P Q gp li d top : Int} {one two : Int → Int} {p : Int} (h : 0 ≤ p ∧ p ≤ P ∧ 0 ≤ d - p ∧ d - p ≤ Q) (h2 : top - li ≤ rawC sm gp one two p (d - p)) : nx sm P Q gp li d top one two p = rawC sm gp one two p (d - p) := if_pos ⟨h, h2⟩
theorem smv_b {L0 L1 : Int → Int} {i j ga lo : Int} (hga : 1 ≤ ga ∧ ga ≤ 9) (hlo : 0 ≤ lo ∧ lo ≤ 9) : ∀ p q, -9 ≤ smv L0 L1 i j ga lo p q ∧ smv L0 L1 i j ga lo p q ≤ 9 := by
  intro p q
  unfold smv
  by_cases h : L0 (i + p - 1) = L1 (j + q - 1)
  · rw [if_pos h]; omega
  · rw [if_neg h]; omega
theorem raw_b {sm : Int → Int → Int} {gp d p q : Int} {one two : Int → Int} (hsm : ∀ p q, -9 ≤ sm p q ∧ sm p q ≤ 9) (hgp : 1 ≤ gp ∧ gp ≤ 9) (h1 : one p = -1000000 ∨ (-99 ≤ one p ∧ one p ≤ 900)) (h2 : one (p - 1) = -1000000 ∨ (-99 ≤ one (p - 1) ∧ one (p - 1) ≤ 900)) (h3 : two (p - 1) = -1000000 ∨ (-99 ≤ two (p - 1) ∧ two (p - 1) ≤ 900)) : -1000009 ≤ rawC sm gp one two p q ∧ rawC sm gp one two p q ≤ 910 := by
  have s := hsm p q
  unfold rawC
  by_cases p0 : 0 < p
  · by_cases q0 : 0 < q
    · rw [if_pos p0, if_pos q0]; omega
    · rw [if_pos p0, if_neg q0]; omega
  · rw [if_neg p0]; omega
theorem acc1_b {v d p : Int} {t : acc} (h1 : -2000 ≤ v) (h2 : v ≤ 2000) (h : 0 ≤ t.1 ∧ t.1 ≤ 2000) : 0 ≤ (acc1 v d p t).1 ∧ (acc1 v d p t).1 ≤ 2000 := by
  by_cases e : v = -1000000
  · rw [acc1_dead e]; exact h
  · by_cases e2 : t.1 < v
    · rw [acc1_hi e e2]; exact ⟨by show 0 ≤ v; omega, h2⟩
    · rw [acc1_lo e e2]; exact h
set_option maxHeartbeats 4000000 in
set_option maxRecDepth 100000 in
theorem kJ7_fill (l : Launch) (D : va_G) (cA : ClassId) (ar : Nat) (x : Int) (f0 : Int → Int)  : jM l YJ7_fill (rmk 0 0 0 0) D cA [.ref ar, .int (jI x)] [(ar, .inl (cA, 49, .inl (jA f0)))] (fun v w => v = none ∧ ∃ f1 : Int → Int, (∀ t, 0 ≤ t → t < 49 → f1 t = x) ∧ w = [(ar, .inl (cA, 49, .inl (jA f1)))]) 0 0 := by
  refine jM.intro (by decide +kernel) (Nat.le_of_ble_eq_true rfl) ?_
  intro p e s m args below meth c ls Q A F hQ hA hP hD hS hl
  have hx := F.1
  have hb := F.2.1
  have hl : lv_has ls 4 [(0, .ref ar), (1, .int (jI x))] := hl
  refine lv_iconst (v := jI 0) hx hb dJ7_fill_0 rfl ?_
  refine lv_istore_n (lv' := [(2, .int (jI 0)), (0, .ref ar), (1, .int (jI x))]) hx hb dJ7_fill_1 rfl hl (by decide) rfl (fun ls hl => ?_)
  refine lv_aload_n hx hb dJ7_fill_2 rfl (lv_at hl 1 rfl) ?_
  refine va_alen (v := jI 49) hx hb F.K hP 0 0 rfl rfl rfl dJ7_fill_3 ?_
  refine lv_istore_n (lv' := [(3, .int (jI 49)), (2, .int (jI 0)), (0, .ref ar), (1, .int (jI x))]) hx hb dJ7_fill_4 rfl hl (by decide) rfl (fun ls hl => ?_)
  have lp5 : ∀ (fu : Nat) (i : Int) (f1 : Int → Int) (ls : Array Slot) (H : Heap) (locs : List Loc), 49 - i < (fu : Int) → (0 ≤ i ∧ i ≤ 49) → (∀ t, 0 ≤ t → t < i → f1 t = x) → lv_has ls 4 [(3, .int (jI 49)), (2, .int (jI i)), (0, .ref ar), (1, .int (jI x))] → va_P D cls [(ar, .inl (cA, 49, .inl (jA f1)))] H → va_D A [(ar, .inl (cA, 49, .inl (jA f1)))] → va_S A s.heap H locs → W p l e (rmk 0 0 0 0) s m args below meth c H locs 0 0 Q (F0 m 5 ls []) := by
    intro fu
    induction fu with
    | zero => intro i f1 ls H locs hfu hi hf hl hP hD hS; exfalso; omega
    | succ fu ih5 =>
      intro i f1 ls H locs hfu hi hf hl hP hD hS
      refine lv_iload_n hx hb dJ7_fill_5 rfl (lv_at hl 1 rfl) ?_
      refine lv_iload_n hx hb dJ7_fill_6 rfl (lv_at hl 0 rfl) ?_
      refine jv_icmp_ge (tgt := 20) hx hb dJ7_fill_7 rfl (by omega) (by omega) (fun c7 => ?_) (fun c7 => ?_)
      · exact jM.rv F hQ rfl dJ7_fill_20 hS hP hD (by exact ⟨rfl, _, fun t t0 t1 => hf t t0 (by omega), rfl⟩)
      · refine lv_aload_n hx hb dJ7_fill_10 rfl (lv_at hl 2 rfl) ?_
        refine lv_iload_n hx hb dJ7_fill_11 rfl (lv_at hl 1 rfl) ?_
        refine lv_iload_n hx hb dJ7_fill_12 rfl (lv_at hl 3 rfl) ?_
        refine jv_iast (fa := f1) F hP hD hS 0 rfl (by omega) (by decide) dJ7_fill_13 (fun H locs hP hD hS => ?_)
        have hP : va_P D cls [(ar, .inl (cA, 49, .inl (jA (jU f1 i x))))] H := hP
        have hD : va_D A [(ar, .inl (cA, 49, .inl (jA (jU f1 i x))))] := hD
        refine lv_iinc (k := 1) (v := jI (i + 1)) (lv' := [(2, .int (jI (i + 1))), (3, .int (jI 49)), (0, .ref ar), (1, .int (jI x))]) hx hb dJ7_fill_14 hl rfl (jI_add _ _) (by decide) rfl (fun ls hl => ?_)
        refine lv_goto (tgt := 5) hx hb dJ7_fill_17 rfl ?_
        refine ih5 (i + 1) (jU f1 i x) ls H locs (by omega) ?_ ?_ (lv_sub hl [1, 0, 2, 3] rfl) hP hD hS
        · omega
        · intro t t0 t1
          by_cases e : t = i
          · rw [e, jU_s]
          · rw [jU_n e]; exact hf t t0 (by omega)
  refine lp5 (Int.toNat (49 - 0) + 1) 0 f0 ls s.heap [] (by omega) ?_ ?_ (lv_sub hl [0, 1, 2, 3] rfl) hP hD hS
  · omega
  · intro t; omega
set_option maxHeartbeats 4000000 in
set_option maxRecDepth 100000 in
theorem kX2_begin (l : Launch) (D : va_G) (cA : ClassId) (re t2 t1 t0 : Nat) (ga lo gp li es ep eq al la : Int) (f0 : Int → Int)  : jM l YX2_begin (rmk 1 0 0 23) D cA [.ref re] [(re, .inr (2, [.int (jI ga), .int (jI lo), .int (jI gp), .int (jI li), .ref t2, .ref t1, .ref t0, .int (jI es), .int (jI ep), .int (jI eq), .int (jI al), .int (jI la)])), (t0, .inl (cA, 49, .inl (jA f0)))] (fun v w => v = none ∧ ∃ f1 : Int → Int, (∀ t, 0 ≤ t → t < 49 → f1 t = if t = 0 then 0 else -1000000) ∧ w = [(re, .inr (2, [.int (jI ga), .int (jI lo), .int (jI gp), .int (jI li), .ref t2, .ref t1, .ref t0, .int (jI 0), .int (jI 0), .int (jI 0), .int (jI 1), .int (jI 0)])), (t0, .inl (cA, 49, .inl (jA f1)))]) 0 0 := by
  refine jM.intro (by decide +kernel) (Nat.le_of_ble_eq_true rfl) ?_
  intro p e s m args below meth c ls Q A F hQ hA hP hD hS hl
  have hx := F.1
  have hb := F.2.1
  have hl : lv_has ls 1 [(0, .ref re)] := hl
  refine lv_aload_n hx hb dX2_begin_0 rfl (lv_at hl 0 rfl) ?_
  refine jv_get (v := .ref t0) F hP 0 rfl flX2_31 rfl dX2_begin_1 ?_
  refine lv_ldc (v := jI (-1000000)) hx hb F.own (F.wd wcX2_65) dX2_begin_4 ?_
  refine jw_S (wr := [(re, .inr (2, [.int (jI ga), .int (jI lo), .int (jI gp), .int (jI li), .ref t2, .ref t1, .ref t0, .int (jI es), .int (jI ep), .int (jI eq), .int (jI al), .int (jI la)]))]) F (kJ7_fill l D cA t0 (-1000000) f0) csX2_66 hP hD hS hA [1] [0] rfl rfl (by decide) (by decide) hl ⟨rfl, rfl, by decide, by decide⟩ rfl rfl (Nat.le_of_ble_eq_true rfl) dX2_begin_6 ⟨by decide, by decide⟩ (by decide) (fun v w1 H locs hw hP hD hS => ?_)
  obtain ⟨rfl, f6, hf6, rfl⟩ := hw
  have hP : va_P D cls [(re, .inr (2, [.int (jI ga), .int (jI lo), .int (jI gp), .int (jI li), .ref t2, .ref t1, .ref t0, .int (jI es), .int (jI ep), .int (jI eq), .int (jI al), .int (jI la)])), (t0, .inl (cA, 49, .inl (jA f6)))] H := hP
  have hD : va_D A [(re, .inr (2, [.int (jI ga), .int (jI lo), .int (jI gp), .int (jI li), .ref t2, .ref t1, .ref t0, .int (jI es), .int (jI ep), .int (jI eq), .int (jI al), .int (jI la)])), (t0, .inl (cA, 49, .inl (jA f6)))] := hD
  refine W.eq (g2 := F0 m 9 ls []) rfl ?_
  refine lv_aload_n hx hb dX2_begin_9 rfl (lv_at hl 0 rfl) ?_
  refine jv_get (v := .ref t0) F hP 0 rfl flX2_31 rfl dX2_begin_10 ?_
  refine lv_iconst (v := jI 0) hx hb dX2_begin_13 rfl ?_
  refine lv_iconst (v := jI 0) hx hb dX2_begin_14 rfl ?_
  refine jv_iast (fa := f6) F hP hD hS 1 rfl (by omega) (by decide) dX2_begin_15 (fun H locs hP hD hS => ?_)
  have hP : va_P D cls [(re, .inr (2, [.int (jI ga), .int (jI lo), .int (jI gp), .int (jI li), .ref t2, .ref t1, .ref t0, .int (jI es), .int (jI ep), .int (jI eq), .int (jI al), .int (jI la)])), (t0, .inl (cA, 49, .inl (jA (jU f6 0 0))))] H := hP
  have hD : va_D A [(re, .inr (2, [.int (jI ga), .int (jI lo), .int (jI gp), .int (jI li), .ref t2, .ref t1, .ref t0, .int (jI es), .int (jI ep), .int (jI eq), .int (jI al), .int (jI la)])), (t0, .inl (cA, 49, .inl (jA (jU f6 0 0))))] := hD
  refine lv_aload_n hx hb dX2_begin_16 rfl (lv_at hl 0 rfl) ?_
  refine lv_iconst (v := jI 0) hx hb dX2_begin_17 rfl ?_
  refine jv_put (v := .int (jI 0)) F hP hD hS 0 rfl flX2_34 pfX2 (by decide +kernel) rfl rfl (Nat.le_of_ble_eq_true rfl) dX2_begin_18 (fun H locs hP hD hS => ?_)
  have hP : va_P D cls [(re, .inr (2, [.int (jI ga), .int (jI lo), .int (jI gp), .int (jI li), .ref t2, .ref t1, .ref t0, .int (jI 0), .int (jI ep), .int (jI eq), .int (jI al), .int (jI la)])), (t0, .inl (cA, 49, .inl (jA (jU f6 0 0))))] H := hP
  have hD : va_D A [(re, .inr (2, [.int (jI ga), .int (jI lo), .int (jI gp), .int (jI li), .ref t2, .ref t1, .ref t0, .int (jI 0), .int (jI ep), .int (jI eq), .int (jI al), .int (jI la)])), (t0, .inl (cA, 49, .inl (jA (jU f6 0 0))))] := hD
  refine lv_aload_n hx hb dX2_begin_21 rfl (lv_at hl 0 rfl) ?_
  refine lv_iconst (v := jI 0) hx hb dX2_begin_22 rfl ?_
  refine jv_put (v := .int (jI 0)) F hP hD hS 0 rfl flX2_37 pfX2 (by decide +kernel) rfl rfl (Nat.le_of_ble_eq_true rfl) dX2_begin_23 (fun H locs hP hD hS => ?_)
  have hP : va_P D cls [(re, .inr (2, [.int (jI ga), .int (jI lo), .int (jI gp), .int (jI li), .ref t2, .ref t1, .ref t0, .int (jI 0), .int (jI 0), .int (jI eq), .int (jI al), .int (jI la)])), (t0, .inl (cA, 49, .inl (jA (jU f6 0 0))))] H := hP
  have hD : va_D A [(re, .inr (2, [.int (jI ga), .int (jI lo), .int (jI gp), .int (jI li), .ref t2, .ref t1, .ref t0, .int (jI 0), .int (jI 0), .int (jI eq), .int (jI al), .int (jI la)])), (t0, .inl (cA, 49, .inl (jA (jU f6 0 0))))] := hD
  refine lv_aload_n hx hb dX2_begin_26 rfl (lv_at hl 0 rfl) ?_
  refine lv_iconst (v := jI 0) hx hb dX2_begin_27 rfl ?_
  refine jv_put (v := .int (jI 0)) F hP hD hS 0 rfl flX2_40 pfX2 (by decide +kernel) rfl rfl (Nat.le_of_ble_eq_true rfl) dX2_begin_28 (fun H locs hP hD hS => ?_)
  have hP : va_P D cls [(re, .inr (2, [.int (jI ga), .int (jI lo), .int (jI gp), .int (jI li), .ref t2, .ref t1, .ref t0, .int (jI 0), .int (jI 0), .int (jI 0), .int (jI al), .int (jI la)])), (t0, .inl (cA, 49, .inl (jA (jU f6 0 0))))] H := hP
  have hD : va_D A [(re, .inr (2, [.int (jI ga), .int (jI lo), .int (jI gp), .int (jI li), .ref t2, .ref t1, .ref t0, .int (jI 0), .int (jI 0), .int (jI 0), .int (jI al), .int (jI la)])), (t0, .inl (cA, 49, .inl (jA (jU f6 0 0))))] := hD
  refine lv_aload_n hx hb dX2_begin_31 rfl (lv_at hl 0 rfl) ?_
  refine lv_iconst (v := jI 1) hx hb dX2_begin_32 rfl ?_
  refine jv_put (v := .int (jI 1)) F hP hD hS 0 rfl flX2_43 pfX2 (by decide +kernel) rfl rfl (Nat.le_of_ble_eq_true rfl) dX2_begin_33 (fun H locs hP hD hS => ?_)
  have hP : va_P D cls [(re, .inr (2, [.int (jI ga), .int (jI lo), .int (jI gp), .int (jI li), .ref t2, .ref t1, .ref t0, .int (jI 0), .int (jI 0), .int (jI 0), .int (jI 1), .int (jI la)])), (t0, .inl (cA, 49, .inl (jA (jU f6 0 0))))] H := hP
  have hD : va_D A [(re, .inr (2, [.int (jI ga), .int (jI lo), .int (jI gp), .int (jI li), .ref t2, .ref t1, .ref t0, .int (jI 0), .int (jI 0), .int (jI 0), .int (jI 1), .int (jI la)])), (t0, .inl (cA, 49, .inl (jA (jU f6 0 0))))] := hD
  refine lv_aload_n hx hb dX2_begin_36 rfl (lv_at hl 0 rfl) ?_
  refine lv_iconst (v := jI 0) hx hb dX2_begin_37 rfl ?_
  refine jv_put (v := .int (jI 0)) F hP hD hS 0 rfl flX2_46 pfX2 (by decide +kernel) rfl rfl (Nat.le_of_ble_eq_true rfl) dX2_begin_38 (fun H locs hP hD hS => ?_)
  have hP : va_P D cls [(re, .inr (2, [.int (jI ga), .int (jI lo), .int (jI gp), .int (jI li), .ref t2, .ref t1, .ref t0, .int (jI 0), .int (jI 0), .int (jI 0), .int (jI 1), .int (jI 0)])), (t0, .inl (cA, 49, .inl (jA (jU f6 0 0))))] H := hP
  have hD : va_D A [(re, .inr (2, [.int (jI ga), .int (jI lo), .int (jI gp), .int (jI li), .ref t2, .ref t1, .ref t0, .int (jI 0), .int (jI 0), .int (jI 0), .int (jI 1), .int (jI 0)])), (t0, .inl (cA, 49, .inl (jA (jU f6 0 0))))] := hD
  exact jM.rv F hQ rfl dX2_begin_41 hS hP hD (by exact ⟨rfl, _, fun t t0 t1 => by by_cases e : t = 0; (rw [if_pos e, e, jU_s]); (rw [if_neg e, jU_n e]; exact hf6 t t0 t1), rfl⟩)
set_option maxHeartbeats 4000000 in
set_option maxRecDepth 100000 in
theorem kX2_turnSlopes (l : Launch) (D : va_G) (cA : ClassId) (re t2 t1 t0 : Nat) (ga lo gp li es ep eq al la : Int) (f2 : Int → Int)  : jM l YX2_turnSlopes (rmk 1 0 0 23) D cA [.ref re] [(re, .inr (2, [.int (jI ga), .int (jI lo), .int (jI gp), .int (jI li), .ref t2, .ref t1, .ref t0, .int (jI es), .int (jI ep), .int (jI eq), .int (jI al), .int (jI la)])), (t2, .inl (cA, 49, .inl (jA f2)))] (fun v w => v = none ∧ ∃ f3 : Int → Int, (∀ t, 0 ≤ t → t < 49 → f3 t = -1000000) ∧ w = [(re, .inr (2, [.int (jI ga), .int (jI lo), .int (jI gp), .int (jI li), .ref t1, .ref t0, .ref t2, .int (jI es), .int (jI ep), .int (jI eq), .int (jI al), .int (jI la)])), (t2, .inl (cA, 49, .inl (jA f3)))]) 0 0 := by
  refine jM.intro (by decide +kernel) (Nat.le_of_ble_eq_true rfl) ?_
  intro p e s m args below meth c ls Q A F hQ hA hP hD hS hl
  have hx := F.1
  have hb := F.2.1
  have hl : lv_has ls 2 [(0, .ref re)] := hl
  refine lv_aload_n hx hb dX2_turnSlopes_0 rfl (lv_at hl 0 rfl) ?_
  refine jv_get (v := .ref t2) F hP 0 rfl flX2_24 rfl dX2_turnSlopes_1 ?_
  refine lv_astore_n (lv' := [(1, .ref t2), (0, .ref re)]) hx hb dX2_turnSlopes_4 rfl hl (by decide) rfl (fun ls hl => ?_)
  refine lv_aload_n hx hb dX2_turnSlopes_5 rfl (lv_at hl 1 rfl) ?_
  refine lv_aload_n hx hb dX2_turnSlopes_6 rfl (lv_at hl 1 rfl) ?_
  refine jv_get (v := .ref t1) F hP 0 rfl flX2_28 rfl dX2_turnSlopes_7 ?_
  refine jv_put (v := .ref t1) F hP hD hS 0 rfl flX2_24 pfX2 (by decide +kernel) rfl rfl (Nat.le_of_ble_eq_true rfl) dX2_turnSlopes_10 (fun H locs hP hD hS => ?_)
  have hP : va_P D cls [(re, .inr (2, [.int (jI ga), .int (jI lo), .int (jI gp), .int (jI li), .ref t1, .ref t1, .ref t0, .int (jI es), .int (jI ep), .int (jI eq), .int (jI al), .int (jI la)])), (t2, .inl (cA, 49, .inl (jA f2)))] H := hP
  have hD : va_D A [(re, .inr (2, [.int (jI ga), .int (jI lo), .int (jI gp), .int (jI li), .ref t1, .ref t1, .ref t0, .int (jI es), .int (jI ep), .int (jI eq), .int (jI al), .int (jI la)])), (t2, .inl (cA, 49, .inl (jA f2)))] := hD
  refine lv_aload_n hx hb dX2_turnSlopes_13 rfl (lv_at hl 1 rfl) ?_
  refine lv_aload_n hx hb dX2_turnSlopes_14 rfl (lv_at hl 1 rfl) ?_
  refine jv_get (v := .ref t0) F hP 0 rfl flX2_31 rfl dX2_turnSlopes_15 ?_
  refine jv_put (v := .ref t0) F hP hD hS 0 rfl flX2_28 pfX2 (by decide +kernel) rfl rfl (Nat.le_of_ble_eq_true rfl) dX2_turnSlopes_18 (fun H locs hP hD hS => ?_)
  have hP : va_P D cls [(re, .inr (2, [.int (jI ga), .int (jI lo), .int (jI gp), .int (jI li), .ref t1, .ref t0, .ref t0, .int (jI es), .int (jI ep), .int (jI eq), .int (jI al), .int (jI la)])), (t2, .inl (cA, 49, .inl (jA f2)))] H := hP
  have hD : va_D A [(re, .inr (2, [.int (jI ga), .int (jI lo), .int (jI gp), .int (jI li), .ref t1, .ref t0, .ref t0, .int (jI es), .int (jI ep), .int (jI eq), .int (jI al), .int (jI la)])), (t2, .inl (cA, 49, .inl (jA f2)))] := hD
  refine lv_aload_n hx hb dX2_turnSlopes_21 rfl (lv_at hl 1 rfl) ?_
  refine lv_aload_n hx hb dX2_turnSlopes_22 rfl (lv_at hl 0 rfl) ?_
  refine jv_put (v := .ref t2) F hP hD hS 0 rfl flX2_31 pfX2 (by decide +kernel) rfl rfl (Nat.le_of_ble_eq_true rfl) dX2_turnSlopes_23 (fun H locs hP hD hS => ?_)
  have hP : va_P D cls [(re, .inr (2, [.int (jI ga), .int (jI lo), .int (jI gp), .int (jI li), .ref t1, .ref t0, .ref t2, .int (jI es), .int (jI ep), .int (jI eq), .int (jI al), .int (jI la)])), (t2, .inl (cA, 49, .inl (jA f2)))] H := hP
  have hD : va_D A [(re, .inr (2, [.int (jI ga), .int (jI lo), .int (jI gp), .int (jI li), .ref t1, .ref t0, .ref t2, .int (jI es), .int (jI ep), .int (jI eq), .int (jI al), .int (jI la)])), (t2, .inl (cA, 49, .inl (jA f2)))] := hD
  refine lv_aload_n hx hb dX2_turnSlopes_26 rfl (lv_at hl 1 rfl) ?_
  refine jv_get (v := .ref t2) F hP 0 rfl flX2_31 rfl dX2_turnSlopes_27 ?_
  refine lv_ldc (v := jI (-1000000)) hx hb F.own (F.wd wcX2_65) dX2_turnSlopes_30 ?_
  refine jw_S (wr := [(re, .inr (2, [.int (jI ga), .int (jI lo), .int (jI gp), .int (jI li), .ref t1, .ref t0, .ref t2, .int (jI es), .int (jI ep), .int (jI eq), .int (jI al), .int (jI la)]))]) F (kJ7_fill l D cA t2 (-1000000) f2) csX2_66 hP hD hS hA [1] [0] rfl rfl (by decide) (by decide) hl ⟨rfl, rfl, by decide, by decide⟩ rfl rfl (Nat.le_of_ble_eq_true rfl) dX2_turnSlopes_32 ⟨by decide, by decide⟩ (by decide) (fun v w1 H locs hw hP hD hS => ?_)
  obtain ⟨rfl, f32, hf32, rfl⟩ := hw
  have hP : va_P D cls [(re, .inr (2, [.int (jI ga), .int (jI lo), .int (jI gp), .int (jI li), .ref t1, .ref t0, .ref t2, .int (jI es), .int (jI ep), .int (jI eq), .int (jI al), .int (jI la)])), (t2, .inl (cA, 49, .inl (jA f32)))] H := hP
  have hD : va_D A [(re, .inr (2, [.int (jI ga), .int (jI lo), .int (jI gp), .int (jI li), .ref t1, .ref t0, .ref t2, .int (jI es), .int (jI ep), .int (jI eq), .int (jI al), .int (jI la)])), (t2, .inl (cA, 49, .inl (jA f32)))] := hD
  refine W.eq (g2 := F0 m 35 ls []) rfl ?_
  exact jM.rv F hQ rfl dX2_turnSlopes_35 hS hP hD (by exact ⟨rfl, _, hf32, rfl⟩)
set_option maxHeartbeats 4000000 in
set_option maxRecDepth 100000 in
theorem kX2_gapScore (l : Launch) (D : va_G) (cA : ClassId) (re t2 t1 t0 : Nat) (ga lo gp li es ep eq al la : Int) (f1 : Int → Int) (pp : Int) (hp : 0 ≤ pp ∧ pp < 49) (hb1 : ∀ t, 0 ≤ t → t < 49 → -1000000 ≤ f1 t ∧ f1 t ≤ 2000) : jR l YX2_gapScore (rmk 1 0 0 13) D cA [.ref re, .int (jI pp)] [(re, .inr (2, [.int (jI ga), .int (jI lo), .int (jI gp), .int (jI li), .ref t2, .ref t1, .ref t0, .int (jI es), .int (jI ep), .int (jI eq), .int (jI al), .int (jI la)])), (t1, .inl (cA, 49, .inl (jA f1)))] (fun v => v = .int (jI (gsc f1 gp pp))) := by
  refine jR.intro (by decide +kernel) (Nat.le_of_ble_eq_true rfl) ?_
  intro p e s m args below meth c ls Q F hQ hP hl
  have hx := F.1
  have hb := F.2.1
  have hl : lv_has ls 3 [(0, .ref re), (1, .int (jI pp))] := hl
  refine lv_aload_n hx hb dX2_gapScore_0 rfl (lv_at hl 0 rfl) ?_
  refine jv_get (v := .ref t1) F hP 0 rfl flX2_28 rfl dX2_gapScore_1 ?_
  refine lv_iload_n hx hb dX2_gapScore_4 rfl (lv_at hl 1 rfl) ?_
  refine jv_iald (fa := f1) F hP 1 rfl (by omega) (by decide) dX2_gapScore_5 ?_
  refine lv_istore_n (lv' := [(2, .int (jI (f1 pp))), (0, .ref re), (1, .int (jI pp))]) hx hb dX2_gapScore_6 rfl hl (by decide) rfl (fun ls hl => ?_)
  refine lv_iload_n hx hb dX2_gapScore_7 rfl (lv_at hl 2 rfl) ?_
  refine jv_if_le (tgt := 24) hx hb dX2_gapScore_8 rfl (by omega) (fun c8 => ?_) (fun c8 => ?_)
  · refine lv_iload_n hx hb dX2_gapScore_24 rfl (lv_at hl 0 rfl) ?_
    refine lv_aload_n hx hb dX2_gapScore_25 rfl (lv_at hl 1 rfl) ?_
    refine jv_get (v := .int (jI gp)) F hP 0 rfl flX2_18 rfl dX2_gapScore_26 ?_
    refine jv_isub hx hb dX2_gapScore_29 ?_
    exact jR.ri F hQ rfl dX2_gapScore_30 (by first | (rw [gsc_1 (by omega)]; done) | (rw [gsc_0 (by omega)]; done))
  · refine lv_iload_n hx hb dX2_gapScore_11 rfl (lv_at hl 0 rfl) ?_
    refine lv_aload_n hx hb dX2_gapScore_12 rfl (lv_at hl 1 rfl) ?_
    refine jv_get (v := .ref t1) F hP 0 rfl flX2_28 rfl dX2_gapScore_13 ?_
    refine lv_iload_n hx hb dX2_gapScore_16 rfl (lv_at hl 2 rfl) ?_
    refine lv_iconst (v := jI 1) hx hb dX2_gapScore_17 rfl ?_
    refine jv_isub hx hb dX2_gapScore_18 ?_
    refine jv_iald (fa := f1) F hP 1 rfl (by omega) (by decide) dX2_gapScore_19 ?_
    have hq0 := hb1 pp hp.1 hp.2
    have hq1 := hb1 (pp - 1) (by omega) (by omega)
    refine jv_mmax F wmX2_78 hl (by decide) (Nat.le_of_ble_eq_true rfl) ⟨by decide, by decide⟩ (by omega) (by omega) dX2_gapScore_20 ?_
    refine lv_istore_n (lv' := [(2, .int (jI (max (f1 pp) (f1 (pp - 1))))), (0, .ref re), (1, .int (jI pp))]) hx hb dX2_gapScore_23 rfl hl (by decide) rfl (fun ls hl => ?_)
    refine lv_iload_n hx hb dX2_gapScore_24 rfl (lv_at hl 0 rfl) ?_
    refine lv_aload_n hx hb dX2_gapScore_25 rfl (lv_at hl 1 rfl) ?_
    refine jv_get (v := .int (jI gp)) F hP 0 rfl flX2_18 rfl dX2_gapScore_26 ?_
    refine jv_isub hx hb dX2_gapScore_29 ?_
    exact jR.ri F hQ rfl dX2_gapScore_30 (by first | (rw [gsc_1 (by omega)]; done) | (rw [gsc_0 (by omega)]; done))
set_option maxHeartbeats 4000000 in
set_option maxRecDepth 100000 in
theorem kX2_keepAlive (l : Launch) (D : va_G) (cA : ClassId) (re t2 t1 t0 : Nat) (ga lo gp li : Int) (u : acc) (f0 : Int → Int) (pp d sc : Int) (hp : 0 ≤ pp ∧ pp < 49) (hsc : sc ≠ -1000000) (hs2 : -2000 ≤ sc ∧ sc ≤ 2000) (hu : -2000 ≤ u.1 ∧ u.1 ≤ 2000) : jM l YX2_keepAlive (rmk 0 0 0 0) D cA [.ref re, .int (jI pp), .int (jI (d - pp)), .int (jI sc)] [(re, .inr (2, [.int (jI ga), .int (jI lo), .int (jI gp), .int (jI li), .ref t2, .ref t1, .ref t0, .int (jI u.1), .int (jI u.2.1), .int (jI u.2.2.1), .int (jI u.2.2.2.1), .int (jI u.2.2.2.2)])), (t0, .inl (cA, 49, .inl (jA f0)))] (fun v w => v = none ∧ w = [(re, .inr (2, [.int (jI ga), .int (jI lo), .int (jI gp), .int (jI li), .ref t2, .ref t1, .ref t0, .int (jI ((acc1 sc d pp u).1)), .int (jI ((acc1 sc d pp u).2.1)), .int (jI ((acc1 sc d pp u).2.2.1)), .int (jI ((acc1 sc d pp u).2.2.2.1)), .int (jI ((acc1 sc d pp u).2.2.2.2))])), (t0, .inl (cA, 49, .inl (jA (jU f0 pp sc))))]) 0 0 := by
  refine jM.intro (by decide +kernel) (Nat.le_of_ble_eq_true rfl) ?_
  intro p e s m args below meth c ls Q A F hQ hA hP hD hS hl
  have hx := F.1
  have hb := F.2.1
  have hl : lv_has ls 4 [(0, .ref re), (1, .int (jI pp)), (2, .int (jI (d - pp))), (3, .int (jI sc))] := hl
  refine lv_aload_n hx hb dX2_keepAlive_0 rfl (lv_at hl 0 rfl) ?_
  refine jv_get (v := .ref t0) F hP 0 rfl flX2_31 rfl dX2_keepAlive_1 ?_
  refine lv_iload_n hx hb dX2_keepAlive_4 rfl (lv_at hl 1 rfl) ?_
  refine lv_iload_n hx hb dX2_keepAlive_5 rfl (lv_at hl 3 rfl) ?_
  refine jv_iast (fa := f0) F hP hD hS 1 rfl (by omega) (by decide) dX2_keepAlive_6 (fun H locs hP hD hS => ?_)
  have hP : va_P D cls [(re, .inr (2, [.int (jI ga), .int (jI lo), .int (jI gp), .int (jI li), .ref t2, .ref t1, .ref t0, .int (jI u.1), .int (jI u.2.1), .int (jI u.2.2.1), .int (jI u.2.2.2.1), .int (jI u.2.2.2.2)])), (t0, .inl (cA, 49, .inl (jA (jU f0 pp sc))))] H := hP
  have hD : va_D A [(re, .inr (2, [.int (jI ga), .int (jI lo), .int (jI gp), .int (jI li), .ref t2, .ref t1, .ref t0, .int (jI u.1), .int (jI u.2.1), .int (jI u.2.2.1), .int (jI u.2.2.2.1), .int (jI u.2.2.2.2)])), (t0, .inl (cA, 49, .inl (jA (jU f0 pp sc))))] := hD
  refine lv_aload_n hx hb dX2_keepAlive_7 rfl (lv_at hl 0 rfl) ?_
  refine lv_dup hx hb dX2_keepAlive_8 rfl ?_
  refine jv_get (v := .int (jI u.2.2.2.1)) F hP 0 rfl flX2_43 rfl dX2_keepAlive_9 ?_
  refine lv_iconst (v := jI 1) hx hb dX2_keepAlive_12 rfl ?_
  refine jv_iadd hx hb dX2_keepAlive_13 ?_
  refine jv_put (v := .int (jI (u.2.2.2.1 + 1))) F hP hD hS 0 rfl flX2_43 pfX2 (by decide +kernel) rfl rfl (Nat.le_of_ble_eq_true rfl) dX2_keepAlive_14 (fun H locs hP hD hS => ?_)
  have hP : va_P D cls [(re, .inr (2, [.int (jI ga), .int (jI lo), .int (jI gp), .int (jI li), .ref t2, .ref t1, .ref t0, .int (jI u.1), .int (jI u.2.1), .int (jI u.2.2.1), .int (jI (u.2.2.2.1 + 1)), .int (jI u.2.2.2.2)])), (t0, .inl (cA, 49, .inl (jA (jU f0 pp sc))))] H := hP
  have hD : va_D A [(re, .inr (2, [.int (jI ga), .int (jI lo), .int (jI gp), .int (jI li), .ref t2, .ref t1, .ref t0, .int (jI u.1), .int (jI u.2.1), .int (jI u.2.2.1), .int (jI (u.2.2.2.1 + 1)), .int (jI u.2.2.2.2)])), (t0, .inl (cA, 49, .inl (jA (jU f0 pp sc))))] := hD
  refine lv_aload_n hx hb dX2_keepAlive_17 rfl (lv_at hl 0 rfl) ?_
  refine lv_iload_n hx hb dX2_keepAlive_18 rfl (lv_at hl 1 rfl) ?_
  refine lv_iload_n hx hb dX2_keepAlive_19 rfl (lv_at hl 2 rfl) ?_
  refine jv_iadd hx hb dX2_keepAlive_20 ?_
  refine jv_put (v := .int (jI (pp + (d - pp)))) F hP hD hS 0 rfl flX2_46 pfX2 (by decide +kernel) rfl rfl (Nat.le_of_ble_eq_true rfl) dX2_keepAlive_21 (fun H locs hP hD hS => ?_)
  have hP : va_P D cls [(re, .inr (2, [.int (jI ga), .int (jI lo), .int (jI gp), .int (jI li), .ref t2, .ref t1, .ref t0, .int (jI u.1), .int (jI u.2.1), .int (jI u.2.2.1), .int (jI (u.2.2.2.1 + 1)), .int (jI (pp + (d - pp)))])), (t0, .inl (cA, 49, .inl (jA (jU f0 pp sc))))] H := hP
  have hD : va_D A [(re, .inr (2, [.int (jI ga), .int (jI lo), .int (jI gp), .int (jI li), .ref t2, .ref t1, .ref t0, .int (jI u.1), .int (jI u.2.1), .int (jI u.2.2.1), .int (jI (u.2.2.2.1 + 1)), .int (jI (pp + (d - pp)))])), (t0, .inl (cA, 49, .inl (jA (jU f0 pp sc))))] := hD
  refine lv_iload_n hx hb dX2_keepAlive_24 rfl (lv_at hl 3 rfl) ?_
  refine lv_aload_n hx hb dX2_keepAlive_25 rfl (lv_at hl 0 rfl) ?_
  refine jv_get (v := .int (jI u.1)) F hP 0 rfl flX2_34 rfl dX2_keepAlive_26 ?_
  refine jv_icmp_le (tgt := 47) hx hb dX2_keepAlive_29 rfl (by omega) (by omega) (fun c29 => ?_) (fun c29 => ?_)
  · exact jM.rv F hQ rfl dX2_keepAlive_47 hS hP hD (by first | (rw [acc1_hi hsc (by omega), show pp + (d - pp) = d by omega]; exact ⟨rfl, rfl⟩) | (rw [acc1_lo hsc (by omega), show pp + (d - pp) = d by omega]; exact ⟨rfl, rfl⟩))
  · refine lv_aload_n hx hb dX2_keepAlive_32 rfl (lv_at hl 0 rfl) ?_
    refine lv_iload_n hx hb dX2_keepAlive_33 rfl (lv_at hl 3 rfl) ?_
    refine jv_put (v := .int (jI sc)) F hP hD hS 0 rfl flX2_34 pfX2 (by decide +kernel) rfl rfl (Nat.le_of_ble_eq_true rfl) dX2_keepAlive_34 (fun H locs hP hD hS => ?_)
    have hP : va_P D cls [(re, .inr (2, [.int (jI ga), .int (jI lo), .int (jI gp), .int (jI li), .ref t2, .ref t1, .ref t0, .int (jI sc), .int (jI u.2.1), .int (jI u.2.2.1), .int (jI (u.2.2.2.1 + 1)), .int (jI (pp + (d - pp)))])), (t0, .inl (cA, 49, .inl (jA (jU f0 pp sc))))] H := hP
    have hD : va_D A [(re, .inr (2, [.int (jI ga), .int (jI lo), .int (jI gp), .int (jI li), .ref t2, .ref t1, .ref t0, .int (jI sc), .int (jI u.2.1), .int (jI u.2.2.1), .int (jI (u.2.2.2.1 + 1)), .int (jI (pp + (d - pp)))])), (t0, .inl (cA, 49, .inl (jA (jU f0 pp sc))))] := hD
    refine lv_aload_n hx hb dX2_keepAlive_37 rfl (lv_at hl 0 rfl) ?_
    refine lv_iload_n hx hb dX2_keepAlive_38 rfl (lv_at hl 1 rfl) ?_
    refine jv_put (v := .int (jI pp)) F hP hD hS 0 rfl flX2_37 pfX2 (by decide +kernel) rfl rfl (Nat.le_of_ble_eq_true rfl) dX2_keepAlive_39 (fun H locs hP hD hS => ?_)
    have hP : va_P D cls [(re, .inr (2, [.int (jI ga), .int (jI lo), .int (jI gp), .int (jI li), .ref t2, .ref t1, .ref t0, .int (jI sc), .int (jI pp), .int (jI u.2.2.1), .int (jI (u.2.2.2.1 + 1)), .int (jI (pp + (d - pp)))])), (t0, .inl (cA, 49, .inl (jA (jU f0 pp sc))))] H := hP
    have hD : va_D A [(re, .inr (2, [.int (jI ga), .int (jI lo), .int (jI gp), .int (jI li), .ref t2, .ref t1, .ref t0, .int (jI sc), .int (jI pp), .int (jI u.2.2.1), .int (jI (u.2.2.2.1 + 1)), .int (jI (pp + (d - pp)))])), (t0, .inl (cA, 49, .inl (jA (jU f0 pp sc))))] := hD
    refine lv_aload_n hx hb dX2_keepAlive_42 rfl (lv_at hl 0 rfl) ?_
    refine lv_iload_n hx hb dX2_keepAlive_43 rfl (lv_at hl 2 rfl) ?_
    refine jv_put (v := .int (jI (d - pp))) F hP hD hS 0 rfl flX2_40 pfX2 (by decide +kernel) rfl rfl (Nat.le_of_ble_eq_true rfl) dX2_keepAlive_44 (fun H locs hP hD hS => ?_)
    have hP : va_P D cls [(re, .inr (2, [.int (jI ga), .int (jI lo), .int (jI gp), .int (jI li), .ref t2, .ref t1, .ref t0, .int (jI sc), .int (jI pp), .int (jI (d - pp)), .int (jI (u.2.2.2.1 + 1)), .int (jI (pp + (d - pp)))])), (t0, .inl (cA, 49, .inl (jA (jU f0 pp sc))))] H := hP
    have hD : va_D A [(re, .inr (2, [.int (jI ga), .int (jI lo), .int (jI gp), .int (jI li), .ref t2, .ref t1, .ref t0, .int (jI sc), .int (jI pp), .int (jI (d - pp)), .int (jI (u.2.2.2.1 + 1)), .int (jI (pp + (d - pp)))])), (t0, .inl (cA, 49, .inl (jA (jU f0 pp sc))))] := hD
    exact jM.rv F hQ rfl dX2_keepAlive_47 hS hP hD (by first | (rw [acc1_hi hsc (by omega), show pp + (d - pp) = d by omega]; exact ⟨rfl, rfl⟩) | (rw [acc1_lo hsc (by omega), show pp + (d - pp) = d by omega]; exact ⟨rfl, rfl⟩))
set_option maxHeartbeats 4000000 in
set_option maxRecDepth 100000 in
theorem kX2_walkSlope (l : Launch) (D : va_G) (cA : ClassId) (re t2 t1 t0 : Nat) (ga lo gp li : Int) (u : acc) (f2 f1 f0 one two : Int → Int) (r0 a0 r1 a1 : Nat) (n0 n1 i j d : Int) (L0 L1 : Int → Int) (hn0 : 0 ≤ n0 ∧ n0 ≤ 48) (hn1 : 0 ≤ n1 ∧ n1 ≤ 48) (hL0 : ∀ x, 0 ≤ L0 x ∧ L0 x ≤ 3) (hL1 : ∀ x, 0 ≤ L1 x ∧ L1 x ≤ 3) (hi : 0 ≤ i ∧ i ≤ n0) (hj : 0 ≤ j ∧ j ≤ n1) (hga : 1 ≤ ga ∧ ga ≤ 9) (hlo : 0 ≤ lo ∧ lo ≤ 9) (hgp : 1 ≤ gp ∧ gp ≤ 9) (hli : 0 ≤ li ∧ li ≤ 99) (hd : 1 ≤ d ∧ d ≤ n0 - i + (n1 - j)) (h0 : ∀ t, 0 ≤ t → t < 49 → f0 t = -1000000) (h1 : ∀ t, 0 ≤ t → t < 49 → f1 t = one t) (h2 : 2 ≤ d → ∀ t, 0 ≤ t → t < 49 → f2 t = two t) (hs1 : ∀ x, one x = -1000000 ∨ (-99 ≤ one x ∧ one x ≤ 900)) (hs2 : ∀ x, two x = -1000000 ∨ (-99 ≤ two x ∧ two x ≤ 900)) (hu : 0 ≤ u.1 ∧ u.1 ≤ 900) : jM l YX2_walkSlope (rmk 2 0 0 35) D cA [.ref re, .ref r0, .int (jI i), .ref r1, .int (jI j), .int (jI d)] [(re, .inr (2, [.int (jI ga), .int (jI lo), .int (jI gp), .int (jI li), .ref t2, .ref t1, .ref t0, .int (jI u.1), .int (jI u.2.1), .int (jI u.2.2.1), .int (jI u.2.2.2.1), .int (jI u.2.2.2.2)])), (t2, .inl (cA, 49, .inl (jA f2))), (t1, .inl (cA, 49, .inl (jA f1))), (t0, .inl (cA, 49, .inl (jA f0))), (r0, .inr (1, [.ref a0, .int (jI n0)])), (a0, .inl (cA, 48, .inl (jA L0))), (r1, .inr (1, [.ref a1, .int (jI n1)])), (a1, .inl (cA, 48, .inl (jA L1)))] (fun v w => v = none ∧ ∃ f9 : Int → Int, (∀ t, 0 ≤ t → t < 49 → f9 t = (nx (smv L0 L1 i j ga lo) (n0 - i) (n1 - j) gp li d u.1 one two) t) ∧ w = [(re, .inr (2, [.int (jI ga), .int (jI lo), .int (jI gp), .int (jI li), .ref t2, .ref t1, .ref t0, .int (jI ((rA (nx (smv L0 L1 i j ga lo) (n0 - i) (n1 - j) gp li d u.1 one two) d u (d + 1)).1)), .int (jI ((rA (nx (smv L0 L1 i j ga lo) (n0 - i) (n1 - j) gp li d u.1 one two) d u (d + 1)).2.1)), .int (jI ((rA (nx (smv L0 L1 i j ga lo) (n0 - i) (n1 - j) gp li d u.1 one two) d u (d + 1)).2.2.1)), .int (jI ((rA (nx (smv L0 L1 i j ga lo) (n0 - i) (n1 - j) gp li d u.1 one two) d u (d + 1)).2.2.2.1)), .int (jI ((rA (nx (smv L0 L1 i j ga lo) (n0 - i) (n1 - j) gp li d u.1 one two) d u (d + 1)).2.2.2.2))])), (t2, .inl (cA, 49, .inl (jA f2))), (t1, .inl (cA, 49, .inl (jA f1))), (t0, .inl (cA, 49, .inl (jA f9))), (r0, .inr (1, [.ref a0, .int (jI n0)])), (a0, .inl (cA, 48, .inl (jA L0))), (r1, .inr (1, [.ref a1, .int (jI n1)])), (a1, .inl (cA, 48, .inl (jA L1)))]) 0 0 := by
  refine jM.intro (by decide +kernel) (Nat.le_of_ble_eq_true rfl) ?_
  intro p e s m args below meth c ls Q A F hQ hA hP hD hS hl
  have hx := F.1
  have hb := F.2.1
  have hl : lv_has ls 12 [(0, .ref re), (1, .ref r0), (2, .int (jI i)), (3, .ref r1), (4, .int (jI j)), (5, .int (jI d))] := hl
  refine lv_aload_n hx hb dX2_walkSlope_0 rfl (lv_at hl 0 rfl) ?_
  refine jv_get (v := .int (jI u.1)) F hP 0 rfl flX2_34 rfl dX2_walkSlope_1 ?_
  refine lv_aload_n hx hb dX2_walkSlope_4 rfl (lv_at hl 0 rfl) ?_
  refine jv_get (v := .int (jI li)) F hP 0 rfl flX2_21 rfl dX2_walkSlope_5 ?_
  refine jv_isub hx hb dX2_walkSlope_8 ?_
  refine lv_istore (lv' := [(6, .int (jI (u.1 - li))), (0, .ref re), (1, .ref r0), (2, .int (jI i)), (3, .ref r1), (4, .int (jI j)), (5, .int (jI d))]) hx hb dX2_walkSlope_9 hl (by decide) rfl (fun ls hl => ?_)
  refine lv_iload hx hb dX2_walkSlope_11 (lv_at hl 6 rfl) ?_
  refine lv_aload_n hx hb dX2_walkSlope_13 rfl (lv_at hl 2 rfl) ?_
  refine jr_V F (kX1_size l D cA r0 a0 n0 L0) cvX2_52 hP [4, 5] rfl 4 rfl rfl hl ⟨rfl, rfl, by decide, by decide⟩ rfl rfl (Nat.le_of_ble_eq_true rfl) dX2_walkSlope_14 ⟨by decide, by decide⟩ (fun v hv => ?_)
  subst hv
  refine lv_iload_n hx hb dX2_walkSlope_17 rfl (lv_at hl 3 rfl) ?_
  refine jv_isub hx hb dX2_walkSlope_18 ?_
  refine jv_mmin F wmX2_72 hl (by decide) (Nat.le_of_ble_eq_true rfl) ⟨by decide, by decide⟩ (by omega) (by omega) dX2_walkSlope_19 ?_
  refine lv_istore (lv' := [(7, .int (jI (min d (n0 - i)))), (6, .int (jI (u.1 - li))), (0, .ref re), (1, .ref r0), (2, .int (jI i)), (3, .ref r1), (4, .int (jI j)), (5, .int (jI d))]) hx hb dX2_walkSlope_22 hl (by decide) rfl (fun ls hl => ?_)
  refine lv_iconst (v := jI 0) hx hb dX2_walkSlope_24 rfl ?_
  refine lv_iload hx hb dX2_walkSlope_25 (lv_at hl 7 rfl) ?_
  refine lv_aload_n hx hb dX2_walkSlope_27 rfl (lv_at hl 5 rfl) ?_
  refine jr_V F (kX1_size l D cA r1 a1 n1 L1) cvX2_52 hP [6, 7] rfl 6 rfl rfl hl ⟨rfl, rfl, by decide, by decide⟩ rfl rfl (Nat.le_of_ble_eq_true rfl) dX2_walkSlope_28 ⟨by decide, by decide⟩ (fun v hv => ?_)
  subst hv
  refine lv_iload hx hb dX2_walkSlope_31 (lv_at hl 6 rfl) ?_
  refine jv_isub hx hb dX2_walkSlope_33 ?_
  refine jv_isub hx hb dX2_walkSlope_34 ?_
  refine jv_mmax F wmX2_78 hl (by decide) (Nat.le_of_ble_eq_true rfl) ⟨by decide, by decide⟩ (by omega) (by omega) dX2_walkSlope_35 ?_
  refine lv_istore (lv' := [(8, .int (jI (max 0 (d - (n1 - j))))), (7, .int (jI (min d (n0 - i)))), (6, .int (jI (u.1 - li))), (0, .ref re), (1, .ref r0), (2, .int (jI i)), (3, .ref r1), (4, .int (jI j)), (5, .int (jI d))]) hx hb dX2_walkSlope_38 hl (by decide) rfl (fun ls hl => ?_)
  have lp40 : ∀ (fu : Nat) (pp : Int) (w0 : acc) (g0 : Int → Int) (ls : Array Slot) (H : Heap) (locs : List Loc), min d (n0 - i) + 1 - pp < (fu : Int) → (max 0 (d - (n1 - j)) ≤ pp ∧ pp ≤ min d (n0 - i) + 1) → (w0 = rA (nx (smv L0 L1 i j ga lo) (n0 - i) (n1 - j) gp li d u.1 one two) d u pp) → (∀ t, 0 ≤ t → t < 49 → g0 t = if t < pp then (nx (smv L0 L1 i j ga lo) (n0 - i) (n1 - j) gp li d u.1 one two) t else -1000000) → (0 ≤ w0.1 ∧ w0.1 ≤ 2000) → lv_has ls 12 [(8, .int (jI pp)), (7, .int (jI (min d (n0 - i)))), (6, .int (jI (u.1 - li))), (0, .ref re), (1, .ref r0), (2, .int (jI i)), (3, .ref r1), (4, .int (jI j)), (5, .int (jI d))] → va_P D cls [(re, .inr (2, [.int (jI ga), .int (jI lo), .int (jI gp), .int (jI li), .ref t2, .ref t1, .ref t0, .int (jI w0.1), .int (jI w0.2.1), .int (jI w0.2.2.1), .int (jI w0.2.2.2.1), .int (jI w0.2.2.2.2)])), (t2, .inl (cA, 49, .inl (jA f2))), (t1, .inl (cA, 49, .inl (jA f1))), (t0, .inl (cA, 49, .inl (jA g0))), (r0, .inr (1, [.ref a0, .int (jI n0)])), (a0, .inl (cA, 48, .inl (jA L0))), (r1, .inr (1, [.ref a1, .int (jI n1)])), (a1, .inl (cA, 48, .inl (jA L1)))] H → va_D A [(re, .inr (2, [.int (jI ga), .int (jI lo), .int (jI gp), .int (jI li), .ref t2, .ref t1, .ref t0, .int (jI w0.1), .int (jI w0.2.1), .int (jI w0.2.2.1), .int (jI w0.2.2.2.1), .int (jI w0.2.2.2.2)])), (t2, .inl (cA, 49, .inl (jA f2))), (t1, .inl (cA, 49, .inl (jA f1))), (t0, .inl (cA, 49, .inl (jA g0))), (r0, .inr (1, [.ref a0, .int (jI n0)])), (a0, .inl (cA, 48, .inl (jA L0))), (r1, .inr (1, [.ref a1, .int (jI n1)])), (a1, .inl (cA, 48, .inl (jA L1)))] → va_S A s.heap H locs → W p l e (rmk 2 0 0 35) s m args below meth c H locs 0 0 Q (F0 m 40 ls []) := by
    intro fu
    induction fu with
    | zero => intro pp w0 g0 ls H locs hfu hp hw hg0 hwb hl hP hD hS; exfalso; omega
    | succ fu ih40 =>
      intro pp w0 g0 ls H locs hfu hp hw hg0 hwb hl hP hD hS
      refine lv_iload hx hb dX2_walkSlope_40 (lv_at hl 0 rfl) ?_
      refine lv_iload hx hb dX2_walkSlope_42 (lv_at hl 1 rfl) ?_
      refine jv_icmp_gt (tgt := 160) hx hb dX2_walkSlope_44 rfl (by omega) (by omega) (fun c44 => ?_) (fun c44 => ?_)
      · exact jM.rv F hQ rfl dX2_walkSlope_160 hS hP hD (by exact ⟨rfl, g0, fun t t0 t1 => by rw [hg0 t t0 t1]; by_cases e : t < pp; (rw [if_pos e]); (rw [if_neg e, nx_out (by omega)]), by rw [hw, rA_skip2 (p := pp) (q := d + 1) (by omega) (by omega) (fun x x0 x1 => nx_out (by omega))]⟩)
      · refine lv_iload hx hb dX2_walkSlope_47 (lv_at hl 8 rfl) ?_
        refine lv_iload hx hb dX2_walkSlope_49 (lv_at hl 0 rfl) ?_
        refine jv_isub hx hb dX2_walkSlope_51 ?_
        refine lv_istore (lv' := [(9, .int (jI (d - pp))), (8, .int (jI pp)), (7, .int (jI (min d (n0 - i)))), (6, .int (jI (u.1 - li))), (0, .ref re), (1, .ref r0), (2, .int (jI i)), (3, .ref r1), (4, .int (jI j)), (5, .int (jI d))]) hx hb dX2_walkSlope_52 hl (by decide) rfl (fun ls hl => ?_)
        refine lv_aload_n hx hb dX2_walkSlope_54 rfl (lv_at hl 4 rfl) ?_
        refine lv_iload hx hb dX2_walkSlope_55 (lv_at hl 1 rfl) ?_
        refine jr_V F (kX2_gapScore l D cA re t2 t1 t0 ga lo gp li w0.1 w0.2.1 w0.2.2.1 w0.2.2.2.1 w0.2.2.2.2 f1 pp (by omega) (fun t h5 h6 => by have := h1 t h5 h6; have := hs1 t; omega)) cvX2_81 hP [0, 2] rfl 0 rfl rfl hl ⟨rfl, rfl, by decide, by decide⟩ rfl rfl (Nat.le_of_ble_eq_true rfl) dX2_walkSlope_57 ⟨by decide, by decide⟩ (fun v hv => ?_)
        subst hv
        refine lv_istore (lv' := [(10, .int (jI (gsc f1 gp pp))), (9, .int (jI (d - pp))), (8, .int (jI pp)), (7, .int (jI (min d (n0 - i)))), (6, .int (jI (u.1 - li))), (0, .ref re), (1, .ref r0), (2, .int (jI i)), (3, .ref r1), (4, .int (jI j)), (5, .int (jI d))]) hx hb dX2_walkSlope_60 hl (by decide) rfl (fun ls hl => ?_)
        refine lv_iload hx hb dX2_walkSlope_62 (lv_at hl 2 rfl) ?_
        refine jv_if_le (tgt := 137) hx hb dX2_walkSlope_64 rfl (by omega) (fun c64 => ?_) (fun c64 => ?_)
        · have hraw : gsc f1 gp pp = rawC (smv L0 L1 i j ga lo) gp one two pp (d - pp) := by
            have o0 := h1 pp (by omega) (by omega)
            by_cases p0 : 0 < pp
            · have o1 := h1 (pp - 1) (by omega) (by omega)
              rw [gsc_1 p0, rawC, if_pos p0, if_neg (by omega), o0, o1]
            · rw [gsc_0 p0, rawC, if_neg p0, o0]
          have hrb := raw_b (sm := smv L0 L1 i j ga lo) (smv_b hga hlo) hgp (hs1 pp) (hs1 (pp - 1)) (hs2 (pp - 1)) (d := d) (q := d - pp)
          rw [← hraw] at hrb
          refine lv_iload hx hb dX2_walkSlope_137 (lv_at hl 0 rfl) ?_
          refine lv_iload hx hb dX2_walkSlope_139 (lv_at hl 4 rfl) ?_
          refine jv_icmp_lt (tgt := 154) hx hb dX2_walkSlope_141 rfl (by omega) (by omega) (fun c141 => ?_) (fun c141 => ?_)
          · refine lv_iinc (k := 2) (v := jI (pp + 1)) (lv' := [(8, .int (jI (pp + 1))), (10, .int (jI (gsc f1 gp pp))), (9, .int (jI (d - pp))), (7, .int (jI (min d (n0 - i)))), (6, .int (jI (u.1 - li))), (0, .ref re), (1, .ref r0), (2, .int (jI i)), (3, .ref r1), (4, .int (jI j)), (5, .int (jI d))]) hx hb dX2_walkSlope_154 hl rfl (jI_add _ _) (by decide) rfl (fun ls hl => ?_)
            refine lv_goto (tgt := 40) hx hb dX2_walkSlope_157 rfl ?_
            refine ih40 (pp + 1) w0 g0 ls H locs (by omega) ?_ ?_ ?_ ?_ (lv_sub hl [0, 3, 4, 5, 6, 7, 8, 9, 10] rfl) hP hD hS
            · omega
            · first
                | (rw [rA_s (by omega), acc1_dead (nx_lo (by omega))]; exact hw)
                | (rw [rA_s (by omega), ← hw, nx_in (by omega) (by omega), ← hraw])
            · intro t t0 t1
              by_cases e : t = pp
              · first
                  | (rw [e, jU_s, if_pos (by omega), nx_in (by omega) (by omega)]; exact hraw)
                  | (rw [e, if_pos (by omega), nx_lo (by omega), hg0 pp (by omega) (by omega), if_neg (by omega)])
              · first
                  | rw [jU_n e, hg0 t t0 t1]
                  | rw [hg0 t t0 t1]
                by_cases e2 : t < pp
                · rw [if_pos e2, if_pos (by omega)]
                · rw [if_neg e2, if_neg (by omega)]
            · first
                | exact hwb
                | exact acc1_b (by omega) (by omega) hwb
          · refine lv_aload_n hx hb dX2_walkSlope_144 rfl (lv_at hl 5 rfl) ?_
            refine lv_iload hx hb dX2_walkSlope_145 (lv_at hl 2 rfl) ?_
            refine lv_iload hx hb dX2_walkSlope_147 (lv_at hl 1 rfl) ?_
            refine lv_iload hx hb dX2_walkSlope_149 (lv_at hl 0 rfl) ?_
            refine jw_V (wr := [(t2, .inl (cA, 49, .inl (jA f2))), (t1, .inl (cA, 49, .inl (jA f1))), (r0, .inr (1, [.ref a0, .int (jI n0)])), (a0, .inl (cA, 48, .inl (jA L0))), (r1, .inr (1, [.ref a1, .int (jI n1)])), (a1, .inl (cA, 48, .inl (jA L1)))]) F (kX2_keepAlive l D cA re t2 t1 t0 ga lo gp li w0 g0 pp d (gsc f1 gp pp) (by omega) (by omega) (by omega) (by omega)) cvX2_88 hP hD hS hA [0, 3] [1, 2, 4, 5, 6, 7] rfl rfl (by decide) (by decide) 0 rfl rfl hl ⟨rfl, rfl, by decide, by decide⟩ rfl rfl (Nat.le_of_ble_eq_true rfl) dX2_walkSlope_151 ⟨by decide, by decide⟩ (by decide) (fun v w1 H locs hw hP hD hS => ?_)
            obtain ⟨rfl, rfl⟩ := hw
            have hP : va_P D cls [(t2, .inl (cA, 49, .inl (jA f2))), (t1, .inl (cA, 49, .inl (jA f1))), (r0, .inr (1, [.ref a0, .int (jI n0)])), (a0, .inl (cA, 48, .inl (jA L0))), (r1, .inr (1, [.ref a1, .int (jI n1)])), (a1, .inl (cA, 48, .inl (jA L1))), (re, .inr (2, [.int (jI ga), .int (jI lo), .int (jI gp), .int (jI li), .ref t2, .ref t1, .ref t0, .int (jI ((acc1 (gsc f1 gp pp) d pp w0).1)), .int (jI ((acc1 (gsc f1 gp pp) d pp w0).2.1)), .int (jI ((acc1 (gsc f1 gp pp) d pp w0).2.2.1)), .int (jI ((acc1 (gsc f1 gp pp) d pp w0).2.2.2.1)), .int (jI ((acc1 (gsc f1 gp pp) d pp w0).2.2.2.2))])), (t0, .inl (cA, 49, .inl (jA (jU g0 pp (gsc f1 gp pp)))))] H := hP
            have hD : va_D A [(t2, .inl (cA, 49, .inl (jA f2))), (t1, .inl (cA, 49, .inl (jA f1))), (r0, .inr (1, [.ref a0, .int (jI n0)])), (a0, .inl (cA, 48, .inl (jA L0))), (r1, .inr (1, [.ref a1, .int (jI n1)])), (a1, .inl (cA, 48, .inl (jA L1))), (re, .inr (2, [.int (jI ga), .int (jI lo), .int (jI gp), .int (jI li), .ref t2, .ref t1, .ref t0, .int (jI ((acc1 (gsc f1 gp pp) d pp w0).1)), .int (jI ((acc1 (gsc f1 gp pp) d pp w0).2.1)), .int (jI ((acc1 (gsc f1 gp pp) d pp w0).2.2.1)), .int (jI ((acc1 (gsc f1 gp pp) d pp w0).2.2.2.1)), .int (jI ((acc1 (gsc f1 gp pp) d pp w0).2.2.2.2))])), (t0, .inl (cA, 49, .inl (jA (jU g0 pp (gsc f1 gp pp)))))] := hD
            refine W.eq (g2 := F0 m 154 ls []) rfl ?_
            refine lv_iinc (k := 2) (v := jI (pp + 1)) (lv' := [(8, .int (jI (pp + 1))), (10, .int (jI (gsc f1 gp pp))), (9, .int (jI (d - pp))), (7, .int (jI (min d (n0 - i)))), (6, .int (jI (u.1 - li))), (0, .ref re), (1, .ref r0), (2, .int (jI i)), (3, .ref r1), (4, .int (jI j)), (5, .int (jI d))]) hx hb dX2_walkSlope_154 hl rfl (jI_add _ _) (by decide) rfl (fun ls hl => ?_)
            refine lv_goto (tgt := 40) hx hb dX2_walkSlope_157 rfl ?_
            refine ih40 (pp + 1) (acc1 (gsc f1 gp pp) d pp w0) (jU g0 pp (gsc f1 gp pp)) ls H locs (by omega) ?_ ?_ ?_ ?_ (lv_sub hl [0, 3, 4, 5, 6, 7, 8, 9, 10] rfl) (hP.sub (ws' := [(re, .inr (2, [.int (jI ga), .int (jI lo), .int (jI gp), .int (jI li), .ref t2, .ref t1, .ref t0, .int (jI ((acc1 (gsc f1 gp pp) d pp w0).1)), .int (jI ((acc1 (gsc f1 gp pp) d pp w0).2.1)), .int (jI ((acc1 (gsc f1 gp pp) d pp w0).2.2.1)), .int (jI ((acc1 (gsc f1 gp pp) d pp w0).2.2.2.1)), .int (jI ((acc1 (gsc f1 gp pp) d pp w0).2.2.2.2))])), (t2, .inl (cA, 49, .inl (jA f2))), (t1, .inl (cA, 49, .inl (jA f1))), (t0, .inl (cA, 49, .inl (jA (jU g0 pp (gsc f1 gp pp))))), (r0, .inr (1, [.ref a0, .int (jI n0)])), (a0, .inl (cA, 48, .inl (jA L0))), (r1, .inr (1, [.ref a1, .int (jI n1)])), (a1, .inl (cA, 48, .inl (jA L1)))]) [6, 0, 1, 7, 2, 3, 4, 5] rfl) (hD.sub (ws' := [(re, .inr (2, [.int (jI ga), .int (jI lo), .int (jI gp), .int (jI li), .ref t2, .ref t1, .ref t0, .int (jI ((acc1 (gsc f1 gp pp) d pp w0).1)), .int (jI ((acc1 (gsc f1 gp pp) d pp w0).2.1)), .int (jI ((acc1 (gsc f1 gp pp) d pp w0).2.2.1)), .int (jI ((acc1 (gsc f1 gp pp) d pp w0).2.2.2.1)), .int (jI ((acc1 (gsc f1 gp pp) d pp w0).2.2.2.2))])), (t2, .inl (cA, 49, .inl (jA f2))), (t1, .inl (cA, 49, .inl (jA f1))), (t0, .inl (cA, 49, .inl (jA (jU g0 pp (gsc f1 gp pp))))), (r0, .inr (1, [.ref a0, .int (jI n0)])), (a0, .inl (cA, 48, .inl (jA L0))), (r1, .inr (1, [.ref a1, .int (jI n1)])), (a1, .inl (cA, 48, .inl (jA L1)))]) [6, 0, 1, 7, 2, 3, 4, 5] (by decide) rfl) hS
            · omega
            · first
                | (rw [rA_s (by omega), acc1_dead (nx_lo (by omega))]; exact hw)
                | (rw [rA_s (by omega), ← hw, nx_in (by omega) (by omega), ← hraw])
            · intro t t0 t1
              by_cases e : t = pp
              · first
                  | (rw [e, jU_s, if_pos (by omega), nx_in (by omega) (by omega)]; exact hraw)
                  | (rw [e, if_pos (by omega), nx_lo (by omega), hg0 pp (by omega) (by omega), if_neg (by omega)])
              · first
                  | rw [jU_n e, hg0 t t0 t1]
                  | rw [hg0 t t0 t1]
                by_cases e2 : t < pp
                · rw [if_pos e2, if_pos (by omega)]
                · rw [if_neg e2, if_neg (by omega)]
            · first
                | exact hwb
                | exact acc1_b (by omega) (by omega) hwb
        · refine lv_iload hx hb dX2_walkSlope_67 (lv_at hl 1 rfl) ?_
          refine jv_if_le (tgt := 137) hx hb dX2_walkSlope_69 rfl (by omega) (fun c69 => ?_) (fun c69 => ?_)
          · have hraw : gsc f1 gp pp = rawC (smv L0 L1 i j ga lo) gp one two pp (d - pp) := by
              have o0 := h1 pp (by omega) (by omega)
              by_cases p0 : 0 < pp
              · have o1 := h1 (pp - 1) (by omega) (by omega)
                rw [gsc_1 p0, rawC, if_pos p0, if_neg (by omega), o0, o1]
              · rw [gsc_0 p0, rawC, if_neg p0, o0]
            have hrb := raw_b (sm := smv L0 L1 i j ga lo) (smv_b hga hlo) hgp (hs1 pp) (hs1 (pp - 1)) (hs2 (pp - 1)) (d := d) (q := d - pp)
            rw [← hraw] at hrb
            refine lv_iload hx hb dX2_walkSlope_137 (lv_at hl 0 rfl) ?_
            refine lv_iload hx hb dX2_walkSlope_139 (lv_at hl 4 rfl) ?_
            refine jv_icmp_lt (tgt := 154) hx hb dX2_walkSlope_141 rfl (by omega) (by omega) (fun c141 => ?_) (fun c141 => ?_)
            · refine lv_iinc (k := 2) (v := jI (pp + 1)) (lv' := [(8, .int (jI (pp + 1))), (10, .int (jI (gsc f1 gp pp))), (9, .int (jI (d - pp))), (7, .int (jI (min d (n0 - i)))), (6, .int (jI (u.1 - li))), (0, .ref re), (1, .ref r0), (2, .int (jI i)), (3, .ref r1), (4, .int (jI j)), (5, .int (jI d))]) hx hb dX2_walkSlope_154 hl rfl (jI_add _ _) (by decide) rfl (fun ls hl => ?_)
              refine lv_goto (tgt := 40) hx hb dX2_walkSlope_157 rfl ?_
              refine ih40 (pp + 1) w0 g0 ls H locs (by omega) ?_ ?_ ?_ ?_ (lv_sub hl [0, 3, 4, 5, 6, 7, 8, 9, 10] rfl) hP hD hS
              · omega
              · first
                  | (rw [rA_s (by omega), acc1_dead (nx_lo (by omega))]; exact hw)
                  | (rw [rA_s (by omega), ← hw, nx_in (by omega) (by omega), ← hraw])
              · intro t t0 t1
                by_cases e : t = pp
                · first
                    | (rw [e, jU_s, if_pos (by omega), nx_in (by omega) (by omega)]; exact hraw)
                    | (rw [e, if_pos (by omega), nx_lo (by omega), hg0 pp (by omega) (by omega), if_neg (by omega)])
                · first
                    | rw [jU_n e, hg0 t t0 t1]
                    | rw [hg0 t t0 t1]
                  by_cases e2 : t < pp
                  · rw [if_pos e2, if_pos (by omega)]
                  · rw [if_neg e2, if_neg (by omega)]
              · first
                  | exact hwb
                  | exact acc1_b (by omega) (by omega) hwb
            · refine lv_aload_n hx hb dX2_walkSlope_144 rfl (lv_at hl 5 rfl) ?_
              refine lv_iload hx hb dX2_walkSlope_145 (lv_at hl 2 rfl) ?_
              refine lv_iload hx hb dX2_walkSlope_147 (lv_at hl 1 rfl) ?_
              refine lv_iload hx hb dX2_walkSlope_149 (lv_at hl 0 rfl) ?_
              refine jw_V (wr := [(t2, .inl (cA, 49, .inl (jA f2))), (t1, .inl (cA, 49, .inl (jA f1))), (r0, .inr (1, [.ref a0, .int (jI n0)])), (a0, .inl (cA, 48, .inl (jA L0))), (r1, .inr (1, [.ref a1, .int (jI n1)])), (a1, .inl (cA, 48, .inl (jA L1)))]) F (kX2_keepAlive l D cA re t2 t1 t0 ga lo gp li w0 g0 pp d (gsc f1 gp pp) (by omega) (by omega) (by omega) (by omega)) cvX2_88 hP hD hS hA [0, 3] [1, 2, 4, 5, 6, 7] rfl rfl (by decide) (by decide) 0 rfl rfl hl ⟨rfl, rfl, by decide, by decide⟩ rfl rfl (Nat.le_of_ble_eq_true rfl) dX2_walkSlope_151 ⟨by decide, by decide⟩ (by decide) (fun v w1 H locs hw hP hD hS => ?_)
              obtain ⟨rfl, rfl⟩ := hw
              have hP : va_P D cls [(t2, .inl (cA, 49, .inl (jA f2))), (t1, .inl (cA, 49, .inl (jA f1))), (r0, .inr (1, [.ref a0, .int (jI n0)])), (a0, .inl (cA, 48, .inl (jA L0))), (r1, .inr (1, [.ref a1, .int (jI n1)])), (a1, .inl (cA, 48, .inl (jA L1))), (re, .inr (2, [.int (jI ga), .int (jI lo), .int (jI gp), .int (jI li), .ref t2, .ref t1, .ref t0, .int (jI ((acc1 (gsc f1 gp pp) d pp w0).1)), .int (jI ((acc1 (gsc f1 gp pp) d pp w0).2.1)), .int (jI ((acc1 (gsc f1 gp pp) d pp w0).2.2.1)), .int (jI ((acc1 (gsc f1 gp pp) d pp w0).2.2.2.1)), .int (jI ((acc1 (gsc f1 gp pp) d pp w0).2.2.2.2))])), (t0, .inl (cA, 49, .inl (jA (jU g0 pp (gsc f1 gp pp)))))] H := hP
              have hD : va_D A [(t2, .inl (cA, 49, .inl (jA f2))), (t1, .inl (cA, 49, .inl (jA f1))), (r0, .inr (1, [.ref a0, .int (jI n0)])), (a0, .inl (cA, 48, .inl (jA L0))), (r1, .inr (1, [.ref a1, .int (jI n1)])), (a1, .inl (cA, 48, .inl (jA L1))), (re, .inr (2, [.int (jI ga), .int (jI lo), .int (jI gp), .int (jI li), .ref t2, .ref t1, .ref t0, .int (jI ((acc1 (gsc f1 gp pp) d pp w0).1)), .int (jI ((acc1 (gsc f1 gp pp) d pp w0).2.1)), .int (jI ((acc1 (gsc f1 gp pp) d pp w0).2.2.1)), .int (jI ((acc1 (gsc f1 gp pp) d pp w0).2.2.2.1)), .int (jI ((acc1 (gsc f1 gp pp) d pp w0).2.2.2.2))])), (t0, .inl (cA, 49, .inl (jA (jU g0 pp (gsc f1 gp pp)))))] := hD
              refine W.eq (g2 := F0 m 154 ls []) rfl ?_
              refine lv_iinc (k := 2) (v := jI (pp + 1)) (lv' := [(8, .int (jI (pp + 1))), (10, .int (jI (gsc f1 gp pp))), (9, .int (jI (d - pp))), (7, .int (jI (min d (n0 - i)))), (6, .int (jI (u.1 - li))), (0, .ref re), (1, .ref r0), (2, .int (jI i)), (3, .ref r1), (4, .int (jI j)), (5, .int (jI d))]) hx hb dX2_walkSlope_154 hl rfl (jI_add _ _) (by decide) rfl (fun ls hl => ?_)
              refine lv_goto (tgt := 40) hx hb dX2_walkSlope_157 rfl ?_
              refine ih40 (pp + 1) (acc1 (gsc f1 gp pp) d pp w0) (jU g0 pp (gsc f1 gp pp)) ls H locs (by omega) ?_ ?_ ?_ ?_ (lv_sub hl [0, 3, 4, 5, 6, 7, 8, 9, 10] rfl) (hP.sub (ws' := [(re, .inr (2, [.int (jI ga), .int (jI lo), .int (jI gp), .int (jI li), .ref t2, .ref t1, .ref t0, .int (jI ((acc1 (gsc f1 gp pp) d pp w0).1)), .int (jI ((acc1 (gsc f1 gp pp) d pp w0).2.1)), .int (jI ((acc1 (gsc f1 gp pp) d pp w0).2.2.1)), .int (jI ((acc1 (gsc f1 gp pp) d pp w0).2.2.2.1)), .int (jI ((acc1 (gsc f1 gp pp) d pp w0).2.2.2.2))])), (t2, .inl (cA, 49, .inl (jA f2))), (t1, .inl (cA, 49, .inl (jA f1))), (t0, .inl (cA, 49, .inl (jA (jU g0 pp (gsc f1 gp pp))))), (r0, .inr (1, [.ref a0, .int (jI n0)])), (a0, .inl (cA, 48, .inl (jA L0))), (r1, .inr (1, [.ref a1, .int (jI n1)])), (a1, .inl (cA, 48, .inl (jA L1)))]) [6, 0, 1, 7, 2, 3, 4, 5] rfl) (hD.sub (ws' := [(re, .inr (2, [.int (jI ga), .int (jI lo), .int (jI gp), .int (jI li), .ref t2, .ref t1, .ref t0, .int (jI ((acc1 (gsc f1 gp pp) d pp w0).1)), .int (jI ((acc1 (gsc f1 gp pp) d pp w0).2.1)), .int (jI ((acc1 (gsc f1 gp pp) d pp w0).2.2.1)), .int (jI ((acc1 (gsc f1 gp pp) d pp w0).2.2.2.1)), .int (jI ((acc1 (gsc f1 gp pp) d pp w0).2.2.2.2))])), (t2, .inl (cA, 49, .inl (jA f2))), (t1, .inl (cA, 49, .inl (jA f1))), (t0, .inl (cA, 49, .inl (jA (jU g0 pp (gsc f1 gp pp))))), (r0, .inr (1, [.ref a0, .int (jI n0)])), (a0, .inl (cA, 48, .inl (jA L0))), (r1, .inr (1, [.ref a1, .int (jI n1)])), (a1, .inl (cA, 48, .inl (jA L1)))]) [6, 0, 1, 7, 2, 3, 4, 5] (by decide) rfl) hS
              · omega
              · first
                  | (rw [rA_s (by omega), acc1_dead (nx_lo (by omega))]; exact hw)
                  | (rw [rA_s (by omega), ← hw, nx_in (by omega) (by omega), ← hraw])
              · intro t t0 t1
                by_cases e : t = pp
                · first
                    | (rw [e, jU_s, if_pos (by omega), nx_in (by omega) (by omega)]; exact hraw)
                    | (rw [e, if_pos (by omega), nx_lo (by omega), hg0 pp (by omega) (by omega), if_neg (by omega)])
                · first
                    | rw [jU_n e, hg0 t t0 t1]
                    | rw [hg0 t t0 t1]
                  by_cases e2 : t < pp
                  · rw [if_pos e2, if_pos (by omega)]
                  · rw [if_neg e2, if_neg (by omega)]
              · first
                  | exact hwb
                  | exact acc1_b (by omega) (by omega) hwb
          · refine lv_aload_n hx hb dX2_walkSlope_72 rfl (lv_at hl 6 rfl) ?_
            refine lv_iload_n hx hb dX2_walkSlope_73 rfl (lv_at hl 7 rfl) ?_
            refine lv_iload hx hb dX2_walkSlope_74 (lv_at hl 2 rfl) ?_
            refine jv_iadd hx hb dX2_walkSlope_76 ?_
            refine lv_iconst (v := jI 1) hx hb dX2_walkSlope_77 rfl ?_
            refine jv_isub hx hb dX2_walkSlope_78 ?_
            refine jr_V F (kX1_at l D cA r0 a0 n0 L0 ((i + pp) - 1) (by omega) (by omega)) cvX2_85 hP [4, 5] rfl 4 rfl rfl hl ⟨rfl, rfl, by decide, by decide⟩ rfl rfl (Nat.le_of_ble_eq_true rfl) dX2_walkSlope_79 ⟨by decide, by decide⟩ (fun v hv => ?_)
            subst hv
            refine lv_aload_n hx hb dX2_walkSlope_82 rfl (lv_at hl 8 rfl) ?_
            refine lv_iload hx hb dX2_walkSlope_83 (lv_at hl 9 rfl) ?_
            refine lv_iload hx hb dX2_walkSlope_85 (lv_at hl 1 rfl) ?_
            refine jv_iadd hx hb dX2_walkSlope_87 ?_
            refine lv_iconst (v := jI 1) hx hb dX2_walkSlope_88 rfl ?_
            refine jv_isub hx hb dX2_walkSlope_89 ?_
            refine jr_V F (kX1_at l D cA r1 a1 n1 L1 ((j + (d - pp)) - 1) (by omega) (by omega)) cvX2_85 hP [6, 7] rfl 6 rfl rfl hl ⟨rfl, rfl, by decide, by decide⟩ rfl rfl (Nat.le_of_ble_eq_true rfl) dX2_walkSlope_90 ⟨by decide, by decide⟩ (fun v hv => ?_)
            subst hv
            have ra0 := atv_rg hL0 n0 (i + pp - 1)
            have ra1 := atv_rg hL1 n1 (j + (d - pp) - 1)
            refine jv_icmp_ne (tgt := 100) hx hb dX2_walkSlope_93 rfl (by omega) (by omega) (fun c93 => ?_) (fun c93 => ?_)
            · have hsame : ¬ L0 (i + pp - 1) = L1 (j + (d - pp) - 1) := by
                rw [atv_in (by omega), atv_in (by omega)] at c93
                exact c93
              refine lv_iconst (v := jI 0) hx hb dX2_walkSlope_100 rfl ?_
              refine lv_istore (lv' := [(11, .int (jI 0)), (10, .int (jI (gsc f1 gp pp))), (9, .int (jI (d - pp))), (8, .int (jI pp)), (7, .int (jI (min d (n0 - i)))), (6, .int (jI (u.1 - li))), (0, .ref re), (1, .ref r0), (2, .int (jI i)), (3, .ref r1), (4, .int (jI j)), (5, .int (jI d))]) hx hb dX2_walkSlope_101 hl (by decide) rfl (fun ls hl => ?_)
              refine lv_iload hx hb dX2_walkSlope_103 (lv_at hl 1 rfl) ?_
              refine lv_aload_n hx hb dX2_walkSlope_105 rfl (lv_at hl 6 rfl) ?_
              refine jv_get (v := .ref t2) F hP 0 rfl flX2_24 rfl dX2_walkSlope_106 ?_
              refine lv_iload hx hb dX2_walkSlope_109 (lv_at hl 3 rfl) ?_
              refine lv_iconst (v := jI 1) hx hb dX2_walkSlope_111 rfl ?_
              refine jv_isub hx hb dX2_walkSlope_112 ?_
              refine jv_iald (fa := f2) F hP 1 rfl (by omega) (by decide) dX2_walkSlope_113 ?_
              refine lv_iload hx hb dX2_walkSlope_114 (lv_at hl 0 rfl) ?_
              refine jv_if_eq (tgt := 126) hx hb dX2_walkSlope_116 rfl (by omega) (fun c116 => ?_) (fun c116 => ?_)
              · refine lv_aload_n hx hb dX2_walkSlope_126 rfl (lv_at hl 6 rfl) ?_
                refine jv_get (v := .int (jI lo)) F hP 0 rfl flX2_15 rfl dX2_walkSlope_127 ?_
                refine jv_ineg hx hb dX2_walkSlope_130 ?_
                refine jv_iadd hx hb dX2_walkSlope_131 ?_
                refine jv_mmax F wmX2_78 hl (by decide) (Nat.le_of_ble_eq_true rfl) ⟨by decide, by decide⟩ (by (have := h1 pp (by omega) (by omega); have := hs1 pp; have := h1 (pp - 1) (by omega) (by omega); have := hs1 (pp - 1); rw [gsc_1 (by omega)]; omega)) (by (have := h2 (by omega) (pp - 1) (by omega) (by omega); have := hs2 (pp - 1); omega)) dX2_walkSlope_132 ?_
                refine lv_istore (lv' := [(10, .int (jI (max (gsc f1 gp pp) ((f2 (pp - 1)) + (-lo))))), (11, .int (jI 0)), (9, .int (jI (d - pp))), (8, .int (jI pp)), (7, .int (jI (min d (n0 - i)))), (6, .int (jI (u.1 - li))), (0, .ref re), (1, .ref r0), (2, .int (jI i)), (3, .ref r1), (4, .int (jI j)), (5, .int (jI d))]) hx hb dX2_walkSlope_135 hl (by decide) rfl (fun ls hl => ?_)
                have hraw : max (gsc f1 gp pp) ((f2 (pp - 1)) + (-lo)) = rawC (smv L0 L1 i j ga lo) gp one two pp (d - pp) := by
                  have o0 := h1 pp (by omega) (by omega)
                  have o1 := h1 (pp - 1) (by omega) (by omega)
                  have o2 := h2 (by omega) (pp - 1) (by omega) (by omega)
                  rw [gsc_1 (by omega), rawC, if_pos (by omega), if_pos (by omega), o0, o1, o2]
                  congr 1
                  congr 1
                  unfold smv
                  first | rw [if_pos hsame] | rw [if_neg hsame]
                have hrb := raw_b (sm := smv L0 L1 i j ga lo) (smv_b hga hlo) hgp (hs1 pp) (hs1 (pp - 1)) (hs2 (pp - 1)) (d := d) (q := d - pp)
                rw [← hraw] at hrb
                refine lv_iload hx hb dX2_walkSlope_137 (lv_at hl 0 rfl) ?_
                refine lv_iload hx hb dX2_walkSlope_139 (lv_at hl 5 rfl) ?_
                refine jv_icmp_lt (tgt := 154) hx hb dX2_walkSlope_141 rfl (by omega) (by omega) (fun c141 => ?_) (fun c141 => ?_)
                · refine lv_iinc (k := 3) (v := jI (pp + 1)) (lv' := [(8, .int (jI (pp + 1))), (10, .int (jI (max (gsc f1 gp pp) ((f2 (pp - 1)) + (-lo))))), (11, .int (jI 0)), (9, .int (jI (d - pp))), (7, .int (jI (min d (n0 - i)))), (6, .int (jI (u.1 - li))), (0, .ref re), (1, .ref r0), (2, .int (jI i)), (3, .ref r1), (4, .int (jI j)), (5, .int (jI d))]) hx hb dX2_walkSlope_154 hl rfl (jI_add _ _) (by decide) rfl (fun ls hl => ?_)
                  refine lv_goto (tgt := 40) hx hb dX2_walkSlope_157 rfl ?_
                  refine ih40 (pp + 1) w0 g0 ls H locs (by omega) ?_ ?_ ?_ ?_ (lv_sub hl [0, 4, 5, 6, 7, 8, 9, 10, 11] rfl) hP hD hS
                  · omega
                  · first
                      | (rw [rA_s (by omega), acc1_dead (nx_lo (by omega))]; exact hw)
                      | (rw [rA_s (by omega), ← hw, nx_in (by omega) (by omega), ← hraw])
                  · intro t t0 t1
                    by_cases e : t = pp
                    · first
                        | (rw [e, jU_s, if_pos (by omega), nx_in (by omega) (by omega)]; exact hraw)
                        | (rw [e, if_pos (by omega), nx_lo (by omega), hg0 pp (by omega) (by omega), if_neg (by omega)])
                    · first
                        | rw [jU_n e, hg0 t t0 t1]
                        | rw [hg0 t t0 t1]
                      by_cases e2 : t < pp
                      · rw [if_pos e2, if_pos (by omega)]
                      · rw [if_neg e2, if_neg (by omega)]
                  · first
                      | exact hwb
                      | exact acc1_b (by omega) (by omega) hwb
                · refine lv_aload_n hx hb dX2_walkSlope_144 rfl (lv_at hl 6 rfl) ?_
                  refine lv_iload hx hb dX2_walkSlope_145 (lv_at hl 3 rfl) ?_
                  refine lv_iload hx hb dX2_walkSlope_147 (lv_at hl 2 rfl) ?_
                  refine lv_iload hx hb dX2_walkSlope_149 (lv_at hl 0 rfl) ?_
                  refine jw_V (wr := [(t2, .inl (cA, 49, .inl (jA f2))), (t1, .inl (cA, 49, .inl (jA f1))), (r0, .inr (1, [.ref a0, .int (jI n0)])), (a0, .inl (cA, 48, .inl (jA L0))), (r1, .inr (1, [.ref a1, .int (jI n1)])), (a1, .inl (cA, 48, .inl (jA L1)))]) F (kX2_keepAlive l D cA re t2 t1 t0 ga lo gp li w0 g0 pp d (max (gsc f1 gp pp) ((f2 (pp - 1)) + (-lo))) (by omega) (by omega) (by omega) (by omega)) cvX2_88 hP hD hS hA [0, 3] [1, 2, 4, 5, 6, 7] rfl rfl (by decide) (by decide) 0 rfl rfl hl ⟨rfl, rfl, by decide, by decide⟩ rfl rfl (Nat.le_of_ble_eq_true rfl) dX2_walkSlope_151 ⟨by decide, by decide⟩ (by decide) (fun v w1 H locs hw hP hD hS => ?_)
                  obtain ⟨rfl, rfl⟩ := hw
                  have hP : va_P D cls [(t2, .inl (cA, 49, .inl (jA f2))), (t1, .inl (cA, 49, .inl (jA f1))), (r0, .inr (1, [.ref a0, .int (jI n0)])), (a0, .inl (cA, 48, .inl (jA L0))), (r1, .inr (1, [.ref a1, .int (jI n1)])), (a1, .inl (cA, 48, .inl (jA L1))), (re, .inr (2, [.int (jI ga), .int (jI lo), .int (jI gp), .int (jI li), .ref t2, .ref t1, .ref t0, .int (jI ((acc1 (max (gsc f1 gp pp) ((f2 (pp - 1)) + (-lo))) d pp w0).1)), .int (jI ((acc1 (max (gsc f1 gp pp) ((f2 (pp - 1)) + (-lo))) d pp w0).2.1)), .int (jI ((acc1 (max (gsc f1 gp pp) ((f2 (pp - 1)) + (-lo))) d pp w0).2.2.1)), .int (jI ((acc1 (max (gsc f1 gp pp) ((f2 (pp - 1)) + (-lo))) d pp w0).2.2.2.1)), .int (jI ((acc1 (max (gsc f1 gp pp) ((f2 (pp - 1)) + (-lo))) d pp w0).2.2.2.2))])), (t0, .inl (cA, 49, .inl (jA (jU g0 pp (max (gsc f1 gp pp) ((f2 (pp - 1)) + (-lo)))))))] H := hP
                  have hD : va_D A [(t2, .inl (cA, 49, .inl (jA f2))), (t1, .inl (cA, 49, .inl (jA f1))), (r0, .inr (1, [.ref a0, .int (jI n0)])), (a0, .inl (cA, 48, .inl (jA L0))), (r1, .inr (1, [.ref a1, .int (jI n1)])), (a1, .inl (cA, 48, .inl (jA L1))), (re, .inr (2, [.int (jI ga), .int (jI lo), .int (jI gp), .int (jI li), .ref t2, .ref t1, .ref t0, .int (jI ((acc1 (max (gsc f1 gp pp) ((f2 (pp - 1)) + (-lo))) d pp w0).1)), .int (jI ((acc1 (max (gsc f1 gp pp) ((f2 (pp - 1)) + (-lo))) d pp w0).2.1)), .int (jI ((acc1 (max (gsc f1 gp pp) ((f2 (pp - 1)) + (-lo))) d pp w0).2.2.1)), .int (jI ((acc1 (max (gsc f1 gp pp) ((f2 (pp - 1)) + (-lo))) d pp w0).2.2.2.1)), .int (jI ((acc1 (max (gsc f1 gp pp) ((f2 (pp - 1)) + (-lo))) d pp w0).2.2.2.2))])), (t0, .inl (cA, 49, .inl (jA (jU g0 pp (max (gsc f1 gp pp) ((f2 (pp - 1)) + (-lo)))))))] := hD
                  refine W.eq (g2 := F0 m 154 ls []) rfl ?_
                  refine lv_iinc (k := 3) (v := jI (pp + 1)) (lv' := [(8, .int (jI (pp + 1))), (10, .int (jI (max (gsc f1 gp pp) ((f2 (pp - 1)) + (-lo))))), (11, .int (jI 0)), (9, .int (jI (d - pp))), (7, .int (jI (min d (n0 - i)))), (6, .int (jI (u.1 - li))), (0, .ref re), (1, .ref r0), (2, .int (jI i)), (3, .ref r1), (4, .int (jI j)), (5, .int (jI d))]) hx hb dX2_walkSlope_154 hl rfl (jI_add _ _) (by decide) rfl (fun ls hl => ?_)
                  refine lv_goto (tgt := 40) hx hb dX2_walkSlope_157 rfl ?_
                  refine ih40 (pp + 1) (acc1 (max (gsc f1 gp pp) ((f2 (pp - 1)) + (-lo))) d pp w0) (jU g0 pp (max (gsc f1 gp pp) ((f2 (pp - 1)) + (-lo)))) ls H locs (by omega) ?_ ?_ ?_ ?_ (lv_sub hl [0, 4, 5, 6, 7, 8, 9, 10, 11] rfl) (hP.sub (ws' := [(re, .inr (2, [.int (jI ga), .int (jI lo), .int (jI gp), .int (jI li), .ref t2, .ref t1, .ref t0, .int (jI ((acc1 (max (gsc f1 gp pp) ((f2 (pp - 1)) + (-lo))) d pp w0).1)), .int (jI ((acc1 (max (gsc f1 gp pp) ((f2 (pp - 1)) + (-lo))) d pp w0).2.1)), .int (jI ((acc1 (max (gsc f1 gp pp) ((f2 (pp - 1)) + (-lo))) d pp w0).2.2.1)), .int (jI ((acc1 (max (gsc f1 gp pp) ((f2 (pp - 1)) + (-lo))) d pp w0).2.2.2.1)), .int (jI ((acc1 (max (gsc f1 gp pp) ((f2 (pp - 1)) + (-lo))) d pp w0).2.2.2.2))])), (t2, .inl (cA, 49, .inl (jA f2))), (t1, .inl (cA, 49, .inl (jA f1))), (t0, .inl (cA, 49, .inl (jA (jU g0 pp (max (gsc f1 gp pp) ((f2 (pp - 1)) + (-lo))))))), (r0, .inr (1, [.ref a0, .int (jI n0)])), (a0, .inl (cA, 48, .inl (jA L0))), (r1, .inr (1, [.ref a1, .int (jI n1)])), (a1, .inl (cA, 48, .inl (jA L1)))]) [6, 0, 1, 7, 2, 3, 4, 5] rfl) (hD.sub (ws' := [(re, .inr (2, [.int (jI ga), .int (jI lo), .int (jI gp), .int (jI li), .ref t2, .ref t1, .ref t0, .int (jI ((acc1 (max (gsc f1 gp pp) ((f2 (pp - 1)) + (-lo))) d pp w0).1)), .int (jI ((acc1 (max (gsc f1 gp pp) ((f2 (pp - 1)) + (-lo))) d pp w0).2.1)), .int (jI ((acc1 (max (gsc f1 gp pp) ((f2 (pp - 1)) + (-lo))) d pp w0).2.2.1)), .int (jI ((acc1 (max (gsc f1 gp pp) ((f2 (pp - 1)) + (-lo))) d pp w0).2.2.2.1)), .int (jI ((acc1 (max (gsc f1 gp pp) ((f2 (pp - 1)) + (-lo))) d pp w0).2.2.2.2))])), (t2, .inl (cA, 49, .inl (jA f2))), (t1, .inl (cA, 49, .inl (jA f1))), (t0, .inl (cA, 49, .inl (jA (jU g0 pp (max (gsc f1 gp pp) ((f2 (pp - 1)) + (-lo))))))), (r0, .inr (1, [.ref a0, .int (jI n0)])), (a0, .inl (cA, 48, .inl (jA L0))), (r1, .inr (1, [.ref a1, .int (jI n1)])), (a1, .inl (cA, 48, .inl (jA L1)))]) [6, 0, 1, 7, 2, 3, 4, 5] (by decide) rfl) hS
                  · omega
                  · first
                      | (rw [rA_s (by omega), acc1_dead (nx_lo (by omega))]; exact hw)
                      | (rw [rA_s (by omega), ← hw, nx_in (by omega) (by omega), ← hraw])
                  · intro t t0 t1
                    by_cases e : t = pp
                    · first
                        | (rw [e, jU_s, if_pos (by omega), nx_in (by omega) (by omega)]; exact hraw)
                        | (rw [e, if_pos (by omega), nx_lo (by omega), hg0 pp (by omega) (by omega), if_neg (by omega)])
                    · first
                        | rw [jU_n e, hg0 t t0 t1]
                        | rw [hg0 t t0 t1]
                      by_cases e2 : t < pp
                      · rw [if_pos e2, if_pos (by omega)]
                      · rw [if_neg e2, if_neg (by omega)]
                  · first
                      | exact hwb
                      | exact acc1_b (by omega) (by omega) hwb
              · exfalso
                omega
            · have hsame : L0 (i + pp - 1) = L1 (j + (d - pp) - 1) := by
                rw [atv_in (by omega), atv_in (by omega)] at c93
                exact c93
              refine lv_iconst (v := jI 1) hx hb dX2_walkSlope_96 rfl ?_
              refine lv_goto (tgt := 101) hx hb dX2_walkSlope_97 rfl ?_
              refine lv_istore (lv' := [(11, .int (jI 1)), (10, .int (jI (gsc f1 gp pp))), (9, .int (jI (d - pp))), (8, .int (jI pp)), (7, .int (jI (min d (n0 - i)))), (6, .int (jI (u.1 - li))), (0, .ref re), (1, .ref r0), (2, .int (jI i)), (3, .ref r1), (4, .int (jI j)), (5, .int (jI d))]) hx hb dX2_walkSlope_101 hl (by decide) rfl (fun ls hl => ?_)
              refine lv_iload hx hb dX2_walkSlope_103 (lv_at hl 1 rfl) ?_
              refine lv_aload_n hx hb dX2_walkSlope_105 rfl (lv_at hl 6 rfl) ?_
              refine jv_get (v := .ref t2) F hP 0 rfl flX2_24 rfl dX2_walkSlope_106 ?_
              refine lv_iload hx hb dX2_walkSlope_109 (lv_at hl 3 rfl) ?_
              refine lv_iconst (v := jI 1) hx hb dX2_walkSlope_111 rfl ?_
              refine jv_isub hx hb dX2_walkSlope_112 ?_
              refine jv_iald (fa := f2) F hP 1 rfl (by omega) (by decide) dX2_walkSlope_113 ?_
              refine lv_iload hx hb dX2_walkSlope_114 (lv_at hl 0 rfl) ?_
              refine jv_if_eq (tgt := 126) hx hb dX2_walkSlope_116 rfl (by omega) (fun c116 => ?_) (fun c116 => ?_)
              · exfalso
                omega
              · refine lv_aload_n hx hb dX2_walkSlope_119 rfl (lv_at hl 6 rfl) ?_
                refine jv_get (v := .int (jI ga)) F hP 0 rfl flX2_9 rfl dX2_walkSlope_120 ?_
                refine lv_goto (tgt := 131) hx hb dX2_walkSlope_123 rfl ?_
                refine jv_iadd hx hb dX2_walkSlope_131 ?_
                refine jv_mmax F wmX2_78 hl (by decide) (Nat.le_of_ble_eq_true rfl) ⟨by decide, by decide⟩ (by (have := h1 pp (by omega) (by omega); have := hs1 pp; have := h1 (pp - 1) (by omega) (by omega); have := hs1 (pp - 1); rw [gsc_1 (by omega)]; omega)) (by (have := h2 (by omega) (pp - 1) (by omega) (by omega); have := hs2 (pp - 1); omega)) dX2_walkSlope_132 ?_
                refine lv_istore (lv' := [(10, .int (jI (max (gsc f1 gp pp) ((f2 (pp - 1)) + ga)))), (11, .int (jI 1)), (9, .int (jI (d - pp))), (8, .int (jI pp)), (7, .int (jI (min d (n0 - i)))), (6, .int (jI (u.1 - li))), (0, .ref re), (1, .ref r0), (2, .int (jI i)), (3, .ref r1), (4, .int (jI j)), (5, .int (jI d))]) hx hb dX2_walkSlope_135 hl (by decide) rfl (fun ls hl => ?_)
                have hraw : max (gsc f1 gp pp) ((f2 (pp - 1)) + ga) = rawC (smv L0 L1 i j ga lo) gp one two pp (d - pp) := by
                  have o0 := h1 pp (by omega) (by omega)
                  have o1 := h1 (pp - 1) (by omega) (by omega)
                  have o2 := h2 (by omega) (pp - 1) (by omega) (by omega)
                  rw [gsc_1 (by omega), rawC, if_pos (by omega), if_pos (by omega), o0, o1, o2]
                  congr 1
                  congr 1
                  unfold smv
                  first | rw [if_pos hsame] | rw [if_neg hsame]
                have hrb := raw_b (sm := smv L0 L1 i j ga lo) (smv_b hga hlo) hgp (hs1 pp) (hs1 (pp - 1)) (hs2 (pp - 1)) (d := d) (q := d - pp)
                rw [← hraw] at hrb
                refine lv_iload hx hb dX2_walkSlope_137 (lv_at hl 0 rfl) ?_
                refine lv_iload hx hb dX2_walkSlope_139 (lv_at hl 5 rfl) ?_
                refine jv_icmp_lt (tgt := 154) hx hb dX2_walkSlope_141 rfl (by omega) (by omega) (fun c141 => ?_) (fun c141 => ?_)
                · refine lv_iinc (k := 3) (v := jI (pp + 1)) (lv' := [(8, .int (jI (pp + 1))), (10, .int (jI (max (gsc f1 gp pp) ((f2 (pp - 1)) + ga)))), (11, .int (jI 1)), (9, .int (jI (d - pp))), (7, .int (jI (min d (n0 - i)))), (6, .int (jI (u.1 - li))), (0, .ref re), (1, .ref r0), (2, .int (jI i)), (3, .ref r1), (4, .int (jI j)), (5, .int (jI d))]) hx hb dX2_walkSlope_154 hl rfl (jI_add _ _) (by decide) rfl (fun ls hl => ?_)
                  refine lv_goto (tgt := 40) hx hb dX2_walkSlope_157 rfl ?_
                  refine ih40 (pp + 1) w0 g0 ls H locs (by omega) ?_ ?_ ?_ ?_ (lv_sub hl [0, 4, 5, 6, 7, 8, 9, 10, 11] rfl) hP hD hS
                  · omega
                  · first
                      | (rw [rA_s (by omega), acc1_dead (nx_lo (by omega))]; exact hw)
                      | (rw [rA_s (by omega), ← hw, nx_in (by omega) (by omega), ← hraw])
                  · intro t t0 t1
                    by_cases e : t = pp
                    · first
                        | (rw [e, jU_s, if_pos (by omega), nx_in (by omega) (by omega)]; exact hraw)
                        | (rw [e, if_pos (by omega), nx_lo (by omega), hg0 pp (by omega) (by omega), if_neg (by omega)])
                    · first
                        | rw [jU_n e, hg0 t t0 t1]
                        | rw [hg0 t t0 t1]
                      by_cases e2 : t < pp
                      · rw [if_pos e2, if_pos (by omega)]
                      · rw [if_neg e2, if_neg (by omega)]
                  · first
                      | exact hwb
                      | exact acc1_b (by omega) (by omega) hwb
                · refine lv_aload_n hx hb dX2_walkSlope_144 rfl (lv_at hl 6 rfl) ?_
                  refine lv_iload hx hb dX2_walkSlope_145 (lv_at hl 3 rfl) ?_
                  refine lv_iload hx hb dX2_walkSlope_147 (lv_at hl 2 rfl) ?_
                  refine lv_iload hx hb dX2_walkSlope_149 (lv_at hl 0 rfl) ?_
                  refine jw_V (wr := [(t2, .inl (cA, 49, .inl (jA f2))), (t1, .inl (cA, 49, .inl (jA f1))), (r0, .inr (1, [.ref a0, .int (jI n0)])), (a0, .inl (cA, 48, .inl (jA L0))), (r1, .inr (1, [.ref a1, .int (jI n1)])), (a1, .inl (cA, 48, .inl (jA L1)))]) F (kX2_keepAlive l D cA re t2 t1 t0 ga lo gp li w0 g0 pp d (max (gsc f1 gp pp) ((f2 (pp - 1)) + ga)) (by omega) (by omega) (by omega) (by omega)) cvX2_88 hP hD hS hA [0, 3] [1, 2, 4, 5, 6, 7] rfl rfl (by decide) (by decide) 0 rfl rfl hl ⟨rfl, rfl, by decide, by decide⟩ rfl rfl (Nat.le_of_ble_eq_true rfl) dX2_walkSlope_151 ⟨by decide, by decide⟩ (by decide) (fun v w1 H locs hw hP hD hS => ?_)
                  obtain ⟨rfl, rfl⟩ := hw
                  have hP : va_P D cls [(t2, .inl (cA, 49, .inl (jA f2))), (t1, .inl (cA, 49, .inl (jA f1))), (r0, .inr (1, [.ref a0, .int (jI n0)])), (a0, .inl (cA, 48, .inl (jA L0))), (r1, .inr (1, [.ref a1, .int (jI n1)])), (a1, .inl (cA, 48, .inl (jA L1))), (re, .inr (2, [.int (jI ga), .int (jI lo), .int (jI gp), .int (jI li), .ref t2, .ref t1, .ref t0, .int (jI ((acc1 (max (gsc f1 gp pp) ((f2 (pp - 1)) + ga)) d pp w0).1)), .int (jI ((acc1 (max (gsc f1 gp pp) ((f2 (pp - 1)) + ga)) d pp w0).2.1)), .int (jI ((acc1 (max (gsc f1 gp pp) ((f2 (pp - 1)) + ga)) d pp w0).2.2.1)), .int (jI ((acc1 (max (gsc f1 gp pp) ((f2 (pp - 1)) + ga)) d pp w0).2.2.2.1)), .int (jI ((acc1 (max (gsc f1 gp pp) ((f2 (pp - 1)) + ga)) d pp w0).2.2.2.2))])), (t0, .inl (cA, 49, .inl (jA (jU g0 pp (max (gsc f1 gp pp) ((f2 (pp - 1)) + ga))))))] H := hP
                  have hD : va_D A [(t2, .inl (cA, 49, .inl (jA f2))), (t1, .inl (cA, 49, .inl (jA f1))), (r0, .inr (1, [.ref a0, .int (jI n0)])), (a0, .inl (cA, 48, .inl (jA L0))), (r1, .inr (1, [.ref a1, .int (jI n1)])), (a1, .inl (cA, 48, .inl (jA L1))), (re, .inr (2, [.int (jI ga), .int (jI lo), .int (jI gp), .int (jI li), .ref t2, .ref t1, .ref t0, .int (jI ((acc1 (max (gsc f1 gp pp) ((f2 (pp - 1)) + ga)) d pp w0).1)), .int (jI ((acc1 (max (gsc f1 gp pp) ((f2 (pp - 1)) + ga)) d pp w0).2.1)), .int (jI ((acc1 (max (gsc f1 gp pp) ((f2 (pp - 1)) + ga)) d pp w0).2.2.1)), .int (jI ((acc1 (max (gsc f1 gp pp) ((f2 (pp - 1)) + ga)) d pp w0).2.2.2.1)), .int (jI ((acc1 (max (gsc f1 gp pp) ((f2 (pp - 1)) + ga)) d pp w0).2.2.2.2))])), (t0, .inl (cA, 49, .inl (jA (jU g0 pp (max (gsc f1 gp pp) ((f2 (pp - 1)) + ga))))))] := hD
                  refine W.eq (g2 := F0 m 154 ls []) rfl ?_
                  refine lv_iinc (k := 3) (v := jI (pp + 1)) (lv' := [(8, .int (jI (pp + 1))), (10, .int (jI (max (gsc f1 gp pp) ((f2 (pp - 1)) + ga)))), (11, .int (jI 1)), (9, .int (jI (d - pp))), (7, .int (jI (min d (n0 - i)))), (6, .int (jI (u.1 - li))), (0, .ref re), (1, .ref r0), (2, .int (jI i)), (3, .ref r1), (4, .int (jI j)), (5, .int (jI d))]) hx hb dX2_walkSlope_154 hl rfl (jI_add _ _) (by decide) rfl (fun ls hl => ?_)
                  refine lv_goto (tgt := 40) hx hb dX2_walkSlope_157 rfl ?_
                  refine ih40 (pp + 1) (acc1 (max (gsc f1 gp pp) ((f2 (pp - 1)) + ga)) d pp w0) (jU g0 pp (max (gsc f1 gp pp) ((f2 (pp - 1)) + ga))) ls H locs (by omega) ?_ ?_ ?_ ?_ (lv_sub hl [0, 4, 5, 6, 7, 8, 9, 10, 11] rfl) (hP.sub (ws' := [(re, .inr (2, [.int (jI ga), .int (jI lo), .int (jI gp), .int (jI li), .ref t2, .ref t1, .ref t0, .int (jI ((acc1 (max (gsc f1 gp pp) ((f2 (pp - 1)) + ga)) d pp w0).1)), .int (jI ((acc1 (max (gsc f1 gp pp) ((f2 (pp - 1)) + ga)) d pp w0).2.1)), .int (jI ((acc1 (max (gsc f1 gp pp) ((f2 (pp - 1)) + ga)) d pp w0).2.2.1)), .int (jI ((acc1 (max (gsc f1 gp pp) ((f2 (pp - 1)) + ga)) d pp w0).2.2.2.1)), .int (jI ((acc1 (max (gsc f1 gp pp) ((f2 (pp - 1)) + ga)) d pp w0).2.2.2.2))])), (t2, .inl (cA, 49, .inl (jA f2))), (t1, .inl (cA, 49, .inl (jA f1))), (t0, .inl (cA, 49, .inl (jA (jU g0 pp (max (gsc f1 gp pp) ((f2 (pp - 1)) + ga)))))), (r0, .inr (1, [.ref a0, .int (jI n0)])), (a0, .inl (cA, 48, .inl (jA L0))), (r1, .inr (1, [.ref a1, .int (jI n1)])), (a1, .inl (cA, 48, .inl (jA L1)))]) [6, 0, 1, 7, 2, 3, 4, 5] rfl) (hD.sub (ws' := [(re, .inr (2, [.int (jI ga), .int (jI lo), .int (jI gp), .int (jI li), .ref t2, .ref t1, .ref t0, .int (jI ((acc1 (max (gsc f1 gp pp) ((f2 (pp - 1)) + ga)) d pp w0).1)), .int (jI ((acc1 (max (gsc f1 gp pp) ((f2 (pp - 1)) + ga)) d pp w0).2.1)), .int (jI ((acc1 (max (gsc f1 gp pp) ((f2 (pp - 1)) + ga)) d pp w0).2.2.1)), .int (jI ((acc1 (max (gsc f1 gp pp) ((f2 (pp - 1)) + ga)) d pp w0).2.2.2.1)), .int (jI ((acc1 (max (gsc f1 gp pp) ((f2 (pp - 1)) + ga)) d pp w0).2.2.2.2))])), (t2, .inl (cA, 49, .inl (jA f2))), (t1, .inl (cA, 49, .inl (jA f1))), (t0, .inl (cA, 49, .inl (jA (jU g0 pp (max (gsc f1 gp pp) ((f2 (pp - 1)) + ga)))))), (r0, .inr (1, [.ref a0, .int (jI n0)])), (a0, .inl (cA, 48, .inl (jA L0))), (r1, .inr (1, [.ref a1, .int (jI n1)])), (a1, .inl (cA, 48, .inl (jA L1)))]) [6, 0, 1, 7, 2, 3, 4, 5] (by decide) rfl) hS
                  · omega
                  · first
                      | (rw [rA_s (by omega), acc1_dead (nx_lo (by omega))]; exact hw)
                      | (rw [rA_s (by omega), ← hw, nx_in (by omega) (by omega), ← hraw])
                  · intro t t0 t1
                    by_cases e : t = pp
                    · first
                        | (rw [e, jU_s, if_pos (by omega), nx_in (by omega) (by omega)]; exact hraw)
                        | (rw [e, if_pos (by omega), nx_lo (by omega), hg0 pp (by omega) (by omega), if_neg (by omega)])
                    · first
                        | rw [jU_n e, hg0 t t0 t1]
                        | rw [hg0 t t0 t1]
                      by_cases e2 : t < pp
                      · rw [if_pos e2, if_pos (by omega)]
                      · rw [if_neg e2, if_neg (by omega)]
                  · first
                      | exact hwb
                      | exact acc1_b (by omega) (by omega) hwb
  refine lp40 (Int.toNat (min d (n0 - i) + 1 - (max 0 (d - (n1 - j)))) + 1) (max 0 (d - (n1 - j))) u f0 ls s.heap [] (by omega) ?_ ?_ ?_ ?_ (lv_sub hl [0, 1, 2, 3, 4, 5, 6, 7, 8] rfl) hP hD hS
  · omega
  · exact (rA_skip2 (p := 0) (by omega) (by omega) (fun x x0 x1 => nx_out (by omega))).symm
  · intro t t0 t1
    by_cases e : t < max 0 (d - (n1 - j))
    · rw [if_pos e, h0 t t0 t1, nx_out (by omega)]
    · rw [if_neg e]; exact h0 t t0 t1
  · omega
end
section
def Zi (sm : Int → Int → Int) (P Q gp li d : Int) : (Int → Int) × (Int → Int) × acc := Zf sm P Q gp li d.toNat
theorem Zi_s {sm : Int → Int → Int} {P Q gp li d : Int} (hd : 0 ≤ d) : Zi sm P Q gp li (d + 1) = ((Zi sm P Q gp li d).2.1, nx sm P Q gp li (d + 1) (Zi sm P Q gp li d).2.2.1 (Zi sm P Q gp li d).2.1 (Zi sm P Q gp li d).1, rA (nx sm P Q gp li (d + 1) (Zi sm P Q gp li d).2.2.1 (Zi sm P Q gp li d).2.1 (Zi sm P Q gp li d).1) (d + 1) (Zi sm P Q gp li d).2.2 (d + 2)) := by
  unfold Zi
  have e : (d + 1).toNat = d.toNat + 1 := by omega
  rw [e, Zf_s, Int.toNat_of_nonneg hd]
theorem Zi_I {sm : Int → Int → Int} {P Q gp li : Int} (hsm : ∀ p q, -9 ≤ sm p q ∧ sm p q ≤ 9) (hgp : 1 ≤ gp ∧ gp ≤ 9) (hli : 0 ≤ li ∧ li ≤ 99) (hP : 0 ≤ P) (hQ : 0 ≤ Q) {d : Int} (hd : 0 ≤ d) (hd2 : d ≤ 97) : ZI P Q d (Zi sm P Q gp li d) := by
  have h := Zf_I hsm hgp hli hP hQ d.toNat (by omega)
  rw [Int.toNat_of_nonneg hd] at h
  exact h
theorem zi_b {P Q d : Int} {z : (Int → Int) × (Int → Int) × acc} (h : ZI P Q d z) (hd : d ≤ 96) : (∀ x, z.2.1 x = -1000000 ∨ (-99 ≤ z.2.1 x ∧ z.2.1 x ≤ 900)) ∧ (∀ x, z.1 x = -1000000 ∨ (-99 ≤ z.1 x ∧ z.1 x ≤ 900)) ∧ (0 ≤ z.2.2.1 ∧ z.2.2.1 ≤ 900) := by
  obtain ⟨a, b, c, -⟩ := h
  refine ⟨fun x => ?_, fun x => ?_, by omega⟩
  · have := a x; omega
  · rcases b with b | b
    · have := b x; omega
    · exact Or.inl (b x)
theorem Zi_stop {sm : Int → Int → Int} {P Q gp li d N : Int} (hsm : ∀ p q, -9 ≤ sm p q ∧ sm p q ≤ 9) (hgp : 1 ≤ gp ∧ gp ≤ 9) (hli : 0 ≤ li ∧ li ≤ 99) (h : ZI P Q d (Zi sm P Q gp li d)) (hf : (Zi sm P Q gp li d).2.2.2.2.2.2 < d - 1) (hN : 0 ≤ d ∧ d ≤ N) : (Zi sm P Q gp li N).2.2 = (Zi sm P Q gp li d).2.2 := by
  obtain ⟨a, b, c, c2, c3, c4, c5⟩ := h
  have k := (Zf_stop (sm := sm) (P := P) (Q := Q) hli hgp hsm (d := d.toNat) c.1 (c5 hf) (c4 (by omega)) (N - d).toNat).1
  have e : d.toNat + (N - d).toNat = N.toNat := by omega
  rw [e] at k
  exact k
set_option maxHeartbeats 4000000 in
set_option maxRecDepth 100000 in
theorem kX2_walk (l : Launch) (D : va_G) (cA : ClassId) (re t2 t1 t0 : Nat) (ga lo gp li es ep eq al la : Int) (f2 f1 f0 : Int → Int) (r0 a0 r1 a1 : Nat) (n0 n1 i j : Int) (L0 L1 : Int → Int) (hn0 : 0 ≤ n0 ∧ n0 ≤ 48) (hn1 : 0 ≤ n1 ∧ n1 ≤ 48) (hL0 : ∀ x, 0 ≤ L0 x ∧ L0 x ≤ 3) (hL1 : ∀ x, 0 ≤ L1 x ∧ L1 x ≤ 3) (hi : 0 ≤ i ∧ i ≤ n0) (hj : 0 ≤ j ∧ j ≤ n1) (hga : 1 ≤ ga ∧ ga ≤ 9) (hlo : 0 ≤ lo ∧ lo ≤ 9) (hgp : 1 ≤ gp ∧ gp ≤ 9) (hli : 0 ≤ li ∧ li ≤ 99) : jM l YX2_walk (rmk 3 0 0 66) D cA [.ref re, .ref r0, .int (jI i), .ref r1, .int (jI j)] [(re, .inr (2, [.int (jI ga), .int (jI lo), .int (jI gp), .int (jI li), .ref t2, .ref t1, .ref t0, .int (jI es), .int (jI ep), .int (jI eq), .int (jI al), .int (jI la)])), (t2, .inl (cA, 49, .inl (jA f2))), (t1, .inl (cA, 49, .inl (jA f1))), (t0, .inl (cA, 49, .inl (jA f0))), (r0, .inr (1, [.ref a0, .int (jI n0)])), (a0, .inl (cA, 48, .inl (jA L0))), (r1, .inr (1, [.ref a1, .int (jI n1)])), (a1, .inl (cA, 48, .inl (jA L1)))] (fun v w => v = none ∧ ∃ (x y z : Nat) (k2 k1 k0 : Int → Int), w = [(re, .inr (2, [.int (jI ga), .int (jI lo), .int (jI gp), .int (jI li), .ref x, .ref y, .ref z, .int (jI ((Zi (smv L0 L1 i j ga lo) (n0 - i) (n1 - j) gp li (n0 - i + (n1 - j))).2.2.1)), .int (jI ((Zi (smv L0 L1 i j ga lo) (n0 - i) (n1 - j) gp li (n0 - i + (n1 - j))).2.2.2.1)), .int (jI ((Zi (smv L0 L1 i j ga lo) (n0 - i) (n1 - j) gp li (n0 - i + (n1 - j))).2.2.2.2.1)), .int (jI ((Zi (smv L0 L1 i j ga lo) (n0 - i) (n1 - j) gp li (n0 - i + (n1 - j))).2.2.2.2.2.1)), .int (jI ((Zi (smv L0 L1 i j ga lo) (n0 - i) (n1 - j) gp li (n0 - i + (n1 - j))).2.2.2.2.2.2))])), (x, .inl (cA, 49, .inl (jA k2))), (y, .inl (cA, 49, .inl (jA k1))), (z, .inl (cA, 49, .inl (jA k0))), (r0, .inr (1, [.ref a0, .int (jI n0)])), (a0, .inl (cA, 48, .inl (jA L0))), (r1, .inr (1, [.ref a1, .int (jI n1)])), (a1, .inl (cA, 48, .inl (jA L1)))]) 0 0 := by
  refine jM.intro (by decide +kernel) (Nat.le_of_ble_eq_true rfl) ?_
  intro p e s m args below meth c ls Q A F hQ hA hP hD hS hl
  have hx := F.1
  have hb := F.2.1
  have hl : lv_has ls 7 [(0, .ref re), (1, .ref r0), (2, .int (jI i)), (3, .ref r1), (4, .int (jI j))] := hl
  refine lv_aload_n hx hb dX2_walk_0 rfl (lv_at hl 0 rfl) ?_
  refine jw_V (wr := [(t2, .inl (cA, 49, .inl (jA f2))), (t1, .inl (cA, 49, .inl (jA f1))), (r0, .inr (1, [.ref a0, .int (jI n0)])), (a0, .inl (cA, 48, .inl (jA L0))), (r1, .inr (1, [.ref a1, .int (jI n1)])), (a1, .inl (cA, 48, .inl (jA L1)))]) F (kX2_begin l D cA re t2 t1 t0 ga lo gp li es ep eq al la f0) cvX2_49 hP hD hS hA [0, 3] [1, 2, 4, 5, 6, 7] rfl rfl (by decide) (by decide) 0 rfl rfl hl ⟨rfl, rfl, by decide, by decide⟩ rfl rfl (Nat.le_of_ble_eq_true rfl) dX2_walk_1 ⟨by decide, by decide⟩ (by decide) (fun v w1 H locs hw hP hD hS => ?_)
  obtain ⟨rfl, fb, hfb, rfl⟩ := hw
  have hP : va_P D cls [(t2, .inl (cA, 49, .inl (jA f2))), (t1, .inl (cA, 49, .inl (jA f1))), (r0, .inr (1, [.ref a0, .int (jI n0)])), (a0, .inl (cA, 48, .inl (jA L0))), (r1, .inr (1, [.ref a1, .int (jI n1)])), (a1, .inl (cA, 48, .inl (jA L1))), (re, .inr (2, [.int (jI ga), .int (jI lo), .int (jI gp), .int (jI li), .ref t2, .ref t1, .ref t0, .int (jI 0), .int (jI 0), .int (jI 0), .int (jI 1), .int (jI 0)])), (t0, .inl (cA, 49, .inl (jA fb)))] H := hP
  have hD : va_D A [(t2, .inl (cA, 49, .inl (jA f2))), (t1, .inl (cA, 49, .inl (jA f1))), (r0, .inr (1, [.ref a0, .int (jI n0)])), (a0, .inl (cA, 48, .inl (jA L0))), (r1, .inr (1, [.ref a1, .int (jI n1)])), (a1, .inl (cA, 48, .inl (jA L1))), (re, .inr (2, [.int (jI ga), .int (jI lo), .int (jI gp), .int (jI li), .ref t2, .ref t1, .ref t0, .int (jI 0), .int (jI 0), .int (jI 0), .int (jI 1), .int (jI 0)])), (t0, .inl (cA, 49, .inl (jA fb)))] := hD
  refine W.eq (g2 := F0 m 4 ls []) rfl ?_
  refine lv_aload_n hx hb dX2_walk_4 rfl (lv_at hl 1 rfl) ?_
  refine jr_V F (kX1_size l D cA r0 a0 n0 L0) cvX2_52 hP [2, 3] rfl 2 rfl rfl hl ⟨rfl, rfl, by decide, by decide⟩ rfl rfl (Nat.le_of_ble_eq_true rfl) dX2_walk_5 ⟨by decide, by decide⟩ (fun v hv => ?_)
  subst hv
  refine lv_iload_n hx hb dX2_walk_8 rfl (lv_at hl 2 rfl) ?_
  refine jv_isub hx hb dX2_walk_9 ?_
  refine lv_aload_n hx hb dX2_walk_10 rfl (lv_at hl 3 rfl) ?_
  refine jr_V F (kX1_size l D cA r1 a1 n1 L1) cvX2_52 hP [4, 5] rfl 4 rfl rfl hl ⟨rfl, rfl, by decide, by decide⟩ rfl rfl (Nat.le_of_ble_eq_true rfl) dX2_walk_11 ⟨by decide, by decide⟩ (fun v hv => ?_)
  subst hv
  refine jv_iadd hx hb dX2_walk_14 ?_
  refine lv_iload hx hb dX2_walk_15 (lv_at hl 4 rfl) ?_
  refine jv_isub hx hb dX2_walk_17 ?_
  refine lv_istore (lv' := [(5, .int (jI (((n0 - i) + n1) - j))), (0, .ref re), (1, .ref r0), (2, .int (jI i)), (3, .ref r1), (4, .int (jI j))]) hx hb dX2_walk_18 hl (by decide) rfl (fun ls hl => ?_)
  refine lv_iconst (v := jI 1) hx hb dX2_walk_20 rfl ?_
  refine lv_istore (lv' := [(6, .int (jI 1)), (5, .int (jI (((n0 - i) + n1) - j))), (0, .ref re), (1, .ref r0), (2, .int (jI i)), (3, .ref r1), (4, .int (jI j))]) hx hb dX2_walk_21 hl (by decide) rfl (fun ls hl => ?_)
  have lp23 : ∀ (fu : Nat) (d : Int) (u : acc) (x : Nat) (k2 : Int → Int) (y : Nat) (k1 : Int → Int) (z : Nat) (k0 : Int → Int) (ls : Array Slot) (H : Heap) (locs : List Loc), n0 - i + (n1 - j) + 1 - d < (fu : Int) → (1 ≤ d ∧ d ≤ n0 - i + (n1 - j) + 1) → (u = (Zi (smv L0 L1 i j ga lo) (n0 - i) (n1 - j) gp li (d - 1)).2.2) → (∀ t, 0 ≤ t → t < 49 → k0 t = (Zi (smv L0 L1 i j ga lo) (n0 - i) (n1 - j) gp li (d - 1)).2.1 t) → (2 ≤ d → ∀ t, 0 ≤ t → t < 49 → k1 t = (Zi (smv L0 L1 i j ga lo) (n0 - i) (n1 - j) gp li (d - 1)).1 t) → lv_has ls 7 [(6, .int (jI d)), (5, .int (jI (((n0 - i) + n1) - j))), (0, .ref re), (1, .ref r0), (2, .int (jI i)), (3, .ref r1), (4, .int (jI j))] → va_P D cls [(x, .inl (cA, 49, .inl (jA k2))), (y, .inl (cA, 49, .inl (jA k1))), (r0, .inr (1, [.ref a0, .int (jI n0)])), (a0, .inl (cA, 48, .inl (jA L0))), (r1, .inr (1, [.ref a1, .int (jI n1)])), (a1, .inl (cA, 48, .inl (jA L1))), (re, .inr (2, [.int (jI ga), .int (jI lo), .int (jI gp), .int (jI li), .ref x, .ref y, .ref z, .int (jI u.1), .int (jI u.2.1), .int (jI u.2.2.1), .int (jI u.2.2.2.1), .int (jI u.2.2.2.2)])), (z, .inl (cA, 49, .inl (jA k0)))] H → va_D A [(x, .inl (cA, 49, .inl (jA k2))), (y, .inl (cA, 49, .inl (jA k1))), (r0, .inr (1, [.ref a0, .int (jI n0)])), (a0, .inl (cA, 48, .inl (jA L0))), (r1, .inr (1, [.ref a1, .int (jI n1)])), (a1, .inl (cA, 48, .inl (jA L1))), (re, .inr (2, [.int (jI ga), .int (jI lo), .int (jI gp), .int (jI li), .ref x, .ref y, .ref z, .int (jI u.1), .int (jI u.2.1), .int (jI u.2.2.1), .int (jI u.2.2.2.1), .int (jI u.2.2.2.2)])), (z, .inl (cA, 49, .inl (jA k0)))] → va_S A s.heap H locs → W p l e (rmk 3 0 0 66) s m args below meth c H locs 0 0 Q (F0 m 23 ls []) := by
    intro fu
    induction fu with
    | zero => intro d u x k2 y k1 z k0 ls H locs hfu hd hu hz0 hy1 hl hP hD hS; exfalso; omega
    | succ fu ih23 =>
      intro d u x k2 y k1 z k0 ls H locs hfu hd hu hz0 hy1 hl hP hD hS
      have hzi := Zi_I (smv_b (L0 := L0) (L1 := L1) (i := i) (j := j) hga hlo) hgp hli (P := n0 - i) (Q := n1 - j) (by omega) (by omega) (d := d - 1) (by omega) (by omega)
      have hub : 0 ≤ u.2.2.2.2 ∧ u.2.2.2.2 ≤ 200 := by rw [hu]; exact ⟨hzi.2.2.2.1.1, by have := hzi.2.2.2.1.2; omega⟩
      refine lv_iload hx hb dX2_walk_23 (lv_at hl 0 rfl) ?_
      refine lv_iload hx hb dX2_walk_25 (lv_at hl 1 rfl) ?_
      refine jv_icmp_gt (tgt := 62) hx hb dX2_walk_27 rfl (by omega) (by omega) (fun c27 => ?_) (fun c27 => ?_)
      · have huN : u = (Zi (smv L0 L1 i j ga lo) (n0 - i) (n1 - j) gp li (n0 - i + (n1 - j))).2.2 := by
          rw [hu]
          first
            | (rw [show d - 1 = n0 - i + (n1 - j) by omega]; done)
            | exact (Zi_stop (smv_b hga hlo) hgp hli hzi (by rw [← hu]; omega) (by omega)).symm
        exact jM.rv F hQ rfl dX2_walk_62 hS (hP.sub (ws' := [(re, .inr (2, [.int (jI ga), .int (jI lo), .int (jI gp), .int (jI li), .ref x, .ref y, .ref z, .int (jI u.1), .int (jI u.2.1), .int (jI u.2.2.1), .int (jI u.2.2.2.1), .int (jI u.2.2.2.2)])), (x, .inl (cA, 49, .inl (jA k2))), (y, .inl (cA, 49, .inl (jA k1))), (z, .inl (cA, 49, .inl (jA k0))), (r0, .inr (1, [.ref a0, .int (jI n0)])), (a0, .inl (cA, 48, .inl (jA L0))), (r1, .inr (1, [.ref a1, .int (jI n1)])), (a1, .inl (cA, 48, .inl (jA L1)))]) [6, 0, 1, 7, 2, 3, 4, 5] rfl) (hD.sub (ws' := [(re, .inr (2, [.int (jI ga), .int (jI lo), .int (jI gp), .int (jI li), .ref x, .ref y, .ref z, .int (jI u.1), .int (jI u.2.1), .int (jI u.2.2.1), .int (jI u.2.2.2.1), .int (jI u.2.2.2.2)])), (x, .inl (cA, 49, .inl (jA k2))), (y, .inl (cA, 49, .inl (jA k1))), (z, .inl (cA, 49, .inl (jA k0))), (r0, .inr (1, [.ref a0, .int (jI n0)])), (a0, .inl (cA, 48, .inl (jA L0))), (r1, .inr (1, [.ref a1, .int (jI n1)])), (a1, .inl (cA, 48, .inl (jA L1)))]) [6, 0, 1, 7, 2, 3, 4, 5] (by decide) rfl) (by exact ⟨rfl, x, y, z, k2, k1, k0, by rw [← huN]⟩)
      · refine lv_iload hx hb dX2_walk_30 (lv_at hl 0 rfl) ?_
        refine lv_aload_n hx hb dX2_walk_32 rfl (lv_at hl 2 rfl) ?_
        refine jv_get (v := .int (jI u.2.2.2.2)) F hP 6 rfl flX2_46 rfl dX2_walk_33 ?_
        refine lv_iconst (v := jI 2) hx hb dX2_walk_36 rfl ?_
        refine jv_iadd hx hb dX2_walk_37 ?_
        refine jv_icmp_gt (tgt := 62) hx hb dX2_walk_38 rfl (by omega) (by omega) (fun c38 => ?_) (fun c38 => ?_)
        · have huN : u = (Zi (smv L0 L1 i j ga lo) (n0 - i) (n1 - j) gp li (n0 - i + (n1 - j))).2.2 := by
            rw [hu]
            first
              | (rw [show d - 1 = n0 - i + (n1 - j) by omega]; done)
              | exact (Zi_stop (smv_b hga hlo) hgp hli hzi (by rw [← hu]; omega) (by omega)).symm
          exact jM.rv F hQ rfl dX2_walk_62 hS (hP.sub (ws' := [(re, .inr (2, [.int (jI ga), .int (jI lo), .int (jI gp), .int (jI li), .ref x, .ref y, .ref z, .int (jI u.1), .int (jI u.2.1), .int (jI u.2.2.1), .int (jI u.2.2.2.1), .int (jI u.2.2.2.2)])), (x, .inl (cA, 49, .inl (jA k2))), (y, .inl (cA, 49, .inl (jA k1))), (z, .inl (cA, 49, .inl (jA k0))), (r0, .inr (1, [.ref a0, .int (jI n0)])), (a0, .inl (cA, 48, .inl (jA L0))), (r1, .inr (1, [.ref a1, .int (jI n1)])), (a1, .inl (cA, 48, .inl (jA L1)))]) [6, 0, 1, 7, 2, 3, 4, 5] rfl) (hD.sub (ws' := [(re, .inr (2, [.int (jI ga), .int (jI lo), .int (jI gp), .int (jI li), .ref x, .ref y, .ref z, .int (jI u.1), .int (jI u.2.1), .int (jI u.2.2.1), .int (jI u.2.2.2.1), .int (jI u.2.2.2.2)])), (x, .inl (cA, 49, .inl (jA k2))), (y, .inl (cA, 49, .inl (jA k1))), (z, .inl (cA, 49, .inl (jA k0))), (r0, .inr (1, [.ref a0, .int (jI n0)])), (a0, .inl (cA, 48, .inl (jA L0))), (r1, .inr (1, [.ref a1, .int (jI n1)])), (a1, .inl (cA, 48, .inl (jA L1)))]) [6, 0, 1, 7, 2, 3, 4, 5] (by decide) rfl) (by exact ⟨rfl, x, y, z, k2, k1, k0, by rw [← huN]⟩)
        · refine lv_aload_n hx hb dX2_walk_41 rfl (lv_at hl 2 rfl) ?_
          refine jw_V (wr := [(y, .inl (cA, 49, .inl (jA k1))), (r0, .inr (1, [.ref a0, .int (jI n0)])), (a0, .inl (cA, 48, .inl (jA L0))), (r1, .inr (1, [.ref a1, .int (jI n1)])), (a1, .inl (cA, 48, .inl (jA L1))), (z, .inl (cA, 49, .inl (jA k0)))]) F (kX2_turnSlopes l D cA re x y z ga lo gp li u.1 u.2.1 u.2.2.1 u.2.2.2.1 u.2.2.2.2 k2) cvX2_58 hP hD hS hA [6, 0] [1, 2, 3, 4, 5, 7] rfl rfl (by decide) (by decide) 6 rfl rfl hl ⟨rfl, rfl, by decide, by decide⟩ rfl rfl (Nat.le_of_ble_eq_true rfl) dX2_walk_42 ⟨by decide, by decide⟩ (by decide) (fun v w1 H locs hw hP hD hS => ?_)
          obtain ⟨rfl, ft, hft, rfl⟩ := hw
          have hP : va_P D cls [(y, .inl (cA, 49, .inl (jA k1))), (r0, .inr (1, [.ref a0, .int (jI n0)])), (a0, .inl (cA, 48, .inl (jA L0))), (r1, .inr (1, [.ref a1, .int (jI n1)])), (a1, .inl (cA, 48, .inl (jA L1))), (z, .inl (cA, 49, .inl (jA k0))), (re, .inr (2, [.int (jI ga), .int (jI lo), .int (jI gp), .int (jI li), .ref y, .ref z, .ref x, .int (jI u.1), .int (jI u.2.1), .int (jI u.2.2.1), .int (jI u.2.2.2.1), .int (jI u.2.2.2.2)])), (x, .inl (cA, 49, .inl (jA ft)))] H := hP
          have hD : va_D A [(y, .inl (cA, 49, .inl (jA k1))), (r0, .inr (1, [.ref a0, .int (jI n0)])), (a0, .inl (cA, 48, .inl (jA L0))), (r1, .inr (1, [.ref a1, .int (jI n1)])), (a1, .inl (cA, 48, .inl (jA L1))), (z, .inl (cA, 49, .inl (jA k0))), (re, .inr (2, [.int (jI ga), .int (jI lo), .int (jI gp), .int (jI li), .ref y, .ref z, .ref x, .int (jI u.1), .int (jI u.2.1), .int (jI u.2.2.1), .int (jI u.2.2.2.1), .int (jI u.2.2.2.2)])), (x, .inl (cA, 49, .inl (jA ft)))] := hD
          refine W.eq (g2 := F0 m 45 ls []) rfl ?_
          refine lv_aload_n hx hb dX2_walk_45 rfl (lv_at hl 2 rfl) ?_
          refine lv_aload_n hx hb dX2_walk_46 rfl (lv_at hl 3 rfl) ?_
          refine lv_iload_n hx hb dX2_walk_47 rfl (lv_at hl 4 rfl) ?_
          refine lv_aload_n hx hb dX2_walk_48 rfl (lv_at hl 5 rfl) ?_
          refine lv_iload hx hb dX2_walk_49 (lv_at hl 6 rfl) ?_
          refine lv_iload hx hb dX2_walk_51 (lv_at hl 0 rfl) ?_
          refine jw_V (wr := []) F (kX2_walkSlope l D cA re y z x ga lo gp li u k1 k0 ft ((Zi (smv L0 L1 i j ga lo) (n0 - i) (n1 - j) gp li (d - 1)).2.1) ((Zi (smv L0 L1 i j ga lo) (n0 - i) (n1 - j) gp li (d - 1)).1) r0 a0 r1 a1 n0 n1 i j d L0 L1 hn0 hn1 hL0 hL1 hi hj hga hlo hgp hli (by omega) hft hz0 hy1 (zi_b hzi (by omega)).1 (zi_b hzi (by omega)).2.1 (by rw [hu]; exact (zi_b hzi (by omega)).2.2)) cvX2_61 hP hD hS hA [6, 0, 5, 7, 1, 2, 3, 4] [] rfl rfl (by decide) (by decide) 6 rfl rfl hl ⟨rfl, rfl, by decide, by decide⟩ rfl rfl (Nat.le_of_ble_eq_true rfl) dX2_walk_53 ⟨by decide, by decide⟩ (by decide) (fun v w1 H locs hw hP hD hS => ?_)
          obtain ⟨rfl, f9, hf9, rfl⟩ := hw
          have hP : va_P D cls [(re, .inr (2, [.int (jI ga), .int (jI lo), .int (jI gp), .int (jI li), .ref y, .ref z, .ref x, .int (jI ((rA (nx (smv L0 L1 i j ga lo) (n0 - i) (n1 - j) gp li d u.1 (Zi (smv L0 L1 i j ga lo) (n0 - i) (n1 - j) gp li (d - 1)).2.1 (Zi (smv L0 L1 i j ga lo) (n0 - i) (n1 - j) gp li (d - 1)).1) d u (d + 1)).1)), .int (jI ((rA (nx (smv L0 L1 i j ga lo) (n0 - i) (n1 - j) gp li d u.1 (Zi (smv L0 L1 i j ga lo) (n0 - i) (n1 - j) gp li (d - 1)).2.1 (Zi (smv L0 L1 i j ga lo) (n0 - i) (n1 - j) gp li (d - 1)).1) d u (d + 1)).2.1)), .int (jI ((rA (nx (smv L0 L1 i j ga lo) (n0 - i) (n1 - j) gp li d u.1 (Zi (smv L0 L1 i j ga lo) (n0 - i) (n1 - j) gp li (d - 1)).2.1 (Zi (smv L0 L1 i j ga lo) (n0 - i) (n1 - j) gp li (d - 1)).1) d u (d + 1)).2.2.1)), .int (jI ((rA (nx (smv L0 L1 i j ga lo) (n0 - i) (n1 - j) gp li d u.1 (Zi (smv L0 L1 i j ga lo) (n0 - i) (n1 - j) gp li (d - 1)).2.1 (Zi (smv L0 L1 i j ga lo) (n0 - i) (n1 - j) gp li (d - 1)).1) d u (d + 1)).2.2.2.1)), .int (jI ((rA (nx (smv L0 L1 i j ga lo) (n0 - i) (n1 - j) gp li d u.1 (Zi (smv L0 L1 i j ga lo) (n0 - i) (n1 - j) gp li (d - 1)).2.1 (Zi (smv L0 L1 i j ga lo) (n0 - i) (n1 - j) gp li (d - 1)).1) d u (d + 1)).2.2.2.2))])), (y, .inl (cA, 49, .inl (jA k1))), (z, .inl (cA, 49, .inl (jA k0))), (x, .inl (cA, 49, .inl (jA f9))), (r0, .inr (1, [.ref a0, .int (jI n0)])), (a0, .inl (cA, 48, .inl (jA L0))), (r1, .inr (1, [.ref a1, .int (jI n1)])), (a1, .inl (cA, 48, .inl (jA L1)))] H := hP
          have hD : va_D A [(re, .inr (2, [.int (jI ga), .int (jI lo), .int (jI gp), .int (jI li), .ref y, .ref z, .ref x, .int (jI ((rA (nx (smv L0 L1 i j ga lo) (n0 - i) (n1 - j) gp li d u.1 (Zi (smv L0 L1 i j ga lo) (n0 - i) (n1 - j) gp li (d - 1)).2.1 (Zi (smv L0 L1 i j ga lo) (n0 - i) (n1 - j) gp li (d - 1)).1) d u (d + 1)).1)), .int (jI ((rA (nx (smv L0 L1 i j ga lo) (n0 - i) (n1 - j) gp li d u.1 (Zi (smv L0 L1 i j ga lo) (n0 - i) (n1 - j) gp li (d - 1)).2.1 (Zi (smv L0 L1 i j ga lo) (n0 - i) (n1 - j) gp li (d - 1)).1) d u (d + 1)).2.1)), .int (jI ((rA (nx (smv L0 L1 i j ga lo) (n0 - i) (n1 - j) gp li d u.1 (Zi (smv L0 L1 i j ga lo) (n0 - i) (n1 - j) gp li (d - 1)).2.1 (Zi (smv L0 L1 i j ga lo) (n0 - i) (n1 - j) gp li (d - 1)).1) d u (d + 1)).2.2.1)), .int (jI ((rA (nx (smv L0 L1 i j ga lo) (n0 - i) (n1 - j) gp li d u.1 (Zi (smv L0 L1 i j ga lo) (n0 - i) (n1 - j) gp li (d - 1)).2.1 (Zi (smv L0 L1 i j ga lo) (n0 - i) (n1 - j) gp li (d - 1)).1) d u (d + 1)).2.2.2.1)), .int (jI ((rA (nx (smv L0 L1 i j ga lo) (n0 - i) (n1 - j) gp li d u.1 (Zi (smv L0 L1 i j ga lo) (n0 - i) (n1 - j) gp li (d - 1)).2.1 (Zi (smv L0 L1 i j ga lo) (n0 - i) (n1 - j) gp li (d - 1)).1) d u (d + 1)).2.2.2.2))])), (y, .inl (cA, 49, .inl (jA k1))), (z, .inl (cA, 49, .inl (jA k0))), (x, .inl (cA, 49, .inl (jA f9))), (r0, .inr (1, [.ref a0, .int (jI n0)])), (a0, .inl (cA, 48, .inl (jA L0))), (r1, .inr (1, [.ref a1, .int (jI n1)])), (a1, .inl (cA, 48, .inl (jA L1)))] := hD
          refine W.eq (g2 := F0 m 56 ls []) rfl ?_
          refine lv_iinc (k := 0) (v := jI (d + 1)) (lv' := [(6, .int (jI (d + 1))), (5, .int (jI (((n0 - i) + n1) - j))), (0, .ref re), (1, .ref r0), (2, .int (jI i)), (3, .ref r1), (4, .int (jI j))]) hx hb dX2_walk_56 hl rfl (jI_add _ _) (by decide) rfl (fun ls hl => ?_)
          refine lv_goto (tgt := 23) hx hb dX2_walk_59 rfl ?_
          refine ih23 (d + 1) (rA (nx (smv L0 L1 i j ga lo) (n0 - i) (n1 - j) gp li d u.1 (Zi (smv L0 L1 i j ga lo) (n0 - i) (n1 - j) gp li (d - 1)).2.1 (Zi (smv L0 L1 i j ga lo) (n0 - i) (n1 - j) gp li (d - 1)).1) d u (d + 1)) y k1 z k0 x f9 ls H locs (by omega) ?_ ?_ ?_ ?_ (lv_sub hl [0, 1, 2, 3, 4, 5, 6] rfl) (hP.sub (ws' := [(y, .inl (cA, 49, .inl (jA k1))), (z, .inl (cA, 49, .inl (jA k0))), (r0, .inr (1, [.ref a0, .int (jI n0)])), (a0, .inl (cA, 48, .inl (jA L0))), (r1, .inr (1, [.ref a1, .int (jI n1)])), (a1, .inl (cA, 48, .inl (jA L1))), (re, .inr (2, [.int (jI ga), .int (jI lo), .int (jI gp), .int (jI li), .ref y, .ref z, .ref x, .int (jI ((rA (nx (smv L0 L1 i j ga lo) (n0 - i) (n1 - j) gp li d u.1 (Zi (smv L0 L1 i j ga lo) (n0 - i) (n1 - j) gp li (d - 1)).2.1 (Zi (smv L0 L1 i j ga lo) (n0 - i) (n1 - j) gp li (d - 1)).1) d u (d + 1)).1)), .int (jI ((rA (nx (smv L0 L1 i j ga lo) (n0 - i) (n1 - j) gp li d u.1 (Zi (smv L0 L1 i j ga lo) (n0 - i) (n1 - j) gp li (d - 1)).2.1 (Zi (smv L0 L1 i j ga lo) (n0 - i) (n1 - j) gp li (d - 1)).1) d u (d + 1)).2.1)), .int (jI ((rA (nx (smv L0 L1 i j ga lo) (n0 - i) (n1 - j) gp li d u.1 (Zi (smv L0 L1 i j ga lo) (n0 - i) (n1 - j) gp li (d - 1)).2.1 (Zi (smv L0 L1 i j ga lo) (n0 - i) (n1 - j) gp li (d - 1)).1) d u (d + 1)).2.2.1)), .int (jI ((rA (nx (smv L0 L1 i j ga lo) (n0 - i) (n1 - j) gp li d u.1 (Zi (smv L0 L1 i j ga lo) (n0 - i) (n1 - j) gp li (d - 1)).2.1 (Zi (smv L0 L1 i j ga lo) (n0 - i) (n1 - j) gp li (d - 1)).1) d u (d + 1)).2.2.2.1)), .int (jI ((rA (nx (smv L0 L1 i j ga lo) (n0 - i) (n1 - j) gp li d u.1 (Zi (smv L0 L1 i j ga lo) (n0 - i) (n1 - j) gp li (d - 1)).2.1 (Zi (smv L0 L1 i j ga lo) (n0 - i) (n1 - j) gp li (d - 1)).1) d u (d + 1)).2.2.2.2))])), (x, .inl (cA, 49, .inl (jA f9)))]) [1, 2, 4, 5, 6, 7, 0, 3] rfl) (hD.sub (ws' := [(y, .inl (cA, 49, .inl (jA k1))), (z, .inl (cA, 49, .inl (jA k0))), (r0, .inr (1, [.ref a0, .int (jI n0)])), (a0, .inl (cA, 48, .inl (jA L0))), (r1, .inr (1, [.ref a1, .int (jI n1)])), (a1, .inl (cA, 48, .inl (jA L1))), (re, .inr (2, [.int (jI ga), .int (jI lo), .int (jI gp), .int (jI li), .ref y, .ref z, .ref x, .int (jI ((rA (nx (smv L0 L1 i j ga lo) (n0 - i) (n1 - j) gp li d u.1 (Zi (smv L0 L1 i j ga lo) (n0 - i) (n1 - j) gp li (d - 1)).2.1 (Zi (smv L0 L1 i j ga lo) (n0 - i) (n1 - j) gp li (d - 1)).1) d u (d + 1)).1)), .int (jI ((rA (nx (smv L0 L1 i j ga lo) (n0 - i) (n1 - j) gp li d u.1 (Zi (smv L0 L1 i j ga lo) (n0 - i) (n1 - j) gp li (d - 1)).2.1 (Zi (smv L0 L1 i j ga lo) (n0 - i) (n1 - j) gp li (d - 1)).1) d u (d + 1)).2.1)), .int (jI ((rA (nx (smv L0 L1 i j ga lo) (n0 - i) (n1 - j) gp li d u.1 (Zi (smv L0 L1 i j ga lo) (n0 - i) (n1 - j) gp li (d - 1)).2.1 (Zi (smv L0 L1 i j ga lo) (n0 - i) (n1 - j) gp li (d - 1)).1) d u (d + 1)).2.2.1)), .int (jI ((rA (nx (smv L0 L1 i j ga lo) (n0 - i) (n1 - j) gp li d u.1 (Zi (smv L0 L1 i j ga lo) (n0 - i) (n1 - j) gp li (d - 1)).2.1 (Zi (smv L0 L1 i j ga lo) (n0 - i) (n1 - j) gp li (d - 1)).1) d u (d + 1)).2.2.2.1)), .int (jI ((rA (nx (smv L0 L1 i j ga lo) (n0 - i) (n1 - j) gp li d u.1 (Zi (smv L0 L1 i j ga lo) (n0 - i) (n1 - j) gp li (d - 1)).2.1 (Zi (smv L0 L1 i j ga lo) (n0 - i) (n1 - j) gp li (d - 1)).1) d u (d + 1)).2.2.2.2))])), (x, .inl (cA, 49, .inl (jA f9)))]) [1, 2, 4, 5, 6, 7, 0, 3] (by decide) rfl) hS
          · omega
          · have e5 : (Zi (smv L0 L1 i j ga lo) (n0 - i) (n1 - j) gp li (d + 1 - 1)) = (Zi (smv L0 L1 i j ga lo) (n0 - i) (n1 - j) gp li (d - 1 + 1)) := by rw [show d + 1 - 1 = d - 1 + 1 by omega]
            rw [e5, Zi_s (by omega)]
            show _ = rA _ _ _ _
            rw [hu, show d - 1 + 1 = d by omega, show d - 1 + 2 = d + 1 by omega]
          · have e5 : (Zi (smv L0 L1 i j ga lo) (n0 - i) (n1 - j) gp li (d + 1 - 1)) = (Zi (smv L0 L1 i j ga lo) (n0 - i) (n1 - j) gp li (d - 1 + 1)) := by rw [show d + 1 - 1 = d - 1 + 1 by omega]
            rw [e5, Zi_s (by omega)]
            intro t t0 t1
            rw [hf9 t t0 t1, hu]
            show _ = nx _ _ _ _ _ _ _ _ _ _
            rw [show d - 1 + 1 = d by omega]
          · have e5 : (Zi (smv L0 L1 i j ga lo) (n0 - i) (n1 - j) gp li (d + 1 - 1)) = (Zi (smv L0 L1 i j ga lo) (n0 - i) (n1 - j) gp li (d - 1 + 1)) := by rw [show d + 1 - 1 = d - 1 + 1 by omega]
            rw [e5, Zi_s (by omega)]
            intro _
            exact hz0
  refine lp23 (Int.toNat (n0 - i + (n1 - j) + 1 - 1) + 1) 1 (0, 0, 0, 1, 0) t2 f2 t1 f1 t0 fb ls H locs (by omega) ?_ ?_ ?_ ?_ (lv_sub hl [0, 1, 2, 3, 4, 5, 6] rfl) hP hD hS
  · omega
  · rfl
  · exact hfb
  · intro h5; omega
end
section
def outv (ep eq al la what : Int) : Int := if what = 0 then ep else if what = 1 then eq else if what = 2 then al else if what = 3 then la else -1
theorem outv_n {ep eq al la what : Int} (h : ¬ (what = 0 ∨ what = 1 ∨ what = 2 ∨ what = 3)) : outv ep eq al la what = -1 := by
  unfold outv
  rw [if_neg (by omega), if_neg (by omega), if_neg (by omega), if_neg (by omega)]
set_option maxHeartbeats 4000000 in
set_option maxRecDepth 100000 in
theorem kX2_outcome (l : Launch) (D : va_G) (cA : ClassId) (re t2 t1 t0 : Nat) (ga lo gp li es ep eq al la : Int) (what : Int) (hw : -2147483648 ≤ what ∧ what < 2147483648) : jR l YX2_outcome (rmk 0 0 0 0) D cA [.ref re, .int (jI what)] [(re, .inr (2, [.int (jI ga), .int (jI lo), .int (jI gp), .int (jI li), .ref t2, .ref t1, .ref t0, .int (jI es), .int (jI ep), .int (jI eq), .int (jI al), .int (jI la)]))] (fun v => v = .int (jI (outv ep eq al la what))) := by
  refine jR.intro (by decide +kernel) (Nat.le_of_ble_eq_true rfl) ?_
  intro p e s m args below meth c ls Q F hQ hP hl
  have hx := F.1
  have hb := F.2.1
  have hl : lv_has ls 2 [(0, .ref re), (1, .int (jI what))] := hl
  refine lv_iload_n hx hb dX2_outcome_0 rfl (lv_at hl 1 rfl) ?_
  by_cases hsw : what = 0 ∨ what = 1 ∨ what = 2 ∨ what = 3
  · rcases hsw with hsw | hsw | hsw | hsw
    · rw [hsw]
      refine lv_tableIn (off := 31) (tgt := 32) hx hb dX2_outcome_1 (by decide +kernel) (by decide +kernel) (by decide +kernel) rfl ?_
      refine lv_aload_n hx hb dX2_outcome_32 rfl (lv_at hl 0 rfl) ?_
      refine jv_get (v := .int (jI ep)) F hP 0 rfl flX2_37 rfl dX2_outcome_33 ?_
      exact jR.ri F hQ rfl dX2_outcome_36 (by first | (rw [hsw]; rfl) | (rw [outv_n hsw]))
    · rw [hsw]
      refine lv_tableIn (off := 36) (tgt := 37) hx hb dX2_outcome_1 (by decide +kernel) (by decide +kernel) (by decide +kernel) rfl ?_
      refine lv_aload_n hx hb dX2_outcome_37 rfl (lv_at hl 0 rfl) ?_
      refine jv_get (v := .int (jI eq)) F hP 0 rfl flX2_40 rfl dX2_outcome_38 ?_
      exact jR.ri F hQ rfl dX2_outcome_41 (by first | (rw [hsw]; rfl) | (rw [outv_n hsw]))
    · rw [hsw]
      refine lv_tableIn (off := 41) (tgt := 42) hx hb dX2_outcome_1 (by decide +kernel) (by decide +kernel) (by decide +kernel) rfl ?_
      refine lv_aload_n hx hb dX2_outcome_42 rfl (lv_at hl 0 rfl) ?_
      refine jv_get (v := .int (jI al)) F hP 0 rfl flX2_43 rfl dX2_outcome_43 ?_
      exact jR.ri F hQ rfl dX2_outcome_46 (by first | (rw [hsw]; rfl) | (rw [outv_n hsw]))
    · rw [hsw]
      refine lv_tableIn (off := 46) (tgt := 47) hx hb dX2_outcome_1 (by decide +kernel) (by decide +kernel) (by decide +kernel) rfl ?_
      refine lv_aload_n hx hb dX2_outcome_47 rfl (lv_at hl 0 rfl) ?_
      refine jv_get (v := .int (jI la)) F hP 0 rfl flX2_46 rfl dX2_outcome_48 ?_
      exact jR.ri F hQ rfl dX2_outcome_51 (by first | (rw [hsw]; rfl) | (rw [outv_n hsw]))
  · refine jv_tabOut (tgt := 52) hx hb dX2_outcome_1 (by omega) (by omega) rfl ?_
    refine lv_iconst (v := jI (-1)) hx hb dX2_outcome_52 rfl ?_
    exact jR.ri F hQ rfl dX2_outcome_53 (by first | (rw [hsw]; rfl) | (rw [outv_n hsw]))
set_option maxHeartbeats 4000000 in
set_option maxRecDepth 100000 in
theorem kX4_freshBest_0 (l : Launch) (D : va_G) (cA : ClassId) (h4 r0 a0 r1 a1 sp be ah pa : Nat) (re : Nat) (n0 n1 K g sz to : Int) (L0 L1 Ah Pa : Int → Int) (hn0 : 0 ≤ n0 ∧ n0 ≤ 48) (hn1 : 0 ≤ n1 ∧ n1 ≤ 48) (hK : 1 ≤ K ∧ K ≤ 6) (hL0 : ∀ x, 0 ≤ L0 x ∧ L0 x ≤ 3) (hL1 : ∀ x, 0 ≤ L1 x ∧ L1 x ≤ 3) (hg : 0 ≤ g ∧ g ≤ 9) : jM l YX4_freshBest (rmk 5 0 0 118) D cA [.ref h4] [(h4, .inr (4, [.ref r0, .ref r1, .ref sp, .ref be, .ref re, .int (jI g), .int (jI 0)])), (be, .inr (0, [.ref ah, .ref pa, .int (jI sz), .int (jI to)])), (ah, .inl (cA, 2401, .inl (jA Ah))), (pa, .inl (cA, 48, .inl (jA Pa))), (sp, .inr (3, [.ref r0, .ref r1, .int (jI K)])), (r0, .inr (1, [.ref a0, .int (jI n0)])), (a0, .inl (cA, 48, .inl (jA L0))), (r1, .inr (1, [.ref a1, .int (jI n1)])), (a1, .inl (cA, 48, .inl (jA L1)))] (fun v w => v = some (.ref be) ∧ ∃ (A2 P2 : Int → Int) (n2 t2 : Int), fin (anc L0 L1 n0 n1 K) K g n2 t2 P2 ∧ w = [(h4, .inr (4, [.ref r0, .ref r1, .ref sp, .ref be, .ref re, .int (jI g), .int (jI 1)])), (be, .inr (0, [.ref ah, .ref pa, .int (jI n2), .int (jI t2)])), (ah, .inl (cA, 2401, .inl (jA A2))), (pa, .inl (cA, 48, .inl (jA P2))), (sp, .inr (3, [.ref r0, .ref r1, .int (jI K)])), (r0, .inr (1, [.ref a0, .int (jI n0)])), (a0, .inl (cA, 48, .inl (jA L0))), (r1, .inr (1, [.ref a1, .int (jI n1)])), (a1, .inl (cA, 48, .inl (jA L1)))]) 0 0 := by
  refine jM.intro (by decide +kernel) (Nat.le_of_ble_eq_true rfl) ?_
  intro p e s m args below meth c ls Q A F hQ hA hP hD hS hl
  have hx := F.1
  have hb := F.2.1
  have hl : lv_has ls 1 [(0, .ref h4)] := hl
  refine lv_aload_n hx hb dX4_freshBest_0 rfl (lv_at hl 0 rfl) ?_
  refine jv_get (v := .int (jI 0)) F hP 0 rfl flX4_46 rfl dX4_freshBest_1 ?_
  refine jv_if_ne (tgt := 27) hx hb dX4_freshBest_4 rfl (by omega) (fun c4 => ?_) (fun c4 => ?_)
  · exfalso
    omega
  · refine lv_aload_n hx hb dX4_freshBest_7 rfl (lv_at hl 0 rfl) ?_
    refine jv_get (v := .ref be) F hP 0 rfl flX4_31 rfl dX4_freshBest_8 ?_
    refine lv_aload_n hx hb dX4_freshBest_11 rfl (lv_at hl 0 rfl) ?_
    refine jv_get (v := .ref sp) F hP 0 rfl flX4_24 rfl dX4_freshBest_12 ?_
    refine lv_aload_n hx hb dX4_freshBest_15 rfl (lv_at hl 0 rfl) ?_
    refine jv_get (v := .int (jI g)) F hP 0 rfl flX4_42 rfl dX4_freshBest_16 ?_
    refine jw_V (wr := [(h4, .inr (4, [.ref r0, .ref r1, .ref sp, .ref be, .ref re, .int (jI g), .int (jI 0)]))]) F (kX0_find l D cA be ah pa sz to Ah Pa sp r0 a0 r1 a1 n0 n1 K L0 L1 g (by omega) (by omega) (by omega) hL0 hL1 (by omega)) cvX4_113 hP hD hS hA [1, 2, 3, 4, 5, 6, 7, 8] [0] rfl rfl (by decide) (by decide) 1 rfl rfl hl ⟨rfl, rfl, by decide, by decide⟩ rfl rfl (Nat.le_of_ble_eq_true rfl) dX4_freshBest_19 ⟨by decide, by decide⟩ (by decide) (fun v w1 H locs hw hP hD hS => ?_)
    obtain ⟨rfl, A2, P2, n2, t2, hfin2, rfl⟩ := hw
    have hP : va_P D cls [(h4, .inr (4, [.ref r0, .ref r1, .ref sp, .ref be, .ref re, .int (jI g), .int (jI 0)])), (be, .inr (0, [.ref ah, .ref pa, .int (jI n2), .int (jI t2)])), (ah, .inl (cA, 2401, .inl (jA A2))), (pa, .inl (cA, 48, .inl (jA P2))), (sp, .inr (3, [.ref r0, .ref r1, .int (jI K)])), (r0, .inr (1, [.ref a0, .int (jI n0)])), (a0, .inl (cA, 48, .inl (jA L0))), (r1, .inr (1, [.ref a1, .int (jI n1)])), (a1, .inl (cA, 48, .inl (jA L1)))] H := hP
    have hD : va_D A [(h4, .inr (4, [.ref r0, .ref r1, .ref sp, .ref be, .ref re, .int (jI g), .int (jI 0)])), (be, .inr (0, [.ref ah, .ref pa, .int (jI n2), .int (jI t2)])), (ah, .inl (cA, 2401, .inl (jA A2))), (pa, .inl (cA, 48, .inl (jA P2))), (sp, .inr (3, [.ref r0, .ref r1, .int (jI K)])), (r0, .inr (1, [.ref a0, .int (jI n0)])), (a0, .inl (cA, 48, .inl (jA L0))), (r1, .inr (1, [.ref a1, .int (jI n1)])), (a1, .inl (cA, 48, .inl (jA L1)))] := hD
    refine W.eq (g2 := F0 m 22 ls []) rfl ?_
    refine lv_aload_n hx hb dX4_freshBest_22 rfl (lv_at hl 0 rfl) ?_
    refine lv_iconst (v := jI 1) hx hb dX4_freshBest_23 rfl ?_
    refine jv_put (v := .int (jI 1)) F hP hD hS 0 rfl flX4_46 pfX4 (by decide +kernel) (by decide +kernel) (by decide +kernel) (Nat.le_of_ble_eq_true rfl) dX4_freshBest_24 (fun H locs hP hD hS => ?_)
    have hP : va_P D cls [(h4, .inr (4, [.ref r0, .ref r1, .ref sp, .ref be, .ref re, .int (jI g), .int (jI 1)])), (be, .inr (0, [.ref ah, .ref pa, .int (jI n2), .int (jI t2)])), (ah, .inl (cA, 2401, .inl (jA A2))), (pa, .inl (cA, 48, .inl (jA P2))), (sp, .inr (3, [.ref r0, .ref r1, .int (jI K)])), (r0, .inr (1, [.ref a0, .int (jI n0)])), (a0, .inl (cA, 48, .inl (jA L0))), (r1, .inr (1, [.ref a1, .int (jI n1)])), (a1, .inl (cA, 48, .inl (jA L1)))] H := hP
    have hD : va_D A [(h4, .inr (4, [.ref r0, .ref r1, .ref sp, .ref be, .ref re, .int (jI g), .int (jI 1)])), (be, .inr (0, [.ref ah, .ref pa, .int (jI n2), .int (jI t2)])), (ah, .inl (cA, 2401, .inl (jA A2))), (pa, .inl (cA, 48, .inl (jA P2))), (sp, .inr (3, [.ref r0, .ref r1, .int (jI K)])), (r0, .inr (1, [.ref a0, .int (jI n0)])), (a0, .inl (cA, 48, .inl (jA L0))), (r1, .inr (1, [.ref a1, .int (jI n1)])), (a1, .inl (cA, 48, .inl (jA L1)))] := hD
    refine lv_aload_n hx hb dX4_freshBest_27 rfl (lv_at hl 0 rfl) ?_
    refine jv_get (v := .ref be) F hP 0 rfl flX4_31 rfl dX4_freshBest_28 ?_
    exact jM.ra F hQ rfl dX4_freshBest_31 hS hP hD (by exact ⟨rfl, _, _, _, _, hfin2, rfl⟩)
set_option maxHeartbeats 4000000 in
set_option maxRecDepth 100000 in
theorem kX4_freshBest_1 (l : Launch) (D : va_G) (cA : ClassId) (h4 r0 a0 r1 a1 sp be ah pa : Nat) (re : Nat) (n0 n1 K g sz to : Int) (L0 L1 Ah Pa : Int → Int) (hn0 : 0 ≤ n0 ∧ n0 ≤ 48) (hn1 : 0 ≤ n1 ∧ n1 ≤ 48) (hK : 1 ≤ K ∧ K ≤ 6) (hL0 : ∀ x, 0 ≤ L0 x ∧ L0 x ≤ 3) (hL1 : ∀ x, 0 ≤ L1 x ∧ L1 x ≤ 3) (hg : 0 ≤ g ∧ g ≤ 9) (hfin2 : fin (anc L0 L1 n0 n1 K) K g sz to Pa) : jM l YX4_freshBest (rmk 5 0 0 118) D cA [.ref h4] [(h4, .inr (4, [.ref r0, .ref r1, .ref sp, .ref be, .ref re, .int (jI g), .int (jI 1)])), (be, .inr (0, [.ref ah, .ref pa, .int (jI sz), .int (jI to)])), (ah, .inl (cA, 2401, .inl (jA Ah))), (pa, .inl (cA, 48, .inl (jA Pa))), (sp, .inr (3, [.ref r0, .ref r1, .int (jI K)])), (r0, .inr (1, [.ref a0, .int (jI n0)])), (a0, .inl (cA, 48, .inl (jA L0))), (r1, .inr (1, [.ref a1, .int (jI n1)])), (a1, .inl (cA, 48, .inl (jA L1)))] (fun v w => v = some (.ref be) ∧ ∃ (A2 P2 : Int → Int) (n2 t2 : Int), fin (anc L0 L1 n0 n1 K) K g n2 t2 P2 ∧ w = [(h4, .inr (4, [.ref r0, .ref r1, .ref sp, .ref be, .ref re, .int (jI g), .int (jI 1)])), (be, .inr (0, [.ref ah, .ref pa, .int (jI n2), .int (jI t2)])), (ah, .inl (cA, 2401, .inl (jA A2))), (pa, .inl (cA, 48, .inl (jA P2))), (sp, .inr (3, [.ref r0, .ref r1, .int (jI K)])), (r0, .inr (1, [.ref a0, .int (jI n0)])), (a0, .inl (cA, 48, .inl (jA L0))), (r1, .inr (1, [.ref a1, .int (jI n1)])), (a1, .inl (cA, 48, .inl (jA L1)))]) 0 0 := by
  refine jM.intro (by decide +kernel) (Nat.le_of_ble_eq_true rfl) ?_
  intro p e s m args below meth c ls Q A F hQ hA hP hD hS hl
  have hx := F.1
  have hb := F.2.1
  have hl : lv_has ls 1 [(0, .ref h4)] := hl
  refine lv_aload_n hx hb dX4_freshBest_0 rfl (lv_at hl 0 rfl) ?_
  refine jv_get (v := .int (jI 1)) F hP 0 rfl flX4_46 rfl dX4_freshBest_1 ?_
  refine jv_if_ne (tgt := 27) hx hb dX4_freshBest_4 rfl (by omega) (fun c4 => ?_) (fun c4 => ?_)
  · refine lv_aload_n hx hb dX4_freshBest_27 rfl (lv_at hl 0 rfl) ?_
    refine jv_get (v := .ref be) F hP 0 rfl flX4_31 rfl dX4_freshBest_28 ?_
    exact jM.ra F hQ rfl dX4_freshBest_31 hS hP hD (by exact ⟨rfl, _, _, _, _, hfin2, rfl⟩)
  · exfalso
    omega
theorem kX4_freshBest (l : Launch) (D : va_G) (cA : ClassId) (h4 r0 a0 r1 a1 sp be ah pa : Nat) (re : Nat) (n0 n1 K g sz to : Int) (L0 L1 Ah Pa : Int → Int) (fr : Int) (hn0 : 0 ≤ n0 ∧ n0 ≤ 48) (hn1 : 0 ≤ n1 ∧ n1 ≤ 48) (hK : 1 ≤ K ∧ K ≤ 6) (hL0 : ∀ x, 0 ≤ L0 x ∧ L0 x ≤ 3) (hL1 : ∀ x, 0 ≤ L1 x ∧ L1 x ≤ 3) (hg : 0 ≤ g ∧ g ≤ 9) (hfr : fr = 0 ∨ (fr = 1 ∧ fin (anc L0 L1 n0 n1 K) K g sz to Pa)) : jM l YX4_freshBest (rmk 5 0 0 118) D cA [.ref h4] [(h4, .inr (4, [.ref r0, .ref r1, .ref sp, .ref be, .ref re, .int (jI g), .int (jI fr)])), (be, .inr (0, [.ref ah, .ref pa, .int (jI sz), .int (jI to)])), (ah, .inl (cA, 2401, .inl (jA Ah))), (pa, .inl (cA, 48, .inl (jA Pa))), (sp, .inr (3, [.ref r0, .ref r1, .int (jI K)])), (r0, .inr (1, [.ref a0, .int (jI n0)])), (a0, .inl (cA, 48, .inl (jA L0))), (r1, .inr (1, [.ref a1, .int (jI n1)])), (a1, .inl (cA, 48, .inl (jA L1)))] (fun v w => v = some (.ref be) ∧ ∃ (A2 P2 : Int → Int) (n2 t2 : Int), fin (anc L0 L1 n0 n1 K) K g n2 t2 P2 ∧ w = [(h4, .inr (4, [.ref r0, .ref r1, .ref sp, .ref be, .ref re, .int (jI g), .int (jI 1)])), (be, .inr (0, [.ref ah, .ref pa, .int (jI n2), .int (jI t2)])), (ah, .inl (cA, 2401, .inl (jA A2))), (pa, .inl (cA, 48, .inl (jA P2))), (sp, .inr (3, [.ref r0, .ref r1, .int (jI K)])), (r0, .inr (1, [.ref a0, .int (jI n0)])), (a0, .inl (cA, 48, .inl (jA L0))), (r1, .inr (1, [.ref a1, .int (jI n1)])), (a1, .inl (cA, 48, .inl (jA L1)))]) 0 0 := by
  rcases hfr with rfl | ⟨rfl, h⟩
  · exact kX4_freshBest_0 l D cA h4 r0 a0 r1 a1 sp be ah pa re n0 n1 K g sz to L0 L1 Ah Pa hn0 hn1 hK hL0 hL1 hg
  · exact kX4_freshBest_1 l D cA h4 r0 a0 r1 a1 sp be ah pa re n0 n1 K g sz to L0 L1 Ah Pa hn0 hn1 hK hL0 hL1 hg h
theorem fin_n {G : Int → Int → Prop} {K g n t : Int} {Pa : Int → Int} (h : fin G K g n t Pa) : (0 ≤ n ∧ n ≤ 48) ∧ ∀ x, -1 ≤ atv Pa n x ∧ atv Pa n x < 2304 := by
  obtain ⟨wt, -, -, -, h1, h2⟩ := h
  refine ⟨h1, fun x => ?_⟩
  by_cases e : 0 ≤ x ∧ x < n
  · rw [atv_in e]; have := h2 x e.1 e.2; omega
  · rw [atv_out e]; omega
set_option maxHeartbeats 4000000 in
set_option maxRecDepth 100000 in
theorem kX4_chain (l : Launch) (D : va_G) (cA : ClassId) (h4 r0 a0 r1 a1 sp be ah pa : Nat) (re : Nat) (n0 n1 K g sz to : Int) (L0 L1 Ah Pa : Int → Int) (fr : Int) (hn0 : 0 ≤ n0 ∧ n0 ≤ 48) (hn1 : 0 ≤ n1 ∧ n1 ≤ 48) (hK : 1 ≤ K ∧ K ≤ 6) (hL0 : ∀ x, 0 ≤ L0 x ∧ L0 x ≤ 3) (hL1 : ∀ x, 0 ≤ L1 x ∧ L1 x ≤ 3) (hg : 0 ≤ g ∧ g ≤ 9) (hfr : fr = 0 ∨ (fr = 1 ∧ fin (anc L0 L1 n0 n1 K) K g sz to Pa)) : jM l YX4_chain (rmk 6 0 0 138) D cA [.ref h4] [(h4, .inr (4, [.ref r0, .ref r1, .ref sp, .ref be, .ref re, .int (jI g), .int (jI fr)])), (be, .inr (0, [.ref ah, .ref pa, .int (jI sz), .int (jI to)])), (ah, .inl (cA, 2401, .inl (jA Ah))), (pa, .inl (cA, 48, .inl (jA Pa))), (sp, .inr (3, [.ref r0, .ref r1, .int (jI K)])), (r0, .inr (1, [.ref a0, .int (jI n0)])), (a0, .inl (cA, 48, .inl (jA L0))), (r1, .inr (1, [.ref a1, .int (jI n1)])), (a1, .inl (cA, 48, .inl (jA L1)))] (fun v w => ∃ (A2 P2 : Int → Int) (n2 t2 : Int), fin (anc L0 L1 n0 n1 K) K g n2 t2 P2 ∧ v = some (.int (jI (t2))) ∧ w = [(h4, .inr (4, [.ref r0, .ref r1, .ref sp, .ref be, .ref re, .int (jI g), .int (jI 1)])), (be, .inr (0, [.ref ah, .ref pa, .int (jI n2), .int (jI t2)])), (ah, .inl (cA, 2401, .inl (jA A2))), (pa, .inl (cA, 48, .inl (jA P2))), (sp, .inr (3, [.ref r0, .ref r1, .int (jI K)])), (r0, .inr (1, [.ref a0, .int (jI n0)])), (a0, .inl (cA, 48, .inl (jA L0))), (r1, .inr (1, [.ref a1, .int (jI n1)])), (a1, .inl (cA, 48, .inl (jA L1)))]) 0 0 := by
  refine jM.intro (by decide +kernel) (Nat.le_of_ble_eq_true rfl) ?_
  intro p e s m args below meth c ls Q A F hQ hA hP hD hS hl
  have hx := F.1
  have hb := F.2.1
  have hl : lv_has ls 1 [(0, .ref h4)] := hl
  refine lv_aload_n hx hb dX4_chain_0 rfl (lv_at hl 0 rfl) ?_
  refine jw_V (wr := []) F (kX4_freshBest l D cA h4 r0 a0 r1 a1 sp be ah pa re n0 n1 K g sz to L0 L1 Ah Pa fr hn0 hn1 hK hL0 hL1 hg hfr) cvX4_94 hP hD hS hA [0, 1, 2, 3, 4, 5, 6, 7, 8] [] rfl rfl (by decide) (by decide) 0 rfl rfl hl ⟨rfl, rfl, by decide, by decide⟩ rfl rfl (Nat.le_of_ble_eq_true rfl) dX4_chain_1 ⟨by decide, by decide⟩ (by decide) (fun v w1 H locs hw hP hD hS => ?_)
  obtain ⟨rfl, A2, P2, n2, t2, hfin2, rfl⟩ := hw
  have hP : va_P D cls [(h4, .inr (4, [.ref r0, .ref r1, .ref sp, .ref be, .ref re, .int (jI g), .int (jI 1)])), (be, .inr (0, [.ref ah, .ref pa, .int (jI n2), .int (jI t2)])), (ah, .inl (cA, 2401, .inl (jA A2))), (pa, .inl (cA, 48, .inl (jA P2))), (sp, .inr (3, [.ref r0, .ref r1, .int (jI K)])), (r0, .inr (1, [.ref a0, .int (jI n0)])), (a0, .inl (cA, 48, .inl (jA L0))), (r1, .inr (1, [.ref a1, .int (jI n1)])), (a1, .inl (cA, 48, .inl (jA L1)))] H := hP
  have hD : va_D A [(h4, .inr (4, [.ref r0, .ref r1, .ref sp, .ref be, .ref re, .int (jI g), .int (jI 1)])), (be, .inr (0, [.ref ah, .ref pa, .int (jI n2), .int (jI t2)])), (ah, .inl (cA, 2401, .inl (jA A2))), (pa, .inl (cA, 48, .inl (jA P2))), (sp, .inr (3, [.ref r0, .ref r1, .int (jI K)])), (r0, .inr (1, [.ref a0, .int (jI n0)])), (a0, .inl (cA, 48, .inl (jA L0))), (r1, .inr (1, [.ref a1, .int (jI n1)])), (a1, .inl (cA, 48, .inl (jA L1)))] := hD
  refine W.eq (g2 := F0 m 4 ls [.ref be]) rfl ?_
  have hn2 := fin_n hfin2
  refine jr_V F (kX0_total l D cA be ah pa n2 t2) cvX4_98 hP [1] rfl 1 rfl rfl hl ⟨rfl, rfl, by decide, by decide⟩ rfl rfl (Nat.le_of_ble_eq_true rfl) dX4_chain_4 ⟨by decide, by decide⟩ (fun v hv => ?_)
  subst hv
  exact jM.ri F hQ rfl dX4_chain_7 hS hP hD (by exact ⟨_, _, _, _, hfin2, rfl, rfl⟩)
set_option maxHeartbeats 4000000 in
set_option maxRecDepth 100000 in
theorem kX4_links (l : Launch) (D : va_G) (cA : ClassId) (h4 r0 a0 r1 a1 sp be ah pa : Nat) (re : Nat) (n0 n1 K g sz to : Int) (L0 L1 Ah Pa : Int → Int) (fr : Int) (hn0 : 0 ≤ n0 ∧ n0 ≤ 48) (hn1 : 0 ≤ n1 ∧ n1 ≤ 48) (hK : 1 ≤ K ∧ K ≤ 6) (hL0 : ∀ x, 0 ≤ L0 x ∧ L0 x ≤ 3) (hL1 : ∀ x, 0 ≤ L1 x ∧ L1 x ≤ 3) (hg : 0 ≤ g ∧ g ≤ 9) (hfr : fr = 0 ∨ (fr = 1 ∧ fin (anc L0 L1 n0 n1 K) K g sz to Pa)) : jM l YX4_links (rmk 6 0 0 138) D cA [.ref h4] [(h4, .inr (4, [.ref r0, .ref r1, .ref sp, .ref be, .ref re, .int (jI g), .int (jI fr)])), (be, .inr (0, [.ref ah, .ref pa, .int (jI sz), .int (jI to)])), (ah, .inl (cA, 2401, .inl (jA Ah))), (pa, .inl (cA, 48, .inl (jA Pa))), (sp, .inr (3, [.ref r0, .ref r1, .int (jI K)])), (r0, .inr (1, [.ref a0, .int (jI n0)])), (a0, .inl (cA, 48, .inl (jA L0))), (r1, .inr (1, [.ref a1, .int (jI n1)])), (a1, .inl (cA, 48, .inl (jA L1)))] (fun v w => ∃ (A2 P2 : Int → Int) (n2 t2 : Int), fin (anc L0 L1 n0 n1 K) K g n2 t2 P2 ∧ v = some (.int (jI (n2))) ∧ w = [(h4, .inr (4, [.ref r0, .ref r1, .ref sp, .ref be, .ref re, .int (jI g), .int (jI 1)])), (be, .inr (0, [.ref ah, .ref pa, .int (jI n2), .int (jI t2)])), (ah, .inl (cA, 2401, .inl (jA A2))), (pa, .inl (cA, 48, .inl (jA P2))), (sp, .inr (3, [.ref r0, .ref r1, .int (jI K)])), (r0, .inr (1, [.ref a0, .int (jI n0)])), (a0, .inl (cA, 48, .inl (jA L0))), (r1, .inr (1, [.ref a1, .int (jI n1)])), (a1, .inl (cA, 48, .inl (jA L1)))]) 0 0 := by
  refine jM.intro (by decide +kernel) (Nat.le_of_ble_eq_true rfl) ?_
  intro p e s m args below meth c ls Q A F hQ hA hP hD hS hl
  have hx := F.1
  have hb := F.2.1
  have hl : lv_has ls 1 [(0, .ref h4)] := hl
  refine lv_aload_n hx hb dX4_links_0 rfl (lv_at hl 0 rfl) ?_
  refine jw_V (wr := []) F (kX4_freshBest l D cA h4 r0 a0 r1 a1 sp be ah pa re n0 n1 K g sz to L0 L1 Ah Pa fr hn0 hn1 hK hL0 hL1 hg hfr) cvX4_94 hP hD hS hA [0, 1, 2, 3, 4, 5, 6, 7, 8] [] rfl rfl (by decide) (by decide) 0 rfl rfl hl ⟨rfl, rfl, by decide, by decide⟩ rfl rfl (Nat.le_of_ble_eq_true rfl) dX4_links_1 ⟨by decide, by decide⟩ (by decide) (fun v w1 H locs hw hP hD hS => ?_)
  obtain ⟨rfl, A2, P2, n2, t2, hfin2, rfl⟩ := hw
  have hP : va_P D cls [(h4, .inr (4, [.ref r0, .ref r1, .ref sp, .ref be, .ref re, .int (jI g), .int (jI 1)])), (be, .inr (0, [.ref ah, .ref pa, .int (jI n2), .int (jI t2)])), (ah, .inl (cA, 2401, .inl (jA A2))), (pa, .inl (cA, 48, .inl (jA P2))), (sp, .inr (3, [.ref r0, .ref r1, .int (jI K)])), (r0, .inr (1, [.ref a0, .int (jI n0)])), (a0, .inl (cA, 48, .inl (jA L0))), (r1, .inr (1, [.ref a1, .int (jI n1)])), (a1, .inl (cA, 48, .inl (jA L1)))] H := hP
  have hD : va_D A [(h4, .inr (4, [.ref r0, .ref r1, .ref sp, .ref be, .ref re, .int (jI g), .int (jI 1)])), (be, .inr (0, [.ref ah, .ref pa, .int (jI n2), .int (jI t2)])), (ah, .inl (cA, 2401, .inl (jA A2))), (pa, .inl (cA, 48, .inl (jA P2))), (sp, .inr (3, [.ref r0, .ref r1, .int (jI K)])), (r0, .inr (1, [.ref a0, .int (jI n0)])), (a0, .inl (cA, 48, .inl (jA L0))), (r1, .inr (1, [.ref a1, .int (jI n1)])), (a1, .inl (cA, 48, .inl (jA L1)))] := hD
  refine W.eq (g2 := F0 m 4 ls [.ref be]) rfl ?_
  have hn2 := fin_n hfin2
  refine jr_V F (kX0_size l D cA be ah pa n2 t2) cvX4_101 hP [1] rfl 1 rfl rfl hl ⟨rfl, rfl, by decide, by decide⟩ rfl rfl (Nat.le_of_ble_eq_true rfl) dX4_links_4 ⟨by decide, by decide⟩ (fun v hv => ?_)
  subst hv
  exact jM.ri F hQ rfl dX4_links_7 hS hP hD (by exact ⟨_, _, _, _, hfin2, rfl, rfl⟩)
set_option maxHeartbeats 4000000 in
set_option maxRecDepth 100000 in
theorem kX4_link (l : Launch) (D : va_G) (cA : ClassId) (h4 r0 a0 r1 a1 sp be ah pa : Nat) (re : Nat) (n0 n1 K g sz to : Int) (L0 L1 Ah Pa : Int → Int) (fr : Int) (x wh : Int) (hn0 : 0 ≤ n0 ∧ n0 ≤ 48) (hn1 : 0 ≤ n1 ∧ n1 ≤ 48) (hK : 1 ≤ K ∧ K ≤ 6) (hL0 : ∀ x, 0 ≤ L0 x ∧ L0 x ≤ 3) (hL1 : ∀ x, 0 ≤ L1 x ∧ L1 x ≤ 3) (hg : 0 ≤ g ∧ g ≤ 9) (hfr : fr = 0 ∨ (fr = 1 ∧ fin (anc L0 L1 n0 n1 K) K g sz to Pa)) (hx0 : -2147483648 ≤ x ∧ x < 2147483648) (hw : -2147483648 ≤ wh ∧ wh < 2147483648) : jM l YX4_link (rmk 6 0 0 138) D cA [.ref h4, .int (jI x), .int (jI wh)] [(h4, .inr (4, [.ref r0, .ref r1, .ref sp, .ref be, .ref re, .int (jI g), .int (jI fr)])), (be, .inr (0, [.ref ah, .ref pa, .int (jI sz), .int (jI to)])), (ah, .inl (cA, 2401, .inl (jA Ah))), (pa, .inl (cA, 48, .inl (jA Pa))), (sp, .inr (3, [.ref r0, .ref r1, .int (jI K)])), (r0, .inr (1, [.ref a0, .int (jI n0)])), (a0, .inl (cA, 48, .inl (jA L0))), (r1, .inr (1, [.ref a1, .int (jI n1)])), (a1, .inl (cA, 48, .inl (jA L1)))] (fun v w => ∃ (A2 P2 : Int → Int) (n2 t2 : Int), fin (anc L0 L1 n0 n1 K) K g n2 t2 P2 ∧ v = some (.int (jI (plc (atv P2 n2 x) wh))) ∧ w = [(h4, .inr (4, [.ref r0, .ref r1, .ref sp, .ref be, .ref re, .int (jI g), .int (jI 1)])), (be, .inr (0, [.ref ah, .ref pa, .int (jI n2), .int (jI t2)])), (ah, .inl (cA, 2401, .inl (jA A2))), (pa, .inl (cA, 48, .inl (jA P2))), (sp, .inr (3, [.ref r0, .ref r1, .int (jI K)])), (r0, .inr (1, [.ref a0, .int (jI n0)])), (a0, .inl (cA, 48, .inl (jA L0))), (r1, .inr (1, [.ref a1, .int (jI n1)])), (a1, .inl (cA, 48, .inl (jA L1)))]) 0 0 := by
  refine jM.intro (by decide +kernel) (Nat.le_of_ble_eq_true rfl) ?_
  intro p e s m args below meth c ls Q A F hQ hA hP hD hS hl
  have hx := F.1
  have hb := F.2.1
  have hl : lv_has ls 3 [(0, .ref h4), (1, .int (jI x)), (2, .int (jI wh))] := hl
  refine lv_aload_n hx hb dX4_link_0 rfl (lv_at hl 0 rfl) ?_
  refine jw_V (wr := []) F (kX4_freshBest l D cA h4 r0 a0 r1 a1 sp be ah pa re n0 n1 K g sz to L0 L1 Ah Pa fr hn0 hn1 hK hL0 hL1 hg hfr) cvX4_94 hP hD hS hA [0, 1, 2, 3, 4, 5, 6, 7, 8] [] rfl rfl (by decide) (by decide) 0 rfl rfl hl ⟨rfl, rfl, by decide, by decide⟩ rfl rfl (Nat.le_of_ble_eq_true rfl) dX4_link_1 ⟨by decide, by decide⟩ (by decide) (fun v w1 H locs hw hP hD hS => ?_)
  obtain ⟨rfl, A2, P2, n2, t2, hfin2, rfl⟩ := hw
  have hP : va_P D cls [(h4, .inr (4, [.ref r0, .ref r1, .ref sp, .ref be, .ref re, .int (jI g), .int (jI 1)])), (be, .inr (0, [.ref ah, .ref pa, .int (jI n2), .int (jI t2)])), (ah, .inl (cA, 2401, .inl (jA A2))), (pa, .inl (cA, 48, .inl (jA P2))), (sp, .inr (3, [.ref r0, .ref r1, .int (jI K)])), (r0, .inr (1, [.ref a0, .int (jI n0)])), (a0, .inl (cA, 48, .inl (jA L0))), (r1, .inr (1, [.ref a1, .int (jI n1)])), (a1, .inl (cA, 48, .inl (jA L1)))] H := hP
  have hD : va_D A [(h4, .inr (4, [.ref r0, .ref r1, .ref sp, .ref be, .ref re, .int (jI g), .int (jI 1)])), (be, .inr (0, [.ref ah, .ref pa, .int (jI n2), .int (jI t2)])), (ah, .inl (cA, 2401, .inl (jA A2))), (pa, .inl (cA, 48, .inl (jA P2))), (sp, .inr (3, [.ref r0, .ref r1, .int (jI K)])), (r0, .inr (1, [.ref a0, .int (jI n0)])), (a0, .inl (cA, 48, .inl (jA L0))), (r1, .inr (1, [.ref a1, .int (jI n1)])), (a1, .inl (cA, 48, .inl (jA L1)))] := hD
  refine W.eq (g2 := F0 m 4 ls [.ref be]) rfl ?_
  have hn2 := fin_n hfin2
  refine lv_iload_n hx hb dX4_link_4 rfl (lv_at hl 1 rfl) ?_
  refine jr_V F (kX0_pairAt l D cA be ah pa n2 t2 P2 x (by omega) (by omega)) cvX4_102 hP [1, 3] rfl 1 rfl rfl hl ⟨rfl, rfl, by decide, by decide⟩ rfl rfl (Nat.le_of_ble_eq_true rfl) dX4_link_5 ⟨by decide, by decide⟩ (fun v hv => ?_)
  subst hv
  refine lv_iload_n hx hb dX4_link_8 rfl (lv_at hl 2 rfl) ?_
  have hat := hn2.2 x
  refine jr_S F (kX4_placeOf l D cA (atv P2 n2 x) wh (by omega) (by omega)) csX4_90 hP [] rfl hl ⟨rfl, rfl, by decide, by decide⟩ rfl rfl (Nat.le_of_ble_eq_true rfl) dX4_link_9 ⟨by decide, by decide⟩ (fun v hv => ?_)
  subst hv
  exact jM.ri F hQ rfl dX4_link_12 hS hP hD (by exact ⟨_, _, _, _, hfin2, rfl, rfl⟩)
set_option maxHeartbeats 4000000 in
set_option maxRecDepth 100000 in
theorem kX4_reach (l : Launch) (D : va_G) (cA : ClassId) (h4 sp be : Nat) (g fr : Int) (re t2 t1 t0 : Nat) (ga lo gp li es ep eq al la : Int) (f2 f1 f0 : Int → Int) (r0 a0 r1 a1 : Nat) (n0 n1 i j : Int) (L0 L1 : Int → Int) (hn0 : 0 ≤ n0 ∧ n0 ≤ 48) (hn1 : 0 ≤ n1 ∧ n1 ≤ 48) (hL0 : ∀ x, 0 ≤ L0 x ∧ L0 x ≤ 3) (hL1 : ∀ x, 0 ≤ L1 x ∧ L1 x ≤ 3) (hi : -2147483648 ≤ i ∧ i < 2147483648) (hj : -2147483648 ≤ j ∧ j < 2147483648) (hga : 1 ≤ ga ∧ ga ≤ 9) (hlo : 0 ≤ lo ∧ lo ≤ 9) (hgp : 1 ≤ gp ∧ gp ≤ 9) (hli : 0 ≤ li ∧ li ≤ 99) : jM l YX4_reach (rmk 4 0 0 92) D cA [.ref h4, .int (jI i), .int (jI j)] [(h4, .inr (4, [.ref r0, .ref r1, .ref sp, .ref be, .ref re, .int (jI g), .int (jI fr)])), (re, .inr (2, [.int (jI ga), .int (jI lo), .int (jI gp), .int (jI li), .ref t2, .ref t1, .ref t0, .int (jI es), .int (jI ep), .int (jI eq), .int (jI al), .int (jI la)])), (t2, .inl (cA, 49, .inl (jA f2))), (t1, .inl (cA, 49, .inl (jA f1))), (t0, .inl (cA, 49, .inl (jA f0))), (r0, .inr (1, [.ref a0, .int (jI n0)])), (a0, .inl (cA, 48, .inl (jA L0))), (r1, .inr (1, [.ref a1, .int (jI n1)])), (a1, .inl (cA, 48, .inl (jA L1)))] (fun v w => (((0 ≤ i ∧ i ≤ n0) ∧ (0 ≤ j ∧ j ≤ n1)) ∧ v = some (.int (jI ((Zi (smv L0 L1 i j ga lo) (n0 - i) (n1 - j) gp li (n0 - i + (n1 - j))).2.2.1))) ∧ ∃ (x y z : Nat) (k2 k1 k0 : Int → Int), w = [(h4, .inr (4, [.ref r0, .ref r1, .ref sp, .ref be, .ref re, .int (jI g), .int (jI fr)])), (re, .inr (2, [.int (jI ga), .int (jI lo), .int (jI gp), .int (jI li), .ref x, .ref y, .ref z, .int (jI ((Zi (smv L0 L1 i j ga lo) (n0 - i) (n1 - j) gp li (n0 - i + (n1 - j))).2.2.1)), .int (jI ((Zi (smv L0 L1 i j ga lo) (n0 - i) (n1 - j) gp li (n0 - i + (n1 - j))).2.2.2.1)), .int (jI ((Zi (smv L0 L1 i j ga lo) (n0 - i) (n1 - j) gp li (n0 - i + (n1 - j))).2.2.2.2.1)), .int (jI ((Zi (smv L0 L1 i j ga lo) (n0 - i) (n1 - j) gp li (n0 - i + (n1 - j))).2.2.2.2.2.1)), .int (jI ((Zi (smv L0 L1 i j ga lo) (n0 - i) (n1 - j) gp li (n0 - i + (n1 - j))).2.2.2.2.2.2))])), (x, .inl (cA, 49, .inl (jA k2))), (y, .inl (cA, 49, .inl (jA k1))), (z, .inl (cA, 49, .inl (jA k0))), (r0, .inr (1, [.ref a0, .int (jI n0)])), (a0, .inl (cA, 48, .inl (jA L0))), (r1, .inr (1, [.ref a1, .int (jI n1)])), (a1, .inl (cA, 48, .inl (jA L1)))]) ∨ (¬ ((0 ≤ i ∧ i ≤ n0) ∧ (0 ≤ j ∧ j ≤ n1)) ∧ v = some (.int (jI (-1))) ∧ w = [(h4, .inr (4, [.ref r0, .ref r1, .ref sp, .ref be, .ref re, .int (jI g), .int (jI fr)])), (re, .inr (2, [.int (jI ga), .int (jI lo), .int (jI gp), .int (jI li), .ref t2, .ref t1, .ref t0, .int (jI es), .int (jI ep), .int (jI eq), .int (jI al), .int (jI la)])), (t2, .inl (cA, 49, .inl (jA f2))), (t1, .inl (cA, 49, .inl (jA f1))), (t0, .inl (cA, 49, .inl (jA f0))), (r0, .inr (1, [.ref a0, .int (jI n0)])), (a0, .inl (cA, 48, .inl (jA L0))), (r1, .inr (1, [.ref a1, .int (jI n1)])), (a1, .inl (cA, 48, .inl (jA L1)))])) 0 0 := by
  refine jM.intro (by decide +kernel) (Nat.le_of_ble_eq_true rfl) ?_
  intro p e s m args below meth c ls Q A F hQ hA hP hD hS hl
  have hx := F.1
  have hb := F.2.1
  have hl : lv_has ls 3 [(0, .ref h4), (1, .int (jI i)), (2, .int (jI j))] := hl
  refine lv_iload_n hx hb dX4_reach_0 rfl (lv_at hl 1 rfl) ?_
  refine lv_iconst (v := jI 0) hx hb dX4_reach_1 rfl ?_
  refine lv_aload_n hx hb dX4_reach_2 rfl (lv_at hl 0 rfl) ?_
  refine jv_get (v := .ref r0) F hP 0 rfl flX4_10 rfl dX4_reach_3 ?_
  refine jr_V F (kX1_size l D cA r0 a0 n0 L0) cvX4_66 hP [5, 6] rfl 5 rfl rfl hl ⟨rfl, rfl, by decide, by decide⟩ rfl rfl (Nat.le_of_ble_eq_true rfl) dX4_reach_6 ⟨by decide, by decide⟩ (fun v hv => ?_)
  subst hv
  refine jr_S F (kX4_isBetween l D cA i 0 n0 (by omega) (by omega) (by omega)) csX4_54 hP [] rfl hl ⟨rfl, rfl, by decide, by decide⟩ rfl rfl (Nat.le_of_ble_eq_true rfl) dX4_reach_9 ⟨by decide, by decide⟩ (fun v hv => ?_)
  obtain ⟨z9, rfl, hz9⟩ := hv
  refine jv_if_eq (tgt := 30) hx hb dX4_reach_12 rfl (by omega) (fun c12 => ?_) (fun c12 => ?_)
  · refine lv_iconst (v := jI (-1)) hx hb dX4_reach_30 rfl ?_
    exact jM.ri F hQ rfl dX4_reach_31 hS hP hD (by exact Or.inr ⟨by omega, rfl, rfl⟩)
  · refine lv_iload_n hx hb dX4_reach_15 rfl (lv_at hl 2 rfl) ?_
    refine lv_iconst (v := jI 0) hx hb dX4_reach_16 rfl ?_
    refine lv_aload_n hx hb dX4_reach_17 rfl (lv_at hl 0 rfl) ?_
    refine jv_get (v := .ref r1) F hP 0 rfl flX4_16 rfl dX4_reach_18 ?_
    refine jr_V F (kX1_size l D cA r1 a1 n1 L1) cvX4_66 hP [7, 8] rfl 7 rfl rfl hl ⟨rfl, rfl, by decide, by decide⟩ rfl rfl (Nat.le_of_ble_eq_true rfl) dX4_reach_21 ⟨by decide, by decide⟩ (fun v hv => ?_)
    subst hv
    refine jr_S F (kX4_isBetween l D cA j 0 n1 (by omega) (by omega) (by omega)) csX4_54 hP [] rfl hl ⟨rfl, rfl, by decide, by decide⟩ rfl rfl (Nat.le_of_ble_eq_true rfl) dX4_reach_24 ⟨by decide, by decide⟩ (fun v hv => ?_)
    obtain ⟨z24, rfl, hz24⟩ := hv
    refine jv_if_ne (tgt := 32) hx hb dX4_reach_27 rfl (by omega) (fun c27 => ?_) (fun c27 => ?_)
    · refine lv_aload_n hx hb dX4_reach_32 rfl (lv_at hl 0 rfl) ?_
      refine jv_get (v := .ref re) F hP 0 rfl flX4_38 rfl dX4_reach_33 ?_
      refine lv_aload_n hx hb dX4_reach_36 rfl (lv_at hl 0 rfl) ?_
      refine jv_get (v := .ref r0) F hP 0 rfl flX4_10 rfl dX4_reach_37 ?_
      refine lv_iload_n hx hb dX4_reach_40 rfl (lv_at hl 1 rfl) ?_
      refine lv_aload_n hx hb dX4_reach_41 rfl (lv_at hl 0 rfl) ?_
      refine jv_get (v := .ref r1) F hP 0 rfl flX4_16 rfl dX4_reach_42 ?_
      refine lv_iload_n hx hb dX4_reach_45 rfl (lv_at hl 2 rfl) ?_
      refine jw_V (wr := [(h4, .inr (4, [.ref r0, .ref r1, .ref sp, .ref be, .ref re, .int (jI g), .int (jI fr)]))]) F (kX2_walk l D cA re t2 t1 t0 ga lo gp li es ep eq al la f2 f1 f0 r0 a0 r1 a1 n0 n1 i j L0 L1 hn0 hn1 hL0 hL1 (by omega) (by omega) hga hlo hgp hli) cvX4_103 hP hD hS hA [1, 2, 3, 4, 5, 6, 7, 8] [0] rfl rfl (by decide) (by decide) 1 rfl rfl hl ⟨rfl, rfl, by decide, by decide⟩ rfl rfl (Nat.le_of_ble_eq_true rfl) dX4_reach_46 ⟨by decide, by decide⟩ (by decide) (fun v w1 H locs hw hP hD hS => ?_)
      obtain ⟨rfl, x, y, z, k2, k1, k0, rfl⟩ := hw
      have hP : va_P D cls [(h4, .inr (4, [.ref r0, .ref r1, .ref sp, .ref be, .ref re, .int (jI g), .int (jI fr)])), (re, .inr (2, [.int (jI ga), .int (jI lo), .int (jI gp), .int (jI li), .ref x, .ref y, .ref z, .int (jI ((Zi (smv L0 L1 i j ga lo) (n0 - i) (n1 - j) gp li (n0 - i + (n1 - j))).2.2.1)), .int (jI ((Zi (smv L0 L1 i j ga lo) (n0 - i) (n1 - j) gp li (n0 - i + (n1 - j))).2.2.2.1)), .int (jI ((Zi (smv L0 L1 i j ga lo) (n0 - i) (n1 - j) gp li (n0 - i + (n1 - j))).2.2.2.2.1)), .int (jI ((Zi (smv L0 L1 i j ga lo) (n0 - i) (n1 - j) gp li (n0 - i + (n1 - j))).2.2.2.2.2.1)), .int (jI ((Zi (smv L0 L1 i j ga lo) (n0 - i) (n1 - j) gp li (n0 - i + (n1 - j))).2.2.2.2.2.2))])), (x, .inl (cA, 49, .inl (jA k2))), (y, .inl (cA, 49, .inl (jA k1))), (z, .inl (cA, 49, .inl (jA k0))), (r0, .inr (1, [.ref a0, .int (jI n0)])), (a0, .inl (cA, 48, .inl (jA L0))), (r1, .inr (1, [.ref a1, .int (jI n1)])), (a1, .inl (cA, 48, .inl (jA L1)))] H := hP
      have hD : va_D A [(h4, .inr (4, [.ref r0, .ref r1, .ref sp, .ref be, .ref re, .int (jI g), .int (jI fr)])), (re, .inr (2, [.int (jI ga), .int (jI lo), .int (jI gp), .int (jI li), .ref x, .ref y, .ref z, .int (jI ((Zi (smv L0 L1 i j ga lo) (n0 - i) (n1 - j) gp li (n0 - i + (n1 - j))).2.2.1)), .int (jI ((Zi (smv L0 L1 i j ga lo) (n0 - i) (n1 - j) gp li (n0 - i + (n1 - j))).2.2.2.1)), .int (jI ((Zi (smv L0 L1 i j ga lo) (n0 - i) (n1 - j) gp li (n0 - i + (n1 - j))).2.2.2.2.1)), .int (jI ((Zi (smv L0 L1 i j ga lo) (n0 - i) (n1 - j) gp li (n0 - i + (n1 - j))).2.2.2.2.2.1)), .int (jI ((Zi (smv L0 L1 i j ga lo) (n0 - i) (n1 - j) gp li (n0 - i + (n1 - j))).2.2.2.2.2.2))])), (x, .inl (cA, 49, .inl (jA k2))), (y, .inl (cA, 49, .inl (jA k1))), (z, .inl (cA, 49, .inl (jA k0))), (r0, .inr (1, [.ref a0, .int (jI n0)])), (a0, .inl (cA, 48, .inl (jA L0))), (r1, .inr (1, [.ref a1, .int (jI n1)])), (a1, .inl (cA, 48, .inl (jA L1)))] := hD
      refine W.eq (g2 := F0 m 49 ls []) rfl ?_
      refine lv_aload_n hx hb dX4_reach_49 rfl (lv_at hl 0 rfl) ?_
      refine jv_get (v := .ref re) F hP 0 rfl flX4_38 rfl dX4_reach_50 ?_
      refine jr_V F (kX2_endScore l D cA re x y z ga lo gp li ((Zi (smv L0 L1 i j ga lo) (n0 - i) (n1 - j) gp li (n0 - i + (n1 - j))).2.2.1) ((Zi (smv L0 L1 i j ga lo) (n0 - i) (n1 - j) gp li (n0 - i + (n1 - j))).2.2.2.1) ((Zi (smv L0 L1 i j ga lo) (n0 - i) (n1 - j) gp li (n0 - i + (n1 - j))).2.2.2.2.1) ((Zi (smv L0 L1 i j ga lo) (n0 - i) (n1 - j) gp li (n0 - i + (n1 - j))).2.2.2.2.2.1) ((Zi (smv L0 L1 i j ga lo) (n0 - i) (n1 - j) gp li (n0 - i + (n1 - j))).2.2.2.2.2.2)) cvX4_107 hP [1] rfl 1 rfl rfl hl ⟨rfl, rfl, by decide, by decide⟩ rfl rfl (Nat.le_of_ble_eq_true rfl) dX4_reach_53 ⟨by decide, by decide⟩ (fun v hv => ?_)
      subst hv
      exact jM.ri F hQ rfl dX4_reach_56 hS hP hD (by exact Or.inl ⟨by omega, rfl, _, _, _, _, _, _, rfl⟩)
    · refine lv_iconst (v := jI (-1)) hx hb dX4_reach_30 rfl ?_
      exact jM.ri F hQ rfl dX4_reach_31 hS hP hD (by exact Or.inr ⟨by omega, rfl, rfl⟩)
set_option maxHeartbeats 4000000 in
set_option maxRecDepth 100000 in
theorem kX4_reached (l : Launch) (D : va_G) (cA : ClassId) (h4 r0 r1 sp be : Nat) (g fr : Int) (re t2 t1 t0 : Nat) (ga lo gp li es ep eq al la : Int) (what : Int) (hw : -2147483648 ≤ what ∧ what < 2147483648) : jR l YX4_reached (rmk 1 0 0 21) D cA [.ref h4, .int (jI what)] [(h4, .inr (4, [.ref r0, .ref r1, .ref sp, .ref be, .ref re, .int (jI g), .int (jI fr)])), (re, .inr (2, [.int (jI ga), .int (jI lo), .int (jI gp), .int (jI li), .ref t2, .ref t1, .ref t0, .int (jI es), .int (jI ep), .int (jI eq), .int (jI al), .int (jI la)]))] (fun v => v = .int (jI (outv ep eq al la what))) := by
  refine jR.intro (by decide +kernel) (Nat.le_of_ble_eq_true rfl) ?_
  intro p e s m args below meth c ls Q F hQ hP hl
  have hx := F.1
  have hb := F.2.1
  have hl : lv_has ls 2 [(0, .ref h4), (1, .int (jI what))] := hl
  refine lv_aload_n hx hb dX4_reached_0 rfl (lv_at hl 0 rfl) ?_
  refine jv_get (v := .ref re) F hP 0 rfl flX4_38 rfl dX4_reached_1 ?_
  refine lv_iload_n hx hb dX4_reached_4 rfl (lv_at hl 1 rfl) ?_
  refine jr_V F (kX2_outcome l D cA re t2 t1 t0 ga lo gp li es ep eq al la what (by omega)) cvX4_110 hP [1] rfl 1 rfl rfl hl ⟨rfl, rfl, by decide, by decide⟩ rfl rfl (Nat.le_of_ble_eq_true rfl) dX4_reached_5 ⟨by decide, by decide⟩ (fun v hv => ?_)
  subst hv
  exact jR.ri F hQ rfl dX4_reached_8 (by rfl)
end
section
theorem outv_0 {ep eq al la what : Int} (h : what = 0) : outv ep eq al la what = ep := if_pos h
theorem outv_1 {ep eq al la what : Int} (h : what = 1) : outv ep eq al la what = eq := by subst h; rfl
theorem outv_2 {ep eq al la what : Int} (h : what = 2) : outv ep eq al la what = al := by subst h; rfl
theorem outv_3 {ep eq al la what : Int} (h : what = 3) : outv ep eq al la what = la := by subst h; rfl
def sat (sc : Int → Int) (p q : Int) : Int := if p < 0 ∨ q < 0 then -1000000 else sc (49 * p + q)
theorem sat_o {sc : Int → Int} {p q : Int} (h : p < 0 ∨ q < 0) : sat sc p q = -1000000 := if_pos h
theorem sat_i {sc : Int → Int} {p q : Int} (h : ¬ (p < 0 ∨ q < 0)) : sat sc p q = sc (49 * p + q) := if_neg h
set_option maxHeartbeats 4000000 in
set_option maxRecDepth 100000 in
theorem kX5_isRow (l : Launch) (D : va_G) (cA : ClassId) (row : Int) (hr : -2147483648 ≤ row ∧ row < 2147483648) : jR l YX5_isRow (rmk 0 0 0 0) D cA [.int (jI row)] [] (fun v => ∃ z : Int, v = .int (jI z) ∧ (z = 1 ∧ (row = 0 ∨ row = 1) ∨ z = 0 ∧ row ≠ 0 ∧ row ≠ 1)) := by
  refine jR.intro (by decide +kernel) (Nat.le_of_ble_eq_true rfl) ?_
  intro p e s m args below meth c ls Q F hQ hP hl
  have hx := F.1
  have hb := F.2.1
  have hl : lv_has ls 1 [(0, .int (jI row))] := hl
  refine lv_iload_n hx hb dX5_isRow_0 rfl (lv_at hl 0 rfl) ?_
  refine jv_if_eq (tgt := 9) hx hb dX5_isRow_1 rfl (by omega) (fun c1 => ?_) (fun c1 => ?_)
  · refine lv_iconst (v := jI 1) hx hb dX5_isRow_9 rfl ?_
    refine lv_goto (tgt := 14) hx hb dX5_isRow_10 rfl ?_
    exact jR.rz F hQ rfl (by omega) dX5_isRow_14 (by exact ⟨_, rfl, by omega⟩)
  · refine lv_iload_n hx hb dX5_isRow_4 rfl (lv_at hl 0 rfl) ?_
    refine lv_iconst (v := jI 1) hx hb dX5_isRow_5 rfl ?_
    refine jv_icmp_ne (tgt := 13) hx hb dX5_isRow_6 rfl (by omega) (by omega) (fun c6 => ?_) (fun c6 => ?_)
    · refine lv_iconst (v := jI 0) hx hb dX5_isRow_13 rfl ?_
      exact jR.rz F hQ rfl (by omega) dX5_isRow_14 (by exact ⟨_, rfl, by omega⟩)
    · refine lv_iconst (v := jI 1) hx hb dX5_isRow_9 rfl ?_
      refine lv_goto (tgt := 14) hx hb dX5_isRow_10 rfl ?_
      exact jR.rz F hQ rfl (by omega) dX5_isRow_14 (by exact ⟨_, rfl, by omega⟩)
set_option maxHeartbeats 4000000 in
set_option maxRecDepth 100000 in
theorem kX5_put_0 (l : Launch) (D : va_G) (cA : ClassId) (mo ml mn mf mt mw mk mz : Nat) (K g ga lo gp li fo ln bs kn rd ep eq al fa : Int) (M N : Int → Int) (x : Int) (hn : 0 ≤ N 0 ∧ N 0 ≤ 48) (hx0 : -2147483648 ≤ x ∧ x < 2147483648) : jM l YX5_put (rmk 1 0 0 20) D cA [.ref mo, .int (jI 0), .int (jI x)] [(mo, .inr (5, [.ref ml, .ref mn, .int (jI K), .int (jI g), .int (jI ga), .int (jI lo), .int (jI gp), .int (jI li), .ref mf, .ref mt, .ref mw, .int (jI fo), .ref mk, .int (jI ln), .int (jI bs), .int (jI kn), .ref mz, .int (jI rd), .int (jI ep), .int (jI eq), .int (jI al), .int (jI fa)])), (ml, .inl (cA, 96, .inl (jA M))), (mn, .inl (cA, 2, .inl (jA N)))] (fun v w => ((0 ≤ x ∧ x ≤ 3 ∧ N 0 < 48) ∧ v = some (.int (jI (N 0 + 1))) ∧ w = [(mo, .inr (5, [.ref ml, .ref mn, .int (jI K), .int (jI g), .int (jI ga), .int (jI lo), .int (jI gp), .int (jI li), .ref mf, .ref mt, .ref mw, .int (jI fo), .ref mk, .int (jI ln), .int (jI bs), .int (jI 0), .ref mz, .int (jI rd), .int (jI ep), .int (jI eq), .int (jI al), .int (jI fa)])), (ml, .inl (cA, 96, .inl (jA (jU M (48 * 0 + N 0) x)))), (mn, .inl (cA, 2, .inl (jA (jU N 0 (N 0 + 1)))))]) ∨ (¬ (0 ≤ x ∧ x ≤ 3 ∧ N 0 < 48) ∧ v = some (.int (jI (-1))) ∧ w = [(mo, .inr (5, [.ref ml, .ref mn, .int (jI K), .int (jI g), .int (jI ga), .int (jI lo), .int (jI gp), .int (jI li), .ref mf, .ref mt, .ref mw, .int (jI fo), .ref mk, .int (jI ln), .int (jI bs), .int (jI kn), .ref mz, .int (jI rd), .int (jI ep), .int (jI eq), .int (jI al), .int (jI fa)])), (ml, .inl (cA, 96, .inl (jA M))), (mn, .inl (cA, 2, .inl (jA N)))])) 0 0 := by
  refine jM.intro (by decide +kernel) (Nat.le_of_ble_eq_true rfl) ?_
  intro p e s m args below meth c ls Q A F hQ hA hP hD hS hl
  have hx := F.1
  have hb := F.2.1
  have hl : lv_has ls 3 [(0, .ref mo), (1, .int (jI 0)), (2, .int (jI x))] := hl
  refine lv_iload_n hx hb dX5_put_0 rfl (lv_at hl 1 rfl) ?_
  refine jr_S F (kX5_isRow l D cA 0 (by omega)) csX5_50 hP [] rfl hl ⟨rfl, rfl, by decide, by decide⟩ rfl rfl (Nat.le_of_ble_eq_true rfl) dX5_put_1 ⟨by decide, by decide⟩ (fun v hv => ?_)
  obtain ⟨z1, rfl, hz1⟩ := hv
  refine jv_if_eq (tgt := 27) hx hb dX5_put_4 rfl (by omega) (fun c4 => ?_) (fun c4 => ?_)
  · exfalso
    omega
  · refine lv_iload_n hx hb dX5_put_7 rfl (lv_at hl 2 rfl) ?_
    refine jv_if_lt (tgt := 27) hx hb dX5_put_8 rfl (by omega) (fun c8 => ?_) (fun c8 => ?_)
    · refine lv_iconst (v := jI (-1)) hx hb dX5_put_27 rfl ?_
      exact jM.ri F hQ rfl dX5_put_28 hS hP hD (by exact Or.inr ⟨by omega, rfl, rfl⟩)
    · refine lv_iload_n hx hb dX5_put_11 rfl (lv_at hl 2 rfl) ?_
      refine lv_iconst (v := jI 3) hx hb dX5_put_12 rfl ?_
      refine jv_icmp_gt (tgt := 27) hx hb dX5_put_13 rfl (by omega) (by omega) (fun c13 => ?_) (fun c13 => ?_)
      · refine lv_iconst (v := jI (-1)) hx hb dX5_put_27 rfl ?_
        exact jM.ri F hQ rfl dX5_put_28 hS hP hD (by exact Or.inr ⟨by omega, rfl, rfl⟩)
      · refine lv_aload_n hx hb dX5_put_16 rfl (lv_at hl 0 rfl) ?_
        refine jv_get (v := .ref mn) F hP 0 rfl flX5_13 rfl dX5_put_17 ?_
        refine lv_iload_n hx hb dX5_put_20 rfl (lv_at hl 1 rfl) ?_
        refine jv_iald (fa := N) F hP 2 rfl (by omega) (by decide) dX5_put_21 ?_
        refine lv_bipush (v := jI 48) hx hb dX5_put_22 (by decide +kernel) ?_
        refine jv_icmp_ne (tgt := 29) hx hb dX5_put_24 rfl (by omega) (by omega) (fun c24 => ?_) (fun c24 => ?_)
        · refine lv_aload_n hx hb dX5_put_29 rfl (lv_at hl 0 rfl) ?_
          refine jv_get (v := .ref ml) F hP 0 rfl flX5_7 rfl dX5_put_30 ?_
          refine lv_bipush (v := jI 48) hx hb dX5_put_33 (by decide +kernel) ?_
          refine lv_iload_n hx hb dX5_put_35 rfl (lv_at hl 1 rfl) ?_
          refine jv_imul hx hb dX5_put_36 ?_
          refine lv_aload_n hx hb dX5_put_37 rfl (lv_at hl 0 rfl) ?_
          refine jv_get (v := .ref mn) F hP 0 rfl flX5_13 rfl dX5_put_38 ?_
          refine lv_iload_n hx hb dX5_put_41 rfl (lv_at hl 1 rfl) ?_
          refine jv_iald (fa := N) F hP 2 rfl (by omega) (by decide) dX5_put_42 ?_
          refine jv_iadd hx hb dX5_put_43 ?_
          refine lv_iload_n hx hb dX5_put_44 rfl (lv_at hl 2 rfl) ?_
          refine jv_iast (fa := M) F hP hD hS 1 rfl (by omega) (by decide) dX5_put_45 (fun H locs hP hD hS => ?_)
          have hP : va_P D cls [(mo, .inr (5, [.ref ml, .ref mn, .int (jI K), .int (jI g), .int (jI ga), .int (jI lo), .int (jI gp), .int (jI li), .ref mf, .ref mt, .ref mw, .int (jI fo), .ref mk, .int (jI ln), .int (jI bs), .int (jI kn), .ref mz, .int (jI rd), .int (jI ep), .int (jI eq), .int (jI al), .int (jI fa)])), (ml, .inl (cA, 96, .inl (jA (jU M ((48 * 0) + (N 0)) x)))), (mn, .inl (cA, 2, .inl (jA N)))] H := hP
          have hD : va_D A [(mo, .inr (5, [.ref ml, .ref mn, .int (jI K), .int (jI g), .int (jI ga), .int (jI lo), .int (jI gp), .int (jI li), .ref mf, .ref mt, .ref mw, .int (jI fo), .ref mk, .int (jI ln), .int (jI bs), .int (jI kn), .ref mz, .int (jI rd), .int (jI ep), .int (jI eq), .int (jI al), .int (jI fa)])), (ml, .inl (cA, 96, .inl (jA (jU M ((48 * 0) + (N 0)) x)))), (mn, .inl (cA, 2, .inl (jA N)))] := hD
          refine lv_aload_n hx hb dX5_put_46 rfl (lv_at hl 0 rfl) ?_
          refine jv_get (v := .ref mn) F hP 0 rfl flX5_13 rfl dX5_put_47 ?_
          refine lv_iload_n hx hb dX5_put_50 rfl (lv_at hl 1 rfl) ?_
          refine lv_dup2_11 hx hb dX5_put_51 rfl rfl ?_
          refine jv_iald (fa := N) F hP 2 rfl (by omega) (by decide) dX5_put_52 ?_
          refine lv_iconst (v := jI 1) hx hb dX5_put_53 rfl ?_
          refine jv_iadd hx hb dX5_put_54 ?_
          refine jv_iast (fa := N) F hP hD hS 2 rfl (by omega) (by decide) dX5_put_55 (fun H locs hP hD hS => ?_)
          have hP : va_P D cls [(mo, .inr (5, [.ref ml, .ref mn, .int (jI K), .int (jI g), .int (jI ga), .int (jI lo), .int (jI gp), .int (jI li), .ref mf, .ref mt, .ref mw, .int (jI fo), .ref mk, .int (jI ln), .int (jI bs), .int (jI kn), .ref mz, .int (jI rd), .int (jI ep), .int (jI eq), .int (jI al), .int (jI fa)])), (ml, .inl (cA, 96, .inl (jA (jU M ((48 * 0) + (N 0)) x)))), (mn, .inl (cA, 2, .inl (jA (jU N 0 ((N 0) + 1)))))] H := hP
          have hD : va_D A [(mo, .inr (5, [.ref ml, .ref mn, .int (jI K), .int (jI g), .int (jI ga), .int (jI lo), .int (jI gp), .int (jI li), .ref mf, .ref mt, .ref mw, .int (jI fo), .ref mk, .int (jI ln), .int (jI bs), .int (jI kn), .ref mz, .int (jI rd), .int (jI ep), .int (jI eq), .int (jI al), .int (jI fa)])), (ml, .inl (cA, 96, .inl (jA (jU M ((48 * 0) + (N 0)) x)))), (mn, .inl (cA, 2, .inl (jA (jU N 0 ((N 0) + 1)))))] := hD
          refine lv_aload_n hx hb dX5_put_56 rfl (lv_at hl 0 rfl) ?_
          refine lv_iconst (v := jI 0) hx hb dX5_put_57 rfl ?_
          refine jv_put (v := .int (jI 0)) F hP hD hS 0 rfl flX5_54 pfX5 (by decide +kernel) (by decide +kernel) (by decide +kernel) (Nat.le_of_ble_eq_true rfl) dX5_put_58 (fun H locs hP hD hS => ?_)
          have hP : va_P D cls [(mo, .inr (5, [.ref ml, .ref mn, .int (jI K), .int (jI g), .int (jI ga), .int (jI lo), .int (jI gp), .int (jI li), .ref mf, .ref mt, .ref mw, .int (jI fo), .ref mk, .int (jI ln), .int (jI bs), .int (jI 0), .ref mz, .int (jI rd), .int (jI ep), .int (jI eq), .int (jI al), .int (jI fa)])), (ml, .inl (cA, 96, .inl (jA (jU M ((48 * 0) + (N 0)) x)))), (mn, .inl (cA, 2, .inl (jA (jU N 0 ((N 0) + 1)))))] H := hP
          have hD : va_D A [(mo, .inr (5, [.ref ml, .ref mn, .int (jI K), .int (jI g), .int (jI ga), .int (jI lo), .int (jI gp), .int (jI li), .ref mf, .ref mt, .ref mw, .int (jI fo), .ref mk, .int (jI ln), .int (jI bs), .int (jI 0), .ref mz, .int (jI rd), .int (jI ep), .int (jI eq), .int (jI al), .int (jI fa)])), (ml, .inl (cA, 96, .inl (jA (jU M ((48 * 0) + (N 0)) x)))), (mn, .inl (cA, 2, .inl (jA (jU N 0 ((N 0) + 1)))))] := hD
          refine lv_aload_n hx hb dX5_put_61 rfl (lv_at hl 0 rfl) ?_
          refine jv_get (v := .ref mn) F hP 0 rfl flX5_13 rfl dX5_put_62 ?_
          refine lv_iload_n hx hb dX5_put_65 rfl (lv_at hl 1 rfl) ?_
          refine jv_iald (fa := jU N 0 ((N 0) + 1)) F hP 2 rfl (by omega) (by decide) dX5_put_66 ?_
          exact jM.ri F hQ rfl dX5_put_67 hS hP hD (by exact Or.inl ⟨by omega, by rw [jU_s], rfl⟩)
        · refine lv_iconst (v := jI (-1)) hx hb dX5_put_27 rfl ?_
          exact jM.ri F hQ rfl dX5_put_28 hS hP hD (by exact Or.inr ⟨by omega, rfl, rfl⟩)
set_option maxHeartbeats 4000000 in
set_option maxRecDepth 100000 in
theorem kX5_put_1 (l : Launch) (D : va_G) (cA : ClassId) (mo ml mn mf mt mw mk mz : Nat) (K g ga lo gp li fo ln bs kn rd ep eq al fa : Int) (M N : Int → Int) (x : Int) (hn : 0 ≤ N 1 ∧ N 1 ≤ 48) (hx0 : -2147483648 ≤ x ∧ x < 2147483648) : jM l YX5_put (rmk 1 0 0 20) D cA [.ref mo, .int (jI 1), .int (jI x)] [(mo, .inr (5, [.ref ml, .ref mn, .int (jI K), .int (jI g), .int (jI ga), .int (jI lo), .int (jI gp), .int (jI li), .ref mf, .ref mt, .ref mw, .int (jI fo), .ref mk, .int (jI ln), .int (jI bs), .int (jI kn), .ref mz, .int (jI rd), .int (jI ep), .int (jI eq), .int (jI al), .int (jI fa)])), (ml, .inl (cA, 96, .inl (jA M))), (mn, .inl (cA, 2, .inl (jA N)))] (fun v w => ((0 ≤ x ∧ x ≤ 3 ∧ N 1 < 48) ∧ v = some (.int (jI (N 1 + 1))) ∧ w = [(mo, .inr (5, [.ref ml, .ref mn, .int (jI K), .int (jI g), .int (jI ga), .int (jI lo), .int (jI gp), .int (jI li), .ref mf, .ref mt, .ref mw, .int (jI fo), .ref mk, .int (jI ln), .int (jI bs), .int (jI 0), .ref mz, .int (jI rd), .int (jI ep), .int (jI eq), .int (jI al), .int (jI fa)])), (ml, .inl (cA, 96, .inl (jA (jU M (48 * 1 + N 1) x)))), (mn, .inl (cA, 2, .inl (jA (jU N 1 (N 1 + 1)))))]) ∨ (¬ (0 ≤ x ∧ x ≤ 3 ∧ N 1 < 48) ∧ v = some (.int (jI (-1))) ∧ w = [(mo, .inr (5, [.ref ml, .ref mn, .int (jI K), .int (jI g), .int (jI ga), .int (jI lo), .int (jI gp), .int (jI li), .ref mf, .ref mt, .ref mw, .int (jI fo), .ref mk, .int (jI ln), .int (jI bs), .int (jI kn), .ref mz, .int (jI rd), .int (jI ep), .int (jI eq), .int (jI al), .int (jI fa)])), (ml, .inl (cA, 96, .inl (jA M))), (mn, .inl (cA, 2, .inl (jA N)))])) 0 0 := by
  refine jM.intro (by decide +kernel) (Nat.le_of_ble_eq_true rfl) ?_
  intro p e s m args below meth c ls Q A F hQ hA hP hD hS hl
  have hx := F.1
  have hb := F.2.1
  have hl : lv_has ls 3 [(0, .ref mo), (1, .int (jI 1)), (2, .int (jI x))] := hl
  refine lv_iload_n hx hb dX5_put_0 rfl (lv_at hl 1 rfl) ?_
  refine jr_S F (kX5_isRow l D cA 1 (by omega)) csX5_50 hP [] rfl hl ⟨rfl, rfl, by decide, by decide⟩ rfl rfl (Nat.le_of_ble_eq_true rfl) dX5_put_1 ⟨by decide, by decide⟩ (fun v hv => ?_)
  obtain ⟨z1, rfl, hz1⟩ := hv
  refine jv_if_eq (tgt := 27) hx hb dX5_put_4 rfl (by omega) (fun c4 => ?_) (fun c4 => ?_)
  · exfalso
    omega
  · refine lv_iload_n hx hb dX5_put_7 rfl (lv_at hl 2 rfl) ?_
    refine jv_if_lt (tgt := 27) hx hb dX5_put_8 rfl (by omega) (fun c8 => ?_) (fun c8 => ?_)
    · refine lv_iconst (v := jI (-1)) hx hb dX5_put_27 rfl ?_
      exact jM.ri F hQ rfl dX5_put_28 hS hP hD (by exact Or.inr ⟨by omega, rfl, rfl⟩)
    · refine lv_iload_n hx hb dX5_put_11 rfl (lv_at hl 2 rfl) ?_
      refine lv_iconst (v := jI 3) hx hb dX5_put_12 rfl ?_
      refine jv_icmp_gt (tgt := 27) hx hb dX5_put_13 rfl (by omega) (by omega) (fun c13 => ?_) (fun c13 => ?_)
      · refine lv_iconst (v := jI (-1)) hx hb dX5_put_27 rfl ?_
        exact jM.ri F hQ rfl dX5_put_28 hS hP hD (by exact Or.inr ⟨by omega, rfl, rfl⟩)
      · refine lv_aload_n hx hb dX5_put_16 rfl (lv_at hl 0 rfl) ?_
        refine jv_get (v := .ref mn) F hP 0 rfl flX5_13 rfl dX5_put_17 ?_
        refine lv_iload_n hx hb dX5_put_20 rfl (lv_at hl 1 rfl) ?_
        refine jv_iald (fa := N) F hP 2 rfl (by omega) (by decide) dX5_put_21 ?_
        refine lv_bipush (v := jI 48) hx hb dX5_put_22 (by decide +kernel) ?_
        refine jv_icmp_ne (tgt := 29) hx hb dX5_put_24 rfl (by omega) (by omega) (fun c24 => ?_) (fun c24 => ?_)
        · refine lv_aload_n hx hb dX5_put_29 rfl (lv_at hl 0 rfl) ?_
          refine jv_get (v := .ref ml) F hP 0 rfl flX5_7 rfl dX5_put_30 ?_
          refine lv_bipush (v := jI 48) hx hb dX5_put_33 (by decide +kernel) ?_
          refine lv_iload_n hx hb dX5_put_35 rfl (lv_at hl 1 rfl) ?_
          refine jv_imul hx hb dX5_put_36 ?_
          refine lv_aload_n hx hb dX5_put_37 rfl (lv_at hl 0 rfl) ?_
          refine jv_get (v := .ref mn) F hP 0 rfl flX5_13 rfl dX5_put_38 ?_
          refine lv_iload_n hx hb dX5_put_41 rfl (lv_at hl 1 rfl) ?_
          refine jv_iald (fa := N) F hP 2 rfl (by omega) (by decide) dX5_put_42 ?_
          refine jv_iadd hx hb dX5_put_43 ?_
          refine lv_iload_n hx hb dX5_put_44 rfl (lv_at hl 2 rfl) ?_
          refine jv_iast (fa := M) F hP hD hS 1 rfl (by omega) (by decide) dX5_put_45 (fun H locs hP hD hS => ?_)
          have hP : va_P D cls [(mo, .inr (5, [.ref ml, .ref mn, .int (jI K), .int (jI g), .int (jI ga), .int (jI lo), .int (jI gp), .int (jI li), .ref mf, .ref mt, .ref mw, .int (jI fo), .ref mk, .int (jI ln), .int (jI bs), .int (jI kn), .ref mz, .int (jI rd), .int (jI ep), .int (jI eq), .int (jI al), .int (jI fa)])), (ml, .inl (cA, 96, .inl (jA (jU M ((48 * 1) + (N 1)) x)))), (mn, .inl (cA, 2, .inl (jA N)))] H := hP
          have hD : va_D A [(mo, .inr (5, [.ref ml, .ref mn, .int (jI K), .int (jI g), .int (jI ga), .int (jI lo), .int (jI gp), .int (jI li), .ref mf, .ref mt, .ref mw, .int (jI fo), .ref mk, .int (jI ln), .int (jI bs), .int (jI kn), .ref mz, .int (jI rd), .int (jI ep), .int (jI eq), .int (jI al), .int (jI fa)])), (ml, .inl (cA, 96, .inl (jA (jU M ((48 * 1) + (N 1)) x)))), (mn, .inl (cA, 2, .inl (jA N)))] := hD
          refine lv_aload_n hx hb dX5_put_46 rfl (lv_at hl 0 rfl) ?_
          refine jv_get (v := .ref mn) F hP 0 rfl flX5_13 rfl dX5_put_47 ?_
          refine lv_iload_n hx hb dX5_put_50 rfl (lv_at hl 1 rfl) ?_
          refine lv_dup2_11 hx hb dX5_put_51 rfl rfl ?_
          refine jv_iald (fa := N) F hP 2 rfl (by omega) (by decide) dX5_put_52 ?_
          refine lv_iconst (v := jI 1) hx hb dX5_put_53 rfl ?_
          refine jv_iadd hx hb dX5_put_54 ?_
          refine jv_iast (fa := N) F hP hD hS 2 rfl (by omega) (by decide) dX5_put_55 (fun H locs hP hD hS => ?_)
          have hP : va_P D cls [(mo, .inr (5, [.ref ml, .ref mn, .int (jI K), .int (jI g), .int (jI ga), .int (jI lo), .int (jI gp), .int (jI li), .ref mf, .ref mt, .ref mw, .int (jI fo), .ref mk, .int (jI ln), .int (jI bs), .int (jI kn), .ref mz, .int (jI rd), .int (jI ep), .int (jI eq), .int (jI al), .int (jI fa)])), (ml, .inl (cA, 96, .inl (jA (jU M ((48 * 1) + (N 1)) x)))), (mn, .inl (cA, 2, .inl (jA (jU N 1 ((N 1) + 1)))))] H := hP
          have hD : va_D A [(mo, .inr (5, [.ref ml, .ref mn, .int (jI K), .int (jI g), .int (jI ga), .int (jI lo), .int (jI gp), .int (jI li), .ref mf, .ref mt, .ref mw, .int (jI fo), .ref mk, .int (jI ln), .int (jI bs), .int (jI kn), .ref mz, .int (jI rd), .int (jI ep), .int (jI eq), .int (jI al), .int (jI fa)])), (ml, .inl (cA, 96, .inl (jA (jU M ((48 * 1) + (N 1)) x)))), (mn, .inl (cA, 2, .inl (jA (jU N 1 ((N 1) + 1)))))] := hD
          refine lv_aload_n hx hb dX5_put_56 rfl (lv_at hl 0 rfl) ?_
          refine lv_iconst (v := jI 0) hx hb dX5_put_57 rfl ?_
          refine jv_put (v := .int (jI 0)) F hP hD hS 0 rfl flX5_54 pfX5 (by decide +kernel) (by decide +kernel) (by decide +kernel) (Nat.le_of_ble_eq_true rfl) dX5_put_58 (fun H locs hP hD hS => ?_)
          have hP : va_P D cls [(mo, .inr (5, [.ref ml, .ref mn, .int (jI K), .int (jI g), .int (jI ga), .int (jI lo), .int (jI gp), .int (jI li), .ref mf, .ref mt, .ref mw, .int (jI fo), .ref mk, .int (jI ln), .int (jI bs), .int (jI 0), .ref mz, .int (jI rd), .int (jI ep), .int (jI eq), .int (jI al), .int (jI fa)])), (ml, .inl (cA, 96, .inl (jA (jU M ((48 * 1) + (N 1)) x)))), (mn, .inl (cA, 2, .inl (jA (jU N 1 ((N 1) + 1)))))] H := hP
          have hD : va_D A [(mo, .inr (5, [.ref ml, .ref mn, .int (jI K), .int (jI g), .int (jI ga), .int (jI lo), .int (jI gp), .int (jI li), .ref mf, .ref mt, .ref mw, .int (jI fo), .ref mk, .int (jI ln), .int (jI bs), .int (jI 0), .ref mz, .int (jI rd), .int (jI ep), .int (jI eq), .int (jI al), .int (jI fa)])), (ml, .inl (cA, 96, .inl (jA (jU M ((48 * 1) + (N 1)) x)))), (mn, .inl (cA, 2, .inl (jA (jU N 1 ((N 1) + 1)))))] := hD
          refine lv_aload_n hx hb dX5_put_61 rfl (lv_at hl 0 rfl) ?_
          refine jv_get (v := .ref mn) F hP 0 rfl flX5_13 rfl dX5_put_62 ?_
          refine lv_iload_n hx hb dX5_put_65 rfl (lv_at hl 1 rfl) ?_
          refine jv_iald (fa := jU N 1 ((N 1) + 1)) F hP 2 rfl (by omega) (by decide) dX5_put_66 ?_
          exact jM.ri F hQ rfl dX5_put_67 hS hP hD (by exact Or.inl ⟨by omega, by rw [jU_s], rfl⟩)
        · refine lv_iconst (v := jI (-1)) hx hb dX5_put_27 rfl ?_
          exact jM.ri F hQ rfl dX5_put_28 hS hP hD (by exact Or.inr ⟨by omega, rfl, rfl⟩)
set_option maxHeartbeats 4000000 in
set_option maxRecDepth 100000 in
theorem kX5_put_n (l : Launch) (D : va_G) (cA : ClassId) (mo ml mn mf mt mw mk mz : Nat) (K g ga lo gp li fo ln bs kn rd ep eq al fa : Int) (M N : Int → Int) (row : Int) (x : Int) (hr : row ≠ 0 ∧ row ≠ 1) (hr2 : -2147483648 ≤ row ∧ row < 2147483648) (hx0 : -2147483648 ≤ x ∧ x < 2147483648) : jM l YX5_put (rmk 1 0 0 20) D cA [.ref mo, .int (jI row), .int (jI x)] [(mo, .inr (5, [.ref ml, .ref mn, .int (jI K), .int (jI g), .int (jI ga), .int (jI lo), .int (jI gp), .int (jI li), .ref mf, .ref mt, .ref mw, .int (jI fo), .ref mk, .int (jI ln), .int (jI bs), .int (jI kn), .ref mz, .int (jI rd), .int (jI ep), .int (jI eq), .int (jI al), .int (jI fa)])), (ml, .inl (cA, 96, .inl (jA M))), (mn, .inl (cA, 2, .inl (jA N)))] (fun v w => v = some (.int (jI (-1))) ∧ w = [(mo, .inr (5, [.ref ml, .ref mn, .int (jI K), .int (jI g), .int (jI ga), .int (jI lo), .int (jI gp), .int (jI li), .ref mf, .ref mt, .ref mw, .int (jI fo), .ref mk, .int (jI ln), .int (jI bs), .int (jI kn), .ref mz, .int (jI rd), .int (jI ep), .int (jI eq), .int (jI al), .int (jI fa)])), (ml, .inl (cA, 96, .inl (jA M))), (mn, .inl (cA, 2, .inl (jA N)))]) 0 0 := by
  refine jM.intro (by decide +kernel) (Nat.le_of_ble_eq_true rfl) ?_
  intro p e s m args below meth c ls Q A F hQ hA hP hD hS hl
  have hx := F.1
  have hb := F.2.1
  have hl : lv_has ls 3 [(0, .ref mo), (1, .int (jI row)), (2, .int (jI x))] := hl
  refine lv_iload_n hx hb dX5_put_0 rfl (lv_at hl 1 rfl) ?_
  refine jr_S F (kX5_isRow l D cA row (by omega)) csX5_50 hP [] rfl hl ⟨rfl, rfl, by decide, by decide⟩ rfl rfl (Nat.le_of_ble_eq_true rfl) dX5_put_1 ⟨by decide, by decide⟩ (fun v hv => ?_)
  obtain ⟨z1, rfl, hz1⟩ := hv
  refine jv_if_eq (tgt := 27) hx hb dX5_put_4 rfl (by omega) (fun c4 => ?_) (fun c4 => ?_)
  · refine lv_iconst (v := jI (-1)) hx hb dX5_put_27 rfl ?_
    exact jM.ri F hQ rfl dX5_put_28 hS hP hD (by exact ⟨rfl, rfl⟩)
  · exfalso
    omega
set_option maxHeartbeats 4000000 in
set_option maxRecDepth 100000 in
theorem kX5_cut_0 (l : Launch) (D : va_G) (cA : ClassId) (mo ml mn mf mt mw mk mz : Nat) (K g ga lo gp li fo ln bs kn rd ep eq al fa : Int) (M N : Int → Int) (hn : 0 ≤ N 0 ∧ N 0 ≤ 48) : jM l YX5_cut (rmk 1 0 0 20) D cA [.ref mo, .int (jI 0)] [(mo, .inr (5, [.ref ml, .ref mn, .int (jI K), .int (jI g), .int (jI ga), .int (jI lo), .int (jI gp), .int (jI li), .ref mf, .ref mt, .ref mw, .int (jI fo), .ref mk, .int (jI ln), .int (jI bs), .int (jI kn), .ref mz, .int (jI rd), .int (jI ep), .int (jI eq), .int (jI al), .int (jI fa)])), (ml, .inl (cA, 96, .inl (jA M))), (mn, .inl (cA, 2, .inl (jA N)))] (fun v w => (0 < N 0 ∧ v = some (.int (jI (M (48 * 0 + (N 0 - 1))))) ∧ w = [(mo, .inr (5, [.ref ml, .ref mn, .int (jI K), .int (jI g), .int (jI ga), .int (jI lo), .int (jI gp), .int (jI li), .ref mf, .ref mt, .ref mw, .int (jI fo), .ref mk, .int (jI ln), .int (jI bs), .int (jI 0), .ref mz, .int (jI rd), .int (jI ep), .int (jI eq), .int (jI al), .int (jI fa)])), (ml, .inl (cA, 96, .inl (jA M))), (mn, .inl (cA, 2, .inl (jA (jU N 0 (N 0 - 1)))))]) ∨ (N 0 = 0 ∧ v = some (.int (jI (-1))) ∧ w = [(mo, .inr (5, [.ref ml, .ref mn, .int (jI K), .int (jI g), .int (jI ga), .int (jI lo), .int (jI gp), .int (jI li), .ref mf, .ref mt, .ref mw, .int (jI fo), .ref mk, .int (jI ln), .int (jI bs), .int (jI kn), .ref mz, .int (jI rd), .int (jI ep), .int (jI eq), .int (jI al), .int (jI fa)])), (ml, .inl (cA, 96, .inl (jA M))), (mn, .inl (cA, 2, .inl (jA N)))])) 0 0 := by
  refine jM.intro (by decide +kernel) (Nat.le_of_ble_eq_true rfl) ?_
  intro p e s m args below meth c ls Q A F hQ hA hP hD hS hl
  have hx := F.1
  have hb := F.2.1
  have hl : lv_has ls 2 [(0, .ref mo), (1, .int (jI 0))] := hl
  refine lv_iload_n hx hb dX5_cut_0 rfl (lv_at hl 1 rfl) ?_
  refine jr_S F (kX5_isRow l D cA 0 (by omega)) csX5_50 hP [] rfl hl ⟨rfl, rfl, by decide, by decide⟩ rfl rfl (Nat.le_of_ble_eq_true rfl) dX5_cut_1 ⟨by decide, by decide⟩ (fun v hv => ?_)
  obtain ⟨z1, rfl, hz1⟩ := hv
  refine jv_if_eq (tgt := 16) hx hb dX5_cut_4 rfl (by omega) (fun c4 => ?_) (fun c4 => ?_)
  · exfalso
    omega
  · refine lv_aload_n hx hb dX5_cut_7 rfl (lv_at hl 0 rfl) ?_
    refine jv_get (v := .ref mn) F hP 0 rfl flX5_13 rfl dX5_cut_8 ?_
    refine lv_iload_n hx hb dX5_cut_11 rfl (lv_at hl 1 rfl) ?_
    refine jv_iald (fa := N) F hP 2 rfl (by omega) (by decide) dX5_cut_12 ?_
    refine jv_if_ne (tgt := 18) hx hb dX5_cut_13 rfl (by omega) (fun c13 => ?_) (fun c13 => ?_)
    · refine lv_aload_n hx hb dX5_cut_18 rfl (lv_at hl 0 rfl) ?_
      refine jv_get (v := .ref mn) F hP 0 rfl flX5_13 rfl dX5_cut_19 ?_
      refine lv_iload_n hx hb dX5_cut_22 rfl (lv_at hl 1 rfl) ?_
      refine lv_dup2_11 hx hb dX5_cut_23 rfl rfl ?_
      refine jv_iald (fa := N) F hP 2 rfl (by omega) (by decide) dX5_cut_24 ?_
      refine lv_iconst (v := jI 1) hx hb dX5_cut_25 rfl ?_
      refine jv_isub hx hb dX5_cut_26 ?_
      refine jv_iast (fa := N) F hP hD hS 2 rfl (by omega) (by decide) dX5_cut_27 (fun H locs hP hD hS => ?_)
      have hP : va_P D cls [(mo, .inr (5, [.ref ml, .ref mn, .int (jI K), .int (jI g), .int (jI ga), .int (jI lo), .int (jI gp), .int (jI li), .ref mf, .ref mt, .ref mw, .int (jI fo), .ref mk, .int (jI ln), .int (jI bs), .int (jI kn), .ref mz, .int (jI rd), .int (jI ep), .int (jI eq), .int (jI al), .int (jI fa)])), (ml, .inl (cA, 96, .inl (jA M))), (mn, .inl (cA, 2, .inl (jA (jU N 0 ((N 0) - 1)))))] H := hP
      have hD : va_D A [(mo, .inr (5, [.ref ml, .ref mn, .int (jI K), .int (jI g), .int (jI ga), .int (jI lo), .int (jI gp), .int (jI li), .ref mf, .ref mt, .ref mw, .int (jI fo), .ref mk, .int (jI ln), .int (jI bs), .int (jI kn), .ref mz, .int (jI rd), .int (jI ep), .int (jI eq), .int (jI al), .int (jI fa)])), (ml, .inl (cA, 96, .inl (jA M))), (mn, .inl (cA, 2, .inl (jA (jU N 0 ((N 0) - 1)))))] := hD
      refine lv_aload_n hx hb dX5_cut_28 rfl (lv_at hl 0 rfl) ?_
      refine lv_iconst (v := jI 0) hx hb dX5_cut_29 rfl ?_
      refine jv_put (v := .int (jI 0)) F hP hD hS 0 rfl flX5_54 pfX5 (by decide +kernel) (by decide +kernel) (by decide +kernel) (Nat.le_of_ble_eq_true rfl) dX5_cut_30 (fun H locs hP hD hS => ?_)
      have hP : va_P D cls [(mo, .inr (5, [.ref ml, .ref mn, .int (jI K), .int (jI g), .int (jI ga), .int (jI lo), .int (jI gp), .int (jI li), .ref mf, .ref mt, .ref mw, .int (jI fo), .ref mk, .int (jI ln), .int (jI bs), .int (jI 0), .ref mz, .int (jI rd), .int (jI ep), .int (jI eq), .int (jI al), .int (jI fa)])), (ml, .inl (cA, 96, .inl (jA M))), (mn, .inl (cA, 2, .inl (jA (jU N 0 ((N 0) - 1)))))] H := hP
      have hD : va_D A [(mo, .inr (5, [.ref ml, .ref mn, .int (jI K), .int (jI g), .int (jI ga), .int (jI lo), .int (jI gp), .int (jI li), .ref mf, .ref mt, .ref mw, .int (jI fo), .ref mk, .int (jI ln), .int (jI bs), .int (jI 0), .ref mz, .int (jI rd), .int (jI ep), .int (jI eq), .int (jI al), .int (jI fa)])), (ml, .inl (cA, 96, .inl (jA M))), (mn, .inl (cA, 2, .inl (jA (jU N 0 ((N 0) - 1)))))] := hD
      refine lv_aload_n hx hb dX5_cut_33 rfl (lv_at hl 0 rfl) ?_
      refine jv_get (v := .ref ml) F hP 0 rfl flX5_7 rfl dX5_cut_34 ?_
      refine lv_bipush (v := jI 48) hx hb dX5_cut_37 (by decide +kernel) ?_
      refine lv_iload_n hx hb dX5_cut_39 rfl (lv_at hl 1 rfl) ?_
      refine jv_imul hx hb dX5_cut_40 ?_
      refine lv_aload_n hx hb dX5_cut_41 rfl (lv_at hl 0 rfl) ?_
      refine jv_get (v := .ref mn) F hP 0 rfl flX5_13 rfl dX5_cut_42 ?_
      refine lv_iload_n hx hb dX5_cut_45 rfl (lv_at hl 1 rfl) ?_
      refine jv_iald (fa := jU N 0 ((N 0) - 1)) F hP 2 rfl (by omega) (by decide) dX5_cut_46 ?_
      refine jv_iadd hx hb dX5_cut_47 ?_
      have hju : jU N 0 (N 0 - 1) 0 = N 0 - 1 := jU_s
      refine jv_iald (fa := M) F hP 1 rfl (by omega) (by decide) dX5_cut_48 ?_
      exact jM.ri F hQ rfl dX5_cut_49 hS hP hD (by exact Or.inl ⟨by omega, by rw [jU_s], rfl⟩)
    · refine lv_iconst (v := jI (-1)) hx hb dX5_cut_16 rfl ?_
      exact jM.ri F hQ rfl dX5_cut_17 hS hP hD (by exact Or.inr ⟨by omega, rfl, rfl⟩)
set_option maxHeartbeats 4000000 in
set_option maxRecDepth 100000 in
theorem kX5_cut_1 (l : Launch) (D : va_G) (cA : ClassId) (mo ml mn mf mt mw mk mz : Nat) (K g ga lo gp li fo ln bs kn rd ep eq al fa : Int) (M N : Int → Int) (hn : 0 ≤ N 1 ∧ N 1 ≤ 48) : jM l YX5_cut (rmk 1 0 0 20) D cA [.ref mo, .int (jI 1)] [(mo, .inr (5, [.ref ml, .ref mn, .int (jI K), .int (jI g), .int (jI ga), .int (jI lo), .int (jI gp), .int (jI li), .ref mf, .ref mt, .ref mw, .int (jI fo), .ref mk, .int (jI ln), .int (jI bs), .int (jI kn), .ref mz, .int (jI rd), .int (jI ep), .int (jI eq), .int (jI al), .int (jI fa)])), (ml, .inl (cA, 96, .inl (jA M))), (mn, .inl (cA, 2, .inl (jA N)))] (fun v w => (0 < N 1 ∧ v = some (.int (jI (M (48 * 1 + (N 1 - 1))))) ∧ w = [(mo, .inr (5, [.ref ml, .ref mn, .int (jI K), .int (jI g), .int (jI ga), .int (jI lo), .int (jI gp), .int (jI li), .ref mf, .ref mt, .ref mw, .int (jI fo), .ref mk, .int (jI ln), .int (jI bs), .int (jI 0), .ref mz, .int (jI rd), .int (jI ep), .int (jI eq), .int (jI al), .int (jI fa)])), (ml, .inl (cA, 96, .inl (jA M))), (mn, .inl (cA, 2, .inl (jA (jU N 1 (N 1 - 1)))))]) ∨ (N 1 = 0 ∧ v = some (.int (jI (-1))) ∧ w = [(mo, .inr (5, [.ref ml, .ref mn, .int (jI K), .int (jI g), .int (jI ga), .int (jI lo), .int (jI gp), .int (jI li), .ref mf, .ref mt, .ref mw, .int (jI fo), .ref mk, .int (jI ln), .int (jI bs), .int (jI kn), .ref mz, .int (jI rd), .int (jI ep), .int (jI eq), .int (jI al), .int (jI fa)])), (ml, .inl (cA, 96, .inl (jA M))), (mn, .inl (cA, 2, .inl (jA N)))])) 0 0 := by
  refine jM.intro (by decide +kernel) (Nat.le_of_ble_eq_true rfl) ?_
  intro p e s m args below meth c ls Q A F hQ hA hP hD hS hl
  have hx := F.1
  have hb := F.2.1
  have hl : lv_has ls 2 [(0, .ref mo), (1, .int (jI 1))] := hl
  refine lv_iload_n hx hb dX5_cut_0 rfl (lv_at hl 1 rfl) ?_
  refine jr_S F (kX5_isRow l D cA 1 (by omega)) csX5_50 hP [] rfl hl ⟨rfl, rfl, by decide, by decide⟩ rfl rfl (Nat.le_of_ble_eq_true rfl) dX5_cut_1 ⟨by decide, by decide⟩ (fun v hv => ?_)
  obtain ⟨z1, rfl, hz1⟩ := hv
  refine jv_if_eq (tgt := 16) hx hb dX5_cut_4 rfl (by omega) (fun c4 => ?_) (fun c4 => ?_)
  · exfalso
    omega
  · refine lv_aload_n hx hb dX5_cut_7 rfl (lv_at hl 0 rfl) ?_
    refine jv_get (v := .ref mn) F hP 0 rfl flX5_13 rfl dX5_cut_8 ?_
    refine lv_iload_n hx hb dX5_cut_11 rfl (lv_at hl 1 rfl) ?_
    refine jv_iald (fa := N) F hP 2 rfl (by omega) (by decide) dX5_cut_12 ?_
    refine jv_if_ne (tgt := 18) hx hb dX5_cut_13 rfl (by omega) (fun c13 => ?_) (fun c13 => ?_)
    · refine lv_aload_n hx hb dX5_cut_18 rfl (lv_at hl 0 rfl) ?_
      refine jv_get (v := .ref mn) F hP 0 rfl flX5_13 rfl dX5_cut_19 ?_
      refine lv_iload_n hx hb dX5_cut_22 rfl (lv_at hl 1 rfl) ?_
      refine lv_dup2_11 hx hb dX5_cut_23 rfl rfl ?_
      refine jv_iald (fa := N) F hP 2 rfl (by omega) (by decide) dX5_cut_24 ?_
      refine lv_iconst (v := jI 1) hx hb dX5_cut_25 rfl ?_
      refine jv_isub hx hb dX5_cut_26 ?_
      refine jv_iast (fa := N) F hP hD hS 2 rfl (by omega) (by decide) dX5_cut_27 (fun H locs hP hD hS => ?_)
      have hP : va_P D cls [(mo, .inr (5, [.ref ml, .ref mn, .int (jI K), .int (jI g), .int (jI ga), .int (jI lo), .int (jI gp), .int (jI li), .ref mf, .ref mt, .ref mw, .int (jI fo), .ref mk, .int (jI ln), .int (jI bs), .int (jI kn), .ref mz, .int (jI rd), .int (jI ep), .int (jI eq), .int (jI al), .int (jI fa)])), (ml, .inl (cA, 96, .inl (jA M))), (mn, .inl (cA, 2, .inl (jA (jU N 1 ((N 1) - 1)))))] H := hP
      have hD : va_D A [(mo, .inr (5, [.ref ml, .ref mn, .int (jI K), .int (jI g), .int (jI ga), .int (jI lo), .int (jI gp), .int (jI li), .ref mf, .ref mt, .ref mw, .int (jI fo), .ref mk, .int (jI ln), .int (jI bs), .int (jI kn), .ref mz, .int (jI rd), .int (jI ep), .int (jI eq), .int (jI al), .int (jI fa)])), (ml, .inl (cA, 96, .inl (jA M))), (mn, .inl (cA, 2, .inl (jA (jU N 1 ((N 1) - 1)))))] := hD
      refine lv_aload_n hx hb dX5_cut_28 rfl (lv_at hl 0 rfl) ?_
      refine lv_iconst (v := jI 0) hx hb dX5_cut_29 rfl ?_
      refine jv_put (v := .int (jI 0)) F hP hD hS 0 rfl flX5_54 pfX5 (by decide +kernel) (by decide +kernel) (by decide +kernel) (Nat.le_of_ble_eq_true rfl) dX5_cut_30 (fun H locs hP hD hS => ?_)
      have hP : va_P D cls [(mo, .inr (5, [.ref ml, .ref mn, .int (jI K), .int (jI g), .int (jI ga), .int (jI lo), .int (jI gp), .int (jI li), .ref mf, .ref mt, .ref mw, .int (jI fo), .ref mk, .int (jI ln), .int (jI bs), .int (jI 0), .ref mz, .int (jI rd), .int (jI ep), .int (jI eq), .int (jI al), .int (jI fa)])), (ml, .inl (cA, 96, .inl (jA M))), (mn, .inl (cA, 2, .inl (jA (jU N 1 ((N 1) - 1)))))] H := hP
      have hD : va_D A [(mo, .inr (5, [.ref ml, .ref mn, .int (jI K), .int (jI g), .int (jI ga), .int (jI lo), .int (jI gp), .int (jI li), .ref mf, .ref mt, .ref mw, .int (jI fo), .ref mk, .int (jI ln), .int (jI bs), .int (jI 0), .ref mz, .int (jI rd), .int (jI ep), .int (jI eq), .int (jI al), .int (jI fa)])), (ml, .inl (cA, 96, .inl (jA M))), (mn, .inl (cA, 2, .inl (jA (jU N 1 ((N 1) - 1)))))] := hD
      refine lv_aload_n hx hb dX5_cut_33 rfl (lv_at hl 0 rfl) ?_
      refine jv_get (v := .ref ml) F hP 0 rfl flX5_7 rfl dX5_cut_34 ?_
      refine lv_bipush (v := jI 48) hx hb dX5_cut_37 (by decide +kernel) ?_
      refine lv_iload_n hx hb dX5_cut_39 rfl (lv_at hl 1 rfl) ?_
      refine jv_imul hx hb dX5_cut_40 ?_
      refine lv_aload_n hx hb dX5_cut_41 rfl (lv_at hl 0 rfl) ?_
      refine jv_get (v := .ref mn) F hP 0 rfl flX5_13 rfl dX5_cut_42 ?_
      refine lv_iload_n hx hb dX5_cut_45 rfl (lv_at hl 1 rfl) ?_
      refine jv_iald (fa := jU N 1 ((N 1) - 1)) F hP 2 rfl (by omega) (by decide) dX5_cut_46 ?_
      refine jv_iadd hx hb dX5_cut_47 ?_
      have hju : jU N 1 (N 1 - 1) 1 = N 1 - 1 := jU_s
      refine jv_iald (fa := M) F hP 1 rfl (by omega) (by decide) dX5_cut_48 ?_
      exact jM.ri F hQ rfl dX5_cut_49 hS hP hD (by exact Or.inl ⟨by omega, by rw [jU_s], rfl⟩)
    · refine lv_iconst (v := jI (-1)) hx hb dX5_cut_16 rfl ?_
      exact jM.ri F hQ rfl dX5_cut_17 hS hP hD (by exact Or.inr ⟨by omega, rfl, rfl⟩)
set_option maxHeartbeats 4000000 in
set_option maxRecDepth 100000 in
theorem kX5_cut_n (l : Launch) (D : va_G) (cA : ClassId) (mo ml mn mf mt mw mk mz : Nat) (K g ga lo gp li fo ln bs kn rd ep eq al fa : Int) (M N : Int → Int) (row : Int) (hr : row ≠ 0 ∧ row ≠ 1) (hr2 : -2147483648 ≤ row ∧ row < 2147483648) : jM l YX5_cut (rmk 1 0 0 20) D cA [.ref mo, .int (jI row)] [(mo, .inr (5, [.ref ml, .ref mn, .int (jI K), .int (jI g), .int (jI ga), .int (jI lo), .int (jI gp), .int (jI li), .ref mf, .ref mt, .ref mw, .int (jI fo), .ref mk, .int (jI ln), .int (jI bs), .int (jI kn), .ref mz, .int (jI rd), .int (jI ep), .int (jI eq), .int (jI al), .int (jI fa)])), (ml, .inl (cA, 96, .inl (jA M))), (mn, .inl (cA, 2, .inl (jA N)))] (fun v w => v = some (.int (jI (-1))) ∧ w = [(mo, .inr (5, [.ref ml, .ref mn, .int (jI K), .int (jI g), .int (jI ga), .int (jI lo), .int (jI gp), .int (jI li), .ref mf, .ref mt, .ref mw, .int (jI fo), .ref mk, .int (jI ln), .int (jI bs), .int (jI kn), .ref mz, .int (jI rd), .int (jI ep), .int (jI eq), .int (jI al), .int (jI fa)])), (ml, .inl (cA, 96, .inl (jA M))), (mn, .inl (cA, 2, .inl (jA N)))]) 0 0 := by
  refine jM.intro (by decide +kernel) (Nat.le_of_ble_eq_true rfl) ?_
  intro p e s m args below meth c ls Q A F hQ hA hP hD hS hl
  have hx := F.1
  have hb := F.2.1
  have hl : lv_has ls 2 [(0, .ref mo), (1, .int (jI row))] := hl
  refine lv_iload_n hx hb dX5_cut_0 rfl (lv_at hl 1 rfl) ?_
  refine jr_S F (kX5_isRow l D cA row (by omega)) csX5_50 hP [] rfl hl ⟨rfl, rfl, by decide, by decide⟩ rfl rfl (Nat.le_of_ble_eq_true rfl) dX5_cut_1 ⟨by decide, by decide⟩ (fun v hv => ?_)
  obtain ⟨z1, rfl, hz1⟩ := hv
  refine jv_if_eq (tgt := 16) hx hb dX5_cut_4 rfl (by omega) (fun c4 => ?_) (fun c4 => ?_)
  · refine lv_iconst (v := jI (-1)) hx hb dX5_cut_16 rfl ?_
    exact jM.ri F hQ rfl dX5_cut_17 hS hP hD (by exact ⟨rfl, rfl⟩)
  · exfalso
    omega
set_option maxHeartbeats 4000000 in
set_option maxRecDepth 100000 in
theorem kX5_letter_0 (l : Launch) (D : va_G) (cA : ClassId) (mo ml mn mf mt mw mk mz : Nat) (K g ga lo gp li fo ln bs kn rd ep eq al fa : Int) (M N : Int → Int) (i : Int) (hn : 0 ≤ N 0 ∧ N 0 ≤ 48) (hi : -2147483648 ≤ i ∧ i < 2147483648) : jR l YX5_letter (rmk 1 0 0 20) D cA [.ref mo, .int (jI 0), .int (jI i)] [(mo, .inr (5, [.ref ml, .ref mn, .int (jI K), .int (jI g), .int (jI ga), .int (jI lo), .int (jI gp), .int (jI li), .ref mf, .ref mt, .ref mw, .int (jI fo), .ref mk, .int (jI ln), .int (jI bs), .int (jI kn), .ref mz, .int (jI rd), .int (jI ep), .int (jI eq), .int (jI al), .int (jI fa)])), (ml, .inl (cA, 96, .inl (jA M))), (mn, .inl (cA, 2, .inl (jA N)))] (fun v => v = .int (jI (atv (fun x => M (48 * 0 + x)) (N 0) i))) := by
  refine jR.intro (by decide +kernel) (Nat.le_of_ble_eq_true rfl) ?_
  intro p e s m args below meth c ls Q F hQ hP hl
  have hx := F.1
  have hb := F.2.1
  have hl : lv_has ls 3 [(0, .ref mo), (1, .int (jI 0)), (2, .int (jI i))] := hl
  refine lv_iload_n hx hb dX5_letter_0 rfl (lv_at hl 1 rfl) ?_
  refine jr_S F (kX5_isRow l D cA 0 (by omega)) csX5_50 hP [] rfl hl ⟨rfl, rfl, by decide, by decide⟩ rfl rfl (Nat.le_of_ble_eq_true rfl) dX5_letter_1 ⟨by decide, by decide⟩ (fun v hv => ?_)
  obtain ⟨z1, rfl, hz1⟩ := hv
  refine jv_if_eq (tgt := 35) hx hb dX5_letter_4 rfl (by omega) (fun c4 => ?_) (fun c4 => ?_)
  · exfalso
    omega
  · refine lv_iload_n hx hb dX5_letter_7 rfl (lv_at hl 2 rfl) ?_
    refine jv_if_lt (tgt := 35) hx hb dX5_letter_8 rfl (by omega) (fun c8 => ?_) (fun c8 => ?_)
    · refine lv_iconst (v := jI (-1)) hx hb dX5_letter_35 rfl ?_
      exact jR.ri F hQ rfl dX5_letter_36 (by rw [atv_out (by omega)])
    · refine lv_iload_n hx hb dX5_letter_11 rfl (lv_at hl 2 rfl) ?_
      refine lv_aload_n hx hb dX5_letter_12 rfl (lv_at hl 0 rfl) ?_
      refine jv_get (v := .ref mn) F hP 0 rfl flX5_13 rfl dX5_letter_13 ?_
      refine lv_iload_n hx hb dX5_letter_16 rfl (lv_at hl 1 rfl) ?_
      refine jv_iald (fa := N) F hP 2 rfl (by omega) (by decide) dX5_letter_17 ?_
      refine jv_icmp_ge (tgt := 35) hx hb dX5_letter_18 rfl (by omega) (by omega) (fun c18 => ?_) (fun c18 => ?_)
      · refine lv_iconst (v := jI (-1)) hx hb dX5_letter_35 rfl ?_
        exact jR.ri F hQ rfl dX5_letter_36 (by rw [atv_out (by omega)])
      · refine lv_aload_n hx hb dX5_letter_21 rfl (lv_at hl 0 rfl) ?_
        refine jv_get (v := .ref ml) F hP 0 rfl flX5_7 rfl dX5_letter_22 ?_
        refine lv_bipush (v := jI 48) hx hb dX5_letter_25 (by decide +kernel) ?_
        refine lv_iload_n hx hb dX5_letter_27 rfl (lv_at hl 1 rfl) ?_
        refine jv_imul hx hb dX5_letter_28 ?_
        refine lv_iload_n hx hb dX5_letter_29 rfl (lv_at hl 2 rfl) ?_
        refine jv_iadd hx hb dX5_letter_30 ?_
        refine jv_iald (fa := M) F hP 1 rfl (by omega) (by decide) dX5_letter_31 ?_
        refine lv_goto (tgt := 36) hx hb dX5_letter_32 rfl ?_
        exact jR.ri F hQ rfl dX5_letter_36 (by rw [atv_in (by omega)])
set_option maxHeartbeats 4000000 in
set_option maxRecDepth 100000 in
theorem kX5_letter_1 (l : Launch) (D : va_G) (cA : ClassId) (mo ml mn mf mt mw mk mz : Nat) (K g ga lo gp li fo ln bs kn rd ep eq al fa : Int) (M N : Int → Int) (i : Int) (hn : 0 ≤ N 1 ∧ N 1 ≤ 48) (hi : -2147483648 ≤ i ∧ i < 2147483648) : jR l YX5_letter (rmk 1 0 0 20) D cA [.ref mo, .int (jI 1), .int (jI i)] [(mo, .inr (5, [.ref ml, .ref mn, .int (jI K), .int (jI g), .int (jI ga), .int (jI lo), .int (jI gp), .int (jI li), .ref mf, .ref mt, .ref mw, .int (jI fo), .ref mk, .int (jI ln), .int (jI bs), .int (jI kn), .ref mz, .int (jI rd), .int (jI ep), .int (jI eq), .int (jI al), .int (jI fa)])), (ml, .inl (cA, 96, .inl (jA M))), (mn, .inl (cA, 2, .inl (jA N)))] (fun v => v = .int (jI (atv (fun x => M (48 * 1 + x)) (N 1) i))) := by
  refine jR.intro (by decide +kernel) (Nat.le_of_ble_eq_true rfl) ?_
  intro p e s m args below meth c ls Q F hQ hP hl
  have hx := F.1
  have hb := F.2.1
  have hl : lv_has ls 3 [(0, .ref mo), (1, .int (jI 1)), (2, .int (jI i))] := hl
  refine lv_iload_n hx hb dX5_letter_0 rfl (lv_at hl 1 rfl) ?_
  refine jr_S F (kX5_isRow l D cA 1 (by omega)) csX5_50 hP [] rfl hl ⟨rfl, rfl, by decide, by decide⟩ rfl rfl (Nat.le_of_ble_eq_true rfl) dX5_letter_1 ⟨by decide, by decide⟩ (fun v hv => ?_)
  obtain ⟨z1, rfl, hz1⟩ := hv
  refine jv_if_eq (tgt := 35) hx hb dX5_letter_4 rfl (by omega) (fun c4 => ?_) (fun c4 => ?_)
  · exfalso
    omega
  · refine lv_iload_n hx hb dX5_letter_7 rfl (lv_at hl 2 rfl) ?_
    refine jv_if_lt (tgt := 35) hx hb dX5_letter_8 rfl (by omega) (fun c8 => ?_) (fun c8 => ?_)
    · refine lv_iconst (v := jI (-1)) hx hb dX5_letter_35 rfl ?_
      exact jR.ri F hQ rfl dX5_letter_36 (by rw [atv_out (by omega)])
    · refine lv_iload_n hx hb dX5_letter_11 rfl (lv_at hl 2 rfl) ?_
      refine lv_aload_n hx hb dX5_letter_12 rfl (lv_at hl 0 rfl) ?_
      refine jv_get (v := .ref mn) F hP 0 rfl flX5_13 rfl dX5_letter_13 ?_
      refine lv_iload_n hx hb dX5_letter_16 rfl (lv_at hl 1 rfl) ?_
      refine jv_iald (fa := N) F hP 2 rfl (by omega) (by decide) dX5_letter_17 ?_
      refine jv_icmp_ge (tgt := 35) hx hb dX5_letter_18 rfl (by omega) (by omega) (fun c18 => ?_) (fun c18 => ?_)
      · refine lv_iconst (v := jI (-1)) hx hb dX5_letter_35 rfl ?_
        exact jR.ri F hQ rfl dX5_letter_36 (by rw [atv_out (by omega)])
      · refine lv_aload_n hx hb dX5_letter_21 rfl (lv_at hl 0 rfl) ?_
        refine jv_get (v := .ref ml) F hP 0 rfl flX5_7 rfl dX5_letter_22 ?_
        refine lv_bipush (v := jI 48) hx hb dX5_letter_25 (by decide +kernel) ?_
        refine lv_iload_n hx hb dX5_letter_27 rfl (lv_at hl 1 rfl) ?_
        refine jv_imul hx hb dX5_letter_28 ?_
        refine lv_iload_n hx hb dX5_letter_29 rfl (lv_at hl 2 rfl) ?_
        refine jv_iadd hx hb dX5_letter_30 ?_
        refine jv_iald (fa := M) F hP 1 rfl (by omega) (by decide) dX5_letter_31 ?_
        refine lv_goto (tgt := 36) hx hb dX5_letter_32 rfl ?_
        exact jR.ri F hQ rfl dX5_letter_36 (by rw [atv_in (by omega)])
set_option maxHeartbeats 4000000 in
set_option maxRecDepth 100000 in
theorem kX5_letter_n (l : Launch) (D : va_G) (cA : ClassId) (mo ml mn mf mt mw mk mz : Nat) (K g ga lo gp li fo ln bs kn rd ep eq al fa : Int) (M N : Int → Int) (row : Int) (i : Int) (hr : row ≠ 0 ∧ row ≠ 1) (hr2 : -2147483648 ≤ row ∧ row < 2147483648) (hi : -2147483648 ≤ i ∧ i < 2147483648) : jR l YX5_letter (rmk 1 0 0 20) D cA [.ref mo, .int (jI row), .int (jI i)] [(mo, .inr (5, [.ref ml, .ref mn, .int (jI K), .int (jI g), .int (jI ga), .int (jI lo), .int (jI gp), .int (jI li), .ref mf, .ref mt, .ref mw, .int (jI fo), .ref mk, .int (jI ln), .int (jI bs), .int (jI kn), .ref mz, .int (jI rd), .int (jI ep), .int (jI eq), .int (jI al), .int (jI fa)])), (ml, .inl (cA, 96, .inl (jA M))), (mn, .inl (cA, 2, .inl (jA N)))] (fun v => v = .int (jI (-1))) := by
  refine jR.intro (by decide +kernel) (Nat.le_of_ble_eq_true rfl) ?_
  intro p e s m args below meth c ls Q F hQ hP hl
  have hx := F.1
  have hb := F.2.1
  have hl : lv_has ls 3 [(0, .ref mo), (1, .int (jI row)), (2, .int (jI i))] := hl
  refine lv_iload_n hx hb dX5_letter_0 rfl (lv_at hl 1 rfl) ?_
  refine jr_S F (kX5_isRow l D cA row (by omega)) csX5_50 hP [] rfl hl ⟨rfl, rfl, by decide, by decide⟩ rfl rfl (Nat.le_of_ble_eq_true rfl) dX5_letter_1 ⟨by decide, by decide⟩ (fun v hv => ?_)
  obtain ⟨z1, rfl, hz1⟩ := hv
  refine jv_if_eq (tgt := 35) hx hb dX5_letter_4 rfl (by omega) (fun c4 => ?_) (fun c4 => ?_)
  · refine lv_iconst (v := jI (-1)) hx hb dX5_letter_35 rfl ?_
    exact jR.ri F hQ rfl dX5_letter_36 (by rfl)
  · exfalso
    omega
set_option maxHeartbeats 4000000 in
set_option maxRecDepth 100000 in
theorem kX5_seeds (l : Launch) (D : va_G) (cA : ClassId) (mo ml mn mf mt mw mk mz : Nat) (K g ga lo gp li fo ln bs kn rd ep eq al fa : Int) (k : Int) (hk : -2147483648 ≤ k ∧ k < 2147483648) : jM l YX5_seeds (rmk 0 0 0 0) D cA [.ref mo, .int (jI k)] [(mo, .inr (5, [.ref ml, .ref mn, .int (jI K), .int (jI g), .int (jI ga), .int (jI lo), .int (jI gp), .int (jI li), .ref mf, .ref mt, .ref mw, .int (jI fo), .ref mk, .int (jI ln), .int (jI bs), .int (jI kn), .ref mz, .int (jI rd), .int (jI ep), .int (jI eq), .int (jI al), .int (jI fa)]))] (fun v w => ((1 ≤ k ∧ k ≤ 6) ∧ v = some (.int (jI 1)) ∧ w = [(mo, .inr (5, [.ref ml, .ref mn, .int (jI k), .int (jI g), .int (jI ga), .int (jI lo), .int (jI gp), .int (jI li), .ref mf, .ref mt, .ref mw, .int (jI fo), .ref mk, .int (jI ln), .int (jI bs), .int (jI 0), .ref mz, .int (jI rd), .int (jI ep), .int (jI eq), .int (jI al), .int (jI fa)]))]) ∨ (¬ (1 ≤ k ∧ k ≤ 6) ∧ v = some (.int (jI 0)) ∧ w = [(mo, .inr (5, [.ref ml, .ref mn, .int (jI K), .int (jI g), .int (jI ga), .int (jI lo), .int (jI gp), .int (jI li), .ref mf, .ref mt, .ref mw, .int (jI fo), .ref mk, .int (jI ln), .int (jI bs), .int (jI kn), .ref mz, .int (jI rd), .int (jI ep), .int (jI eq), .int (jI al), .int (jI fa)]))])) 0 0 := by
  refine jM.intro (by decide +kernel) (Nat.le_of_ble_eq_true rfl) ?_
  intro p e s m args below meth c ls Q A F hQ hA hP hD hS hl
  have hx := F.1
  have hb := F.2.1
  have hl : lv_has ls 2 [(0, .ref mo), (1, .int (jI k))] := hl
  refine lv_iload_n hx hb dX5_seeds_0 rfl (lv_at hl 1 rfl) ?_
  refine lv_iconst (v := jI 1) hx hb dX5_seeds_1 rfl ?_
  refine jv_icmp_lt (tgt := 11) hx hb dX5_seeds_2 rfl (by omega) (by omega) (fun c2 => ?_) (fun c2 => ?_)
  · refine lv_iconst (v := jI 0) hx hb dX5_seeds_11 rfl ?_
    exact jM.rz F hQ rfl (by omega) dX5_seeds_12 hS hP hD (by exact Or.inr ⟨by omega, rfl, rfl⟩)
  · refine lv_iload_n hx hb dX5_seeds_5 rfl (lv_at hl 1 rfl) ?_
    refine lv_bipush (v := jI 6) hx hb dX5_seeds_6 (by decide +kernel) ?_
    refine jv_icmp_le (tgt := 13) hx hb dX5_seeds_8 rfl (by omega) (by omega) (fun c8 => ?_) (fun c8 => ?_)
    · refine lv_aload_n hx hb dX5_seeds_13 rfl (lv_at hl 0 rfl) ?_
      refine lv_iload_n hx hb dX5_seeds_14 rfl (lv_at hl 1 rfl) ?_
      refine jv_put (v := .int (jI k)) F hP hD hS 0 rfl flX5_16 pfX5 (by decide +kernel) rfl rfl (Nat.le_of_ble_eq_true rfl) dX5_seeds_15 (fun H locs hP hD hS => ?_)
      have hP : va_P D cls [(mo, .inr (5, [.ref ml, .ref mn, .int (jI k), .int (jI g), .int (jI ga), .int (jI lo), .int (jI gp), .int (jI li), .ref mf, .ref mt, .ref mw, .int (jI fo), .ref mk, .int (jI ln), .int (jI bs), .int (jI kn), .ref mz, .int (jI rd), .int (jI ep), .int (jI eq), .int (jI al), .int (jI fa)]))] H := hP
      have hD : va_D A [(mo, .inr (5, [.ref ml, .ref mn, .int (jI k), .int (jI g), .int (jI ga), .int (jI lo), .int (jI gp), .int (jI li), .ref mf, .ref mt, .ref mw, .int (jI fo), .ref mk, .int (jI ln), .int (jI bs), .int (jI kn), .ref mz, .int (jI rd), .int (jI ep), .int (jI eq), .int (jI al), .int (jI fa)]))] := hD
      refine lv_aload_n hx hb dX5_seeds_18 rfl (lv_at hl 0 rfl) ?_
      refine lv_iconst (v := jI 0) hx hb dX5_seeds_19 rfl ?_
      refine jv_put (v := .int (jI 0)) F hP hD hS 0 rfl flX5_54 pfX5 (by decide +kernel) (by decide +kernel) (by decide +kernel) (Nat.le_of_ble_eq_true rfl) dX5_seeds_20 (fun H locs hP hD hS => ?_)
      have hP : va_P D cls [(mo, .inr (5, [.ref ml, .ref mn, .int (jI k), .int (jI g), .int (jI ga), .int (jI lo), .int (jI gp), .int (jI li), .ref mf, .ref mt, .ref mw, .int (jI fo), .ref mk, .int (jI ln), .int (jI bs), .int (jI 0), .ref mz, .int (jI rd), .int (jI ep), .int (jI eq), .int (jI al), .int (jI fa)]))] H := hP
      have hD : va_D A [(mo, .inr (5, [.ref ml, .ref mn, .int (jI k), .int (jI g), .int (jI ga), .int (jI lo), .int (jI gp), .int (jI li), .ref mf, .ref mt, .ref mw, .int (jI fo), .ref mk, .int (jI ln), .int (jI bs), .int (jI 0), .ref mz, .int (jI rd), .int (jI ep), .int (jI eq), .int (jI al), .int (jI fa)]))] := hD
      refine lv_iconst (v := jI 1) hx hb dX5_seeds_23 rfl ?_
      exact jM.rz F hQ rfl (by omega) dX5_seeds_24 hS hP hD (by exact Or.inl ⟨by omega, rfl, rfl⟩)
    · refine lv_iconst (v := jI 0) hx hb dX5_seeds_11 rfl ?_
      exact jM.rz F hQ rfl (by omega) dX5_seeds_12 hS hP hD (by exact Or.inr ⟨by omega, rfl, rfl⟩)
set_option maxHeartbeats 4000000 in
set_option maxRecDepth 100000 in
theorem kX5_penalty (l : Launch) (D : va_G) (cA : ClassId) (mo ml mn mf mt mw mk mz : Nat) (K g ga lo gp li fo ln bs kn rd ep eq al fa : Int) (k : Int) (hk : -2147483648 ≤ k ∧ k < 2147483648) : jM l YX5_penalty (rmk 0 0 0 0) D cA [.ref mo, .int (jI k)] [(mo, .inr (5, [.ref ml, .ref mn, .int (jI K), .int (jI g), .int (jI ga), .int (jI lo), .int (jI gp), .int (jI li), .ref mf, .ref mt, .ref mw, .int (jI fo), .ref mk, .int (jI ln), .int (jI bs), .int (jI kn), .ref mz, .int (jI rd), .int (jI ep), .int (jI eq), .int (jI al), .int (jI fa)]))] (fun v w => ((0 ≤ k ∧ k ≤ 9) ∧ v = some (.int (jI 1)) ∧ w = [(mo, .inr (5, [.ref ml, .ref mn, .int (jI K), .int (jI k), .int (jI ga), .int (jI lo), .int (jI gp), .int (jI li), .ref mf, .ref mt, .ref mw, .int (jI fo), .ref mk, .int (jI ln), .int (jI bs), .int (jI 0), .ref mz, .int (jI rd), .int (jI ep), .int (jI eq), .int (jI al), .int (jI fa)]))]) ∨ (¬ (0 ≤ k ∧ k ≤ 9) ∧ v = some (.int (jI 0)) ∧ w = [(mo, .inr (5, [.ref ml, .ref mn, .int (jI K), .int (jI g), .int (jI ga), .int (jI lo), .int (jI gp), .int (jI li), .ref mf, .ref mt, .ref mw, .int (jI fo), .ref mk, .int (jI ln), .int (jI bs), .int (jI kn), .ref mz, .int (jI rd), .int (jI ep), .int (jI eq), .int (jI al), .int (jI fa)]))])) 0 0 := by
  refine jM.intro (by decide +kernel) (Nat.le_of_ble_eq_true rfl) ?_
  intro p e s m args below meth c ls Q A F hQ hA hP hD hS hl
  have hx := F.1
  have hb := F.2.1
  have hl : lv_has ls 2 [(0, .ref mo), (1, .int (jI k))] := hl
  refine lv_iload_n hx hb dX5_penalty_0 rfl (lv_at hl 1 rfl) ?_
  refine jv_if_lt (tgt := 10) hx hb dX5_penalty_1 rfl (by omega) (fun c1 => ?_) (fun c1 => ?_)
  · refine lv_iconst (v := jI 0) hx hb dX5_penalty_10 rfl ?_
    exact jM.rz F hQ rfl (by omega) dX5_penalty_11 hS hP hD (by exact Or.inr ⟨by omega, rfl, rfl⟩)
  · refine lv_iload_n hx hb dX5_penalty_4 rfl (lv_at hl 1 rfl) ?_
    refine lv_bipush (v := jI 9) hx hb dX5_penalty_5 (by decide +kernel) ?_
    refine jv_icmp_le (tgt := 12) hx hb dX5_penalty_7 rfl (by omega) (by omega) (fun c7 => ?_) (fun c7 => ?_)
    · refine lv_aload_n hx hb dX5_penalty_12 rfl (lv_at hl 0 rfl) ?_
      refine lv_iload_n hx hb dX5_penalty_13 rfl (lv_at hl 1 rfl) ?_
      refine jv_put (v := .int (jI k)) F hP hD hS 0 rfl flX5_20 pfX5 (by decide +kernel) rfl rfl (Nat.le_of_ble_eq_true rfl) dX5_penalty_14 (fun H locs hP hD hS => ?_)
      have hP : va_P D cls [(mo, .inr (5, [.ref ml, .ref mn, .int (jI K), .int (jI k), .int (jI ga), .int (jI lo), .int (jI gp), .int (jI li), .ref mf, .ref mt, .ref mw, .int (jI fo), .ref mk, .int (jI ln), .int (jI bs), .int (jI kn), .ref mz, .int (jI rd), .int (jI ep), .int (jI eq), .int (jI al), .int (jI fa)]))] H := hP
      have hD : va_D A [(mo, .inr (5, [.ref ml, .ref mn, .int (jI K), .int (jI k), .int (jI ga), .int (jI lo), .int (jI gp), .int (jI li), .ref mf, .ref mt, .ref mw, .int (jI fo), .ref mk, .int (jI ln), .int (jI bs), .int (jI kn), .ref mz, .int (jI rd), .int (jI ep), .int (jI eq), .int (jI al), .int (jI fa)]))] := hD
      refine lv_aload_n hx hb dX5_penalty_17 rfl (lv_at hl 0 rfl) ?_
      refine lv_iconst (v := jI 0) hx hb dX5_penalty_18 rfl ?_
      refine jv_put (v := .int (jI 0)) F hP hD hS 0 rfl flX5_54 pfX5 (by decide +kernel) (by decide +kernel) (by decide +kernel) (Nat.le_of_ble_eq_true rfl) dX5_penalty_19 (fun H locs hP hD hS => ?_)
      have hP : va_P D cls [(mo, .inr (5, [.ref ml, .ref mn, .int (jI K), .int (jI k), .int (jI ga), .int (jI lo), .int (jI gp), .int (jI li), .ref mf, .ref mt, .ref mw, .int (jI fo), .ref mk, .int (jI ln), .int (jI bs), .int (jI 0), .ref mz, .int (jI rd), .int (jI ep), .int (jI eq), .int (jI al), .int (jI fa)]))] H := hP
      have hD : va_D A [(mo, .inr (5, [.ref ml, .ref mn, .int (jI K), .int (jI k), .int (jI ga), .int (jI lo), .int (jI gp), .int (jI li), .ref mf, .ref mt, .ref mw, .int (jI fo), .ref mk, .int (jI ln), .int (jI bs), .int (jI 0), .ref mz, .int (jI rd), .int (jI ep), .int (jI eq), .int (jI al), .int (jI fa)]))] := hD
      refine lv_iconst (v := jI 1) hx hb dX5_penalty_22 rfl ?_
      exact jM.rz F hQ rfl (by omega) dX5_penalty_23 hS hP hD (by exact Or.inl ⟨by omega, rfl, rfl⟩)
    · refine lv_iconst (v := jI 0) hx hb dX5_penalty_10 rfl ?_
      exact jM.rz F hQ rfl (by omega) dX5_penalty_11 hS hP hD (by exact Or.inr ⟨by omega, rfl, rfl⟩)
set_option maxHeartbeats 4000000 in
set_option maxRecDepth 100000 in
theorem kX5_scores (l : Launch) (D : va_G) (cA : ClassId) (mo ml mn mf mt mw mk mz : Nat) (K g ga lo gp li fo ln bs kn rd ep eq al fa : Int) (a1 a2 a3 a4 : Int) (hr1 : -2147483648 ≤ a1 ∧ a1 < 2147483648) (hr2 : -2147483648 ≤ a2 ∧ a2 < 2147483648) (hr3 : -2147483648 ≤ a3 ∧ a3 < 2147483648) (hr4 : -2147483648 ≤ a4 ∧ a4 < 2147483648) : jM l YX5_scores (rmk 0 0 0 0) D cA [.ref mo, .int (jI a1), .int (jI a2), .int (jI a3), .int (jI a4)] [(mo, .inr (5, [.ref ml, .ref mn, .int (jI K), .int (jI g), .int (jI ga), .int (jI lo), .int (jI gp), .int (jI li), .ref mf, .ref mt, .ref mw, .int (jI fo), .ref mk, .int (jI ln), .int (jI bs), .int (jI kn), .ref mz, .int (jI rd), .int (jI ep), .int (jI eq), .int (jI al), .int (jI fa)]))] (fun v w => (((1 ≤ a1 ∧ a1 ≤ 9) ∧ (0 ≤ a2 ∧ a2 ≤ 9) ∧ (1 ≤ a3 ∧ a3 ≤ 9) ∧ (0 ≤ a4 ∧ a4 ≤ 99)) ∧ v = some (.int (jI 1)) ∧ w = [(mo, .inr (5, [.ref ml, .ref mn, .int (jI K), .int (jI g), .int (jI a1), .int (jI a2), .int (jI a3), .int (jI a4), .ref mf, .ref mt, .ref mw, .int (jI fo), .ref mk, .int (jI ln), .int (jI bs), .int (jI kn), .ref mz, .int (jI rd), .int (jI ep), .int (jI eq), .int (jI al), .int (jI fa)]))]) ∨ (¬ ((1 ≤ a1 ∧ a1 ≤ 9) ∧ (0 ≤ a2 ∧ a2 ≤ 9) ∧ (1 ≤ a3 ∧ a3 ≤ 9) ∧ (0 ≤ a4 ∧ a4 ≤ 99)) ∧ v = some (.int (jI 0)) ∧ w = [(mo, .inr (5, [.ref ml, .ref mn, .int (jI K), .int (jI g), .int (jI ga), .int (jI lo), .int (jI gp), .int (jI li), .ref mf, .ref mt, .ref mw, .int (jI fo), .ref mk, .int (jI ln), .int (jI bs), .int (jI kn), .ref mz, .int (jI rd), .int (jI ep), .int (jI eq), .int (jI al), .int (jI fa)]))])) 0 0 := by
  refine jM.intro (by decide +kernel) (Nat.le_of_ble_eq_true rfl) ?_
  intro p e s m args below meth c ls Q A F hQ hA hP hD hS hl
  have hx := F.1
  have hb := F.2.1
  have hl : lv_has ls 5 [(0, .ref mo), (1, .int (jI a1)), (2, .int (jI a2)), (3, .int (jI a3)), (4, .int (jI a4))] := hl
  refine lv_iload_n hx hb dX5_scores_0 rfl (lv_at hl 1 rfl) ?_
  refine lv_iconst (v := jI 1) hx hb dX5_scores_1 rfl ?_
  refine jv_icmp_lt (tgt := 44) hx hb dX5_scores_2 rfl (by omega) (by omega) (fun c2 => ?_) (fun c2 => ?_)
  · refine lv_iconst (v := jI 0) hx hb dX5_scores_44 rfl ?_
    exact jM.rz F hQ rfl (by omega) dX5_scores_45 hS hP hD (by exact Or.inr ⟨by omega, rfl, rfl⟩)
  · refine lv_iload_n hx hb dX5_scores_5 rfl (lv_at hl 1 rfl) ?_
    refine lv_bipush (v := jI 9) hx hb dX5_scores_6 (by decide +kernel) ?_
    refine jv_icmp_gt (tgt := 44) hx hb dX5_scores_8 rfl (by omega) (by omega) (fun c8 => ?_) (fun c8 => ?_)
    · refine lv_iconst (v := jI 0) hx hb dX5_scores_44 rfl ?_
      exact jM.rz F hQ rfl (by omega) dX5_scores_45 hS hP hD (by exact Or.inr ⟨by omega, rfl, rfl⟩)
    · refine lv_iload_n hx hb dX5_scores_11 rfl (lv_at hl 2 rfl) ?_
      refine jv_if_lt (tgt := 44) hx hb dX5_scores_12 rfl (by omega) (fun c12 => ?_) (fun c12 => ?_)
      · refine lv_iconst (v := jI 0) hx hb dX5_scores_44 rfl ?_
        exact jM.rz F hQ rfl (by omega) dX5_scores_45 hS hP hD (by exact Or.inr ⟨by omega, rfl, rfl⟩)
      · refine lv_iload_n hx hb dX5_scores_15 rfl (lv_at hl 2 rfl) ?_
        refine lv_bipush (v := jI 9) hx hb dX5_scores_16 (by decide +kernel) ?_
        refine jv_icmp_gt (tgt := 44) hx hb dX5_scores_18 rfl (by omega) (by omega) (fun c18 => ?_) (fun c18 => ?_)
        · refine lv_iconst (v := jI 0) hx hb dX5_scores_44 rfl ?_
          exact jM.rz F hQ rfl (by omega) dX5_scores_45 hS hP hD (by exact Or.inr ⟨by omega, rfl, rfl⟩)
        · refine lv_iload_n hx hb dX5_scores_21 rfl (lv_at hl 3 rfl) ?_
          refine lv_iconst (v := jI 1) hx hb dX5_scores_22 rfl ?_
          refine jv_icmp_lt (tgt := 44) hx hb dX5_scores_23 rfl (by omega) (by omega) (fun c23 => ?_) (fun c23 => ?_)
          · refine lv_iconst (v := jI 0) hx hb dX5_scores_44 rfl ?_
            exact jM.rz F hQ rfl (by omega) dX5_scores_45 hS hP hD (by exact Or.inr ⟨by omega, rfl, rfl⟩)
          · refine lv_iload_n hx hb dX5_scores_26 rfl (lv_at hl 3 rfl) ?_
            refine lv_bipush (v := jI 9) hx hb dX5_scores_27 (by decide +kernel) ?_
            refine jv_icmp_gt (tgt := 44) hx hb dX5_scores_29 rfl (by omega) (by omega) (fun c29 => ?_) (fun c29 => ?_)
            · refine lv_iconst (v := jI 0) hx hb dX5_scores_44 rfl ?_
              exact jM.rz F hQ rfl (by omega) dX5_scores_45 hS hP hD (by exact Or.inr ⟨by omega, rfl, rfl⟩)
            · refine lv_iload hx hb dX5_scores_32 (lv_at hl 4 rfl) ?_
              refine jv_if_lt (tgt := 44) hx hb dX5_scores_34 rfl (by omega) (fun c34 => ?_) (fun c34 => ?_)
              · refine lv_iconst (v := jI 0) hx hb dX5_scores_44 rfl ?_
                exact jM.rz F hQ rfl (by omega) dX5_scores_45 hS hP hD (by exact Or.inr ⟨by omega, rfl, rfl⟩)
              · refine lv_iload hx hb dX5_scores_37 (lv_at hl 4 rfl) ?_
                refine lv_bipush (v := jI 99) hx hb dX5_scores_39 (by decide +kernel) ?_
                refine jv_icmp_le (tgt := 46) hx hb dX5_scores_41 rfl (by omega) (by omega) (fun c41 => ?_) (fun c41 => ?_)
                · refine lv_aload_n hx hb dX5_scores_46 rfl (lv_at hl 0 rfl) ?_
                  refine lv_iload_n hx hb dX5_scores_47 rfl (lv_at hl 1 rfl) ?_
                  refine jv_put (v := .int (jI a1)) F hP hD hS 0 rfl flX5_23 pfX5 (by decide +kernel) rfl rfl (Nat.le_of_ble_eq_true rfl) dX5_scores_48 (fun H locs hP hD hS => ?_)
                  have hP : va_P D cls [(mo, .inr (5, [.ref ml, .ref mn, .int (jI K), .int (jI g), .int (jI a1), .int (jI lo), .int (jI gp), .int (jI li), .ref mf, .ref mt, .ref mw, .int (jI fo), .ref mk, .int (jI ln), .int (jI bs), .int (jI kn), .ref mz, .int (jI rd), .int (jI ep), .int (jI eq), .int (jI al), .int (jI fa)]))] H := hP
                  have hD : va_D A [(mo, .inr (5, [.ref ml, .ref mn, .int (jI K), .int (jI g), .int (jI a1), .int (jI lo), .int (jI gp), .int (jI li), .ref mf, .ref mt, .ref mw, .int (jI fo), .ref mk, .int (jI ln), .int (jI bs), .int (jI kn), .ref mz, .int (jI rd), .int (jI ep), .int (jI eq), .int (jI al), .int (jI fa)]))] := hD
                  refine lv_aload_n hx hb dX5_scores_51 rfl (lv_at hl 0 rfl) ?_
                  refine lv_iload_n hx hb dX5_scores_52 rfl (lv_at hl 2 rfl) ?_
                  refine jv_put (v := .int (jI a2)) F hP hD hS 0 rfl flX5_26 pfX5 (by decide +kernel) rfl rfl (Nat.le_of_ble_eq_true rfl) dX5_scores_53 (fun H locs hP hD hS => ?_)
                  have hP : va_P D cls [(mo, .inr (5, [.ref ml, .ref mn, .int (jI K), .int (jI g), .int (jI a1), .int (jI a2), .int (jI gp), .int (jI li), .ref mf, .ref mt, .ref mw, .int (jI fo), .ref mk, .int (jI ln), .int (jI bs), .int (jI kn), .ref mz, .int (jI rd), .int (jI ep), .int (jI eq), .int (jI al), .int (jI fa)]))] H := hP
                  have hD : va_D A [(mo, .inr (5, [.ref ml, .ref mn, .int (jI K), .int (jI g), .int (jI a1), .int (jI a2), .int (jI gp), .int (jI li), .ref mf, .ref mt, .ref mw, .int (jI fo), .ref mk, .int (jI ln), .int (jI bs), .int (jI kn), .ref mz, .int (jI rd), .int (jI ep), .int (jI eq), .int (jI al), .int (jI fa)]))] := hD
                  refine lv_aload_n hx hb dX5_scores_56 rfl (lv_at hl 0 rfl) ?_
                  refine lv_iload_n hx hb dX5_scores_57 rfl (lv_at hl 3 rfl) ?_
                  refine jv_put (v := .int (jI a3)) F hP hD hS 0 rfl flX5_29 pfX5 (by decide +kernel) rfl rfl (Nat.le_of_ble_eq_true rfl) dX5_scores_58 (fun H locs hP hD hS => ?_)
                  have hP : va_P D cls [(mo, .inr (5, [.ref ml, .ref mn, .int (jI K), .int (jI g), .int (jI a1), .int (jI a2), .int (jI a3), .int (jI li), .ref mf, .ref mt, .ref mw, .int (jI fo), .ref mk, .int (jI ln), .int (jI bs), .int (jI kn), .ref mz, .int (jI rd), .int (jI ep), .int (jI eq), .int (jI al), .int (jI fa)]))] H := hP
                  have hD : va_D A [(mo, .inr (5, [.ref ml, .ref mn, .int (jI K), .int (jI g), .int (jI a1), .int (jI a2), .int (jI a3), .int (jI li), .ref mf, .ref mt, .ref mw, .int (jI fo), .ref mk, .int (jI ln), .int (jI bs), .int (jI kn), .ref mz, .int (jI rd), .int (jI ep), .int (jI eq), .int (jI al), .int (jI fa)]))] := hD
                  refine lv_aload_n hx hb dX5_scores_61 rfl (lv_at hl 0 rfl) ?_
                  refine lv_iload hx hb dX5_scores_62 (lv_at hl 4 rfl) ?_
                  refine jv_put (v := .int (jI a4)) F hP hD hS 0 rfl flX5_32 pfX5 (by decide +kernel) rfl rfl (Nat.le_of_ble_eq_true rfl) dX5_scores_64 (fun H locs hP hD hS => ?_)
                  have hP : va_P D cls [(mo, .inr (5, [.ref ml, .ref mn, .int (jI K), .int (jI g), .int (jI a1), .int (jI a2), .int (jI a3), .int (jI a4), .ref mf, .ref mt, .ref mw, .int (jI fo), .ref mk, .int (jI ln), .int (jI bs), .int (jI kn), .ref mz, .int (jI rd), .int (jI ep), .int (jI eq), .int (jI al), .int (jI fa)]))] H := hP
                  have hD : va_D A [(mo, .inr (5, [.ref ml, .ref mn, .int (jI K), .int (jI g), .int (jI a1), .int (jI a2), .int (jI a3), .int (jI a4), .ref mf, .ref mt, .ref mw, .int (jI fo), .ref mk, .int (jI ln), .int (jI bs), .int (jI kn), .ref mz, .int (jI rd), .int (jI ep), .int (jI eq), .int (jI al), .int (jI fa)]))] := hD
                  refine lv_iconst (v := jI 1) hx hb dX5_scores_67 rfl ?_
                  exact jM.rz F hQ rfl (by omega) dX5_scores_68 hS hP hD (by exact Or.inl ⟨by omega, rfl, rfl⟩)
                · refine lv_iconst (v := jI 0) hx hb dX5_scores_44 rfl ?_
                  exact jM.rz F hQ rfl (by omega) dX5_scores_45 hS hP hD (by exact Or.inr ⟨by omega, rfl, rfl⟩)
set_option maxHeartbeats 4000000 in
set_option maxRecDepth 100000 in
theorem kX5_reached (l : Launch) (D : va_G) (cA : ClassId) (mo ml mn mf mt mw mk mz : Nat) (K g ga lo gp li fo ln bs kn rd ep eq al fa : Int) (what : Int) (hw : -2147483648 ≤ what ∧ what < 2147483648) (hrd : rd = 0 ∨ rd = 1) : jR l YX5_reached (rmk 0 0 0 0) D cA [.ref mo, .int (jI what)] [(mo, .inr (5, [.ref ml, .ref mn, .int (jI K), .int (jI g), .int (jI ga), .int (jI lo), .int (jI gp), .int (jI li), .ref mf, .ref mt, .ref mw, .int (jI fo), .ref mk, .int (jI ln), .int (jI bs), .int (jI kn), .ref mz, .int (jI rd), .int (jI ep), .int (jI eq), .int (jI al), .int (jI fa)]))] (fun v => v = .int (jI (if rd = 0 then -1 else outv ep eq al fa what))) := by
  refine jR.intro (by decide +kernel) (Nat.le_of_ble_eq_true rfl) ?_
  intro p e s m args below meth c ls Q F hQ hP hl
  have hx := F.1
  have hb := F.2.1
  have hl : lv_has ls 2 [(0, .ref mo), (1, .int (jI what))] := hl
  refine lv_aload_n hx hb dX5_reached_0 rfl (lv_at hl 0 rfl) ?_
  refine jv_get (v := .int (jI rd)) F hP 0 rfl flX5_79 rfl dX5_reached_1 ?_
  refine jv_if_ne (tgt := 9) hx hb dX5_reached_4 rfl (by omega) (fun c4 => ?_) (fun c4 => ?_)
  · refine lv_iload_n hx hb dX5_reached_9 rfl (lv_at hl 1 rfl) ?_
    refine jv_if_ne (tgt := 20) hx hb dX5_reached_10 rfl (by omega) (fun c10 => ?_) (fun c10 => ?_)
    · refine lv_iload_n hx hb dX5_reached_20 rfl (lv_at hl 1 rfl) ?_
      refine lv_iconst (v := jI 1) hx hb dX5_reached_21 rfl ?_
      refine jv_icmp_ne (tgt := 32) hx hb dX5_reached_22 rfl (by omega) (by omega) (fun c22 => ?_) (fun c22 => ?_)
      · refine lv_iload_n hx hb dX5_reached_32 rfl (lv_at hl 1 rfl) ?_
        refine lv_iconst (v := jI 2) hx hb dX5_reached_33 rfl ?_
        refine jv_icmp_ne (tgt := 44) hx hb dX5_reached_34 rfl (by omega) (by omega) (fun c34 => ?_) (fun c34 => ?_)
        · refine lv_iload_n hx hb dX5_reached_44 rfl (lv_at hl 1 rfl) ?_
          refine lv_iconst (v := jI 3) hx hb dX5_reached_45 rfl ?_
          refine jv_icmp_ne (tgt := 56) hx hb dX5_reached_46 rfl (by omega) (by omega) (fun c46 => ?_) (fun c46 => ?_)
          · refine lv_iconst (v := jI (-1)) hx hb dX5_reached_56 rfl ?_
            exact jR.ri F hQ rfl dX5_reached_57 (by first | (rw [if_pos (by omega)]; done) | (rw [if_neg (by omega), outv_0 (by omega)]; done) | (rw [if_neg (by omega), outv_1 (by omega)]; done) | (rw [if_neg (by omega), outv_2 (by omega)]; done) | (rw [if_neg (by omega), outv_3 (by omega)]; done) | (rw [if_neg (by omega), outv_n (by omega)]; done))
          · refine lv_aload_n hx hb dX5_reached_49 rfl (lv_at hl 0 rfl) ?_
            refine jv_get (v := .int (jI fa)) F hP 0 rfl flX5_91 rfl dX5_reached_50 ?_
            refine lv_goto (tgt := 57) hx hb dX5_reached_53 rfl ?_
            exact jR.ri F hQ rfl dX5_reached_57 (by first | (rw [if_pos (by omega)]; done) | (rw [if_neg (by omega), outv_0 (by omega)]; done) | (rw [if_neg (by omega), outv_1 (by omega)]; done) | (rw [if_neg (by omega), outv_2 (by omega)]; done) | (rw [if_neg (by omega), outv_3 (by omega)]; done) | (rw [if_neg (by omega), outv_n (by omega)]; done))
        · refine lv_aload_n hx hb dX5_reached_37 rfl (lv_at hl 0 rfl) ?_
          refine jv_get (v := .int (jI al)) F hP 0 rfl flX5_88 rfl dX5_reached_38 ?_
          refine lv_goto (tgt := 57) hx hb dX5_reached_41 rfl ?_
          exact jR.ri F hQ rfl dX5_reached_57 (by first | (rw [if_pos (by omega)]; done) | (rw [if_neg (by omega), outv_0 (by omega)]; done) | (rw [if_neg (by omega), outv_1 (by omega)]; done) | (rw [if_neg (by omega), outv_2 (by omega)]; done) | (rw [if_neg (by omega), outv_3 (by omega)]; done) | (rw [if_neg (by omega), outv_n (by omega)]; done))
      · refine lv_aload_n hx hb dX5_reached_25 rfl (lv_at hl 0 rfl) ?_
        refine jv_get (v := .int (jI eq)) F hP 0 rfl flX5_85 rfl dX5_reached_26 ?_
        refine lv_goto (tgt := 57) hx hb dX5_reached_29 rfl ?_
        exact jR.ri F hQ rfl dX5_reached_57 (by first | (rw [if_pos (by omega)]; done) | (rw [if_neg (by omega), outv_0 (by omega)]; done) | (rw [if_neg (by omega), outv_1 (by omega)]; done) | (rw [if_neg (by omega), outv_2 (by omega)]; done) | (rw [if_neg (by omega), outv_3 (by omega)]; done) | (rw [if_neg (by omega), outv_n (by omega)]; done))
    · refine lv_aload_n hx hb dX5_reached_13 rfl (lv_at hl 0 rfl) ?_
      refine jv_get (v := .int (jI ep)) F hP 0 rfl flX5_82 rfl dX5_reached_14 ?_
      refine lv_goto (tgt := 57) hx hb dX5_reached_17 rfl ?_
      exact jR.ri F hQ rfl dX5_reached_57 (by first | (rw [if_pos (by omega)]; done) | (rw [if_neg (by omega), outv_0 (by omega)]; done) | (rw [if_neg (by omega), outv_1 (by omega)]; done) | (rw [if_neg (by omega), outv_2 (by omega)]; done) | (rw [if_neg (by omega), outv_3 (by omega)]; done) | (rw [if_neg (by omega), outv_n (by omega)]; done))
  · refine lv_iconst (v := jI (-1)) hx hb dX5_reached_7 rfl ?_
    exact jR.ri F hQ rfl dX5_reached_8 (by first | (rw [if_pos (by omega)]; done) | (rw [if_neg (by omega), outv_0 (by omega)]; done) | (rw [if_neg (by omega), outv_1 (by omega)]; done) | (rw [if_neg (by omega), outv_2 (by omega)]; done) | (rw [if_neg (by omega), outv_3 (by omega)]; done) | (rw [if_neg (by omega), outv_n (by omega)]; done))
set_option maxHeartbeats 4000000 in
set_option maxRecDepth 100000 in
theorem kX5_greater (l : Launch) (D : va_G) (cA : ClassId) (x y : Int) (hx0 : -2147483648 ≤ x ∧ x < 2147483648) (hy : -2147483648 ≤ y ∧ y < 2147483648) : jR l YX5_greater (rmk 0 0 0 0) D cA [.int (jI x), .int (jI y)] [] (fun v => v = .int (jI (max x y))) := by
  refine jR.intro (by decide +kernel) (Nat.le_of_ble_eq_true rfl) ?_
  intro p e s m args below meth c ls Q F hQ hP hl
  have hx := F.1
  have hb := F.2.1
  have hl : lv_has ls 2 [(0, .int (jI x)), (1, .int (jI y))] := hl
  refine lv_iload_n hx hb dX5_greater_0 rfl (lv_at hl 0 rfl) ?_
  refine lv_iload_n hx hb dX5_greater_1 rfl (lv_at hl 1 rfl) ?_
  refine jv_icmp_le (tgt := 9) hx hb dX5_greater_2 rfl (by omega) (by omega) (fun c2 => ?_) (fun c2 => ?_)
  · refine lv_iload_n hx hb dX5_greater_9 rfl (lv_at hl 1 rfl) ?_
    exact jR.ri F hQ rfl dX5_greater_10 (by first | (rw [Int.max_eq_left (by omega)]; done) | (rw [Int.max_eq_right (by omega)]; done))
  · refine lv_iload_n hx hb dX5_greater_5 rfl (lv_at hl 0 rfl) ?_
    refine lv_goto (tgt := 10) hx hb dX5_greater_6 rfl ?_
    exact jR.ri F hQ rfl dX5_greater_10 (by first | (rw [Int.max_eq_left (by omega)]; done) | (rw [Int.max_eq_right (by omega)]; done))
set_option maxHeartbeats 4000000 in
set_option maxRecDepth 100000 in
theorem kX5_scoreAt (l : Launch) (D : va_G) (cA : ClassId) (mo ml mn mf mt mw mk mz : Nat) (K g ga lo gp li fo ln bs kn rd ep eq al fa : Int) (sc : Int → Int) (pp q : Int) (hp : -1 ≤ pp ∧ pp ≤ 48) (hq : -1 ≤ q ∧ q ≤ 48) : jR l YX5_scoreAt (rmk 0 0 0 0) D cA [.ref mo, .int (jI pp), .int (jI q)] [(mo, .inr (5, [.ref ml, .ref mn, .int (jI K), .int (jI g), .int (jI ga), .int (jI lo), .int (jI gp), .int (jI li), .ref mf, .ref mt, .ref mw, .int (jI fo), .ref mk, .int (jI ln), .int (jI bs), .int (jI kn), .ref mz, .int (jI rd), .int (jI ep), .int (jI eq), .int (jI al), .int (jI fa)])), (mz, .inl (cA, 2401, .inl (jA sc)))] (fun v => v = .int (jI (sat sc pp q))) := by
  refine jR.intro (by decide +kernel) (Nat.le_of_ble_eq_true rfl) ?_
  intro p e s m args below meth c ls Q F hQ hP hl
  have hx := F.1
  have hb := F.2.1
  have hl : lv_has ls 3 [(0, .ref mo), (1, .int (jI pp)), (2, .int (jI q))] := hl
  refine lv_iload_n hx hb dX5_scoreAt_0 rfl (lv_at hl 1 rfl) ?_
  refine jv_if_lt (tgt := 8) hx hb dX5_scoreAt_1 rfl (by omega) (fun c1 => ?_) (fun c1 => ?_)
  · refine lv_ldc (v := jI (-1000000)) hx hb F.own (F.wd wcX5_78) dX5_scoreAt_8 ?_
    refine lv_goto (tgt := 24) hx hb dX5_scoreAt_10 rfl ?_
    exact jR.ri F hQ rfl dX5_scoreAt_24 (by rw [sat_o (by omega)])
  · refine lv_iload_n hx hb dX5_scoreAt_4 rfl (lv_at hl 2 rfl) ?_
    refine jv_if_ge (tgt := 13) hx hb dX5_scoreAt_5 rfl (by omega) (fun c5 => ?_) (fun c5 => ?_)
    · refine lv_aload_n hx hb dX5_scoreAt_13 rfl (lv_at hl 0 rfl) ?_
      refine jv_get (v := .ref mz) F hP 0 rfl flX5_47 rfl dX5_scoreAt_14 ?_
      refine lv_bipush (v := jI 49) hx hb dX5_scoreAt_17 (by decide +kernel) ?_
      refine lv_iload_n hx hb dX5_scoreAt_19 rfl (lv_at hl 1 rfl) ?_
      refine jv_imul hx hb dX5_scoreAt_20 ?_
      refine lv_iload_n hx hb dX5_scoreAt_21 rfl (lv_at hl 2 rfl) ?_
      refine jv_iadd hx hb dX5_scoreAt_22 ?_
      refine jv_iald (fa := sc) F hP 1 rfl (by omega) (by decide) dX5_scoreAt_23 ?_
      exact jR.ri F hQ rfl dX5_scoreAt_24 (by rw [sat_i (by omega)])
    · refine lv_ldc (v := jI (-1000000)) hx hb F.own (F.wd wcX5_78) dX5_scoreAt_8 ?_
      refine lv_goto (tgt := 24) hx hb dX5_scoreAt_10 rfl ?_
      exact jR.ri F hQ rfl dX5_scoreAt_24 (by rw [sat_o (by omega)])
set_option maxHeartbeats 4000000 in
set_option maxRecDepth 100000 in
theorem kX5_init (l : Launch) (D : va_G) (cA : ClassId) (mo : Nat)  : jM l YX5_init (rmk 1 7 9459 12) D cA [.ref mo] [(mo, .inr (5, [.null, .null, .int (jI 0), .int (jI 0), .int (jI 0), .int (jI 0), .int (jI 0), .int (jI 0), .null, .null, .null, .int (jI 0), .null, .int (jI 0), .int (jI 0), .int (jI 0), .null, .int (jI 0), .int (jI 0), .int (jI 0), .int (jI 0), .int (jI 0)]))] (fun v w => v = none ∧ ∃ ml mn mf mt mw mk mz : Nat, w = [(mo, .inr (5, [.ref ml, .ref mn, .int (jI 2), .int (jI 1), .int (jI 2), .int (jI 1), .int (jI 2), .int (jI 6), .ref mf, .ref mt, .ref mw, .int (jI 0), .ref mk, .int (jI 0), .int (jI 0), .int (jI 0), .ref mz, .int (jI 0), .int (jI 0), .int (jI 0), .int (jI 0), .int (jI 0)])), (ml, .inl (cA, 96, .inl (jA (fun _ => 0)))), (mn, .inl (cA, 2, .inl (jA (fun _ => 0)))), (mf, .inl (cA, 2304, .inl (jA (fun _ => 0)))), (mt, .inl (cA, 2304, .inl (jA (fun _ => 0)))), (mw, .inl (cA, 2304, .inl (jA (fun _ => 0)))), (mk, .inl (cA, 48, .inl (jA (fun _ => 0)))), (mz, .inl (cA, 2401, .inl (jA (fun _ => 0))))]) 7 9459 := by
  refine jM.intro (by decide +kernel) (Nat.le_of_ble_eq_true rfl) ?_
  intro p e s m args below meth c ls Q A F hQ hA hP hD hS hl
  have hx := F.1
  have hb := F.2.1
  have hl : lv_has ls 1 [(0, .ref mo)] := hl
  refine lv_aload_n hx hb dX5_init_0 rfl (lv_at hl 0 rfl) ?_
  refine jv_obj F wmX5_1 hl (by decide) (Nat.le_of_ble_eq_true rfl) dX5_init_1 ?_
  refine lv_aload_n hx hb dX5_init_4 rfl (lv_at hl 0 rfl) ?_
  refine lv_bipush (v := jI 96) hx hb dX5_init_5 (by decide +kernel) ?_
  refine jv_newa (N' := 96) F hP hD hS hA (by decide +kernel) (by decide +kernel) (by decide) (by decide) dX5_init_7 (fun q7 H hP hD hS => ?_)
  have hP : va_P D cls [(mo, .inr (5, [.null, .null, .int (jI 0), .int (jI 0), .int (jI 0), .int (jI 0), .int (jI 0), .int (jI 0), .null, .null, .null, .int (jI 0), .null, .int (jI 0), .int (jI 0), .int (jI 0), .null, .int (jI 0), .int (jI 0), .int (jI 0), .int (jI 0), .int (jI 0)])), (q7, .inl (cA, 96, .inl (jA (fun _ => 0))))] H := hP
  have hD : va_D A [(mo, .inr (5, [.null, .null, .int (jI 0), .int (jI 0), .int (jI 0), .int (jI 0), .int (jI 0), .int (jI 0), .null, .null, .null, .int (jI 0), .null, .int (jI 0), .int (jI 0), .int (jI 0), .null, .int (jI 0), .int (jI 0), .int (jI 0), .int (jI 0), .int (jI 0)])), (q7, .inl (cA, 96, .inl (jA (fun _ => 0))))] := hD
  refine W.widen (k := 1) (n := 96) (by decide) (by decide) ?_
  refine jv_putF (v := .ref q7) F hP hD hS 0 rfl flX5_7 pfX5 (by decide +kernel) rfl rfl rfl rfl (Nat.le_of_ble_eq_true rfl) dX5_init_9 (fun H locs hP hD hS => ?_)
  have hP : va_P D cls [(mo, .inr (5, [.ref q7, .null, .int (jI 0), .int (jI 0), .int (jI 0), .int (jI 0), .int (jI 0), .int (jI 0), .null, .null, .null, .int (jI 0), .null, .int (jI 0), .int (jI 0), .int (jI 0), .null, .int (jI 0), .int (jI 0), .int (jI 0), .int (jI 0), .int (jI 0)])), (q7, .inl (cA, 96, .inl (jA (fun _ => 0))))] H := hP
  have hD : va_D A [(mo, .inr (5, [.ref q7, .null, .int (jI 0), .int (jI 0), .int (jI 0), .int (jI 0), .int (jI 0), .int (jI 0), .null, .null, .null, .int (jI 0), .null, .int (jI 0), .int (jI 0), .int (jI 0), .null, .int (jI 0), .int (jI 0), .int (jI 0), .int (jI 0), .int (jI 0)])), (q7, .inl (cA, 96, .inl (jA (fun _ => 0))))] := hD
  refine lv_aload_n hx hb dX5_init_12 rfl (lv_at hl 0 rfl) ?_
  refine lv_iconst (v := jI 2) hx hb dX5_init_13 rfl ?_
  refine jv_newa (N' := 2) F hP hD hS hA (by decide +kernel) (by decide +kernel) (by decide) (by decide) dX5_init_14 (fun q14 H hP hD hS => ?_)
  have hP : va_P D cls [(mo, .inr (5, [.ref q7, .null, .int (jI 0), .int (jI 0), .int (jI 0), .int (jI 0), .int (jI 0), .int (jI 0), .null, .null, .null, .int (jI 0), .null, .int (jI 0), .int (jI 0), .int (jI 0), .null, .int (jI 0), .int (jI 0), .int (jI 0), .int (jI 0), .int (jI 0)])), (q7, .inl (cA, 96, .inl (jA (fun _ => 0)))), (q14, .inl (cA, 2, .inl (jA (fun _ => 0))))] H := hP
  have hD : va_D A [(mo, .inr (5, [.ref q7, .null, .int (jI 0), .int (jI 0), .int (jI 0), .int (jI 0), .int (jI 0), .int (jI 0), .null, .null, .null, .int (jI 0), .null, .int (jI 0), .int (jI 0), .int (jI 0), .null, .int (jI 0), .int (jI 0), .int (jI 0), .int (jI 0), .int (jI 0)])), (q7, .inl (cA, 96, .inl (jA (fun _ => 0)))), (q14, .inl (cA, 2, .inl (jA (fun _ => 0))))] := hD
  refine W.widen (k := 2) (n := 98) (by decide) (by decide) ?_
  refine jv_putF (v := .ref q14) F hP hD hS 0 rfl flX5_13 pfX5 (by decide +kernel) rfl rfl rfl rfl (Nat.le_of_ble_eq_true rfl) dX5_init_16 (fun H locs hP hD hS => ?_)
  have hP : va_P D cls [(mo, .inr (5, [.ref q7, .ref q14, .int (jI 0), .int (jI 0), .int (jI 0), .int (jI 0), .int (jI 0), .int (jI 0), .null, .null, .null, .int (jI 0), .null, .int (jI 0), .int (jI 0), .int (jI 0), .null, .int (jI 0), .int (jI 0), .int (jI 0), .int (jI 0), .int (jI 0)])), (q7, .inl (cA, 96, .inl (jA (fun _ => 0)))), (q14, .inl (cA, 2, .inl (jA (fun _ => 0))))] H := hP
  have hD : va_D A [(mo, .inr (5, [.ref q7, .ref q14, .int (jI 0), .int (jI 0), .int (jI 0), .int (jI 0), .int (jI 0), .int (jI 0), .null, .null, .null, .int (jI 0), .null, .int (jI 0), .int (jI 0), .int (jI 0), .null, .int (jI 0), .int (jI 0), .int (jI 0), .int (jI 0), .int (jI 0)])), (q7, .inl (cA, 96, .inl (jA (fun _ => 0)))), (q14, .inl (cA, 2, .inl (jA (fun _ => 0))))] := hD
  refine lv_aload_n hx hb dX5_init_19 rfl (lv_at hl 0 rfl) ?_
  refine lv_iconst (v := jI 2) hx hb dX5_init_20 rfl ?_
  refine jv_put (v := .int (jI 2)) F hP hD hS 0 rfl flX5_16 pfX5 (by decide +kernel) rfl rfl (Nat.le_of_ble_eq_true rfl) dX5_init_21 (fun H locs hP hD hS => ?_)
  have hP : va_P D cls [(mo, .inr (5, [.ref q7, .ref q14, .int (jI 2), .int (jI 0), .int (jI 0), .int (jI 0), .int (jI 0), .int (jI 0), .null, .null, .null, .int (jI 0), .null, .int (jI 0), .int (jI 0), .int (jI 0), .null, .int (jI 0), .int (jI 0), .int (jI 0), .int (jI 0), .int (jI 0)])), (q7, .inl (cA, 96, .inl (jA (fun _ => 0)))), (q14, .inl (cA, 2, .inl (jA (fun _ => 0))))] H := hP
  have hD : va_D A [(mo, .inr (5, [.ref q7, .ref q14, .int (jI 2), .int (jI 0), .int (jI 0), .int (jI 0), .int (jI 0), .int (jI 0), .null, .null, .null, .int (jI 0), .null, .int (jI 0), .int (jI 0), .int (jI 0), .null, .int (jI 0), .int (jI 0), .int (jI 0), .int (jI 0), .int (jI 0)])), (q7, .inl (cA, 96, .inl (jA (fun _ => 0)))), (q14, .inl (cA, 2, .inl (jA (fun _ => 0))))] := hD
  refine lv_aload_n hx hb dX5_init_24 rfl (lv_at hl 0 rfl) ?_
  refine lv_iconst (v := jI 1) hx hb dX5_init_25 rfl ?_
  refine jv_put (v := .int (jI 1)) F hP hD hS 0 rfl flX5_20 pfX5 (by decide +kernel) rfl rfl (Nat.le_of_ble_eq_true rfl) dX5_init_26 (fun H locs hP hD hS => ?_)
  have hP : va_P D cls [(mo, .inr (5, [.ref q7, .ref q14, .int (jI 2), .int (jI 1), .int (jI 0), .int (jI 0), .int (jI 0), .int (jI 0), .null, .null, .null, .int (jI 0), .null, .int (jI 0), .int (jI 0), .int (jI 0), .null, .int (jI 0), .int (jI 0), .int (jI 0), .int (jI 0), .int (jI 0)])), (q7, .inl (cA, 96, .inl (jA (fun _ => 0)))), (q14, .inl (cA, 2, .inl (jA (fun _ => 0))))] H := hP
  have hD : va_D A [(mo, .inr (5, [.ref q7, .ref q14, .int (jI 2), .int (jI 1), .int (jI 0), .int (jI 0), .int (jI 0), .int (jI 0), .null, .null, .null, .int (jI 0), .null, .int (jI 0), .int (jI 0), .int (jI 0), .null, .int (jI 0), .int (jI 0), .int (jI 0), .int (jI 0), .int (jI 0)])), (q7, .inl (cA, 96, .inl (jA (fun _ => 0)))), (q14, .inl (cA, 2, .inl (jA (fun _ => 0))))] := hD
  refine lv_aload_n hx hb dX5_init_29 rfl (lv_at hl 0 rfl) ?_
  refine lv_iconst (v := jI 2) hx hb dX5_init_30 rfl ?_
  refine jv_put (v := .int (jI 2)) F hP hD hS 0 rfl flX5_23 pfX5 (by decide +kernel) rfl rfl (Nat.le_of_ble_eq_true rfl) dX5_init_31 (fun H locs hP hD hS => ?_)
  have hP : va_P D cls [(mo, .inr (5, [.ref q7, .ref q14, .int (jI 2), .int (jI 1), .int (jI 2), .int (jI 0), .int (jI 0), .int (jI 0), .null, .null, .null, .int (jI 0), .null, .int (jI 0), .int (jI 0), .int (jI 0), .null, .int (jI 0), .int (jI 0), .int (jI 0), .int (jI 0), .int (jI 0)])), (q7, .inl (cA, 96, .inl (jA (fun _ => 0)))), (q14, .inl (cA, 2, .inl (jA (fun _ => 0))))] H := hP
  have hD : va_D A [(mo, .inr (5, [.ref q7, .ref q14, .int (jI 2), .int (jI 1), .int (jI 2), .int (jI 0), .int (jI 0), .int (jI 0), .null, .null, .null, .int (jI 0), .null, .int (jI 0), .int (jI 0), .int (jI 0), .null, .int (jI 0), .int (jI 0), .int (jI 0), .int (jI 0), .int (jI 0)])), (q7, .inl (cA, 96, .inl (jA (fun _ => 0)))), (q14, .inl (cA, 2, .inl (jA (fun _ => 0))))] := hD
  refine lv_aload_n hx hb dX5_init_34 rfl (lv_at hl 0 rfl) ?_
  refine lv_iconst (v := jI 1) hx hb dX5_init_35 rfl ?_
  refine jv_put (v := .int (jI 1)) F hP hD hS 0 rfl flX5_26 pfX5 (by decide +kernel) rfl rfl (Nat.le_of_ble_eq_true rfl) dX5_init_36 (fun H locs hP hD hS => ?_)
  have hP : va_P D cls [(mo, .inr (5, [.ref q7, .ref q14, .int (jI 2), .int (jI 1), .int (jI 2), .int (jI 1), .int (jI 0), .int (jI 0), .null, .null, .null, .int (jI 0), .null, .int (jI 0), .int (jI 0), .int (jI 0), .null, .int (jI 0), .int (jI 0), .int (jI 0), .int (jI 0), .int (jI 0)])), (q7, .inl (cA, 96, .inl (jA (fun _ => 0)))), (q14, .inl (cA, 2, .inl (jA (fun _ => 0))))] H := hP
  have hD : va_D A [(mo, .inr (5, [.ref q7, .ref q14, .int (jI 2), .int (jI 1), .int (jI 2), .int (jI 1), .int (jI 0), .int (jI 0), .null, .null, .null, .int (jI 0), .null, .int (jI 0), .int (jI 0), .int (jI 0), .null, .int (jI 0), .int (jI 0), .int (jI 0), .int (jI 0), .int (jI 0)])), (q7, .inl (cA, 96, .inl (jA (fun _ => 0)))), (q14, .inl (cA, 2, .inl (jA (fun _ => 0))))] := hD
  refine lv_aload_n hx hb dX5_init_39 rfl (lv_at hl 0 rfl) ?_
  refine lv_iconst (v := jI 2) hx hb dX5_init_40 rfl ?_
  refine jv_put (v := .int (jI 2)) F hP hD hS 0 rfl flX5_29 pfX5 (by decide +kernel) rfl rfl (Nat.le_of_ble_eq_true rfl) dX5_init_41 (fun H locs hP hD hS => ?_)
  have hP : va_P D cls [(mo, .inr (5, [.ref q7, .ref q14, .int (jI 2), .int (jI 1), .int (jI 2), .int (jI 1), .int (jI 2), .int (jI 0), .null, .null, .null, .int (jI 0), .null, .int (jI 0), .int (jI 0), .int (jI 0), .null, .int (jI 0), .int (jI 0), .int (jI 0), .int (jI 0), .int (jI 0)])), (q7, .inl (cA, 96, .inl (jA (fun _ => 0)))), (q14, .inl (cA, 2, .inl (jA (fun _ => 0))))] H := hP
  have hD : va_D A [(mo, .inr (5, [.ref q7, .ref q14, .int (jI 2), .int (jI 1), .int (jI 2), .int (jI 1), .int (jI 2), .int (jI 0), .null, .null, .null, .int (jI 0), .null, .int (jI 0), .int (jI 0), .int (jI 0), .null, .int (jI 0), .int (jI 0), .int (jI 0), .int (jI 0), .int (jI 0)])), (q7, .inl (cA, 96, .inl (jA (fun _ => 0)))), (q14, .inl (cA, 2, .inl (jA (fun _ => 0))))] := hD
  refine lv_aload_n hx hb dX5_init_44 rfl (lv_at hl 0 rfl) ?_
  refine lv_bipush (v := jI 6) hx hb dX5_init_45 (by decide +kernel) ?_
  refine jv_put (v := .int (jI 6)) F hP hD hS 0 rfl flX5_32 pfX5 (by decide +kernel) rfl rfl (Nat.le_of_ble_eq_true rfl) dX5_init_47 (fun H locs hP hD hS => ?_)
  have hP : va_P D cls [(mo, .inr (5, [.ref q7, .ref q14, .int (jI 2), .int (jI 1), .int (jI 2), .int (jI 1), .int (jI 2), .int (jI 6), .null, .null, .null, .int (jI 0), .null, .int (jI 0), .int (jI 0), .int (jI 0), .null, .int (jI 0), .int (jI 0), .int (jI 0), .int (jI 0), .int (jI 0)])), (q7, .inl (cA, 96, .inl (jA (fun _ => 0)))), (q14, .inl (cA, 2, .inl (jA (fun _ => 0))))] H := hP
  have hD : va_D A [(mo, .inr (5, [.ref q7, .ref q14, .int (jI 2), .int (jI 1), .int (jI 2), .int (jI 1), .int (jI 2), .int (jI 6), .null, .null, .null, .int (jI 0), .null, .int (jI 0), .int (jI 0), .int (jI 0), .null, .int (jI 0), .int (jI 0), .int (jI 0), .int (jI 0), .int (jI 0)])), (q7, .inl (cA, 96, .inl (jA (fun _ => 0)))), (q14, .inl (cA, 2, .inl (jA (fun _ => 0))))] := hD
  refine lv_aload_n hx hb dX5_init_50 rfl (lv_at hl 0 rfl) ?_
  refine lv_sipush (v := jI 2304) hx hb dX5_init_51 (by decide +kernel) ?_
  refine jv_newa (N' := 2304) F hP hD hS hA (by decide +kernel) (by decide +kernel) (by decide) (by decide) dX5_init_54 (fun q54 H hP hD hS => ?_)
  have hP : va_P D cls [(mo, .inr (5, [.ref q7, .ref q14, .int (jI 2), .int (jI 1), .int (jI 2), .int (jI 1), .int (jI 2), .int (jI 6), .null, .null, .null, .int (jI 0), .null, .int (jI 0), .int (jI 0), .int (jI 0), .null, .int (jI 0), .int (jI 0), .int (jI 0), .int (jI 0), .int (jI 0)])), (q7, .inl (cA, 96, .inl (jA (fun _ => 0)))), (q14, .inl (cA, 2, .inl (jA (fun _ => 0)))), (q54, .inl (cA, 2304, .inl (jA (fun _ => 0))))] H := hP
  have hD : va_D A [(mo, .inr (5, [.ref q7, .ref q14, .int (jI 2), .int (jI 1), .int (jI 2), .int (jI 1), .int (jI 2), .int (jI 6), .null, .null, .null, .int (jI 0), .null, .int (jI 0), .int (jI 0), .int (jI 0), .null, .int (jI 0), .int (jI 0), .int (jI 0), .int (jI 0), .int (jI 0)])), (q7, .inl (cA, 96, .inl (jA (fun _ => 0)))), (q14, .inl (cA, 2, .inl (jA (fun _ => 0)))), (q54, .inl (cA, 2304, .inl (jA (fun _ => 0))))] := hD
  refine W.widen (k := 3) (n := 2402) (by decide) (by decide) ?_
  refine jv_putF (v := .ref q54) F hP hD hS 0 rfl flX5_35 pfX5 (by decide +kernel) rfl rfl rfl rfl (Nat.le_of_ble_eq_true rfl) dX5_init_56 (fun H locs hP hD hS => ?_)
  have hP : va_P D cls [(mo, .inr (5, [.ref q7, .ref q14, .int (jI 2), .int (jI 1), .int (jI 2), .int (jI 1), .int (jI 2), .int (jI 6), .ref q54, .null, .null, .int (jI 0), .null, .int (jI 0), .int (jI 0), .int (jI 0), .null, .int (jI 0), .int (jI 0), .int (jI 0), .int (jI 0), .int (jI 0)])), (q7, .inl (cA, 96, .inl (jA (fun _ => 0)))), (q14, .inl (cA, 2, .inl (jA (fun _ => 0)))), (q54, .inl (cA, 2304, .inl (jA (fun _ => 0))))] H := hP
  have hD : va_D A [(mo, .inr (5, [.ref q7, .ref q14, .int (jI 2), .int (jI 1), .int (jI 2), .int (jI 1), .int (jI 2), .int (jI 6), .ref q54, .null, .null, .int (jI 0), .null, .int (jI 0), .int (jI 0), .int (jI 0), .null, .int (jI 0), .int (jI 0), .int (jI 0), .int (jI 0), .int (jI 0)])), (q7, .inl (cA, 96, .inl (jA (fun _ => 0)))), (q14, .inl (cA, 2, .inl (jA (fun _ => 0)))), (q54, .inl (cA, 2304, .inl (jA (fun _ => 0))))] := hD
  refine lv_aload_n hx hb dX5_init_59 rfl (lv_at hl 0 rfl) ?_
  refine lv_sipush (v := jI 2304) hx hb dX5_init_60 (by decide +kernel) ?_
  refine jv_newa (N' := 2304) F hP hD hS hA (by decide +kernel) (by decide +kernel) (by decide) (by decide) dX5_init_63 (fun q63 H hP hD hS => ?_)
  have hP : va_P D cls [(mo, .inr (5, [.ref q7, .ref q14, .int (jI 2), .int (jI 1), .int (jI 2), .int (jI 1), .int (jI 2), .int (jI 6), .ref q54, .null, .null, .int (jI 0), .null, .int (jI 0), .int (jI 0), .int (jI 0), .null, .int (jI 0), .int (jI 0), .int (jI 0), .int (jI 0), .int (jI 0)])), (q7, .inl (cA, 96, .inl (jA (fun _ => 0)))), (q14, .inl (cA, 2, .inl (jA (fun _ => 0)))), (q54, .inl (cA, 2304, .inl (jA (fun _ => 0)))), (q63, .inl (cA, 2304, .inl (jA (fun _ => 0))))] H := hP
  have hD : va_D A [(mo, .inr (5, [.ref q7, .ref q14, .int (jI 2), .int (jI 1), .int (jI 2), .int (jI 1), .int (jI 2), .int (jI 6), .ref q54, .null, .null, .int (jI 0), .null, .int (jI 0), .int (jI 0), .int (jI 0), .null, .int (jI 0), .int (jI 0), .int (jI 0), .int (jI 0), .int (jI 0)])), (q7, .inl (cA, 96, .inl (jA (fun _ => 0)))), (q14, .inl (cA, 2, .inl (jA (fun _ => 0)))), (q54, .inl (cA, 2304, .inl (jA (fun _ => 0)))), (q63, .inl (cA, 2304, .inl (jA (fun _ => 0))))] := hD
  refine W.widen (k := 4) (n := 4706) (by decide) (by decide) ?_
  refine jv_putF (v := .ref q63) F hP hD hS 0 rfl flX5_38 pfX5 (by decide +kernel) rfl rfl rfl rfl (Nat.le_of_ble_eq_true rfl) dX5_init_65 (fun H locs hP hD hS => ?_)
  have hP : va_P D cls [(mo, .inr (5, [.ref q7, .ref q14, .int (jI 2), .int (jI 1), .int (jI 2), .int (jI 1), .int (jI 2), .int (jI 6), .ref q54, .ref q63, .null, .int (jI 0), .null, .int (jI 0), .int (jI 0), .int (jI 0), .null, .int (jI 0), .int (jI 0), .int (jI 0), .int (jI 0), .int (jI 0)])), (q7, .inl (cA, 96, .inl (jA (fun _ => 0)))), (q14, .inl (cA, 2, .inl (jA (fun _ => 0)))), (q54, .inl (cA, 2304, .inl (jA (fun _ => 0)))), (q63, .inl (cA, 2304, .inl (jA (fun _ => 0))))] H := hP
  have hD : va_D A [(mo, .inr (5, [.ref q7, .ref q14, .int (jI 2), .int (jI 1), .int (jI 2), .int (jI 1), .int (jI 2), .int (jI 6), .ref q54, .ref q63, .null, .int (jI 0), .null, .int (jI 0), .int (jI 0), .int (jI 0), .null, .int (jI 0), .int (jI 0), .int (jI 0), .int (jI 0), .int (jI 0)])), (q7, .inl (cA, 96, .inl (jA (fun _ => 0)))), (q14, .inl (cA, 2, .inl (jA (fun _ => 0)))), (q54, .inl (cA, 2304, .inl (jA (fun _ => 0)))), (q63, .inl (cA, 2304, .inl (jA (fun _ => 0))))] := hD
  refine lv_aload_n hx hb dX5_init_68 rfl (lv_at hl 0 rfl) ?_
  refine lv_sipush (v := jI 2304) hx hb dX5_init_69 (by decide +kernel) ?_
  refine jv_newa (N' := 2304) F hP hD hS hA (by decide +kernel) (by decide +kernel) (by decide) (by decide) dX5_init_72 (fun q72 H hP hD hS => ?_)
  have hP : va_P D cls [(mo, .inr (5, [.ref q7, .ref q14, .int (jI 2), .int (jI 1), .int (jI 2), .int (jI 1), .int (jI 2), .int (jI 6), .ref q54, .ref q63, .null, .int (jI 0), .null, .int (jI 0), .int (jI 0), .int (jI 0), .null, .int (jI 0), .int (jI 0), .int (jI 0), .int (jI 0), .int (jI 0)])), (q7, .inl (cA, 96, .inl (jA (fun _ => 0)))), (q14, .inl (cA, 2, .inl (jA (fun _ => 0)))), (q54, .inl (cA, 2304, .inl (jA (fun _ => 0)))), (q63, .inl (cA, 2304, .inl (jA (fun _ => 0)))), (q72, .inl (cA, 2304, .inl (jA (fun _ => 0))))] H := hP
  have hD : va_D A [(mo, .inr (5, [.ref q7, .ref q14, .int (jI 2), .int (jI 1), .int (jI 2), .int (jI 1), .int (jI 2), .int (jI 6), .ref q54, .ref q63, .null, .int (jI 0), .null, .int (jI 0), .int (jI 0), .int (jI 0), .null, .int (jI 0), .int (jI 0), .int (jI 0), .int (jI 0), .int (jI 0)])), (q7, .inl (cA, 96, .inl (jA (fun _ => 0)))), (q14, .inl (cA, 2, .inl (jA (fun _ => 0)))), (q54, .inl (cA, 2304, .inl (jA (fun _ => 0)))), (q63, .inl (cA, 2304, .inl (jA (fun _ => 0)))), (q72, .inl (cA, 2304, .inl (jA (fun _ => 0))))] := hD
  refine W.widen (k := 5) (n := 7010) (by decide) (by decide) ?_
  refine jv_putF (v := .ref q72) F hP hD hS 0 rfl flX5_41 pfX5 (by decide +kernel) rfl rfl rfl rfl (Nat.le_of_ble_eq_true rfl) dX5_init_74 (fun H locs hP hD hS => ?_)
  have hP : va_P D cls [(mo, .inr (5, [.ref q7, .ref q14, .int (jI 2), .int (jI 1), .int (jI 2), .int (jI 1), .int (jI 2), .int (jI 6), .ref q54, .ref q63, .ref q72, .int (jI 0), .null, .int (jI 0), .int (jI 0), .int (jI 0), .null, .int (jI 0), .int (jI 0), .int (jI 0), .int (jI 0), .int (jI 0)])), (q7, .inl (cA, 96, .inl (jA (fun _ => 0)))), (q14, .inl (cA, 2, .inl (jA (fun _ => 0)))), (q54, .inl (cA, 2304, .inl (jA (fun _ => 0)))), (q63, .inl (cA, 2304, .inl (jA (fun _ => 0)))), (q72, .inl (cA, 2304, .inl (jA (fun _ => 0))))] H := hP
  have hD : va_D A [(mo, .inr (5, [.ref q7, .ref q14, .int (jI 2), .int (jI 1), .int (jI 2), .int (jI 1), .int (jI 2), .int (jI 6), .ref q54, .ref q63, .ref q72, .int (jI 0), .null, .int (jI 0), .int (jI 0), .int (jI 0), .null, .int (jI 0), .int (jI 0), .int (jI 0), .int (jI 0), .int (jI 0)])), (q7, .inl (cA, 96, .inl (jA (fun _ => 0)))), (q14, .inl (cA, 2, .inl (jA (fun _ => 0)))), (q54, .inl (cA, 2304, .inl (jA (fun _ => 0)))), (q63, .inl (cA, 2304, .inl (jA (fun _ => 0)))), (q72, .inl (cA, 2304, .inl (jA (fun _ => 0))))] := hD
  refine lv_aload_n hx hb dX5_init_77 rfl (lv_at hl 0 rfl) ?_
  refine lv_bipush (v := jI 48) hx hb dX5_init_78 (by decide +kernel) ?_
  refine jv_newa (N' := 48) F hP hD hS hA (by decide +kernel) (by decide +kernel) (by decide) (by decide) dX5_init_80 (fun q80 H hP hD hS => ?_)
  have hP : va_P D cls [(mo, .inr (5, [.ref q7, .ref q14, .int (jI 2), .int (jI 1), .int (jI 2), .int (jI 1), .int (jI 2), .int (jI 6), .ref q54, .ref q63, .ref q72, .int (jI 0), .null, .int (jI 0), .int (jI 0), .int (jI 0), .null, .int (jI 0), .int (jI 0), .int (jI 0), .int (jI 0), .int (jI 0)])), (q7, .inl (cA, 96, .inl (jA (fun _ => 0)))), (q14, .inl (cA, 2, .inl (jA (fun _ => 0)))), (q54, .inl (cA, 2304, .inl (jA (fun _ => 0)))), (q63, .inl (cA, 2304, .inl (jA (fun _ => 0)))), (q72, .inl (cA, 2304, .inl (jA (fun _ => 0)))), (q80, .inl (cA, 48, .inl (jA (fun _ => 0))))] H := hP
  have hD : va_D A [(mo, .inr (5, [.ref q7, .ref q14, .int (jI 2), .int (jI 1), .int (jI 2), .int (jI 1), .int (jI 2), .int (jI 6), .ref q54, .ref q63, .ref q72, .int (jI 0), .null, .int (jI 0), .int (jI 0), .int (jI 0), .null, .int (jI 0), .int (jI 0), .int (jI 0), .int (jI 0), .int (jI 0)])), (q7, .inl (cA, 96, .inl (jA (fun _ => 0)))), (q14, .inl (cA, 2, .inl (jA (fun _ => 0)))), (q54, .inl (cA, 2304, .inl (jA (fun _ => 0)))), (q63, .inl (cA, 2304, .inl (jA (fun _ => 0)))), (q72, .inl (cA, 2304, .inl (jA (fun _ => 0)))), (q80, .inl (cA, 48, .inl (jA (fun _ => 0))))] := hD
  refine W.widen (k := 6) (n := 7058) (by decide) (by decide) ?_
  refine jv_putF (v := .ref q80) F hP hD hS 0 rfl flX5_44 pfX5 (by decide +kernel) rfl rfl rfl rfl (Nat.le_of_ble_eq_true rfl) dX5_init_82 (fun H locs hP hD hS => ?_)
  have hP : va_P D cls [(mo, .inr (5, [.ref q7, .ref q14, .int (jI 2), .int (jI 1), .int (jI 2), .int (jI 1), .int (jI 2), .int (jI 6), .ref q54, .ref q63, .ref q72, .int (jI 0), .ref q80, .int (jI 0), .int (jI 0), .int (jI 0), .null, .int (jI 0), .int (jI 0), .int (jI 0), .int (jI 0), .int (jI 0)])), (q7, .inl (cA, 96, .inl (jA (fun _ => 0)))), (q14, .inl (cA, 2, .inl (jA (fun _ => 0)))), (q54, .inl (cA, 2304, .inl (jA (fun _ => 0)))), (q63, .inl (cA, 2304, .inl (jA (fun _ => 0)))), (q72, .inl (cA, 2304, .inl (jA (fun _ => 0)))), (q80, .inl (cA, 48, .inl (jA (fun _ => 0))))] H := hP
  have hD : va_D A [(mo, .inr (5, [.ref q7, .ref q14, .int (jI 2), .int (jI 1), .int (jI 2), .int (jI 1), .int (jI 2), .int (jI 6), .ref q54, .ref q63, .ref q72, .int (jI 0), .ref q80, .int (jI 0), .int (jI 0), .int (jI 0), .null, .int (jI 0), .int (jI 0), .int (jI 0), .int (jI 0), .int (jI 0)])), (q7, .inl (cA, 96, .inl (jA (fun _ => 0)))), (q14, .inl (cA, 2, .inl (jA (fun _ => 0)))), (q54, .inl (cA, 2304, .inl (jA (fun _ => 0)))), (q63, .inl (cA, 2304, .inl (jA (fun _ => 0)))), (q72, .inl (cA, 2304, .inl (jA (fun _ => 0)))), (q80, .inl (cA, 48, .inl (jA (fun _ => 0))))] := hD
  refine lv_aload_n hx hb dX5_init_85 rfl (lv_at hl 0 rfl) ?_
  refine lv_sipush (v := jI 2401) hx hb dX5_init_86 (by decide +kernel) ?_
  refine jv_newa (N' := 2401) F hP hD hS hA (by decide +kernel) (by decide +kernel) (by decide) (by decide) dX5_init_89 (fun q89 H hP hD hS => ?_)
  have hP : va_P D cls [(mo, .inr (5, [.ref q7, .ref q14, .int (jI 2), .int (jI 1), .int (jI 2), .int (jI 1), .int (jI 2), .int (jI 6), .ref q54, .ref q63, .ref q72, .int (jI 0), .ref q80, .int (jI 0), .int (jI 0), .int (jI 0), .null, .int (jI 0), .int (jI 0), .int (jI 0), .int (jI 0), .int (jI 0)])), (q7, .inl (cA, 96, .inl (jA (fun _ => 0)))), (q14, .inl (cA, 2, .inl (jA (fun _ => 0)))), (q54, .inl (cA, 2304, .inl (jA (fun _ => 0)))), (q63, .inl (cA, 2304, .inl (jA (fun _ => 0)))), (q72, .inl (cA, 2304, .inl (jA (fun _ => 0)))), (q80, .inl (cA, 48, .inl (jA (fun _ => 0)))), (q89, .inl (cA, 2401, .inl (jA (fun _ => 0))))] H := hP
  have hD : va_D A [(mo, .inr (5, [.ref q7, .ref q14, .int (jI 2), .int (jI 1), .int (jI 2), .int (jI 1), .int (jI 2), .int (jI 6), .ref q54, .ref q63, .ref q72, .int (jI 0), .ref q80, .int (jI 0), .int (jI 0), .int (jI 0), .null, .int (jI 0), .int (jI 0), .int (jI 0), .int (jI 0), .int (jI 0)])), (q7, .inl (cA, 96, .inl (jA (fun _ => 0)))), (q14, .inl (cA, 2, .inl (jA (fun _ => 0)))), (q54, .inl (cA, 2304, .inl (jA (fun _ => 0)))), (q63, .inl (cA, 2304, .inl (jA (fun _ => 0)))), (q72, .inl (cA, 2304, .inl (jA (fun _ => 0)))), (q80, .inl (cA, 48, .inl (jA (fun _ => 0)))), (q89, .inl (cA, 2401, .inl (jA (fun _ => 0))))] := hD
  refine W.widen (k := 7) (n := 9459) (by decide) (by decide) ?_
  refine jv_putF (v := .ref q89) F hP hD hS 0 rfl flX5_47 pfX5 (by decide +kernel) rfl rfl rfl rfl (Nat.le_of_ble_eq_true rfl) dX5_init_91 (fun H locs hP hD hS => ?_)
  have hP : va_P D cls [(mo, .inr (5, [.ref q7, .ref q14, .int (jI 2), .int (jI 1), .int (jI 2), .int (jI 1), .int (jI 2), .int (jI 6), .ref q54, .ref q63, .ref q72, .int (jI 0), .ref q80, .int (jI 0), .int (jI 0), .int (jI 0), .ref q89, .int (jI 0), .int (jI 0), .int (jI 0), .int (jI 0), .int (jI 0)])), (q7, .inl (cA, 96, .inl (jA (fun _ => 0)))), (q14, .inl (cA, 2, .inl (jA (fun _ => 0)))), (q54, .inl (cA, 2304, .inl (jA (fun _ => 0)))), (q63, .inl (cA, 2304, .inl (jA (fun _ => 0)))), (q72, .inl (cA, 2304, .inl (jA (fun _ => 0)))), (q80, .inl (cA, 48, .inl (jA (fun _ => 0)))), (q89, .inl (cA, 2401, .inl (jA (fun _ => 0))))] H := hP
  have hD : va_D A [(mo, .inr (5, [.ref q7, .ref q14, .int (jI 2), .int (jI 1), .int (jI 2), .int (jI 1), .int (jI 2), .int (jI 6), .ref q54, .ref q63, .ref q72, .int (jI 0), .ref q80, .int (jI 0), .int (jI 0), .int (jI 0), .ref q89, .int (jI 0), .int (jI 0), .int (jI 0), .int (jI 0), .int (jI 0)])), (q7, .inl (cA, 96, .inl (jA (fun _ => 0)))), (q14, .inl (cA, 2, .inl (jA (fun _ => 0)))), (q54, .inl (cA, 2304, .inl (jA (fun _ => 0)))), (q63, .inl (cA, 2304, .inl (jA (fun _ => 0)))), (q72, .inl (cA, 2304, .inl (jA (fun _ => 0)))), (q80, .inl (cA, 48, .inl (jA (fun _ => 0)))), (q89, .inl (cA, 2401, .inl (jA (fun _ => 0))))] := hD
  exact jM.rv F hQ rfl dX5_init_94 hS hP hD (by exact ⟨rfl, _, _, _, _, _, _, _, rfl⟩)
end
section
theorem btw_r {f s : Int → Int} {K a b : Int} (hK : 1 ≤ K) (h1 : 0 ≤ f a ∧ f a ≤ 48) (h2 : 0 ≤ f b ∧ f b ≤ 48) (h3 : 0 ≤ s a ∧ s a ≤ 48) (h4 : 0 ≤ s b ∧ s b ≤ 48) : -1 ≤ btw f s K a b ∧ btw f s K a b ≤ 96 := by
  by_cases h : f b - f a - K < 0 ∨ s b - s a - K < 0
  · rw [btw_out h]; omega
  · rw [btw_in h]; omega
theorem btw_pos {f s : Int → Int} {K a b : Int} (h : 0 ≤ btw f s K a b) : 0 ≤ f b - f a - K ∧ 0 ≤ s b - s a - K := by
  by_cases h2 : f b - f a - K < 0 ∨ s b - s a - K < 0
  · rw [btw_out h2] at h; omega
  · omega
/-- what the reference knows -/
def knw (G : Int → Int → Prop) (n0 n1 K g : Int) (f s : Int → Int) (T : Int) (lk : Int → Int) (n t : Int) : Prop := tabOK G n0 n1 f s T ∧ (∃ wt, WT G K g wt ∧ isTop G wt t ∧ isChn G wt K g t n (fun m => f (lk m)) (fun m => s (lk m))) ∧ (0 ≤ n ∧ n ≤ 48) ∧ (∀ m, 0 ≤ m → m < n → 0 ≤ lk m ∧ lk m < T) ∧ 0 ≤ T ∧ T ≤ 2304
set_option maxHeartbeats 4000000 in
set_option maxRecDepth 100000 in
theorem kX5_isAnchor (l : Launch) (D : va_G) (cA : ClassId) (mo ml mn mf mt mw mk mz : Nat) (K g ga lo gp li fo ln bs kn rd ep eq al fa : Int) (M N L0 L1 : Int → Int) (n0 n1 : Int) (i j : Int) (hn0 : 0 ≤ n0 ∧ n0 ≤ 48) (hn1 : 0 ≤ n1 ∧ n1 ≤ 48) (hL0 : ∀ x, 0 ≤ L0 x ∧ L0 x ≤ 3) (hL1 : ∀ x, 0 ≤ L1 x ∧ L1 x ≤ 3) (hN0 : N 0 = n0) (hN1 : N 1 = n1) (hM0 : ∀ x, 0 ≤ x → x < 48 → M x = L0 x) (hM1 : ∀ x, 0 ≤ x → x < 48 → M (48 + x) = L1 x) (hK : 1 ≤ K ∧ K ≤ 6) (hi : 0 ≤ i ∧ i ≤ 48) (hj : 0 ≤ j ∧ j ≤ 48) : jR l YX5_isAnchor (rmk 0 0 0 0) D cA [.ref mo, .int (jI i), .int (jI j)] [(mo, .inr (5, [.ref ml, .ref mn, .int (jI K), .int (jI g), .int (jI ga), .int (jI lo), .int (jI gp), .int (jI li), .ref mf, .ref mt, .ref mw, .int (jI fo), .ref mk, .int (jI ln), .int (jI bs), .int (jI kn), .ref mz, .int (jI rd), .int (jI ep), .int (jI eq), .int (jI al), .int (jI fa)])), (ml, .inl (cA, 96, .inl (jA M))), (mn, .inl (cA, 2, .inl (jA N)))] (fun v => v = .int (jI (jB (anc L0 L1 n0 n1 K i j)))) := by
  refine jR.intro (by decide +kernel) (Nat.le_of_ble_eq_true rfl) ?_
  intro p e s m args below meth c ls Q F hQ hP hl
  have hx := F.1
  have hb := F.2.1
  have hl : lv_has ls 5 [(0, .ref mo), (1, .int (jI i)), (2, .int (jI j))] := hl
  have lp39 : ∀ (fu : Nat) (b : Int) (k : Int) (ls : Array Slot), K - k < (fu : Int) → (b = 0 ∨ b = 1) → (0 ≤ k ∧ k ≤ K) → (b = 1 → i + K ≤ n0 ∧ j + K ≤ n1 ∧ ∀ t, 0 ≤ t → t < k → L0 (i + t) = L1 (j + t)) → (b = 0 → ¬ anc L0 L1 n0 n1 K i j) → lv_has ls 5 [(4, .int (jI k)), (3, .int (jI b)), (0, .ref mo), (1, .int (jI i)), (2, .int (jI j))] → W p l e (rmk 0 0 0 0) s m args below meth c s.heap [] 0 0 Q (F0 m 39 ls []) := by
    intro fu
    induction fu with
    | zero => intro b k ls hfu hb01 hk h1 h0 hl; exfalso; omega
    | succ fu ih39 =>
      intro b k ls hfu hb01 hk h1 h0 hl
      have hbk : b = 1 → i + K ≤ n0 ∧ j + K ≤ n1 := fun h5 => ⟨(h1 h5).1, (h1 h5).2.1⟩
      refine lv_iload hx hb dX5_isAnchor_39 (lv_at hl 0 rfl) ?_
      refine lv_aload_n hx hb dX5_isAnchor_41 rfl (lv_at hl 2 rfl) ?_
      refine jv_get (v := .int (jI K)) F hP 0 rfl flX5_16 rfl dX5_isAnchor_42 ?_
      refine jv_icmp_ge (tgt := 88) hx hb dX5_isAnchor_45 rfl (by omega) (by omega) (fun c45 => ?_) (fun c45 => ?_)
      · refine lv_iload_n hx hb dX5_isAnchor_88 rfl (lv_at hl 1 rfl) ?_
        exact jR.rz F hQ rfl (by omega) dX5_isAnchor_89 (by rcases hb01 with h5 | h5; (rw [h5, jB_f (h0 h5)]); (obtain ⟨g1, g2, g3⟩ := h1 h5; rw [h5, jB_t ⟨hi.1, hj.1, g1, g2, fun t t0 t1 => g3 t t0 (by omega)⟩]))
      · refine lv_iload_n hx hb dX5_isAnchor_48 rfl (lv_at hl 1 rfl) ?_
        refine jv_if_eq (tgt := 88) hx hb dX5_isAnchor_49 rfl (by omega) (fun c49 => ?_) (fun c49 => ?_)
        · refine lv_iload_n hx hb dX5_isAnchor_88 rfl (lv_at hl 1 rfl) ?_
          exact jR.rz F hQ rfl (by omega) dX5_isAnchor_89 (by rcases hb01 with h5 | h5; (rw [h5, jB_f (h0 h5)]); (obtain ⟨g1, g2, g3⟩ := h1 h5; rw [h5, jB_t ⟨hi.1, hj.1, g1, g2, fun t t0 t1 => g3 t t0 (by omega)⟩]))
        · have hbk2 := hbk (by omega)
          refine lv_aload_n hx hb dX5_isAnchor_52 rfl (lv_at hl 2 rfl) ?_
          refine jv_get (v := .ref ml) F hP 0 rfl flX5_7 rfl dX5_isAnchor_53 ?_
          refine lv_iload_n hx hb dX5_isAnchor_56 rfl (lv_at hl 3 rfl) ?_
          refine lv_iload hx hb dX5_isAnchor_57 (lv_at hl 0 rfl) ?_
          refine jv_iadd hx hb dX5_isAnchor_59 ?_
          refine jv_iald (fa := M) F hP 1 rfl (by omega) (by decide) dX5_isAnchor_60 ?_
          refine lv_aload_n hx hb dX5_isAnchor_61 rfl (lv_at hl 2 rfl) ?_
          refine jv_get (v := .ref ml) F hP 0 rfl flX5_7 rfl dX5_isAnchor_62 ?_
          refine lv_bipush (v := jI 48) hx hb dX5_isAnchor_65 (by decide +kernel) ?_
          refine lv_iload_n hx hb dX5_isAnchor_67 rfl (lv_at hl 4 rfl) ?_
          refine jv_iadd hx hb dX5_isAnchor_68 ?_
          refine lv_iload hx hb dX5_isAnchor_69 (lv_at hl 0 rfl) ?_
          refine jv_iadd hx hb dX5_isAnchor_71 ?_
          refine jv_iald (fa := M) F hP 1 rfl (by omega) (by decide) dX5_isAnchor_72 ?_
          have m0 := hM0 (i + k) (by omega) (by omega)
          have m1 := hM1 (j + k) (by omega) (by omega)
          have l0 := hL0 (i + k)
          have l1 := hL1 (j + k)
          rw [show 48 + j + k = 48 + (j + k) by omega, m0, m1]
          refine jv_icmp_ne (tgt := 80) hx hb dX5_isAnchor_73 rfl (by omega) (by omega) (fun c73 => ?_) (fun c73 => ?_)
          · refine lv_iconst (v := jI 0) hx hb dX5_isAnchor_80 rfl ?_
            refine lv_istore_n (lv' := [(3, .int (jI 0)), (4, .int (jI k)), (0, .ref mo), (1, .int (jI i)), (2, .int (jI j))]) hx hb dX5_isAnchor_81 rfl hl (by decide) rfl (fun ls hl => ?_)
            refine lv_iinc (k := 1) (v := jI (k + 1)) (lv' := [(4, .int (jI (k + 1))), (3, .int (jI 0)), (0, .ref mo), (1, .int (jI i)), (2, .int (jI j))]) hx hb dX5_isAnchor_82 hl rfl (jI_add _ _) (by decide) rfl (fun ls hl => ?_)
            refine lv_goto (tgt := 39) hx hb dX5_isAnchor_85 rfl ?_
            refine ih39 0 (k + 1) ls  (by omega) ?_ ?_ ?_ ?_ (lv_sub hl [0, 1, 2, 3, 4] rfl)
            · omega
            · omega
            · intro h5
              first
                | (exfalso; omega)
                | (obtain ⟨g1, g2, g3⟩ := h1 (by omega)
                   refine ⟨g1, g2, fun t t0 t1 => ?_⟩
                   by_cases e : t = k
                   · rw [e]; exact c73
                   · exact g3 t t0 (by omega))
            · intro h5
              first
                | (exfalso; omega)
                | exact fun h6 => c73 (h6.2.2.2.2 k (by omega) (by omega))
          · refine lv_iconst (v := jI 1) hx hb dX5_isAnchor_76 rfl ?_
            refine lv_goto (tgt := 81) hx hb dX5_isAnchor_77 rfl ?_
            refine lv_istore_n (lv' := [(3, .int (jI 1)), (4, .int (jI k)), (0, .ref mo), (1, .int (jI i)), (2, .int (jI j))]) hx hb dX5_isAnchor_81 rfl hl (by decide) rfl (fun ls hl => ?_)
            refine lv_iinc (k := 1) (v := jI (k + 1)) (lv' := [(4, .int (jI (k + 1))), (3, .int (jI 1)), (0, .ref mo), (1, .int (jI i)), (2, .int (jI j))]) hx hb dX5_isAnchor_82 hl rfl (jI_add _ _) (by decide) rfl (fun ls hl => ?_)
            refine lv_goto (tgt := 39) hx hb dX5_isAnchor_85 rfl ?_
            refine ih39 1 (k + 1) ls  (by omega) ?_ ?_ ?_ ?_ (lv_sub hl [0, 1, 2, 3, 4] rfl)
            · omega
            · omega
            · intro h5
              first
                | (exfalso; omega)
                | (obtain ⟨g1, g2, g3⟩ := h1 (by omega)
                   refine ⟨g1, g2, fun t t0 t1 => ?_⟩
                   by_cases e : t = k
                   · rw [e]; exact c73
                   · exact g3 t t0 (by omega))
            · intro h5
              first
                | (exfalso; omega)
                | exact fun h6 => c73 (h6.2.2.2.2 k (by omega) (by omega))
  refine lv_iload_n hx hb dX5_isAnchor_0 rfl (lv_at hl 1 rfl) ?_
  refine lv_aload_n hx hb dX5_isAnchor_1 rfl (lv_at hl 0 rfl) ?_
  refine jv_get (v := .int (jI K)) F hP 0 rfl flX5_16 rfl dX5_isAnchor_2 ?_
  refine jv_iadd hx hb dX5_isAnchor_5 ?_
  refine lv_aload_n hx hb dX5_isAnchor_6 rfl (lv_at hl 0 rfl) ?_
  refine jv_get (v := .ref mn) F hP 0 rfl flX5_13 rfl dX5_isAnchor_7 ?_
  refine lv_iconst (v := jI 0) hx hb dX5_isAnchor_10 rfl ?_
  refine jv_iald (fa := N) F hP 2 rfl (by omega) (by decide) dX5_isAnchor_11 ?_
  refine jv_icmp_gt (tgt := 34) hx hb dX5_isAnchor_12 rfl (by omega) (by omega) (fun c12 => ?_) (fun c12 => ?_)
  · refine lv_iconst (v := jI 0) hx hb dX5_isAnchor_34 rfl ?_
    refine lv_istore_n (lv' := [(3, .int (jI 0)), (0, .ref mo), (1, .int (jI i)), (2, .int (jI j))]) hx hb dX5_isAnchor_35 rfl hl (by decide) rfl (fun ls hl => ?_)
    refine lv_iconst (v := jI 0) hx hb dX5_isAnchor_36 rfl ?_
    refine lv_istore (lv' := [(4, .int (jI 0)), (3, .int (jI 0)), (0, .ref mo), (1, .int (jI i)), (2, .int (jI j))]) hx hb dX5_isAnchor_37 hl (by decide) rfl (fun ls hl => ?_)
    refine lp39 (Int.toNat (K - 0) + 1) 0 0 ls  (by omega) ?_ ?_ ?_ ?_ (lv_sub hl [0, 1, 2, 3, 4] rfl)
    · omega
    · omega
    · intro h5; first | omega | exact ⟨by omega, by omega, fun t t0 t1 => by omega⟩
    · intro h5 h6; have := h6.2.2.1; have := h6.2.2.2.1; omega
  · refine lv_iload_n hx hb dX5_isAnchor_15 rfl (lv_at hl 2 rfl) ?_
    refine lv_aload_n hx hb dX5_isAnchor_16 rfl (lv_at hl 0 rfl) ?_
    refine jv_get (v := .int (jI K)) F hP 0 rfl flX5_16 rfl dX5_isAnchor_17 ?_
    refine jv_iadd hx hb dX5_isAnchor_20 ?_
    refine lv_aload_n hx hb dX5_isAnchor_21 rfl (lv_at hl 0 rfl) ?_
    refine jv_get (v := .ref mn) F hP 0 rfl flX5_13 rfl dX5_isAnchor_22 ?_
    refine lv_iconst (v := jI 1) hx hb dX5_isAnchor_25 rfl ?_
    refine jv_iald (fa := N) F hP 2 rfl (by omega) (by decide) dX5_isAnchor_26 ?_
    refine jv_icmp_gt (tgt := 34) hx hb dX5_isAnchor_27 rfl (by omega) (by omega) (fun c27 => ?_) (fun c27 => ?_)
    · refine lv_iconst (v := jI 0) hx hb dX5_isAnchor_34 rfl ?_
      refine lv_istore_n (lv' := [(3, .int (jI 0)), (0, .ref mo), (1, .int (jI i)), (2, .int (jI j))]) hx hb dX5_isAnchor_35 rfl hl (by decide) rfl (fun ls hl => ?_)
      refine lv_iconst (v := jI 0) hx hb dX5_isAnchor_36 rfl ?_
      refine lv_istore (lv' := [(4, .int (jI 0)), (3, .int (jI 0)), (0, .ref mo), (1, .int (jI i)), (2, .int (jI j))]) hx hb dX5_isAnchor_37 hl (by decide) rfl (fun ls hl => ?_)
      refine lp39 (Int.toNat (K - 0) + 1) 0 0 ls  (by omega) ?_ ?_ ?_ ?_ (lv_sub hl [0, 1, 2, 3, 4] rfl)
      · omega
      · omega
      · intro h5; first | omega | exact ⟨by omega, by omega, fun t t0 t1 => by omega⟩
      · intro h5 h6; have := h6.2.2.1; have := h6.2.2.2.1; omega
    · refine lv_iconst (v := jI 1) hx hb dX5_isAnchor_30 rfl ?_
      refine lv_goto (tgt := 35) hx hb dX5_isAnchor_31 rfl ?_
      refine lv_istore_n (lv' := [(3, .int (jI 1)), (0, .ref mo), (1, .int (jI i)), (2, .int (jI j))]) hx hb dX5_isAnchor_35 rfl hl (by decide) rfl (fun ls hl => ?_)
      refine lv_iconst (v := jI 0) hx hb dX5_isAnchor_36 rfl ?_
      refine lv_istore (lv' := [(4, .int (jI 0)), (3, .int (jI 1)), (0, .ref mo), (1, .int (jI i)), (2, .int (jI j))]) hx hb dX5_isAnchor_37 hl (by decide) rfl (fun ls hl => ?_)
      refine lp39 (Int.toNat (K - 0) + 1) 1 0 ls  (by omega) ?_ ?_ ?_ ?_ (lv_sub hl [0, 1, 2, 3, 4] rfl)
      · omega
      · omega
      · intro h5; first | omega | exact ⟨by omega, by omega, fun t t0 t1 => by omega⟩
      · intro h5 h6; have := h6.2.2.1; have := h6.2.2.2.1; omega
set_option maxHeartbeats 4000000 in
set_option maxRecDepth 100000 in
theorem kX5_between (l : Launch) (D : va_G) (cA : ClassId) (mo ml mn mf mt mw mk mz : Nat) (K g ga lo gp li fo ln bs kn rd ep eq al fa : Int) (f sf : Int → Int) (x y : Int) (hK : 1 ≤ K ∧ K ≤ 6) (hx0 : 0 ≤ x ∧ x < 2304) (hy : 0 ≤ y ∧ y < 2304) (hv : (0 ≤ f x ∧ f x ≤ 48) ∧ (0 ≤ f y ∧ f y ≤ 48) ∧ (0 ≤ sf x ∧ sf x ≤ 48) ∧ (0 ≤ sf y ∧ sf y ≤ 48)) : jR l YX5_between (rmk 0 0 0 0) D cA [.ref mo, .int (jI x), .int (jI y)] [(mo, .inr (5, [.ref ml, .ref mn, .int (jI K), .int (jI g), .int (jI ga), .int (jI lo), .int (jI gp), .int (jI li), .ref mf, .ref mt, .ref mw, .int (jI fo), .ref mk, .int (jI ln), .int (jI bs), .int (jI kn), .ref mz, .int (jI rd), .int (jI ep), .int (jI eq), .int (jI al), .int (jI fa)])), (mf, .inl (cA, 2304, .inl (jA f))), (mt, .inl (cA, 2304, .inl (jA sf)))] (fun v => v = .int (jI (btw f sf K x y))) := by
  refine jR.intro (by decide +kernel) (Nat.le_of_ble_eq_true rfl) ?_
  intro p e s m args below meth c ls Q F hQ hP hl
  have hx := F.1
  have hb := F.2.1
  have hl : lv_has ls 5 [(0, .ref mo), (1, .int (jI x)), (2, .int (jI y))] := hl
  refine lv_aload_n hx hb dX5_between_0 rfl (lv_at hl 0 rfl) ?_
  refine jv_get (v := .ref mf) F hP 0 rfl flX5_35 rfl dX5_between_1 ?_
  refine lv_iload_n hx hb dX5_between_4 rfl (lv_at hl 2 rfl) ?_
  refine jv_iald (fa := f) F hP 1 rfl (by omega) (by decide) dX5_between_5 ?_
  refine lv_aload_n hx hb dX5_between_6 rfl (lv_at hl 0 rfl) ?_
  refine jv_get (v := .ref mf) F hP 0 rfl flX5_35 rfl dX5_between_7 ?_
  refine lv_iload_n hx hb dX5_between_10 rfl (lv_at hl 1 rfl) ?_
  refine jv_iald (fa := f) F hP 1 rfl (by omega) (by decide) dX5_between_11 ?_
  refine jv_isub hx hb dX5_between_12 ?_
  refine lv_aload_n hx hb dX5_between_13 rfl (lv_at hl 0 rfl) ?_
  refine jv_get (v := .int (jI K)) F hP 0 rfl flX5_16 rfl dX5_between_14 ?_
  refine jv_isub hx hb dX5_between_17 ?_
  refine lv_istore_n (lv' := [(3, .int (jI (((f y) - (f x)) - K))), (0, .ref mo), (1, .int (jI x)), (2, .int (jI y))]) hx hb dX5_between_18 rfl hl (by decide) rfl (fun ls hl => ?_)
  refine lv_aload_n hx hb dX5_between_19 rfl (lv_at hl 1 rfl) ?_
  refine jv_get (v := .ref mt) F hP 0 rfl flX5_38 rfl dX5_between_20 ?_
  refine lv_iload_n hx hb dX5_between_23 rfl (lv_at hl 3 rfl) ?_
  refine jv_iald (fa := sf) F hP 2 rfl (by omega) (by decide) dX5_between_24 ?_
  refine lv_aload_n hx hb dX5_between_25 rfl (lv_at hl 1 rfl) ?_
  refine jv_get (v := .ref mt) F hP 0 rfl flX5_38 rfl dX5_between_26 ?_
  refine lv_iload_n hx hb dX5_between_29 rfl (lv_at hl 2 rfl) ?_
  refine jv_iald (fa := sf) F hP 2 rfl (by omega) (by decide) dX5_between_30 ?_
  refine jv_isub hx hb dX5_between_31 ?_
  refine lv_aload_n hx hb dX5_between_32 rfl (lv_at hl 1 rfl) ?_
  refine jv_get (v := .int (jI K)) F hP 0 rfl flX5_16 rfl dX5_between_33 ?_
  refine jv_isub hx hb dX5_between_36 ?_
  refine lv_istore (lv' := [(4, .int (jI (((sf y) - (sf x)) - K))), (3, .int (jI (((f y) - (f x)) - K))), (0, .ref mo), (1, .int (jI x)), (2, .int (jI y))]) hx hb dX5_between_37 hl (by decide) rfl (fun ls hl => ?_)
  refine lv_iload_n hx hb dX5_between_39 rfl (lv_at hl 1 rfl) ?_
  refine jv_if_lt (tgt := 48) hx hb dX5_between_40 rfl (by omega) (fun c40 => ?_) (fun c40 => ?_)
  · refine lv_iconst (v := jI (-1)) hx hb dX5_between_48 rfl ?_
    refine lv_goto (tgt := 56) hx hb dX5_between_49 rfl ?_
    exact jR.ri F hQ rfl dX5_between_56 (by rw [btw_out (by omega)])
  · refine lv_iload hx hb dX5_between_43 (lv_at hl 0 rfl) ?_
    refine jv_if_ge (tgt := 52) hx hb dX5_between_45 rfl (by omega) (fun c45 => ?_) (fun c45 => ?_)
    · refine lv_iload_n hx hb dX5_between_52 rfl (lv_at hl 1 rfl) ?_
      refine lv_iload hx hb dX5_between_53 (lv_at hl 0 rfl) ?_
      refine jv_iadd hx hb dX5_between_55 ?_
      exact jR.ri F hQ rfl dX5_between_56 (by rw [btw_in (by omega)])
    · refine lv_iconst (v := jI (-1)) hx hb dX5_between_48 rfl ?_
      refine lv_goto (tgt := 56) hx hb dX5_between_49 rfl ?_
      exact jR.ri F hQ rfl dX5_between_56 (by rw [btw_out (by omega)])
end
section
set_option maxHeartbeats 4000000 in
set_option maxRecDepth 100000 in
theorem kX5_learn_0 (l : Launch) (D : va_G) (cA : ClassId) (mo ml mn mf mt mw mk mz : Nat) (K g ga lo gp li fo ln bs rd ep eq al fa : Int) (M N L0 L1 : Int → Int) (n0 n1 : Int) (f sf wf lk : Int → Int) (hn0 : 0 ≤ n0 ∧ n0 ≤ 48) (hn1 : 0 ≤ n1 ∧ n1 ≤ 48) (hL0 : ∀ x, 0 ≤ L0 x ∧ L0 x ≤ 3) (hL1 : ∀ x, 0 ≤ L1 x ∧ L1 x ≤ 3) (hN0 : N 0 = n0) (hN1 : N 1 = n1) (hM0 : ∀ x, 0 ≤ x → x < 48 → M x = L0 x) (hM1 : ∀ x, 0 ≤ x → x < 48 → M (48 + x) = L1 x) (hK : 1 ≤ K ∧ K ≤ 6) (hg : 0 ≤ g ∧ g ≤ 9) : jM l YX5_learn (rmk 1 0 0 24) D cA [.ref mo] [(mo, .inr (5, [.ref ml, .ref mn, .int (jI K), .int (jI g), .int (jI ga), .int (jI lo), .int (jI gp), .int (jI li), .ref mf, .ref mt, .ref mw, .int (jI fo), .ref mk, .int (jI ln), .int (jI bs), .int (jI 0), .ref mz, .int (jI rd), .int (jI ep), .int (jI eq), .int (jI al), .int (jI fa)])), (ml, .inl (cA, 96, .inl (jA M))), (mn, .inl (cA, 2, .inl (jA N))), (mf, .inl (cA, 2304, .inl (jA f))), (mt, .inl (cA, 2304, .inl (jA sf))), (mw, .inl (cA, 2304, .inl (jA wf))), (mk, .inl (cA, 48, .inl (jA lk)))] (fun v w => v = none ∧ ∃ (f2 s2 w2 k2 : Int → Int) (fo2 ln2 bs2 : Int), knw (anc L0 L1 n0 n1 K) n0 n1 K g f2 s2 fo2 k2 ln2 bs2 ∧ w = [(mo, .inr (5, [.ref ml, .ref mn, .int (jI K), .int (jI g), .int (jI ga), .int (jI lo), .int (jI gp), .int (jI li), .ref mf, .ref mt, .ref mw, .int (jI fo2), .ref mk, .int (jI ln2), .int (jI bs2), .int (jI 1), .ref mz, .int (jI rd), .int (jI ep), .int (jI eq), .int (jI al), .int (jI fa)])), (ml, .inl (cA, 96, .inl (jA M))), (mn, .inl (cA, 2, .inl (jA N))), (mf, .inl (cA, 2304, .inl (jA f2))), (mt, .inl (cA, 2304, .inl (jA s2))), (mw, .inl (cA, 2304, .inl (jA w2))), (mk, .inl (cA, 48, .inl (jA k2)))]) 0 0 := by
  refine jM.intro (by decide +kernel) (Nat.le_of_ble_eq_true rfl) ?_
  intro p e s m args below meth c ls Q A F hQ hA hP hD hS hl
  have hx := F.1
  have hb := F.2.1
  have hl : lv_has ls 6 [(0, .ref mo)] := hl
  refine lv_aload_n hx hb dX5_learn_0 rfl (lv_at hl 0 rfl) ?_
  refine jv_get (v := .int (jI 0)) F hP 0 rfl flX5_54 rfl dX5_learn_1 ?_
  refine jv_if_eq (tgt := 8) hx hb dX5_learn_4 rfl (by omega) (fun c4 => ?_) (fun c4 => ?_)
  · refine lv_aload_n hx hb dX5_learn_8 rfl (lv_at hl 0 rfl) ?_
    refine lv_iconst (v := jI 1) hx hb dX5_learn_9 rfl ?_
    refine jv_put (v := .int (jI 1)) F hP hD hS 0 rfl flX5_54 pfX5 (by decide +kernel) (by decide +kernel) (by decide +kernel) (Nat.le_of_ble_eq_true rfl) dX5_learn_10 (fun H locs hP hD hS => ?_)
    have hP : va_P D cls [(mo, .inr (5, [.ref ml, .ref mn, .int (jI K), .int (jI g), .int (jI ga), .int (jI lo), .int (jI gp), .int (jI li), .ref mf, .ref mt, .ref mw, .int (jI fo), .ref mk, .int (jI ln), .int (jI bs), .int (jI 1), .ref mz, .int (jI rd), .int (jI ep), .int (jI eq), .int (jI al), .int (jI fa)])), (ml, .inl (cA, 96, .inl (jA M))), (mn, .inl (cA, 2, .inl (jA N))), (mf, .inl (cA, 2304, .inl (jA f))), (mt, .inl (cA, 2304, .inl (jA sf))), (mw, .inl (cA, 2304, .inl (jA wf))), (mk, .inl (cA, 48, .inl (jA lk)))] H := hP
    have hD : va_D A [(mo, .inr (5, [.ref ml, .ref mn, .int (jI K), .int (jI g), .int (jI ga), .int (jI lo), .int (jI gp), .int (jI li), .ref mf, .ref mt, .ref mw, .int (jI fo), .ref mk, .int (jI ln), .int (jI bs), .int (jI 1), .ref mz, .int (jI rd), .int (jI ep), .int (jI eq), .int (jI al), .int (jI fa)])), (ml, .inl (cA, 96, .inl (jA M))), (mn, .inl (cA, 2, .inl (jA N))), (mf, .inl (cA, 2304, .inl (jA f))), (mt, .inl (cA, 2304, .inl (jA sf))), (mw, .inl (cA, 2304, .inl (jA wf))), (mk, .inl (cA, 48, .inl (jA lk)))] := hD
    refine lv_aload_n hx hb dX5_learn_13 rfl (lv_at hl 0 rfl) ?_
    refine lv_iconst (v := jI 0) hx hb dX5_learn_14 rfl ?_
    refine jv_put (v := .int (jI 0)) F hP hD hS 0 rfl flX5_58 pfX5 (by decide +kernel) rfl rfl (Nat.le_of_ble_eq_true rfl) dX5_learn_15 (fun H locs hP hD hS => ?_)
    have hP : va_P D cls [(mo, .inr (5, [.ref ml, .ref mn, .int (jI K), .int (jI g), .int (jI ga), .int (jI lo), .int (jI gp), .int (jI li), .ref mf, .ref mt, .ref mw, .int (jI 0), .ref mk, .int (jI ln), .int (jI bs), .int (jI 1), .ref mz, .int (jI rd), .int (jI ep), .int (jI eq), .int (jI al), .int (jI fa)])), (ml, .inl (cA, 96, .inl (jA M))), (mn, .inl (cA, 2, .inl (jA N))), (mf, .inl (cA, 2304, .inl (jA f))), (mt, .inl (cA, 2304, .inl (jA sf))), (mw, .inl (cA, 2304, .inl (jA wf))), (mk, .inl (cA, 48, .inl (jA lk)))] H := hP
    have hD : va_D A [(mo, .inr (5, [.ref ml, .ref mn, .int (jI K), .int (jI g), .int (jI ga), .int (jI lo), .int (jI gp), .int (jI li), .ref mf, .ref mt, .ref mw, .int (jI 0), .ref mk, .int (jI ln), .int (jI bs), .int (jI 1), .ref mz, .int (jI rd), .int (jI ep), .int (jI eq), .int (jI al), .int (jI fa)])), (ml, .inl (cA, 96, .inl (jA M))), (mn, .inl (cA, 2, .inl (jA N))), (mf, .inl (cA, 2304, .inl (jA f))), (mt, .inl (cA, 2304, .inl (jA sf))), (mw, .inl (cA, 2304, .inl (jA wf))), (mk, .inl (cA, 48, .inl (jA lk)))] := hD
    refine lv_iconst (v := jI 0) hx hb dX5_learn_18 rfl ?_
    refine lv_istore_n (lv' := [(1, .int (jI 0)), (0, .ref mo)]) hx hb dX5_learn_19 rfl hl (by decide) rfl (fun ls hl => ?_)
    have lp20 : ∀ (fu : Nat) (i : Int) (fo1 : Int) (f1 : Int → Int) (s1 : Int → Int) (ls : Array Slot) (H : Heap) (locs : List Loc), n0 - i < (fu : Int) → (0 ≤ i ∧ i ≤ n0) → (0 ≤ fo1 ∧ fo1 ≤ 48 * i) → (tabP (anc L0 L1 n0 n1 K) n1 i 0 f1 s1 fo1) → lv_has ls 6 [(1, .int (jI i)), (0, .ref mo)] → va_P D cls [(mo, .inr (5, [.ref ml, .ref mn, .int (jI K), .int (jI g), .int (jI ga), .int (jI lo), .int (jI gp), .int (jI li), .ref mf, .ref mt, .ref mw, .int (jI fo1), .ref mk, .int (jI ln), .int (jI bs), .int (jI 1), .ref mz, .int (jI rd), .int (jI ep), .int (jI eq), .int (jI al), .int (jI fa)])), (ml, .inl (cA, 96, .inl (jA M))), (mn, .inl (cA, 2, .inl (jA N))), (mf, .inl (cA, 2304, .inl (jA f1))), (mt, .inl (cA, 2304, .inl (jA s1))), (mw, .inl (cA, 2304, .inl (jA wf))), (mk, .inl (cA, 48, .inl (jA lk)))] H → va_D A [(mo, .inr (5, [.ref ml, .ref mn, .int (jI K), .int (jI g), .int (jI ga), .int (jI lo), .int (jI gp), .int (jI li), .ref mf, .ref mt, .ref mw, .int (jI fo1), .ref mk, .int (jI ln), .int (jI bs), .int (jI 1), .ref mz, .int (jI rd), .int (jI ep), .int (jI eq), .int (jI al), .int (jI fa)])), (ml, .inl (cA, 96, .inl (jA M))), (mn, .inl (cA, 2, .inl (jA N))), (mf, .inl (cA, 2304, .inl (jA f1))), (mt, .inl (cA, 2304, .inl (jA s1))), (mw, .inl (cA, 2304, .inl (jA wf))), (mk, .inl (cA, 48, .inl (jA lk)))] → va_S A s.heap H locs → W p l e (rmk 1 0 0 24) s m args below meth c H locs 0 0 Q (F0 m 20 ls []) := by
      intro fu
      induction fu with
      | zero => intro i fo1 f1 s1 ls H locs hfu hi hfo ht hl hP hD hS; exfalso; omega
      | succ fu ih20 =>
        intro i fo1 f1 s1 ls H locs hfu hi hfo ht hl hP hD hS
        refine lv_iload_n hx hb dX5_learn_20 rfl (lv_at hl 0 rfl) ?_
        refine lv_aload_n hx hb dX5_learn_21 rfl (lv_at hl 1 rfl) ?_
        refine jv_get (v := .ref mn) F hP 0 rfl flX5_13 rfl dX5_learn_22 ?_
        refine lv_iconst (v := jI 0) hx hb dX5_learn_25 rfl ?_
        refine jv_iald (fa := N) F hP 2 rfl (by omega) (by decide) dX5_learn_26 ?_
        refine jv_icmp_ge (tgt := 93) hx hb dX5_learn_27 rfl (by omega) (by omega) (fun c27 => ?_) (fun c27 => ?_)
        · have hT : tabOK (anc L0 L1 n0 n1 K) n0 n1 f1 s1 fo1 := tabP_all anc_in hK.1 (by omega) ht
          have tbb := tabOK_b anc_in hK.1 hn0 hn1.2 hT
          refine lv_aload_n hx hb dX5_learn_93 rfl (lv_at hl 1 rfl) ?_
          refine lv_iconst (v := jI 0) hx hb dX5_learn_94 rfl ?_
          refine jv_put (v := .int (jI 0)) F hP hD hS 0 rfl flX5_65 pfX5 (by decide +kernel) rfl rfl (Nat.le_of_ble_eq_true rfl) dX5_learn_95 (fun H locs hP hD hS => ?_)
          have hP : va_P D cls [(mo, .inr (5, [.ref ml, .ref mn, .int (jI K), .int (jI g), .int (jI ga), .int (jI lo), .int (jI gp), .int (jI li), .ref mf, .ref mt, .ref mw, .int (jI fo1), .ref mk, .int (jI ln), .int (jI 0), .int (jI 1), .ref mz, .int (jI rd), .int (jI ep), .int (jI eq), .int (jI al), .int (jI fa)])), (ml, .inl (cA, 96, .inl (jA M))), (mn, .inl (cA, 2, .inl (jA N))), (mf, .inl (cA, 2304, .inl (jA f1))), (mt, .inl (cA, 2304, .inl (jA s1))), (mw, .inl (cA, 2304, .inl (jA wf))), (mk, .inl (cA, 48, .inl (jA lk)))] H := hP
          have hD : va_D A [(mo, .inr (5, [.ref ml, .ref mn, .int (jI K), .int (jI g), .int (jI ga), .int (jI lo), .int (jI gp), .int (jI li), .ref mf, .ref mt, .ref mw, .int (jI fo1), .ref mk, .int (jI ln), .int (jI 0), .int (jI 1), .ref mz, .int (jI rd), .int (jI ep), .int (jI eq), .int (jI al), .int (jI fa)])), (ml, .inl (cA, 96, .inl (jA M))), (mn, .inl (cA, 2, .inl (jA N))), (mf, .inl (cA, 2304, .inl (jA f1))), (mt, .inl (cA, 2304, .inl (jA s1))), (mw, .inl (cA, 2304, .inl (jA wf))), (mk, .inl (cA, 48, .inl (jA lk)))] := hD
          refine lv_aload_n hx hb dX5_learn_98 rfl (lv_at hl 1 rfl) ?_
          refine jv_get (v := .int (jI fo1)) F hP 0 rfl flX5_58 rfl dX5_learn_99 ?_
          refine lv_iconst (v := jI 1) hx hb dX5_learn_102 rfl ?_
          refine jv_isub hx hb dX5_learn_103 ?_
          refine lv_istore_n (lv' := [(1, .int (jI (fo1 - 1))), (0, .ref mo)]) hx hb dX5_learn_104 rfl hl (by decide) rfl (fun ls hl => ?_)
          have lp105 : ∀ (fu : Nat) (a : Int) (b3 : Int) (w3 : Int → Int) (ls : Array Slot) (H : Heap) (locs : List Loc), a + 1 < (fu : Int) → (-1 ≤ a ∧ a < fo1) → (0 ≤ b3 ∧ b3 ≤ 480) → (∀ q, a < q → q < fo1 → moreIx f1 s1 w3 K g q fo1 (w3 q - 10 * K) ∧ 10 * K ≤ w3 q ∧ w3 q ≤ 10 * (n0 - f1 q)) → (topIx w3 (a + 1) fo1 b3) → lv_has ls 6 [(1, .int (jI a)), (0, .ref mo)] → va_P D cls [(mo, .inr (5, [.ref ml, .ref mn, .int (jI K), .int (jI g), .int (jI ga), .int (jI lo), .int (jI gp), .int (jI li), .ref mf, .ref mt, .ref mw, .int (jI fo1), .ref mk, .int (jI ln), .int (jI b3), .int (jI 1), .ref mz, .int (jI rd), .int (jI ep), .int (jI eq), .int (jI al), .int (jI fa)])), (ml, .inl (cA, 96, .inl (jA M))), (mn, .inl (cA, 2, .inl (jA N))), (mf, .inl (cA, 2304, .inl (jA f1))), (mt, .inl (cA, 2304, .inl (jA s1))), (mw, .inl (cA, 2304, .inl (jA w3))), (mk, .inl (cA, 48, .inl (jA lk)))] H → va_D A [(mo, .inr (5, [.ref ml, .ref mn, .int (jI K), .int (jI g), .int (jI ga), .int (jI lo), .int (jI gp), .int (jI li), .ref mf, .ref mt, .ref mw, .int (jI fo1), .ref mk, .int (jI ln), .int (jI b3), .int (jI 1), .ref mz, .int (jI rd), .int (jI ep), .int (jI eq), .int (jI al), .int (jI fa)])), (ml, .inl (cA, 96, .inl (jA M))), (mn, .inl (cA, 2, .inl (jA N))), (mf, .inl (cA, 2304, .inl (jA f1))), (mt, .inl (cA, 2304, .inl (jA s1))), (mw, .inl (cA, 2304, .inl (jA w3))), (mk, .inl (cA, 48, .inl (jA lk)))] → va_S A s.heap H locs → W p l e (rmk 1 0 0 24) s m args below meth c H locs 0 0 Q (F0 m 105 ls []) := by
            intro fu
            induction fu with
            | zero => intro a b3 w3 ls H locs hfu ha hb3 hw3 htop hl hP hD hS; exfalso; omega
            | succ fu ih105 =>
              intro a b3 w3 ls H locs hfu ha hb3 hw3 htop hl hP hD hS
              refine lv_iload_n hx hb dX5_learn_105 rfl (lv_at hl 0 rfl) ?_
              refine jv_if_lt (tgt := 226) hx hb dX5_learn_106 rfl (by omega) (fun c106 => ?_) (fun c106 => ?_)
              · have hwm : ∀ q, 0 ≤ q → q < fo1 → moreIx f1 s1 w3 K g q fo1 (w3 q - 10 * K) := fun q h5 h6 => (hw3 q (by omega) h6).1
                have htp : topIx w3 0 fo1 b3 := by
                  have h5 := htop
                  rw [show a + 1 = 0 by omega] at h5
                  exact h5
                have hwb0 : ∀ q, 0 ≤ q → q < fo1 → 10 * K ≤ w3 q ∧ w3 q ≤ 480 := fun q h5 h6 => by
                  have h7 := (hw3 q (by omega) h6).2
                  have h8 := anc_in _ _ (tbb.2.2 q h5 h6).1
                  omega
                refine lv_aload_n hx hb dX5_learn_226 rfl (lv_at hl 1 rfl) ?_
                refine lv_iconst (v := jI 0) hx hb dX5_learn_227 rfl ?_
                refine jv_put (v := .int (jI 0)) F hP hD hS 0 rfl flX5_72 pfX5 (by decide +kernel) rfl rfl (Nat.le_of_ble_eq_true rfl) dX5_learn_228 (fun H locs hP hD hS => ?_)
                have hP : va_P D cls [(mo, .inr (5, [.ref ml, .ref mn, .int (jI K), .int (jI g), .int (jI ga), .int (jI lo), .int (jI gp), .int (jI li), .ref mf, .ref mt, .ref mw, .int (jI fo1), .ref mk, .int (jI 0), .int (jI b3), .int (jI 1), .ref mz, .int (jI rd), .int (jI ep), .int (jI eq), .int (jI al), .int (jI fa)])), (ml, .inl (cA, 96, .inl (jA M))), (mn, .inl (cA, 2, .inl (jA N))), (mf, .inl (cA, 2304, .inl (jA f1))), (mt, .inl (cA, 2304, .inl (jA s1))), (mw, .inl (cA, 2304, .inl (jA w3))), (mk, .inl (cA, 48, .inl (jA lk)))] H := hP
                have hD : va_D A [(mo, .inr (5, [.ref ml, .ref mn, .int (jI K), .int (jI g), .int (jI ga), .int (jI lo), .int (jI gp), .int (jI li), .ref mf, .ref mt, .ref mw, .int (jI fo1), .ref mk, .int (jI 0), .int (jI b3), .int (jI 1), .ref mz, .int (jI rd), .int (jI ep), .int (jI eq), .int (jI al), .int (jI fa)])), (ml, .inl (cA, 96, .inl (jA M))), (mn, .inl (cA, 2, .inl (jA N))), (mf, .inl (cA, 2304, .inl (jA f1))), (mt, .inl (cA, 2304, .inl (jA s1))), (mw, .inl (cA, 2304, .inl (jA w3))), (mk, .inl (cA, 48, .inl (jA lk)))] := hD
                refine lv_aload_n hx hb dX5_learn_231 rfl (lv_at hl 1 rfl) ?_
                refine jv_get (v := .int (jI b3)) F hP 0 rfl flX5_65 rfl dX5_learn_232 ?_
                refine lv_istore_n (lv' := [(1, .int (jI b3)), (0, .ref mo)]) hx hb dX5_learn_235 rfl hl (by decide) rfl (fun ls hl => ?_)
                refine lv_iconst (v := jI (-1)) hx hb dX5_learn_236 rfl ?_
                refine lv_istore_n (lv' := [(2, .int (jI (-1))), (1, .int (jI b3)), (0, .ref mo)]) hx hb dX5_learn_237 rfl hl (by decide) rfl (fun ls hl => ?_)
                refine lv_iconst (v := jI 0) hx hb dX5_learn_238 rfl ?_
                refine lv_istore_n (lv' := [(3, .int (jI 0)), (2, .int (jI (-1))), (1, .int (jI b3)), (0, .ref mo)]) hx hb dX5_learn_239 rfl hl (by decide) rfl (fun ls hl => ?_)
                have lp240 : ∀ (fu : Nat) (le : Int) (la : Int) (b5 : Int) (n5 : Int) (k5 : Int → Int) (ls : Array Slot) (H : Heap) (locs : List Loc), fo1 - b5 < (fu : Int) → (0 ≤ n5 ∧ n5 ≤ 48) → (0 ≤ le ∧ le ≤ 480) → (-1 ≤ la ∧ la < fo1) → (0 ≤ b5 ∧ b5 ≤ fo1) → (chp (anc L0 L1 n0 n1 K) (wI (anc L0 L1 n0 n1 K) n1 w3) K g b3 n5 (fun q => f1 (k5 q)) (fun q => s1 (k5 q))) → (srch f1 s1 w3 K g b3 n5 la le b5) → (0 < n5 → k5 (n5 - 1) = la) → (∀ q, 0 ≤ q → q < n5 → 0 ≤ k5 q ∧ k5 q < fo1) → lv_has ls 6 [(3, .int (jI b5)), (2, .int (jI la)), (1, .int (jI le)), (0, .ref mo)] → va_P D cls [(mo, .inr (5, [.ref ml, .ref mn, .int (jI K), .int (jI g), .int (jI ga), .int (jI lo), .int (jI gp), .int (jI li), .ref mf, .ref mt, .ref mw, .int (jI fo1), .ref mk, .int (jI n5), .int (jI b3), .int (jI 1), .ref mz, .int (jI rd), .int (jI ep), .int (jI eq), .int (jI al), .int (jI fa)])), (ml, .inl (cA, 96, .inl (jA M))), (mn, .inl (cA, 2, .inl (jA N))), (mf, .inl (cA, 2304, .inl (jA f1))), (mt, .inl (cA, 2304, .inl (jA s1))), (mw, .inl (cA, 2304, .inl (jA w3))), (mk, .inl (cA, 48, .inl (jA k5)))] H → va_D A [(mo, .inr (5, [.ref ml, .ref mn, .int (jI K), .int (jI g), .int (jI ga), .int (jI lo), .int (jI gp), .int (jI li), .ref mf, .ref mt, .ref mw, .int (jI fo1), .ref mk, .int (jI n5), .int (jI b3), .int (jI 1), .ref mz, .int (jI rd), .int (jI ep), .int (jI eq), .int (jI al), .int (jI fa)])), (ml, .inl (cA, 96, .inl (jA M))), (mn, .inl (cA, 2, .inl (jA N))), (mf, .inl (cA, 2304, .inl (jA f1))), (mt, .inl (cA, 2304, .inl (jA s1))), (mw, .inl (cA, 2304, .inl (jA w3))), (mk, .inl (cA, 48, .inl (jA k5)))] → va_S A s.heap H locs → W p l e (rmk 1 0 0 24) s m args below meth c H locs 0 0 Q (F0 m 240 ls []) := by
                  intro fu
                  induction fu with
                  | zero => intro le la b5 n5 k5 ls H locs hfu hn5 hle hla hb5 hch hsr hlk hkk hl hP hD hS; exfalso; omega
                  | succ fu ih240 =>
                    intro le la b5 n5 k5 ls H locs hfu hn5 hle hla hb5 hch hsr hlk hkk hl hP hD hS
                    have hla0 : n5 = 0 → la = -1 := fun h5 => (hsr.2.1 h5).1
                    have hla1 : 0 < n5 → 0 ≤ la := fun h5 => (hsr.2.2 h5).1
                    refine lv_iload_n hx hb dX5_learn_240 rfl (lv_at hl 2 rfl) ?_
                    refine jv_if_le (tgt := 326) hx hb dX5_learn_241 rfl (by omega) (fun c241 => ?_) (fun c241 => ?_)
                    · have hnol : nol (wI (anc L0 L1 n0 n1 K) n1 w3) K b3 n5 (fun q => f1 (k5 q)) (fun q => s1 (k5 q)) := by
                        refine ⟨fun h5 => by have := (hsr.2.1 h5).2.1; omega, fun h5 => ?_⟩
                        show wI (anc L0 L1 n0 n1 K) n1 w3 (f1 (k5 (n5 - 1))) (s1 (k5 (n5 - 1))) - 10 * K ≤ 0
                        rw [hlk h5]
                        unfold wI
                        rw [(tbb.2.2 la (hla1 h5) hla.2).2]
                        have := (hsr.2.2 h5).2.2.1
                        omega
                      exact jM.rv F hQ rfl dX5_learn_326 hS hP hD (by exact ⟨rfl, f1, s1, w3, k5, fo1, n5, b3, ⟨hT, ⟨_, wI_WT anc_in hK.1 hn1.2 hT hwm, wI_top anc_in hK.1 hn1.2 hT htp, chp_end hch hnol⟩, hn5, hkk, tbb.1, tbb.2.1⟩, rfl⟩)
                    · have hlt := srch_lt anc_in hK.1 hn0 hn1.2 hT hwm htp hn5.1 hla.2 hsr (by omega)
                      refine lv_iload_n hx hb dX5_learn_244 rfl (lv_at hl 1 rfl) ?_
                      refine jv_if_ge (tgt := 252) hx hb dX5_learn_245 rfl (by omega) (fun c245 => ?_) (fun c245 => ?_)
                      · have hn5p : 0 < n5 := by
                          by_cases h5 : n5 = 0
                          · have := hla0 h5; omega
                          · omega
                        refine lv_aload_n hx hb dX5_learn_252 rfl (lv_at hl 3 rfl) ?_
                        refine lv_iload_n hx hb dX5_learn_253 rfl (lv_at hl 1 rfl) ?_
                        refine lv_iload_n hx hb dX5_learn_254 rfl (lv_at hl 0 rfl) ?_
                        have ga255 := anc_in _ _ (tbb.2.2 la (by omega) (by omega)).1
                        have gb255 := anc_in _ _ (tbb.2.2 b5 (by omega) (by omega)).1
                        refine jr_V F (kX5_between l D cA mo ml mn mf mt mw mk mz K g ga lo gp li fo1 n5 b3 1 rd ep eq al fa f1 s1 la b5 hK (by omega) (by omega) (by omega)) cvX5_68 hP [0, 3, 4] rfl 0 rfl rfl hl ⟨rfl, rfl, by decide, by decide⟩ rfl rfl (Nat.le_of_ble_eq_true rfl) dX5_learn_255 ⟨by decide, by decide⟩ (fun v hv => ?_)
                        subst hv
                        have hr255 := btw_r (f := f1) (s := s1) (K := K) (a := la) (b := b5) (by omega) (by omega) (by omega) (by omega) (by omega)
                        refine lv_istore (lv' := [(4, .int (jI (btw f1 s1 K la b5))), (3, .int (jI b5)), (2, .int (jI la)), (1, .int (jI le)), (0, .ref mo)]) hx hb dX5_learn_258 hl (by decide) rfl (fun ls hl => ?_)
                        refine lv_iload hx hb dX5_learn_260 (lv_at hl 0 rfl) ?_
                        refine jv_if_lt (tgt := 320) hx hb dX5_learn_262 rfl (by omega) (fun c262 => ?_) (fun c262 => ?_)
                        · refine lv_iinc (k := 1) (v := jI (b5 + 1)) (lv' := [(3, .int (jI (b5 + 1))), (4, .int (jI (btw f1 s1 K la b5))), (2, .int (jI la)), (1, .int (jI le)), (0, .ref mo)]) hx hb dX5_learn_320 hl rfl (jI_add _ _) (by decide) rfl (fun ls hl => ?_)
                          refine lv_goto (tgt := 240) hx hb dX5_learn_323 rfl ?_
                          refine ih240 le la (b5 + 1) n5 k5 ls H locs (by omega) ?_ ?_ ?_ ?_ ?_ ?_ ?_ ?_ (lv_sub hl [0, 2, 3, 4] rfl) hP hD hS
                          · omega
                          · omega
                          · omega
                          · omega
                          · first
                              | exact hch
                              | exact chp_push anc_in hK.1 hch hnx (fun q hq => by show f1 (jU k5 n5 b5 q) = f1 (k5 q); rw [jU_n hq]) (fun q hq => by show s1 (jU k5 n5 b5 q) = s1 (k5 q); rw [jU_n hq]) (by show f1 (jU k5 n5 b5 n5) = f1 b5; rw [jU_s]) (by show s1 (jU k5 n5 b5 n5) = s1 b5; rw [jU_s])
                          · first
                              | exact ⟨by omega, fun h5 => by omega, fun _ => ⟨by omega, by omega, rfl, fun q q0 q1 _ => by omega⟩⟩
                              | exact srch_no hsr (fun h5 h6 => c280 (by have := (hsr.2.1 h5).2.1; omega)) (fun h5 => by omega)
                              | exact srch_no hsr (fun h5 => by omega) (fun _ _ h6 => c280 h6)
                              | exact srch_no hsr (fun h5 => by omega) (fun _ h6 => by omega)
                          · intro h5
                            first
                              | exact hlk h5
                              | rw [show n5 + 1 - 1 = n5 by omega, jU_s]
                          · first
                              | exact hkk
                              | (intro q q0 q1
                                 by_cases e : q = n5
                                 · rw [e, jU_s]; omega
                                 · rw [jU_n e]; exact hkk q q0 (by omega))
                        · have hwq := hwb0 b5 (by omega) hlt
                          have hgb := gmul_b (g := g) (d := btw f1 s1 K la b5) hg (by omega)
                          refine lv_aload_n hx hb dX5_learn_265 rfl (lv_at hl 4 rfl) ?_
                          refine jv_get (v := .ref mw) F hP 0 rfl flX5_41 rfl dX5_learn_266 ?_
                          refine lv_iload_n hx hb dX5_learn_269 rfl (lv_at hl 1 rfl) ?_
                          refine jv_iald (fa := w3) F hP 5 rfl (by omega) (by decide) dX5_learn_270 ?_
                          refine lv_aload_n hx hb dX5_learn_271 rfl (lv_at hl 4 rfl) ?_
                          refine jv_get (v := .int (jI g)) F hP 0 rfl flX5_20 rfl dX5_learn_272 ?_
                          refine lv_iload hx hb dX5_learn_275 (lv_at hl 0 rfl) ?_
                          refine jv_imul hx hb dX5_learn_277 ?_
                          refine jv_isub hx hb dX5_learn_278 ?_
                          refine lv_iload_n hx hb dX5_learn_279 rfl (lv_at hl 3 rfl) ?_
                          refine jv_icmp_ne (tgt := 320) hx hb dX5_learn_280 rfl (by omega) (by omega) (fun c280 => ?_) (fun c280 => ?_)
                          · refine lv_iinc (k := 1) (v := jI (b5 + 1)) (lv' := [(3, .int (jI (b5 + 1))), (4, .int (jI (btw f1 s1 K la b5))), (2, .int (jI la)), (1, .int (jI le)), (0, .ref mo)]) hx hb dX5_learn_320 hl rfl (jI_add _ _) (by decide) rfl (fun ls hl => ?_)
                            refine lv_goto (tgt := 240) hx hb dX5_learn_323 rfl ?_
                            refine ih240 le la (b5 + 1) n5 k5 ls H locs (by omega) ?_ ?_ ?_ ?_ ?_ ?_ ?_ ?_ (lv_sub hl [0, 2, 3, 4] rfl) hP hD hS
                            · omega
                            · omega
                            · omega
                            · omega
                            · first
                                | exact hch
                                | exact chp_push anc_in hK.1 hch hnx (fun q hq => by show f1 (jU k5 n5 b5 q) = f1 (k5 q); rw [jU_n hq]) (fun q hq => by show s1 (jU k5 n5 b5 q) = s1 (k5 q); rw [jU_n hq]) (by show f1 (jU k5 n5 b5 n5) = f1 b5; rw [jU_s]) (by show s1 (jU k5 n5 b5 n5) = s1 b5; rw [jU_s])
                            · first
                                | exact ⟨by omega, fun h5 => by omega, fun _ => ⟨by omega, by omega, rfl, fun q q0 q1 _ => by omega⟩⟩
                                | exact srch_no hsr (fun h5 h6 => c280 (by have := (hsr.2.1 h5).2.1; omega)) (fun h5 => by omega)
                                | exact srch_no hsr (fun h5 => by omega) (fun _ _ h6 => c280 h6)
                                | exact srch_no hsr (fun h5 => by omega) (fun _ h6 => by omega)
                            · intro h5
                              first
                                | exact hlk h5
                                | rw [show n5 + 1 - 1 = n5 by omega, jU_s]
                            · first
                                | exact hkk
                                | (intro q q0 q1
                                   by_cases e : q = n5
                                   · rw [e, jU_s]; omega
                                   · rw [jU_n e]; exact hkk q q0 (by omega))
                          · have hnx : nxl (anc L0 L1 n0 n1 K) (wI (anc L0 L1 n0 n1 K) n1 w3) K g b3 n5 (fun q => f1 (k5 q)) (fun q => s1 (k5 q)) (f1 b5) (s1 b5) := srch_yes anc_in hK.1 hn0 hn1.2 hT hsr hlt (by omega) hlk hla.2 (fun h5 => by have := (hsr.2.1 h5).2.1; omega) (fun h5 => ⟨by omega, by omega⟩)
                            have hnb := nxl_b anc_in hK.1 hn0.2 hch hnx
                            refine lv_aload_n hx hb dX5_learn_283 rfl (lv_at hl 4 rfl) ?_
                            refine jv_get (v := .ref mk) F hP 0 rfl flX5_44 rfl dX5_learn_284 ?_
                            refine lv_aload_n hx hb dX5_learn_287 rfl (lv_at hl 4 rfl) ?_
                            refine jv_get (v := .int (jI n5)) F hP 0 rfl flX5_72 rfl dX5_learn_288 ?_
                            refine lv_iload_n hx hb dX5_learn_291 rfl (lv_at hl 1 rfl) ?_
                            refine jv_iast (fa := k5) F hP hD hS 6 rfl (by omega) (by decide) dX5_learn_292 (fun H locs hP hD hS => ?_)
                            have hP : va_P D cls [(mo, .inr (5, [.ref ml, .ref mn, .int (jI K), .int (jI g), .int (jI ga), .int (jI lo), .int (jI gp), .int (jI li), .ref mf, .ref mt, .ref mw, .int (jI fo1), .ref mk, .int (jI n5), .int (jI b3), .int (jI 1), .ref mz, .int (jI rd), .int (jI ep), .int (jI eq), .int (jI al), .int (jI fa)])), (ml, .inl (cA, 96, .inl (jA M))), (mn, .inl (cA, 2, .inl (jA N))), (mf, .inl (cA, 2304, .inl (jA f1))), (mt, .inl (cA, 2304, .inl (jA s1))), (mw, .inl (cA, 2304, .inl (jA w3))), (mk, .inl (cA, 48, .inl (jA (jU k5 n5 b5))))] H := hP
                            have hD : va_D A [(mo, .inr (5, [.ref ml, .ref mn, .int (jI K), .int (jI g), .int (jI ga), .int (jI lo), .int (jI gp), .int (jI li), .ref mf, .ref mt, .ref mw, .int (jI fo1), .ref mk, .int (jI n5), .int (jI b3), .int (jI 1), .ref mz, .int (jI rd), .int (jI ep), .int (jI eq), .int (jI al), .int (jI fa)])), (ml, .inl (cA, 96, .inl (jA M))), (mn, .inl (cA, 2, .inl (jA N))), (mf, .inl (cA, 2304, .inl (jA f1))), (mt, .inl (cA, 2304, .inl (jA s1))), (mw, .inl (cA, 2304, .inl (jA w3))), (mk, .inl (cA, 48, .inl (jA (jU k5 n5 b5))))] := hD
                            refine lv_aload_n hx hb dX5_learn_293 rfl (lv_at hl 4 rfl) ?_
                            refine lv_dup hx hb dX5_learn_294 rfl ?_
                            refine jv_get (v := .int (jI n5)) F hP 0 rfl flX5_72 rfl dX5_learn_295 ?_
                            refine lv_iconst (v := jI 1) hx hb dX5_learn_298 rfl ?_
                            refine jv_iadd hx hb dX5_learn_299 ?_
                            refine jv_put (v := .int (jI (n5 + 1))) F hP hD hS 0 rfl flX5_72 pfX5 (by decide +kernel) rfl rfl (Nat.le_of_ble_eq_true rfl) dX5_learn_300 (fun H locs hP hD hS => ?_)
                            have hP : va_P D cls [(mo, .inr (5, [.ref ml, .ref mn, .int (jI K), .int (jI g), .int (jI ga), .int (jI lo), .int (jI gp), .int (jI li), .ref mf, .ref mt, .ref mw, .int (jI fo1), .ref mk, .int (jI (n5 + 1)), .int (jI b3), .int (jI 1), .ref mz, .int (jI rd), .int (jI ep), .int (jI eq), .int (jI al), .int (jI fa)])), (ml, .inl (cA, 96, .inl (jA M))), (mn, .inl (cA, 2, .inl (jA N))), (mf, .inl (cA, 2304, .inl (jA f1))), (mt, .inl (cA, 2304, .inl (jA s1))), (mw, .inl (cA, 2304, .inl (jA w3))), (mk, .inl (cA, 48, .inl (jA (jU k5 n5 b5))))] H := hP
                            have hD : va_D A [(mo, .inr (5, [.ref ml, .ref mn, .int (jI K), .int (jI g), .int (jI ga), .int (jI lo), .int (jI gp), .int (jI li), .ref mf, .ref mt, .ref mw, .int (jI fo1), .ref mk, .int (jI (n5 + 1)), .int (jI b3), .int (jI 1), .ref mz, .int (jI rd), .int (jI ep), .int (jI eq), .int (jI al), .int (jI fa)])), (ml, .inl (cA, 96, .inl (jA M))), (mn, .inl (cA, 2, .inl (jA N))), (mf, .inl (cA, 2304, .inl (jA f1))), (mt, .inl (cA, 2304, .inl (jA s1))), (mw, .inl (cA, 2304, .inl (jA w3))), (mk, .inl (cA, 48, .inl (jA (jU k5 n5 b5))))] := hD
                            refine lv_aload_n hx hb dX5_learn_303 rfl (lv_at hl 4 rfl) ?_
                            refine jv_get (v := .ref mw) F hP 0 rfl flX5_41 rfl dX5_learn_304 ?_
                            refine lv_iload_n hx hb dX5_learn_307 rfl (lv_at hl 1 rfl) ?_
                            refine jv_iald (fa := w3) F hP 5 rfl (by omega) (by decide) dX5_learn_308 ?_
                            refine lv_bipush (v := jI 10) hx hb dX5_learn_309 (by decide +kernel) ?_
                            refine lv_aload_n hx hb dX5_learn_311 rfl (lv_at hl 4 rfl) ?_
                            refine jv_get (v := .int (jI K)) F hP 0 rfl flX5_16 rfl dX5_learn_312 ?_
                            refine jv_imul hx hb dX5_learn_315 ?_
                            refine jv_isub hx hb dX5_learn_316 ?_
                            refine lv_istore_n (lv' := [(1, .int (jI ((w3 b5) - (10 * K)))), (4, .int (jI (btw f1 s1 K la b5))), (3, .int (jI b5)), (2, .int (jI la)), (0, .ref mo)]) hx hb dX5_learn_317 rfl hl (by decide) rfl (fun ls hl => ?_)
                            refine lv_iload_n hx hb dX5_learn_318 rfl (lv_at hl 2 rfl) ?_
                            refine lv_istore_n (lv' := [(2, .int (jI b5)), (1, .int (jI ((w3 b5) - (10 * K)))), (4, .int (jI (btw f1 s1 K la b5))), (3, .int (jI b5)), (0, .ref mo)]) hx hb dX5_learn_319 rfl hl (by decide) rfl (fun ls hl => ?_)
                            refine lv_iinc (k := 3) (v := jI (b5 + 1)) (lv' := [(3, .int (jI (b5 + 1))), (2, .int (jI b5)), (1, .int (jI ((w3 b5) - (10 * K)))), (4, .int (jI (btw f1 s1 K la b5))), (0, .ref mo)]) hx hb dX5_learn_320 hl rfl (jI_add _ _) (by decide) rfl (fun ls hl => ?_)
                            refine lv_goto (tgt := 240) hx hb dX5_learn_323 rfl ?_
                            refine ih240 ((w3 b5) - (10 * K)) b5 (b5 + 1) (n5 + 1) (jU k5 n5 b5) ls H locs (by omega) ?_ ?_ ?_ ?_ ?_ ?_ ?_ ?_ (lv_sub hl [0, 1, 2, 4] rfl) hP hD hS
                            · omega
                            · omega
                            · omega
                            · omega
                            · first
                                | exact hch
                                | exact chp_push anc_in hK.1 hch hnx (fun q hq => by show f1 (jU k5 n5 b5 q) = f1 (k5 q); rw [jU_n hq]) (fun q hq => by show s1 (jU k5 n5 b5 q) = s1 (k5 q); rw [jU_n hq]) (by show f1 (jU k5 n5 b5 n5) = f1 b5; rw [jU_s]) (by show s1 (jU k5 n5 b5 n5) = s1 b5; rw [jU_s])
                            · first
                                | exact ⟨by omega, fun h5 => by omega, fun _ => ⟨by omega, by omega, rfl, fun q q0 q1 _ => by omega⟩⟩
                                | exact srch_no hsr (fun h5 h6 => c280 (by have := (hsr.2.1 h5).2.1; omega)) (fun h5 => by omega)
                                | exact srch_no hsr (fun h5 => by omega) (fun _ _ h6 => c280 h6)
                                | exact srch_no hsr (fun h5 => by omega) (fun _ h6 => by omega)
                            · intro h5
                              first
                                | exact hlk h5
                                | rw [show n5 + 1 - 1 = n5 by omega, jU_s]
                            · first
                                | exact hkk
                                | (intro q q0 q1
                                   by_cases e : q = n5
                                   · rw [e, jU_s]; omega
                                   · rw [jU_n e]; exact hkk q q0 (by omega))
                      · have hn5z : n5 = 0 := by
                          by_cases h5 : 0 < n5
                          · have := hla1 h5; omega
                          · omega
                        refine lv_iconst (v := jI 0) hx hb dX5_learn_248 rfl ?_
                        refine lv_goto (tgt := 258) hx hb dX5_learn_249 rfl ?_
                        refine lv_istore (lv' := [(4, .int (jI 0)), (3, .int (jI b5)), (2, .int (jI la)), (1, .int (jI le)), (0, .ref mo)]) hx hb dX5_learn_258 hl (by decide) rfl (fun ls hl => ?_)
                        refine lv_iload hx hb dX5_learn_260 (lv_at hl 0 rfl) ?_
                        refine jv_if_lt (tgt := 320) hx hb dX5_learn_262 rfl (by omega) (fun c262 => ?_) (fun c262 => ?_)
                        · exfalso
                          omega
                        · have hwq := hwb0 b5 (by omega) hlt
                          refine lv_aload_n hx hb dX5_learn_265 rfl (lv_at hl 4 rfl) ?_
                          refine jv_get (v := .ref mw) F hP 0 rfl flX5_41 rfl dX5_learn_266 ?_
                          refine lv_iload_n hx hb dX5_learn_269 rfl (lv_at hl 1 rfl) ?_
                          refine jv_iald (fa := w3) F hP 5 rfl (by omega) (by decide) dX5_learn_270 ?_
                          refine lv_aload_n hx hb dX5_learn_271 rfl (lv_at hl 4 rfl) ?_
                          refine jv_get (v := .int (jI g)) F hP 0 rfl flX5_20 rfl dX5_learn_272 ?_
                          refine lv_iload hx hb dX5_learn_275 (lv_at hl 0 rfl) ?_
                          refine jv_imul hx hb dX5_learn_277 ?_
                          refine jv_isub hx hb dX5_learn_278 ?_
                          refine lv_iload_n hx hb dX5_learn_279 rfl (lv_at hl 3 rfl) ?_
                          refine jv_icmp_ne (tgt := 320) hx hb dX5_learn_280 rfl (by omega) (by omega) (fun c280 => ?_) (fun c280 => ?_)
                          · refine lv_iinc (k := 1) (v := jI (b5 + 1)) (lv' := [(3, .int (jI (b5 + 1))), (4, .int (jI 0)), (2, .int (jI la)), (1, .int (jI le)), (0, .ref mo)]) hx hb dX5_learn_320 hl rfl (jI_add _ _) (by decide) rfl (fun ls hl => ?_)
                            refine lv_goto (tgt := 240) hx hb dX5_learn_323 rfl ?_
                            refine ih240 le la (b5 + 1) n5 k5 ls H locs (by omega) ?_ ?_ ?_ ?_ ?_ ?_ ?_ ?_ (lv_sub hl [0, 2, 3, 4] rfl) hP hD hS
                            · omega
                            · omega
                            · omega
                            · omega
                            · first
                                | exact hch
                                | exact chp_push anc_in hK.1 hch hnx (fun q hq => by show f1 (jU k5 n5 b5 q) = f1 (k5 q); rw [jU_n hq]) (fun q hq => by show s1 (jU k5 n5 b5 q) = s1 (k5 q); rw [jU_n hq]) (by show f1 (jU k5 n5 b5 n5) = f1 b5; rw [jU_s]) (by show s1 (jU k5 n5 b5 n5) = s1 b5; rw [jU_s])
                            · first
                                | exact ⟨by omega, fun h5 => by omega, fun _ => ⟨by omega, by omega, rfl, fun q q0 q1 _ => by omega⟩⟩
                                | exact srch_no hsr (fun h5 h6 => c280 (by have := (hsr.2.1 h5).2.1; omega)) (fun h5 => by omega)
                                | exact srch_no hsr (fun h5 => by omega) (fun _ _ h6 => c280 h6)
                                | exact srch_no hsr (fun h5 => by omega) (fun _ h6 => by omega)
                            · intro h5
                              first
                                | exact hlk h5
                                | rw [show n5 + 1 - 1 = n5 by omega, jU_s]
                            · first
                                | exact hkk
                                | (intro q q0 q1
                                   by_cases e : q = n5
                                   · rw [e, jU_s]; omega
                                   · rw [jU_n e]; exact hkk q q0 (by omega))
                          · have hnx : nxl (anc L0 L1 n0 n1 K) (wI (anc L0 L1 n0 n1 K) n1 w3) K g b3 n5 (fun q => f1 (k5 q)) (fun q => s1 (k5 q)) (f1 b5) (s1 b5) := srch_yes anc_in hK.1 hn0 hn1.2 hT hsr hlt (by omega) hlk hla.2 (fun h5 => by have := (hsr.2.1 h5).2.1; omega) (fun h5 => ⟨by omega, by omega⟩)
                            have hnb := nxl_b anc_in hK.1 hn0.2 hch hnx
                            refine lv_aload_n hx hb dX5_learn_283 rfl (lv_at hl 4 rfl) ?_
                            refine jv_get (v := .ref mk) F hP 0 rfl flX5_44 rfl dX5_learn_284 ?_
                            refine lv_aload_n hx hb dX5_learn_287 rfl (lv_at hl 4 rfl) ?_
                            refine jv_get (v := .int (jI n5)) F hP 0 rfl flX5_72 rfl dX5_learn_288 ?_
                            refine lv_iload_n hx hb dX5_learn_291 rfl (lv_at hl 1 rfl) ?_
                            refine jv_iast (fa := k5) F hP hD hS 6 rfl (by omega) (by decide) dX5_learn_292 (fun H locs hP hD hS => ?_)
                            have hP : va_P D cls [(mo, .inr (5, [.ref ml, .ref mn, .int (jI K), .int (jI g), .int (jI ga), .int (jI lo), .int (jI gp), .int (jI li), .ref mf, .ref mt, .ref mw, .int (jI fo1), .ref mk, .int (jI n5), .int (jI b3), .int (jI 1), .ref mz, .int (jI rd), .int (jI ep), .int (jI eq), .int (jI al), .int (jI fa)])), (ml, .inl (cA, 96, .inl (jA M))), (mn, .inl (cA, 2, .inl (jA N))), (mf, .inl (cA, 2304, .inl (jA f1))), (mt, .inl (cA, 2304, .inl (jA s1))), (mw, .inl (cA, 2304, .inl (jA w3))), (mk, .inl (cA, 48, .inl (jA (jU k5 n5 b5))))] H := hP
                            have hD : va_D A [(mo, .inr (5, [.ref ml, .ref mn, .int (jI K), .int (jI g), .int (jI ga), .int (jI lo), .int (jI gp), .int (jI li), .ref mf, .ref mt, .ref mw, .int (jI fo1), .ref mk, .int (jI n5), .int (jI b3), .int (jI 1), .ref mz, .int (jI rd), .int (jI ep), .int (jI eq), .int (jI al), .int (jI fa)])), (ml, .inl (cA, 96, .inl (jA M))), (mn, .inl (cA, 2, .inl (jA N))), (mf, .inl (cA, 2304, .inl (jA f1))), (mt, .inl (cA, 2304, .inl (jA s1))), (mw, .inl (cA, 2304, .inl (jA w3))), (mk, .inl (cA, 48, .inl (jA (jU k5 n5 b5))))] := hD
                            refine lv_aload_n hx hb dX5_learn_293 rfl (lv_at hl 4 rfl) ?_
                            refine lv_dup hx hb dX5_learn_294 rfl ?_
                            refine jv_get (v := .int (jI n5)) F hP 0 rfl flX5_72 rfl dX5_learn_295 ?_
                            refine lv_iconst (v := jI 1) hx hb dX5_learn_298 rfl ?_
                            refine jv_iadd hx hb dX5_learn_299 ?_
                            refine jv_put (v := .int (jI (n5 + 1))) F hP hD hS 0 rfl flX5_72 pfX5 (by decide +kernel) rfl rfl (Nat.le_of_ble_eq_true rfl) dX5_learn_300 (fun H locs hP hD hS => ?_)
                            have hP : va_P D cls [(mo, .inr (5, [.ref ml, .ref mn, .int (jI K), .int (jI g), .int (jI ga), .int (jI lo), .int (jI gp), .int (jI li), .ref mf, .ref mt, .ref mw, .int (jI fo1), .ref mk, .int (jI (n5 + 1)), .int (jI b3), .int (jI 1), .ref mz, .int (jI rd), .int (jI ep), .int (jI eq), .int (jI al), .int (jI fa)])), (ml, .inl (cA, 96, .inl (jA M))), (mn, .inl (cA, 2, .inl (jA N))), (mf, .inl (cA, 2304, .inl (jA f1))), (mt, .inl (cA, 2304, .inl (jA s1))), (mw, .inl (cA, 2304, .inl (jA w3))), (mk, .inl (cA, 48, .inl (jA (jU k5 n5 b5))))] H := hP
                            have hD : va_D A [(mo, .inr (5, [.ref ml, .ref mn, .int (jI K), .int (jI g), .int (jI ga), .int (jI lo), .int (jI gp), .int (jI li), .ref mf, .ref mt, .ref mw, .int (jI fo1), .ref mk, .int (jI (n5 + 1)), .int (jI b3), .int (jI 1), .ref mz, .int (jI rd), .int (jI ep), .int (jI eq), .int (jI al), .int (jI fa)])), (ml, .inl (cA, 96, .inl (jA M))), (mn, .inl (cA, 2, .inl (jA N))), (mf, .inl (cA, 2304, .inl (jA f1))), (mt, .inl (cA, 2304, .inl (jA s1))), (mw, .inl (cA, 2304, .inl (jA w3))), (mk, .inl (cA, 48, .inl (jA (jU k5 n5 b5))))] := hD
                            refine lv_aload_n hx hb dX5_learn_303 rfl (lv_at hl 4 rfl) ?_
                            refine jv_get (v := .ref mw) F hP 0 rfl flX5_41 rfl dX5_learn_304 ?_
                            refine lv_iload_n hx hb dX5_learn_307 rfl (lv_at hl 1 rfl) ?_
                            refine jv_iald (fa := w3) F hP 5 rfl (by omega) (by decide) dX5_learn_308 ?_
                            refine lv_bipush (v := jI 10) hx hb dX5_learn_309 (by decide +kernel) ?_
                            refine lv_aload_n hx hb dX5_learn_311 rfl (lv_at hl 4 rfl) ?_
                            refine jv_get (v := .int (jI K)) F hP 0 rfl flX5_16 rfl dX5_learn_312 ?_
                            refine jv_imul hx hb dX5_learn_315 ?_
                            refine jv_isub hx hb dX5_learn_316 ?_
                            refine lv_istore_n (lv' := [(1, .int (jI ((w3 b5) - (10 * K)))), (4, .int (jI 0)), (3, .int (jI b5)), (2, .int (jI la)), (0, .ref mo)]) hx hb dX5_learn_317 rfl hl (by decide) rfl (fun ls hl => ?_)
                            refine lv_iload_n hx hb dX5_learn_318 rfl (lv_at hl 2 rfl) ?_
                            refine lv_istore_n (lv' := [(2, .int (jI b5)), (1, .int (jI ((w3 b5) - (10 * K)))), (4, .int (jI 0)), (3, .int (jI b5)), (0, .ref mo)]) hx hb dX5_learn_319 rfl hl (by decide) rfl (fun ls hl => ?_)
                            refine lv_iinc (k := 3) (v := jI (b5 + 1)) (lv' := [(3, .int (jI (b5 + 1))), (2, .int (jI b5)), (1, .int (jI ((w3 b5) - (10 * K)))), (4, .int (jI 0)), (0, .ref mo)]) hx hb dX5_learn_320 hl rfl (jI_add _ _) (by decide) rfl (fun ls hl => ?_)
                            refine lv_goto (tgt := 240) hx hb dX5_learn_323 rfl ?_
                            refine ih240 ((w3 b5) - (10 * K)) b5 (b5 + 1) (n5 + 1) (jU k5 n5 b5) ls H locs (by omega) ?_ ?_ ?_ ?_ ?_ ?_ ?_ ?_ (lv_sub hl [0, 1, 2, 4] rfl) hP hD hS
                            · omega
                            · omega
                            · omega
                            · omega
                            · first
                                | exact hch
                                | exact chp_push anc_in hK.1 hch hnx (fun q hq => by show f1 (jU k5 n5 b5 q) = f1 (k5 q); rw [jU_n hq]) (fun q hq => by show s1 (jU k5 n5 b5 q) = s1 (k5 q); rw [jU_n hq]) (by show f1 (jU k5 n5 b5 n5) = f1 b5; rw [jU_s]) (by show s1 (jU k5 n5 b5 n5) = s1 b5; rw [jU_s])
                            · first
                                | exact ⟨by omega, fun h5 => by omega, fun _ => ⟨by omega, by omega, rfl, fun q q0 q1 _ => by omega⟩⟩
                                | exact srch_no hsr (fun h5 h6 => c280 (by have := (hsr.2.1 h5).2.1; omega)) (fun h5 => by omega)
                                | exact srch_no hsr (fun h5 => by omega) (fun _ _ h6 => c280 h6)
                                | exact srch_no hsr (fun h5 => by omega) (fun _ h6 => by omega)
                            · intro h5
                              first
                                | exact hlk h5
                                | rw [show n5 + 1 - 1 = n5 by omega, jU_s]
                            · first
                                | exact hkk
                                | (intro q q0 q1
                                   by_cases e : q = n5
                                   · rw [e, jU_s]; omega
                                   · rw [jU_n e]; exact hkk q q0 (by omega))
                refine lp240 (Int.toNat (fo1 - 0) + 1) b3 (-1) 0 0 lk ls H locs (by omega) ?_ ?_ ?_ ?_ ?_ ?_ ?_ ?_ (lv_sub hl [0, 1, 2, 3] rfl) hP hD hS
                · omega
                · omega
                · omega
                · omega
                · exact chp_0
                · exact ⟨Int.le_refl _, fun _ => ⟨rfl, rfl, fun q q0 q1 => by omega⟩, fun h5 => by omega⟩
                · intro h5; omega
                · intro q q0 q1; omega
              · have gaa := anc_in _ _ (tbb.2.2 a (by omega) (by omega)).1
                refine lv_iconst (v := jI 0) hx hb dX5_learn_109 rfl ?_
                refine lv_istore_n (lv' := [(2, .int (jI 0)), (1, .int (jI a)), (0, .ref mo)]) hx hb dX5_learn_110 rfl hl (by decide) rfl (fun ls hl => ?_)
                refine lv_iload_n hx hb dX5_learn_111 rfl (lv_at hl 1 rfl) ?_
                refine lv_iconst (v := jI 1) hx hb dX5_learn_112 rfl ?_
                refine jv_iadd hx hb dX5_learn_113 ?_
                refine lv_istore_n (lv' := [(3, .int (jI (a + 1))), (2, .int (jI 0)), (1, .int (jI a)), (0, .ref mo)]) hx hb dX5_learn_114 rfl hl (by decide) rfl (fun ls hl => ?_)
                have lp115 : ∀ (fu : Nat) (mr : Int) (b : Int) (ls : Array Slot) (H : Heap) (locs : List Loc), fo1 - b < (fu : Int) → (a < b ∧ b ≤ fo1) → (0 ≤ mr ∧ mr ≤ 10 * (n0 - f1 a - K)) → (moreIx f1 s1 w3 K g a b mr) → lv_has ls 6 [(3, .int (jI b)), (2, .int (jI mr)), (1, .int (jI a)), (0, .ref mo)] → va_P D cls [(mo, .inr (5, [.ref ml, .ref mn, .int (jI K), .int (jI g), .int (jI ga), .int (jI lo), .int (jI gp), .int (jI li), .ref mf, .ref mt, .ref mw, .int (jI fo1), .ref mk, .int (jI ln), .int (jI b3), .int (jI 1), .ref mz, .int (jI rd), .int (jI ep), .int (jI eq), .int (jI al), .int (jI fa)])), (ml, .inl (cA, 96, .inl (jA M))), (mn, .inl (cA, 2, .inl (jA N))), (mf, .inl (cA, 2304, .inl (jA f1))), (mt, .inl (cA, 2304, .inl (jA s1))), (mw, .inl (cA, 2304, .inl (jA w3))), (mk, .inl (cA, 48, .inl (jA lk)))] H → va_D A [(mo, .inr (5, [.ref ml, .ref mn, .int (jI K), .int (jI g), .int (jI ga), .int (jI lo), .int (jI gp), .int (jI li), .ref mf, .ref mt, .ref mw, .int (jI fo1), .ref mk, .int (jI ln), .int (jI b3), .int (jI 1), .ref mz, .int (jI rd), .int (jI ep), .int (jI eq), .int (jI al), .int (jI fa)])), (ml, .inl (cA, 96, .inl (jA M))), (mn, .inl (cA, 2, .inl (jA N))), (mf, .inl (cA, 2304, .inl (jA f1))), (mt, .inl (cA, 2304, .inl (jA s1))), (mw, .inl (cA, 2304, .inl (jA w3))), (mk, .inl (cA, 48, .inl (jA lk)))] → va_S A s.heap H locs → W p l e (rmk 1 0 0 24) s m args below meth c H locs 0 0 Q (F0 m 115 ls []) := by
                  intro fu
                  induction fu with
                  | zero => intro mr b ls H locs hfu hb9 hm0 hmo hl hP hD hS; exfalso; omega
                  | succ fu ih115 =>
                    intro mr b ls H locs hfu hb9 hm0 hmo hl hP hD hS
                    refine lv_iload_n hx hb dX5_learn_115 rfl (lv_at hl 0 rfl) ?_
                    refine lv_aload_n hx hb dX5_learn_116 rfl (lv_at hl 3 rfl) ?_
                    refine jv_get (v := .int (jI fo1)) F hP 0 rfl flX5_58 rfl dX5_learn_117 ?_
                    refine jv_icmp_ge (tgt := 175) hx hb dX5_learn_120 rfl (by omega) (by omega) (fun c120 => ?_) (fun c120 => ?_)
                    · refine lv_aload_n hx hb dX5_learn_175 rfl (lv_at hl 3 rfl) ?_
                      refine jv_get (v := .ref mw) F hP 0 rfl flX5_41 rfl dX5_learn_176 ?_
                      refine lv_iload_n hx hb dX5_learn_179 rfl (lv_at hl 2 rfl) ?_
                      refine lv_bipush (v := jI 10) hx hb dX5_learn_180 (by decide +kernel) ?_
                      refine lv_aload_n hx hb dX5_learn_182 rfl (lv_at hl 3 rfl) ?_
                      refine jv_get (v := .int (jI K)) F hP 0 rfl flX5_16 rfl dX5_learn_183 ?_
                      refine jv_imul hx hb dX5_learn_186 ?_
                      refine lv_iload_n hx hb dX5_learn_187 rfl (lv_at hl 1 rfl) ?_
                      refine jv_iadd hx hb dX5_learn_188 ?_
                      refine jv_iast (fa := w3) F hP hD hS 5 rfl (by omega) (by decide) dX5_learn_189 (fun H locs hP hD hS => ?_)
                      have hP : va_P D cls [(mo, .inr (5, [.ref ml, .ref mn, .int (jI K), .int (jI g), .int (jI ga), .int (jI lo), .int (jI gp), .int (jI li), .ref mf, .ref mt, .ref mw, .int (jI fo1), .ref mk, .int (jI ln), .int (jI b3), .int (jI 1), .ref mz, .int (jI rd), .int (jI ep), .int (jI eq), .int (jI al), .int (jI fa)])), (ml, .inl (cA, 96, .inl (jA M))), (mn, .inl (cA, 2, .inl (jA N))), (mf, .inl (cA, 2304, .inl (jA f1))), (mt, .inl (cA, 2304, .inl (jA s1))), (mw, .inl (cA, 2304, .inl (jA (jU w3 a ((10 * K) + mr))))), (mk, .inl (cA, 48, .inl (jA lk)))] H := hP
                      have hD : va_D A [(mo, .inr (5, [.ref ml, .ref mn, .int (jI K), .int (jI g), .int (jI ga), .int (jI lo), .int (jI gp), .int (jI li), .ref mf, .ref mt, .ref mw, .int (jI fo1), .ref mk, .int (jI ln), .int (jI b3), .int (jI 1), .ref mz, .int (jI rd), .int (jI ep), .int (jI eq), .int (jI al), .int (jI fa)])), (ml, .inl (cA, 96, .inl (jA M))), (mn, .inl (cA, 2, .inl (jA N))), (mf, .inl (cA, 2304, .inl (jA f1))), (mt, .inl (cA, 2304, .inl (jA s1))), (mw, .inl (cA, 2304, .inl (jA (jU w3 a ((10 * K) + mr))))), (mk, .inl (cA, 48, .inl (jA lk)))] := hD
                      refine lv_aload_n hx hb dX5_learn_190 rfl (lv_at hl 3 rfl) ?_
                      refine lv_aload_n hx hb dX5_learn_191 rfl (lv_at hl 3 rfl) ?_
                      refine jv_get (v := .ref mw) F hP 0 rfl flX5_41 rfl dX5_learn_192 ?_
                      refine lv_iload_n hx hb dX5_learn_195 rfl (lv_at hl 2 rfl) ?_
                      refine jv_iald (fa := jU w3 a ((10 * K) + mr)) F hP 5 rfl (by omega) (by decide) dX5_learn_196 ?_
                      refine lv_aload_n hx hb dX5_learn_197 rfl (lv_at hl 3 rfl) ?_
                      refine jv_get (v := .int (jI b3)) F hP 0 rfl flX5_65 rfl dX5_learn_198 ?_
                      have hju : jU w3 a (10 * K + mr) a = 10 * K + mr := jU_s
                      refine jv_icmp_le (tgt := 213) hx hb dX5_learn_201 rfl (by omega) (by omega) (fun c201 => ?_) (fun c201 => ?_)
                      · refine lv_aload_n hx hb dX5_learn_213 rfl (lv_at hl 3 rfl) ?_
                        refine jv_get (v := .int (jI b3)) F hP 0 rfl flX5_65 rfl dX5_learn_214 ?_
                        refine jv_put (v := .int (jI b3)) F hP hD hS 0 rfl flX5_65 pfX5 (by decide +kernel) rfl rfl (Nat.le_of_ble_eq_true rfl) dX5_learn_217 (fun H locs hP hD hS => ?_)
                        have hP : va_P D cls [(mo, .inr (5, [.ref ml, .ref mn, .int (jI K), .int (jI g), .int (jI ga), .int (jI lo), .int (jI gp), .int (jI li), .ref mf, .ref mt, .ref mw, .int (jI fo1), .ref mk, .int (jI ln), .int (jI b3), .int (jI 1), .ref mz, .int (jI rd), .int (jI ep), .int (jI eq), .int (jI al), .int (jI fa)])), (ml, .inl (cA, 96, .inl (jA M))), (mn, .inl (cA, 2, .inl (jA N))), (mf, .inl (cA, 2304, .inl (jA f1))), (mt, .inl (cA, 2304, .inl (jA s1))), (mw, .inl (cA, 2304, .inl (jA (jU w3 a ((10 * K) + mr))))), (mk, .inl (cA, 48, .inl (jA lk)))] H := hP
                        have hD : va_D A [(mo, .inr (5, [.ref ml, .ref mn, .int (jI K), .int (jI g), .int (jI ga), .int (jI lo), .int (jI gp), .int (jI li), .ref mf, .ref mt, .ref mw, .int (jI fo1), .ref mk, .int (jI ln), .int (jI b3), .int (jI 1), .ref mz, .int (jI rd), .int (jI ep), .int (jI eq), .int (jI al), .int (jI fa)])), (ml, .inl (cA, 96, .inl (jA M))), (mn, .inl (cA, 2, .inl (jA N))), (mf, .inl (cA, 2304, .inl (jA f1))), (mt, .inl (cA, 2304, .inl (jA s1))), (mw, .inl (cA, 2304, .inl (jA (jU w3 a ((10 * K) + mr))))), (mk, .inl (cA, 48, .inl (jA lk)))] := hD
                        refine lv_iinc (k := 2) (v := jI (a + (-1))) (lv' := [(1, .int (jI (a + (-1)))), (3, .int (jI b)), (2, .int (jI mr)), (0, .ref mo)]) hx hb dX5_learn_220 hl rfl (jI_add _ _) (by decide) rfl (fun ls hl => ?_)
                        refine lv_goto (tgt := 105) hx hb dX5_learn_223 rfl ?_
                        refine ih105 (a + (-1)) b3 (jU w3 a ((10 * K) + mr)) ls H locs (by omega) ?_ ?_ ?_ ?_ (lv_sub hl [0, 3] rfl) hP hD hS
                        · omega
                        · omega
                        · intro q q0 q1
                          by_cases e : q = a
                          · rw [e, jU_s]
                            refine ⟨?_, by omega, by omega⟩
                            rw [show 10 * K + mr - 10 * K = mr by omega]
                            exact moreIx_upd (Int.le_refl _) (by rw [← show b = fo1 by omega]; exact hmo)
                          · obtain ⟨g1, g2, g3⟩ := hw3 q (by omega) q1
                            rw [jU_n e]
                            exact ⟨moreIx_upd (by omega) g1, g2, g3⟩
                        · rw [show a + -1 + 1 = a by omega]
                          exact topIx_s htop (by omega) (by omega) (by omega)
                      · refine lv_aload_n hx hb dX5_learn_204 rfl (lv_at hl 3 rfl) ?_
                        refine jv_get (v := .ref mw) F hP 0 rfl flX5_41 rfl dX5_learn_205 ?_
                        refine lv_iload_n hx hb dX5_learn_208 rfl (lv_at hl 2 rfl) ?_
                        refine jv_iald (fa := jU w3 a ((10 * K) + mr)) F hP 5 rfl (by omega) (by decide) dX5_learn_209 ?_
                        refine lv_goto (tgt := 217) hx hb dX5_learn_210 rfl ?_
                        refine jv_put (v := .int (jI ((jU w3 a ((10 * K) + mr)) a))) F hP hD hS 0 rfl flX5_65 pfX5 (by decide +kernel) rfl rfl (Nat.le_of_ble_eq_true rfl) dX5_learn_217 (fun H locs hP hD hS => ?_)
                        have hP : va_P D cls [(mo, .inr (5, [.ref ml, .ref mn, .int (jI K), .int (jI g), .int (jI ga), .int (jI lo), .int (jI gp), .int (jI li), .ref mf, .ref mt, .ref mw, .int (jI fo1), .ref mk, .int (jI ln), .int (jI ((jU w3 a ((10 * K) + mr)) a)), .int (jI 1), .ref mz, .int (jI rd), .int (jI ep), .int (jI eq), .int (jI al), .int (jI fa)])), (ml, .inl (cA, 96, .inl (jA M))), (mn, .inl (cA, 2, .inl (jA N))), (mf, .inl (cA, 2304, .inl (jA f1))), (mt, .inl (cA, 2304, .inl (jA s1))), (mw, .inl (cA, 2304, .inl (jA (jU w3 a ((10 * K) + mr))))), (mk, .inl (cA, 48, .inl (jA lk)))] H := hP
                        have hD : va_D A [(mo, .inr (5, [.ref ml, .ref mn, .int (jI K), .int (jI g), .int (jI ga), .int (jI lo), .int (jI gp), .int (jI li), .ref mf, .ref mt, .ref mw, .int (jI fo1), .ref mk, .int (jI ln), .int (jI ((jU w3 a ((10 * K) + mr)) a)), .int (jI 1), .ref mz, .int (jI rd), .int (jI ep), .int (jI eq), .int (jI al), .int (jI fa)])), (ml, .inl (cA, 96, .inl (jA M))), (mn, .inl (cA, 2, .inl (jA N))), (mf, .inl (cA, 2304, .inl (jA f1))), (mt, .inl (cA, 2304, .inl (jA s1))), (mw, .inl (cA, 2304, .inl (jA (jU w3 a ((10 * K) + mr))))), (mk, .inl (cA, 48, .inl (jA lk)))] := hD
                        refine lv_iinc (k := 2) (v := jI (a + (-1))) (lv' := [(1, .int (jI (a + (-1)))), (3, .int (jI b)), (2, .int (jI mr)), (0, .ref mo)]) hx hb dX5_learn_220 hl rfl (jI_add _ _) (by decide) rfl (fun ls hl => ?_)
                        refine lv_goto (tgt := 105) hx hb dX5_learn_223 rfl ?_
                        refine ih105 (a + (-1)) ((jU w3 a ((10 * K) + mr)) a) (jU w3 a ((10 * K) + mr)) ls H locs (by omega) ?_ ?_ ?_ ?_ (lv_sub hl [0, 3] rfl) hP hD hS
                        · omega
                        · omega
                        · intro q q0 q1
                          by_cases e : q = a
                          · rw [e, jU_s]
                            refine ⟨?_, by omega, by omega⟩
                            rw [show 10 * K + mr - 10 * K = mr by omega]
                            exact moreIx_upd (Int.le_refl _) (by rw [← show b = fo1 by omega]; exact hmo)
                          · obtain ⟨g1, g2, g3⟩ := hw3 q (by omega) q1
                            rw [jU_n e]
                            exact ⟨moreIx_upd (by omega) g1, g2, g3⟩
                        · rw [show a + -1 + 1 = a by omega]
                          exact topIx_s htop (by omega) (by omega) (by omega)
                    · refine lv_aload_n hx hb dX5_learn_123 rfl (lv_at hl 3 rfl) ?_
                      refine lv_iload_n hx hb dX5_learn_124 rfl (lv_at hl 2 rfl) ?_
                      refine lv_iload_n hx hb dX5_learn_125 rfl (lv_at hl 0 rfl) ?_
                      have ga126 := anc_in _ _ (tbb.2.2 a (by omega) (by omega)).1
                      have gb126 := anc_in _ _ (tbb.2.2 b (by omega) (by omega)).1
                      refine jr_V F (kX5_between l D cA mo ml mn mf mt mw mk mz K g ga lo gp li fo1 ln b3 1 rd ep eq al fa f1 s1 a b hK (by omega) (by omega) (by omega)) cvX5_68 hP [0, 3, 4] rfl 0 rfl rfl hl ⟨rfl, rfl, by decide, by decide⟩ rfl rfl (Nat.le_of_ble_eq_true rfl) dX5_learn_126 ⟨by decide, by decide⟩ (fun v hv => ?_)
                      subst hv
                      have hr126 := btw_r (f := f1) (s := s1) (K := K) (a := a) (b := b) (by omega) (by omega) (by omega) (by omega) (by omega)
                      refine lv_istore (lv' := [(4, .int (jI (btw f1 s1 K a b))), (3, .int (jI b)), (2, .int (jI mr)), (1, .int (jI a)), (0, .ref mo)]) hx hb dX5_learn_129 hl (by decide) rfl (fun ls hl => ?_)
                      refine lv_iload hx hb dX5_learn_131 (lv_at hl 0 rfl) ?_
                      refine jv_if_ge (tgt := 140) hx hb dX5_learn_133 rfl (by omega) (fun c133 => ?_) (fun c133 => ?_)
                      · have hwb := hw3 b (by omega) (by omega)
                        have hgb := gmul_b (g := g) (d := btw f1 s1 K a b) hg (by omega)
                        refine lv_aload_n hx hb dX5_learn_140 rfl (lv_at hl 4 rfl) ?_
                        refine jv_get (v := .ref mw) F hP 0 rfl flX5_41 rfl dX5_learn_141 ?_
                        refine lv_iload_n hx hb dX5_learn_144 rfl (lv_at hl 1 rfl) ?_
                        refine jv_iald (fa := w3) F hP 5 rfl (by omega) (by decide) dX5_learn_145 ?_
                        refine lv_aload_n hx hb dX5_learn_146 rfl (lv_at hl 4 rfl) ?_
                        refine jv_get (v := .int (jI g)) F hP 0 rfl flX5_20 rfl dX5_learn_147 ?_
                        refine lv_iload hx hb dX5_learn_150 (lv_at hl 0 rfl) ?_
                        refine jv_imul hx hb dX5_learn_152 ?_
                        refine jv_isub hx hb dX5_learn_153 ?_
                        refine lv_istore (lv' := [(5, .int (jI ((w3 b) - (g * (btw f1 s1 K a b))))), (4, .int (jI (btw f1 s1 K a b))), (3, .int (jI b)), (2, .int (jI mr)), (1, .int (jI a)), (0, .ref mo)]) hx hb dX5_learn_154 hl (by decide) rfl (fun ls hl => ?_)
                        refine lv_iload hx hb dX5_learn_156 (lv_at hl 0 rfl) ?_
                        refine lv_iload_n hx hb dX5_learn_158 rfl (lv_at hl 3 rfl) ?_
                        refine jv_icmp_le (tgt := 167) hx hb dX5_learn_159 rfl (by omega) (by omega) (fun c159 => ?_) (fun c159 => ?_)
                        · refine lv_iload_n hx hb dX5_learn_167 rfl (lv_at hl 3 rfl) ?_
                          refine lv_istore_n (lv' := [(2, .int (jI mr)), (5, .int (jI ((w3 b) - (g * (btw f1 s1 K a b))))), (4, .int (jI (btw f1 s1 K a b))), (3, .int (jI b)), (1, .int (jI a)), (0, .ref mo)]) hx hb dX5_learn_168 rfl hl (by decide) rfl (fun ls hl => ?_)
                          refine lv_iinc (k := 3) (v := jI (b + 1)) (lv' := [(3, .int (jI (b + 1))), (2, .int (jI mr)), (5, .int (jI ((w3 b) - (g * (btw f1 s1 K a b))))), (4, .int (jI (btw f1 s1 K a b))), (1, .int (jI a)), (0, .ref mo)]) hx hb dX5_learn_169 hl rfl (jI_add _ _) (by decide) rfl (fun ls hl => ?_)
                          refine lv_goto (tgt := 115) hx hb dX5_learn_172 rfl ?_
                          refine ih115 mr (b + 1) ls H locs (by omega) ?_ ?_ ?_ (lv_sub hl [0, 1, 4, 5] rfl) hP hD hS
                          · omega
                          · first
                              | omega
                              | (have h7 := btw_pos (show 0 ≤ btw f1 s1 K a b by omega); omega)
                          · exact moreIx_s (by omega) hmo (fun h5 => by omega) (fun h5 => by omega)
                        · refine lv_iload hx hb dX5_learn_162 (lv_at hl 0 rfl) ?_
                          refine lv_goto (tgt := 168) hx hb dX5_learn_164 rfl ?_
                          refine lv_istore_n (lv' := [(2, .int (jI ((w3 b) - (g * (btw f1 s1 K a b))))), (5, .int (jI ((w3 b) - (g * (btw f1 s1 K a b))))), (4, .int (jI (btw f1 s1 K a b))), (3, .int (jI b)), (1, .int (jI a)), (0, .ref mo)]) hx hb dX5_learn_168 rfl hl (by decide) rfl (fun ls hl => ?_)
                          refine lv_iinc (k := 3) (v := jI (b + 1)) (lv' := [(3, .int (jI (b + 1))), (2, .int (jI ((w3 b) - (g * (btw f1 s1 K a b))))), (5, .int (jI ((w3 b) - (g * (btw f1 s1 K a b))))), (4, .int (jI (btw f1 s1 K a b))), (1, .int (jI a)), (0, .ref mo)]) hx hb dX5_learn_169 hl rfl (jI_add _ _) (by decide) rfl (fun ls hl => ?_)
                          refine lv_goto (tgt := 115) hx hb dX5_learn_172 rfl ?_
                          refine ih115 ((w3 b) - (g * (btw f1 s1 K a b))) (b + 1) ls H locs (by omega) ?_ ?_ ?_ (lv_sub hl [0, 1, 4, 5] rfl) hP hD hS
                          · omega
                          · first
                              | omega
                              | (have h7 := btw_pos (show 0 ≤ btw f1 s1 K a b by omega); omega)
                          · exact moreIx_s (by omega) hmo (fun h5 => by omega) (fun h5 => by omega)
                      · refine lv_iconst (v := jI 0) hx hb dX5_learn_136 rfl ?_
                        refine lv_goto (tgt := 154) hx hb dX5_learn_137 rfl ?_
                        refine lv_istore (lv' := [(5, .int (jI 0)), (4, .int (jI (btw f1 s1 K a b))), (3, .int (jI b)), (2, .int (jI mr)), (1, .int (jI a)), (0, .ref mo)]) hx hb dX5_learn_154 hl (by decide) rfl (fun ls hl => ?_)
                        refine lv_iload hx hb dX5_learn_156 (lv_at hl 0 rfl) ?_
                        refine lv_iload_n hx hb dX5_learn_158 rfl (lv_at hl 3 rfl) ?_
                        refine jv_icmp_le (tgt := 167) hx hb dX5_learn_159 rfl (by omega) (by omega) (fun c159 => ?_) (fun c159 => ?_)
                        · refine lv_iload_n hx hb dX5_learn_167 rfl (lv_at hl 3 rfl) ?_
                          refine lv_istore_n (lv' := [(2, .int (jI mr)), (5, .int (jI 0)), (4, .int (jI (btw f1 s1 K a b))), (3, .int (jI b)), (1, .int (jI a)), (0, .ref mo)]) hx hb dX5_learn_168 rfl hl (by decide) rfl (fun ls hl => ?_)
                          refine lv_iinc (k := 3) (v := jI (b + 1)) (lv' := [(3, .int (jI (b + 1))), (2, .int (jI mr)), (5, .int (jI 0)), (4, .int (jI (btw f1 s1 K a b))), (1, .int (jI a)), (0, .ref mo)]) hx hb dX5_learn_169 hl rfl (jI_add _ _) (by decide) rfl (fun ls hl => ?_)
                          refine lv_goto (tgt := 115) hx hb dX5_learn_172 rfl ?_
                          refine ih115 mr (b + 1) ls H locs (by omega) ?_ ?_ ?_ (lv_sub hl [0, 1, 4, 5] rfl) hP hD hS
                          · omega
                          · first
                              | omega
                              | (have h7 := btw_pos (show 0 ≤ btw f1 s1 K a b by omega); omega)
                          · exact moreIx_s (by omega) hmo (fun h5 => by omega) (fun h5 => by omega)
                        · refine lv_iload hx hb dX5_learn_162 (lv_at hl 0 rfl) ?_
                          refine lv_goto (tgt := 168) hx hb dX5_learn_164 rfl ?_
                          refine lv_istore_n (lv' := [(2, .int (jI 0)), (5, .int (jI 0)), (4, .int (jI (btw f1 s1 K a b))), (3, .int (jI b)), (1, .int (jI a)), (0, .ref mo)]) hx hb dX5_learn_168 rfl hl (by decide) rfl (fun ls hl => ?_)
                          refine lv_iinc (k := 3) (v := jI (b + 1)) (lv' := [(3, .int (jI (b + 1))), (2, .int (jI 0)), (5, .int (jI 0)), (4, .int (jI (btw f1 s1 K a b))), (1, .int (jI a)), (0, .ref mo)]) hx hb dX5_learn_169 hl rfl (jI_add _ _) (by decide) rfl (fun ls hl => ?_)
                          refine lv_goto (tgt := 115) hx hb dX5_learn_172 rfl ?_
                          refine ih115 0 (b + 1) ls H locs (by omega) ?_ ?_ ?_ (lv_sub hl [0, 1, 4, 5] rfl) hP hD hS
                          · omega
                          · first
                              | omega
                              | (have h7 := btw_pos (show 0 ≤ btw f1 s1 K a b by omega); omega)
                          · exact moreIx_s (by omega) hmo (fun h5 => by omega) (fun h5 => by omega)
                refine lp115 (Int.toNat (fo1 - (a + 1)) + 1) 0 (a + 1) ls H locs (by omega) ?_ ?_ ?_ (lv_sub hl [0, 1, 2, 3] rfl) hP hD hS
                · omega
                · omega
                · exact moreIx_0
          refine lp105 (Int.toNat ((fo1 - 1) + 1) + 1) (fo1 - 1) 0 wf ls H locs (by omega) ?_ ?_ ?_ ?_ (lv_sub hl [0, 1] rfl) hP hD hS
          · omega
          · omega
          · intro q; omega
          · exact ⟨Int.le_refl _, fun q q0 q1 => by omega, Or.inl rfl⟩
        · refine lv_iconst (v := jI 0) hx hb dX5_learn_30 rfl ?_
          refine lv_istore_n (lv' := [(2, .int (jI 0)), (1, .int (jI i)), (0, .ref mo)]) hx hb dX5_learn_31 rfl hl (by decide) rfl (fun ls hl => ?_)
          have lp32 : ∀ (fu : Nat) (j : Int) (fo2 : Int) (f2 : Int → Int) (s2 : Int → Int) (ls : Array Slot) (H : Heap) (locs : List Loc), n1 - j < (fu : Int) → (0 ≤ j ∧ j ≤ n1) → (0 ≤ fo2 ∧ fo2 ≤ 48 * i + j) → (tabP (anc L0 L1 n0 n1 K) n1 i j f2 s2 fo2) → lv_has ls 6 [(2, .int (jI j)), (1, .int (jI i)), (0, .ref mo)] → va_P D cls [(mo, .inr (5, [.ref ml, .ref mn, .int (jI K), .int (jI g), .int (jI ga), .int (jI lo), .int (jI gp), .int (jI li), .ref mf, .ref mt, .ref mw, .int (jI fo2), .ref mk, .int (jI ln), .int (jI bs), .int (jI 1), .ref mz, .int (jI rd), .int (jI ep), .int (jI eq), .int (jI al), .int (jI fa)])), (ml, .inl (cA, 96, .inl (jA M))), (mn, .inl (cA, 2, .inl (jA N))), (mf, .inl (cA, 2304, .inl (jA f2))), (mt, .inl (cA, 2304, .inl (jA s2))), (mw, .inl (cA, 2304, .inl (jA wf))), (mk, .inl (cA, 48, .inl (jA lk)))] H → va_D A [(mo, .inr (5, [.ref ml, .ref mn, .int (jI K), .int (jI g), .int (jI ga), .int (jI lo), .int (jI gp), .int (jI li), .ref mf, .ref mt, .ref mw, .int (jI fo2), .ref mk, .int (jI ln), .int (jI bs), .int (jI 1), .ref mz, .int (jI rd), .int (jI ep), .int (jI eq), .int (jI al), .int (jI fa)])), (ml, .inl (cA, 96, .inl (jA M))), (mn, .inl (cA, 2, .inl (jA N))), (mf, .inl (cA, 2304, .inl (jA f2))), (mt, .inl (cA, 2304, .inl (jA s2))), (mw, .inl (cA, 2304, .inl (jA wf))), (mk, .inl (cA, 48, .inl (jA lk)))] → va_S A s.heap H locs → W p l e (rmk 1 0 0 24) s m args below meth c H locs 0 0 Q (F0 m 32 ls []) := by
            intro fu
            induction fu with
            | zero => intro j fo2 f2 s2 ls H locs hfu hj hfo2 ht2 hl hP hD hS; exfalso; omega
            | succ fu ih32 =>
              intro j fo2 f2 s2 ls H locs hfu hj hfo2 ht2 hl hP hD hS
              refine lv_iload_n hx hb dX5_learn_32 rfl (lv_at hl 0 rfl) ?_
              refine lv_aload_n hx hb dX5_learn_33 rfl (lv_at hl 2 rfl) ?_
              refine jv_get (v := .ref mn) F hP 0 rfl flX5_13 rfl dX5_learn_34 ?_
              refine lv_iconst (v := jI 1) hx hb dX5_learn_37 rfl ?_
              refine jv_iald (fa := N) F hP 2 rfl (by omega) (by decide) dX5_learn_38 ?_
              refine jv_icmp_ge (tgt := 87) hx hb dX5_learn_39 rfl (by omega) (by omega) (fun c39 => ?_) (fun c39 => ?_)
              · refine lv_iinc (k := 1) (v := jI (i + 1)) (lv' := [(1, .int (jI (i + 1))), (2, .int (jI j)), (0, .ref mo)]) hx hb dX5_learn_87 hl rfl (jI_add _ _) (by decide) rfl (fun ls hl => ?_)
                refine lv_goto (tgt := 20) hx hb dX5_learn_90 rfl ?_
                refine ih20 (i + 1) fo2 f2 s2 ls H locs (by omega) ?_ ?_ ?_ (lv_sub hl [0, 2] rfl) hP hD hS
                · omega
                · have h5 := (tabP_row anc_in hK.1 hi.1 (by omega : j = n1) ht2).1
                  have h6 := cnt_b (G := anc L0 L1 n0 n1 K) hn1.2 (i := i + 1) (j := 0) (by omega) (by omega)
                  omega
                · exact tabP_row anc_in hK.1 hi.1 (by omega) ht2
              · refine lv_aload_n hx hb dX5_learn_42 rfl (lv_at hl 2 rfl) ?_
                refine lv_iload_n hx hb dX5_learn_43 rfl (lv_at hl 1 rfl) ?_
                refine lv_iload_n hx hb dX5_learn_44 rfl (lv_at hl 0 rfl) ?_
                refine jr_V F (kX5_isAnchor l D cA mo ml mn mf mt mw mk mz K g ga lo gp li fo2 ln bs 1 rd ep eq al fa M N L0 L1 n0 n1 i j hn0 hn1 hL0 hL1 hN0 hN1 hM0 hM1 hK (by omega) (by omega)) cvX5_61 hP [0, 1, 2] rfl 0 rfl rfl hl ⟨rfl, rfl, by decide, by decide⟩ rfl rfl (Nat.le_of_ble_eq_true rfl) dX5_learn_45 ⟨by decide, by decide⟩ (fun v hv => ?_)
                subst hv
                have hb45 := jB_01 (anc L0 L1 n0 n1 K i j)
                refine jv_if_eq (tgt := 81) hx hb dX5_learn_48 rfl (by omega) (fun c48 => ?_) (fun c48 => ?_)
                · refine lv_iinc (k := 0) (v := jI (j + 1)) (lv' := [(2, .int (jI (j + 1))), (1, .int (jI i)), (0, .ref mo)]) hx hb dX5_learn_81 hl rfl (jI_add _ _) (by decide) rfl (fun ls hl => ?_)
                  refine lv_goto (tgt := 32) hx hb dX5_learn_84 rfl ?_
                  refine ih32 (j + 1) fo2 f2 s2 ls H locs (by omega) ?_ ?_ ?_ (lv_sub hl [0, 1, 2] rfl) hP hD hS
                  · omega
                  · omega
                  · first
                      | exact tabP_yes hj.1 ht2 (jB_1 c48)
                      | exact tabP_no hj.1 ht2 (jB_0 c48)
                · refine lv_aload_n hx hb dX5_learn_51 rfl (lv_at hl 2 rfl) ?_
                  refine jv_get (v := .ref mf) F hP 0 rfl flX5_35 rfl dX5_learn_52 ?_
                  refine lv_aload_n hx hb dX5_learn_55 rfl (lv_at hl 2 rfl) ?_
                  refine jv_get (v := .int (jI fo2)) F hP 0 rfl flX5_58 rfl dX5_learn_56 ?_
                  refine lv_iload_n hx hb dX5_learn_59 rfl (lv_at hl 1 rfl) ?_
                  refine jv_iast (fa := f2) F hP hD hS 3 rfl (by omega) (by decide) dX5_learn_60 (fun H locs hP hD hS => ?_)
                  have hP : va_P D cls [(mo, .inr (5, [.ref ml, .ref mn, .int (jI K), .int (jI g), .int (jI ga), .int (jI lo), .int (jI gp), .int (jI li), .ref mf, .ref mt, .ref mw, .int (jI fo2), .ref mk, .int (jI ln), .int (jI bs), .int (jI 1), .ref mz, .int (jI rd), .int (jI ep), .int (jI eq), .int (jI al), .int (jI fa)])), (ml, .inl (cA, 96, .inl (jA M))), (mn, .inl (cA, 2, .inl (jA N))), (mf, .inl (cA, 2304, .inl (jA (jU f2 fo2 i)))), (mt, .inl (cA, 2304, .inl (jA s2))), (mw, .inl (cA, 2304, .inl (jA wf))), (mk, .inl (cA, 48, .inl (jA lk)))] H := hP
                  have hD : va_D A [(mo, .inr (5, [.ref ml, .ref mn, .int (jI K), .int (jI g), .int (jI ga), .int (jI lo), .int (jI gp), .int (jI li), .ref mf, .ref mt, .ref mw, .int (jI fo2), .ref mk, .int (jI ln), .int (jI bs), .int (jI 1), .ref mz, .int (jI rd), .int (jI ep), .int (jI eq), .int (jI al), .int (jI fa)])), (ml, .inl (cA, 96, .inl (jA M))), (mn, .inl (cA, 2, .inl (jA N))), (mf, .inl (cA, 2304, .inl (jA (jU f2 fo2 i)))), (mt, .inl (cA, 2304, .inl (jA s2))), (mw, .inl (cA, 2304, .inl (jA wf))), (mk, .inl (cA, 48, .inl (jA lk)))] := hD
                  refine lv_aload_n hx hb dX5_learn_61 rfl (lv_at hl 2 rfl) ?_
                  refine jv_get (v := .ref mt) F hP 0 rfl flX5_38 rfl dX5_learn_62 ?_
                  refine lv_aload_n hx hb dX5_learn_65 rfl (lv_at hl 2 rfl) ?_
                  refine jv_get (v := .int (jI fo2)) F hP 0 rfl flX5_58 rfl dX5_learn_66 ?_
                  refine lv_iload_n hx hb dX5_learn_69 rfl (lv_at hl 0 rfl) ?_
                  refine jv_iast (fa := s2) F hP hD hS 4 rfl (by omega) (by decide) dX5_learn_70 (fun H locs hP hD hS => ?_)
                  have hP : va_P D cls [(mo, .inr (5, [.ref ml, .ref mn, .int (jI K), .int (jI g), .int (jI ga), .int (jI lo), .int (jI gp), .int (jI li), .ref mf, .ref mt, .ref mw, .int (jI fo2), .ref mk, .int (jI ln), .int (jI bs), .int (jI 1), .ref mz, .int (jI rd), .int (jI ep), .int (jI eq), .int (jI al), .int (jI fa)])), (ml, .inl (cA, 96, .inl (jA M))), (mn, .inl (cA, 2, .inl (jA N))), (mf, .inl (cA, 2304, .inl (jA (jU f2 fo2 i)))), (mt, .inl (cA, 2304, .inl (jA (jU s2 fo2 j)))), (mw, .inl (cA, 2304, .inl (jA wf))), (mk, .inl (cA, 48, .inl (jA lk)))] H := hP
                  have hD : va_D A [(mo, .inr (5, [.ref ml, .ref mn, .int (jI K), .int (jI g), .int (jI ga), .int (jI lo), .int (jI gp), .int (jI li), .ref mf, .ref mt, .ref mw, .int (jI fo2), .ref mk, .int (jI ln), .int (jI bs), .int (jI 1), .ref mz, .int (jI rd), .int (jI ep), .int (jI eq), .int (jI al), .int (jI fa)])), (ml, .inl (cA, 96, .inl (jA M))), (mn, .inl (cA, 2, .inl (jA N))), (mf, .inl (cA, 2304, .inl (jA (jU f2 fo2 i)))), (mt, .inl (cA, 2304, .inl (jA (jU s2 fo2 j)))), (mw, .inl (cA, 2304, .inl (jA wf))), (mk, .inl (cA, 48, .inl (jA lk)))] := hD
                  refine lv_aload_n hx hb dX5_learn_71 rfl (lv_at hl 2 rfl) ?_
                  refine lv_dup hx hb dX5_learn_72 rfl ?_
                  refine jv_get (v := .int (jI fo2)) F hP 0 rfl flX5_58 rfl dX5_learn_73 ?_
                  refine lv_iconst (v := jI 1) hx hb dX5_learn_76 rfl ?_
                  refine jv_iadd hx hb dX5_learn_77 ?_
                  refine jv_put (v := .int (jI (fo2 + 1))) F hP hD hS 0 rfl flX5_58 pfX5 (by decide +kernel) rfl rfl (Nat.le_of_ble_eq_true rfl) dX5_learn_78 (fun H locs hP hD hS => ?_)
                  have hP : va_P D cls [(mo, .inr (5, [.ref ml, .ref mn, .int (jI K), .int (jI g), .int (jI ga), .int (jI lo), .int (jI gp), .int (jI li), .ref mf, .ref mt, .ref mw, .int (jI (fo2 + 1)), .ref mk, .int (jI ln), .int (jI bs), .int (jI 1), .ref mz, .int (jI rd), .int (jI ep), .int (jI eq), .int (jI al), .int (jI fa)])), (ml, .inl (cA, 96, .inl (jA M))), (mn, .inl (cA, 2, .inl (jA N))), (mf, .inl (cA, 2304, .inl (jA (jU f2 fo2 i)))), (mt, .inl (cA, 2304, .inl (jA (jU s2 fo2 j)))), (mw, .inl (cA, 2304, .inl (jA wf))), (mk, .inl (cA, 48, .inl (jA lk)))] H := hP
                  have hD : va_D A [(mo, .inr (5, [.ref ml, .ref mn, .int (jI K), .int (jI g), .int (jI ga), .int (jI lo), .int (jI gp), .int (jI li), .ref mf, .ref mt, .ref mw, .int (jI (fo2 + 1)), .ref mk, .int (jI ln), .int (jI bs), .int (jI 1), .ref mz, .int (jI rd), .int (jI ep), .int (jI eq), .int (jI al), .int (jI fa)])), (ml, .inl (cA, 96, .inl (jA M))), (mn, .inl (cA, 2, .inl (jA N))), (mf, .inl (cA, 2304, .inl (jA (jU f2 fo2 i)))), (mt, .inl (cA, 2304, .inl (jA (jU s2 fo2 j)))), (mw, .inl (cA, 2304, .inl (jA wf))), (mk, .inl (cA, 48, .inl (jA lk)))] := hD
                  refine lv_iinc (k := 0) (v := jI (j + 1)) (lv' := [(2, .int (jI (j + 1))), (1, .int (jI i)), (0, .ref mo)]) hx hb dX5_learn_81 hl rfl (jI_add _ _) (by decide) rfl (fun ls hl => ?_)
                  refine lv_goto (tgt := 32) hx hb dX5_learn_84 rfl ?_
                  refine ih32 (j + 1) (fo2 + 1) (jU f2 fo2 i) (jU s2 fo2 j) ls H locs (by omega) ?_ ?_ ?_ (lv_sub hl [0, 1, 2] rfl) hP hD hS
                  · omega
                  · omega
                  · first
                      | exact tabP_yes hj.1 ht2 (jB_1 c48)
                      | exact tabP_no hj.1 ht2 (jB_0 c48)
          refine lp32 (Int.toNat (n1 - 0) + 1) 0 fo1 f1 s1 ls H locs (by omega) ?_ ?_ ?_ (lv_sub hl [0, 1, 2] rfl) hP hD hS
          · omega
          · omega
          · exact ht
    refine lp20 (Int.toNat (n0 - 0) + 1) 0 0 f sf ls H locs (by omega) ?_ ?_ ?_ (lv_sub hl [0, 1] rfl) hP hD hS
    · omega
    · omega
    · exact tabP_0 anc_in _ _
  · exfalso
    omega
set_option maxHeartbeats 4000000 in
set_option maxRecDepth 100000 in
theorem kX5_learn_1 (l : Launch) (D : va_G) (cA : ClassId) (mo ml mn mf mt mw mk mz : Nat) (K g ga lo gp li fo ln bs rd ep eq al fa : Int) (M N L0 L1 : Int → Int) (n0 n1 : Int) (f sf wf lk : Int → Int) (hn0 : 0 ≤ n0 ∧ n0 ≤ 48) (hn1 : 0 ≤ n1 ∧ n1 ≤ 48) (hL0 : ∀ x, 0 ≤ L0 x ∧ L0 x ≤ 3) (hL1 : ∀ x, 0 ≤ L1 x ∧ L1 x ≤ 3) (hN0 : N 0 = n0) (hN1 : N 1 = n1) (hM0 : ∀ x, 0 ≤ x → x < 48 → M x = L0 x) (hM1 : ∀ x, 0 ≤ x → x < 48 → M (48 + x) = L1 x) (hK : 1 ≤ K ∧ K ≤ 6) (hg : 0 ≤ g ∧ g ≤ 9) (hkn : knw (anc L0 L1 n0 n1 K) n0 n1 K g f sf fo lk ln bs) : jM l YX5_learn (rmk 1 0 0 24) D cA [.ref mo] [(mo, .inr (5, [.ref ml, .ref mn, .int (jI K), .int (jI g), .int (jI ga), .int (jI lo), .int (jI gp), .int (jI li), .ref mf, .ref mt, .ref mw, .int (jI fo), .ref mk, .int (jI ln), .int (jI bs), .int (jI 1), .ref mz, .int (jI rd), .int (jI ep), .int (jI eq), .int (jI al), .int (jI fa)])), (ml, .inl (cA, 96, .inl (jA M))), (mn, .inl (cA, 2, .inl (jA N))), (mf, .inl (cA, 2304, .inl (jA f))), (mt, .inl (cA, 2304, .inl (jA sf))), (mw, .inl (cA, 2304, .inl (jA wf))), (mk, .inl (cA, 48, .inl (jA lk)))] (fun v w => v = none ∧ ∃ (f2 s2 w2 k2 : Int → Int) (fo2 ln2 bs2 : Int), knw (anc L0 L1 n0 n1 K) n0 n1 K g f2 s2 fo2 k2 ln2 bs2 ∧ w = [(mo, .inr (5, [.ref ml, .ref mn, .int (jI K), .int (jI g), .int (jI ga), .int (jI lo), .int (jI gp), .int (jI li), .ref mf, .ref mt, .ref mw, .int (jI fo2), .ref mk, .int (jI ln2), .int (jI bs2), .int (jI 1), .ref mz, .int (jI rd), .int (jI ep), .int (jI eq), .int (jI al), .int (jI fa)])), (ml, .inl (cA, 96, .inl (jA M))), (mn, .inl (cA, 2, .inl (jA N))), (mf, .inl (cA, 2304, .inl (jA f2))), (mt, .inl (cA, 2304, .inl (jA s2))), (mw, .inl (cA, 2304, .inl (jA w2))), (mk, .inl (cA, 48, .inl (jA k2)))]) 0 0 := by
  refine jM.intro (by decide +kernel) (Nat.le_of_ble_eq_true rfl) ?_
  intro p e s m args below meth c ls Q A F hQ hA hP hD hS hl
  have hx := F.1
  have hb := F.2.1
  have hl : lv_has ls 6 [(0, .ref mo)] := hl
  refine lv_aload_n hx hb dX5_learn_0 rfl (lv_at hl 0 rfl) ?_
  refine jv_get (v := .int (jI 1)) F hP 0 rfl flX5_54 rfl dX5_learn_1 ?_
  refine jv_if_eq (tgt := 8) hx hb dX5_learn_4 rfl (by omega) (fun c4 => ?_) (fun c4 => ?_)
  · exfalso
    omega
  · exact jM.rv F hQ rfl dX5_learn_7 hS hP hD (by exact ⟨rfl, _, _, _, _, _, _, _, hkn, rfl⟩)
end
section
/-- a statement that arithmetic needn't look into -/
def hid (P : Prop) : Prop := P
theorem hid_i {P : Prop} (h : P) : hid P := h
set_option maxHeartbeats 4000000 in
set_option maxRecDepth 100000 in
theorem kX5_reach (l : Launch) (D : va_G) (cA : ClassId) (mo ml mn mf mt mw mk mz : Nat) (K g ga lo gp li fo ln bs kn rd ep eq al fa : Int) (M N L0 L1 : Int → Int) (n0 n1 : Int) (sc : Int → Int) (i j : Int) (hn0 : 0 ≤ n0 ∧ n0 ≤ 48) (hn1 : 0 ≤ n1 ∧ n1 ≤ 48) (hL0 : ∀ x, 0 ≤ L0 x ∧ L0 x ≤ 3) (hL1 : ∀ x, 0 ≤ L1 x ∧ L1 x ≤ 3) (hN0 : N 0 = n0) (hN1 : N 1 = n1) (hM0 : ∀ x, 0 ≤ x → x < 48 → M x = L0 x) (hM1 : ∀ x, 0 ≤ x → x < 48 → M (48 + x) = L1 x) (hi0 : -2147483648 ≤ i ∧ i < 2147483648) (hj0 : -2147483648 ≤ j ∧ j < 2147483648) (hga : 1 ≤ ga ∧ ga ≤ 9) (hlo : 0 ≤ lo ∧ lo ≤ 9) (hgp : 1 ≤ gp ∧ gp ≤ 9) (hli : 0 ≤ li ∧ li ≤ 99) : jM l YX5_reach (rmk 1 0 0 22) D cA [.ref mo, .int (jI i), .int (jI j)] [(mo, .inr (5, [.ref ml, .ref mn, .int (jI K), .int (jI g), .int (jI ga), .int (jI lo), .int (jI gp), .int (jI li), .ref mf, .ref mt, .ref mw, .int (jI fo), .ref mk, .int (jI ln), .int (jI bs), .int (jI kn), .ref mz, .int (jI rd), .int (jI ep), .int (jI eq), .int (jI al), .int (jI fa)])), (ml, .inl (cA, 96, .inl (jA M))), (mn, .inl (cA, 2, .inl (jA N))), (mz, .inl (cA, 2401, .inl (jA sc)))] (fun v w => (((0 ≤ i ∧ i ≤ n0) ∧ (0 ≤ j ∧ j ≤ n1)) ∧ v = some (.int (jI ((Zi (smv L0 L1 i j ga lo) (n0 - i) (n1 - j) gp li (n0 - i + (n1 - j))).2.2.1))) ∧ ∃ k9 : Int → Int, w = [(mo, .inr (5, [.ref ml, .ref mn, .int (jI K), .int (jI g), .int (jI ga), .int (jI lo), .int (jI gp), .int (jI li), .ref mf, .ref mt, .ref mw, .int (jI fo), .ref mk, .int (jI ln), .int (jI bs), .int (jI kn), .ref mz, .int (jI 1), .int (jI ((Zi (smv L0 L1 i j ga lo) (n0 - i) (n1 - j) gp li (n0 - i + (n1 - j))).2.2.2.1)), .int (jI ((Zi (smv L0 L1 i j ga lo) (n0 - i) (n1 - j) gp li (n0 - i + (n1 - j))).2.2.2.2.1)), .int (jI ((Zi (smv L0 L1 i j ga lo) (n0 - i) (n1 - j) gp li (n0 - i + (n1 - j))).2.2.2.2.2.1)), .int (jI ((Zi (smv L0 L1 i j ga lo) (n0 - i) (n1 - j) gp li (n0 - i + (n1 - j))).2.2.2.2.2.2))])), (ml, .inl (cA, 96, .inl (jA M))), (mn, .inl (cA, 2, .inl (jA N))), (mz, .inl (cA, 2401, .inl (jA k9)))]) ∨ (¬ ((0 ≤ i ∧ i ≤ n0) ∧ (0 ≤ j ∧ j ≤ n1)) ∧ v = some (.int (jI (-1))) ∧ w = [(mo, .inr (5, [.ref ml, .ref mn, .int (jI K), .int (jI g), .int (jI ga), .int (jI lo), .int (jI gp), .int (jI li), .ref mf, .ref mt, .ref mw, .int (jI fo), .ref mk, .int (jI ln), .int (jI bs), .int (jI kn), .ref mz, .int (jI rd), .int (jI ep), .int (jI eq), .int (jI al), .int (jI fa)])), (ml, .inl (cA, 96, .inl (jA M))), (mn, .inl (cA, 2, .inl (jA N))), (mz, .inl (cA, 2401, .inl (jA sc)))])) 0 0 := by
  refine jM.intro (by decide +kernel) (Nat.le_of_ble_eq_true rfl) ?_
  intro p e s m args below meth c ls Q A F hQ hA hP hD hS hl
  have hx := F.1
  have hb := F.2.1
  have hl : lv_has ls 12 [(0, .ref mo), (1, .int (jI i)), (2, .int (jI j))] := hl
  refine lv_iload_n hx hb dX5_reach_0 rfl (lv_at hl 1 rfl) ?_
  refine jv_if_lt (tgt := 28) hx hb dX5_reach_1 rfl (by omega) (fun c1 => ?_) (fun c1 => ?_)
  · refine lv_iconst (v := jI (-1)) hx hb dX5_reach_28 rfl ?_
    exact jM.ri F hQ rfl dX5_reach_29 hS hP hD (by exact Or.inr ⟨by omega, rfl, rfl⟩)
  · refine lv_iload_n hx hb dX5_reach_4 rfl (lv_at hl 2 rfl) ?_
    refine jv_if_lt (tgt := 28) hx hb dX5_reach_5 rfl (by omega) (fun c5 => ?_) (fun c5 => ?_)
    · refine lv_iconst (v := jI (-1)) hx hb dX5_reach_28 rfl ?_
      exact jM.ri F hQ rfl dX5_reach_29 hS hP hD (by exact Or.inr ⟨by omega, rfl, rfl⟩)
    · refine lv_iload_n hx hb dX5_reach_8 rfl (lv_at hl 1 rfl) ?_
      refine lv_aload_n hx hb dX5_reach_9 rfl (lv_at hl 0 rfl) ?_
      refine jv_get (v := .ref mn) F hP 0 rfl flX5_13 rfl dX5_reach_10 ?_
      refine lv_iconst (v := jI 0) hx hb dX5_reach_13 rfl ?_
      refine jv_iald (fa := N) F hP 2 rfl (by omega) (by decide) dX5_reach_14 ?_
      refine jv_icmp_gt (tgt := 28) hx hb dX5_reach_15 rfl (by omega) (by omega) (fun c15 => ?_) (fun c15 => ?_)
      · refine lv_iconst (v := jI (-1)) hx hb dX5_reach_28 rfl ?_
        exact jM.ri F hQ rfl dX5_reach_29 hS hP hD (by exact Or.inr ⟨by omega, rfl, rfl⟩)
      · refine lv_iload_n hx hb dX5_reach_18 rfl (lv_at hl 2 rfl) ?_
        refine lv_aload_n hx hb dX5_reach_19 rfl (lv_at hl 0 rfl) ?_
        refine jv_get (v := .ref mn) F hP 0 rfl flX5_13 rfl dX5_reach_20 ?_
        refine lv_iconst (v := jI 1) hx hb dX5_reach_23 rfl ?_
        refine jv_iald (fa := N) F hP 2 rfl (by omega) (by decide) dX5_reach_24 ?_
        refine jv_icmp_le (tgt := 30) hx hb dX5_reach_25 rfl (by omega) (by omega) (fun c25 => ?_) (fun c25 => ?_)
        · refine lv_aload_n hx hb dX5_reach_30 rfl (lv_at hl 0 rfl) ?_
          refine jv_get (v := .ref mn) F hP 0 rfl flX5_13 rfl dX5_reach_31 ?_
          refine lv_iconst (v := jI 0) hx hb dX5_reach_34 rfl ?_
          refine jv_iald (fa := N) F hP 2 rfl (by omega) (by decide) dX5_reach_35 ?_
          refine lv_iload_n hx hb dX5_reach_36 rfl (lv_at hl 1 rfl) ?_
          refine jv_isub hx hb dX5_reach_37 ?_
          refine lv_istore_n (lv' := [(3, .int (jI ((N 0) - i))), (0, .ref mo), (1, .int (jI i)), (2, .int (jI j))]) hx hb dX5_reach_38 rfl hl (by decide) rfl (fun ls hl => ?_)
          refine lv_aload_n hx hb dX5_reach_39 rfl (lv_at hl 1 rfl) ?_
          refine jv_get (v := .ref mn) F hP 0 rfl flX5_13 rfl dX5_reach_40 ?_
          refine lv_iconst (v := jI 1) hx hb dX5_reach_43 rfl ?_
          refine jv_iald (fa := N) F hP 2 rfl (by omega) (by decide) dX5_reach_44 ?_
          refine lv_iload_n hx hb dX5_reach_45 rfl (lv_at hl 3 rfl) ?_
          refine jv_isub hx hb dX5_reach_46 ?_
          refine lv_istore (lv' := [(4, .int (jI ((N 1) - j))), (3, .int (jI ((N 0) - i))), (0, .ref mo), (1, .int (jI i)), (2, .int (jI j))]) hx hb dX5_reach_47 hl (by decide) rfl (fun ls hl => ?_)
          refine lv_aload_n hx hb dX5_reach_49 rfl (lv_at hl 2 rfl) ?_
          refine lv_iconst (v := jI 1) hx hb dX5_reach_50 rfl ?_
          refine jv_put (v := .int (jI 1)) F hP hD hS 0 rfl flX5_79 pfX5 (by decide +kernel) (by decide +kernel) (by decide +kernel) (Nat.le_of_ble_eq_true rfl) dX5_reach_51 (fun H locs hP hD hS => ?_)
          have hP : va_P D cls [(mo, .inr (5, [.ref ml, .ref mn, .int (jI K), .int (jI g), .int (jI ga), .int (jI lo), .int (jI gp), .int (jI li), .ref mf, .ref mt, .ref mw, .int (jI fo), .ref mk, .int (jI ln), .int (jI bs), .int (jI kn), .ref mz, .int (jI 1), .int (jI ep), .int (jI eq), .int (jI al), .int (jI fa)])), (ml, .inl (cA, 96, .inl (jA M))), (mn, .inl (cA, 2, .inl (jA N))), (mz, .inl (cA, 2401, .inl (jA sc)))] H := hP
          have hD : va_D A [(mo, .inr (5, [.ref ml, .ref mn, .int (jI K), .int (jI g), .int (jI ga), .int (jI lo), .int (jI gp), .int (jI li), .ref mf, .ref mt, .ref mw, .int (jI fo), .ref mk, .int (jI ln), .int (jI bs), .int (jI kn), .ref mz, .int (jI 1), .int (jI ep), .int (jI eq), .int (jI al), .int (jI fa)])), (ml, .inl (cA, 96, .inl (jA M))), (mn, .inl (cA, 2, .inl (jA N))), (mz, .inl (cA, 2401, .inl (jA sc)))] := hD
          refine lv_aload_n hx hb dX5_reach_54 rfl (lv_at hl 2 rfl) ?_
          refine lv_iconst (v := jI 0) hx hb dX5_reach_55 rfl ?_
          refine jv_put (v := .int (jI 0)) F hP hD hS 0 rfl flX5_82 pfX5 (by decide +kernel) rfl rfl (Nat.le_of_ble_eq_true rfl) dX5_reach_56 (fun H locs hP hD hS => ?_)
          have hP : va_P D cls [(mo, .inr (5, [.ref ml, .ref mn, .int (jI K), .int (jI g), .int (jI ga), .int (jI lo), .int (jI gp), .int (jI li), .ref mf, .ref mt, .ref mw, .int (jI fo), .ref mk, .int (jI ln), .int (jI bs), .int (jI kn), .ref mz, .int (jI 1), .int (jI 0), .int (jI eq), .int (jI al), .int (jI fa)])), (ml, .inl (cA, 96, .inl (jA M))), (mn, .inl (cA, 2, .inl (jA N))), (mz, .inl (cA, 2401, .inl (jA sc)))] H := hP
          have hD : va_D A [(mo, .inr (5, [.ref ml, .ref mn, .int (jI K), .int (jI g), .int (jI ga), .int (jI lo), .int (jI gp), .int (jI li), .ref mf, .ref mt, .ref mw, .int (jI fo), .ref mk, .int (jI ln), .int (jI bs), .int (jI kn), .ref mz, .int (jI 1), .int (jI 0), .int (jI eq), .int (jI al), .int (jI fa)])), (ml, .inl (cA, 96, .inl (jA M))), (mn, .inl (cA, 2, .inl (jA N))), (mz, .inl (cA, 2401, .inl (jA sc)))] := hD
          refine lv_aload_n hx hb dX5_reach_59 rfl (lv_at hl 2 rfl) ?_
          refine lv_iconst (v := jI 0) hx hb dX5_reach_60 rfl ?_
          refine jv_put (v := .int (jI 0)) F hP hD hS 0 rfl flX5_85 pfX5 (by decide +kernel) rfl rfl (Nat.le_of_ble_eq_true rfl) dX5_reach_61 (fun H locs hP hD hS => ?_)
          have hP : va_P D cls [(mo, .inr (5, [.ref ml, .ref mn, .int (jI K), .int (jI g), .int (jI ga), .int (jI lo), .int (jI gp), .int (jI li), .ref mf, .ref mt, .ref mw, .int (jI fo), .ref mk, .int (jI ln), .int (jI bs), .int (jI kn), .ref mz, .int (jI 1), .int (jI 0), .int (jI 0), .int (jI al), .int (jI fa)])), (ml, .inl (cA, 96, .inl (jA M))), (mn, .inl (cA, 2, .inl (jA N))), (mz, .inl (cA, 2401, .inl (jA sc)))] H := hP
          have hD : va_D A [(mo, .inr (5, [.ref ml, .ref mn, .int (jI K), .int (jI g), .int (jI ga), .int (jI lo), .int (jI gp), .int (jI li), .ref mf, .ref mt, .ref mw, .int (jI fo), .ref mk, .int (jI ln), .int (jI bs), .int (jI kn), .ref mz, .int (jI 1), .int (jI 0), .int (jI 0), .int (jI al), .int (jI fa)])), (ml, .inl (cA, 96, .inl (jA M))), (mn, .inl (cA, 2, .inl (jA N))), (mz, .inl (cA, 2401, .inl (jA sc)))] := hD
          refine lv_aload_n hx hb dX5_reach_64 rfl (lv_at hl 2 rfl) ?_
          refine lv_iconst (v := jI 1) hx hb dX5_reach_65 rfl ?_
          refine jv_put (v := .int (jI 1)) F hP hD hS 0 rfl flX5_88 pfX5 (by decide +kernel) rfl rfl (Nat.le_of_ble_eq_true rfl) dX5_reach_66 (fun H locs hP hD hS => ?_)
          have hP : va_P D cls [(mo, .inr (5, [.ref ml, .ref mn, .int (jI K), .int (jI g), .int (jI ga), .int (jI lo), .int (jI gp), .int (jI li), .ref mf, .ref mt, .ref mw, .int (jI fo), .ref mk, .int (jI ln), .int (jI bs), .int (jI kn), .ref mz, .int (jI 1), .int (jI 0), .int (jI 0), .int (jI 1), .int (jI fa)])), (ml, .inl (cA, 96, .inl (jA M))), (mn, .inl (cA, 2, .inl (jA N))), (mz, .inl (cA, 2401, .inl (jA sc)))] H := hP
          have hD : va_D A [(mo, .inr (5, [.ref ml, .ref mn, .int (jI K), .int (jI g), .int (jI ga), .int (jI lo), .int (jI gp), .int (jI li), .ref mf, .ref mt, .ref mw, .int (jI fo), .ref mk, .int (jI ln), .int (jI bs), .int (jI kn), .ref mz, .int (jI 1), .int (jI 0), .int (jI 0), .int (jI 1), .int (jI fa)])), (ml, .inl (cA, 96, .inl (jA M))), (mn, .inl (cA, 2, .inl (jA N))), (mz, .inl (cA, 2401, .inl (jA sc)))] := hD
          refine lv_aload_n hx hb dX5_reach_69 rfl (lv_at hl 2 rfl) ?_
          refine lv_iconst (v := jI 0) hx hb dX5_reach_70 rfl ?_
          refine jv_put (v := .int (jI 0)) F hP hD hS 0 rfl flX5_91 pfX5 (by decide +kernel) rfl rfl (Nat.le_of_ble_eq_true rfl) dX5_reach_71 (fun H locs hP hD hS => ?_)
          have hP : va_P D cls [(mo, .inr (5, [.ref ml, .ref mn, .int (jI K), .int (jI g), .int (jI ga), .int (jI lo), .int (jI gp), .int (jI li), .ref mf, .ref mt, .ref mw, .int (jI fo), .ref mk, .int (jI ln), .int (jI bs), .int (jI kn), .ref mz, .int (jI 1), .int (jI 0), .int (jI 0), .int (jI 1), .int (jI 0)])), (ml, .inl (cA, 96, .inl (jA M))), (mn, .inl (cA, 2, .inl (jA N))), (mz, .inl (cA, 2401, .inl (jA sc)))] H := hP
          have hD : va_D A [(mo, .inr (5, [.ref ml, .ref mn, .int (jI K), .int (jI g), .int (jI ga), .int (jI lo), .int (jI gp), .int (jI li), .ref mf, .ref mt, .ref mw, .int (jI fo), .ref mk, .int (jI ln), .int (jI bs), .int (jI kn), .ref mz, .int (jI 1), .int (jI 0), .int (jI 0), .int (jI 1), .int (jI 0)])), (ml, .inl (cA, 96, .inl (jA M))), (mn, .inl (cA, 2, .inl (jA N))), (mz, .inl (cA, 2401, .inl (jA sc)))] := hD
          refine lv_iconst (v := jI 0) hx hb dX5_reach_74 rfl ?_
          refine lv_istore (lv' := [(5, .int (jI 0)), (4, .int (jI ((N 1) - j))), (3, .int (jI ((N 0) - i))), (0, .ref mo), (1, .int (jI i)), (2, .int (jI j))]) hx hb dX5_reach_75 hl (by decide) rfl (fun ls hl => ?_)
          refine lv_iconst (v := jI 0) hx hb dX5_reach_77 rfl ?_
          refine lv_istore (lv' := [(6, .int (jI 0)), (5, .int (jI 0)), (4, .int (jI ((N 1) - j))), (3, .int (jI ((N 0) - i))), (0, .ref mo), (1, .int (jI i)), (2, .int (jI j))]) hx hb dX5_reach_78 hl (by decide) rfl (fun ls hl => ?_)
          have lp80 : ∀ (fu : Nat) (d : Int) (u : acc) (sc1 : Int → Int) (ls : Array Slot) (H : Heap) (locs : List Loc), n0 - i + (n1 - j) + 1 - d < (fu : Int) → (0 ≤ d ∧ d ≤ n0 - i + (n1 - j) + 1) → (u = (Zi (smv L0 L1 i j ga lo) (n0 - i) (n1 - j) gp li (d - 1)).2.2) → (∀ x y, 0 ≤ x → x ≤ n0 - i → 0 ≤ y → y ≤ n1 - j → x + y < d → sc1 (49 * x + y) = (Zi (smv L0 L1 i j ga lo) (n0 - i) (n1 - j) gp li (x + y)).2.1 x) → lv_has ls 12 [(6, .int (jI d)), (5, .int (jI u.1)), (4, .int (jI ((N 1) - j))), (3, .int (jI ((N 0) - i))), (0, .ref mo), (1, .int (jI i)), (2, .int (jI j))] → va_P D cls [(mo, .inr (5, [.ref ml, .ref mn, .int (jI K), .int (jI g), .int (jI ga), .int (jI lo), .int (jI gp), .int (jI li), .ref mf, .ref mt, .ref mw, .int (jI fo), .ref mk, .int (jI ln), .int (jI bs), .int (jI kn), .ref mz, .int (jI 1), .int (jI u.2.1), .int (jI u.2.2.1), .int (jI u.2.2.2.1), .int (jI u.2.2.2.2)])), (ml, .inl (cA, 96, .inl (jA M))), (mn, .inl (cA, 2, .inl (jA N))), (mz, .inl (cA, 2401, .inl (jA sc1)))] H → va_D A [(mo, .inr (5, [.ref ml, .ref mn, .int (jI K), .int (jI g), .int (jI ga), .int (jI lo), .int (jI gp), .int (jI li), .ref mf, .ref mt, .ref mw, .int (jI fo), .ref mk, .int (jI ln), .int (jI bs), .int (jI kn), .ref mz, .int (jI 1), .int (jI u.2.1), .int (jI u.2.2.1), .int (jI u.2.2.2.1), .int (jI u.2.2.2.2)])), (ml, .inl (cA, 96, .inl (jA M))), (mn, .inl (cA, 2, .inl (jA N))), (mz, .inl (cA, 2401, .inl (jA sc1)))] → va_S A s.heap H locs → W p l e (rmk 1 0 0 22) s m args below meth c H locs 0 0 Q (F0 m 80 ls []) := by
            intro fu
            induction fu with
            | zero => intro d u sc1 ls H locs hfu hd hu hsc hl hP hD hS; exfalso; omega
            | succ fu ih80 =>
              intro d u sc1 ls H locs hfu hd hu hsc hl hP hD hS
              have hzi : ZI (n0 - i) (n1 - j) (max 0 (d - 1)) (Zi (smv L0 L1 i j ga lo) (n0 - i) (n1 - j) gp li (d - 1)) := by
                by_cases h5 : d = 0
                · have h6 := Zi_I (smv_b (L0 := L0) (L1 := L1) (i := i) (j := j) hga hlo) hgp hli (P := n0 - i) (Q := n1 - j) (by omega) (by omega) (d := 0) (by omega) (by omega)
                  rw [h5]
                  exact h6
                · have h6 := Zi_I (smv_b (L0 := L0) (L1 := L1) (i := i) (j := j) hga hlo) hgp hli (P := n0 - i) (Q := n1 - j) (by omega) (by omega) (d := d - 1) (by omega) (by omega)
                  rw [show max 0 (d - 1) = d - 1 by omega]
                  exact h6
              have hub : 0 ≤ u.1 ∧ u.1 ≤ 900 := by rw [hu]; exact (zi_b hzi (by omega)).2.2
              have hu0 : d = 0 → u.1 = 0 := by
                intro h5
                rw [hu, h5]
                rfl
              have hZs : 1 ≤ d → (Zi (smv L0 L1 i j ga lo) (n0 - i) (n1 - j) gp li d) = ((Zi (smv L0 L1 i j ga lo) (n0 - i) (n1 - j) gp li (d - 1)).2.1, nx (smv L0 L1 i j ga lo) (n0 - i) (n1 - j) gp li d u.1 (Zi (smv L0 L1 i j ga lo) (n0 - i) (n1 - j) gp li (d - 1)).2.1 (Zi (smv L0 L1 i j ga lo) (n0 - i) (n1 - j) gp li (d - 1)).1, rA (nx (smv L0 L1 i j ga lo) (n0 - i) (n1 - j) gp li d u.1 (Zi (smv L0 L1 i j ga lo) (n0 - i) (n1 - j) gp li (d - 1)).2.1 (Zi (smv L0 L1 i j ga lo) (n0 - i) (n1 - j) gp li (d - 1)).1) d u (d + 1)) := by
                intro h5
                have h7 := Zi_s (sm := (smv L0 L1 i j ga lo)) (P := n0 - i) (Q := n1 - j) (gp := gp) (li := li) (d := d - 1) (by omega)
                rw [show d - 1 + 1 = d by omega, show d - 1 + 2 = d + 1 by omega, ← hu] at h7
                exact h7
              have hZd : 1 ≤ d → (Zi (smv L0 L1 i j ga lo) (n0 - i) (n1 - j) gp li d).2.1 = nx (smv L0 L1 i j ga lo) (n0 - i) (n1 - j) gp li d u.1 (Zi (smv L0 L1 i j ga lo) (n0 - i) (n1 - j) gp li (d - 1)).2.1 (Zi (smv L0 L1 i j ga lo) (n0 - i) (n1 - j) gp li (d - 1)).1 := fun h5 => by rw [hZs h5]
              refine lv_iload hx hb dX5_reach_80 (lv_at hl 0 rfl) ?_
              refine lv_iload_n hx hb dX5_reach_82 rfl (lv_at hl 3 rfl) ?_
              refine lv_iload hx hb dX5_reach_83 (lv_at hl 2 rfl) ?_
              refine jv_iadd hx hb dX5_reach_85 ?_
              refine jv_icmp_gt (tgt := 419) hx hb dX5_reach_86 rfl (by omega) (by omega) (fun c86 => ?_) (fun c86 => ?_)
              · refine lv_iload hx hb dX5_reach_419 (lv_at hl 1 rfl) ?_
                exact jM.ri F hQ rfl dX5_reach_421 hS hP hD (by exact Or.inl ⟨by omega, by rw [hu, show d - 1 = n0 - i + (n1 - j) by omega], sc1, by rw [hu, show d - 1 = n0 - i + (n1 - j) by omega]⟩)
              · refine lv_iload hx hb dX5_reach_89 (lv_at hl 1 rfl) ?_
                refine lv_istore (lv' := [(7, .int (jI u.1)), (6, .int (jI d)), (5, .int (jI u.1)), (4, .int (jI ((N 1) - j))), (3, .int (jI ((N 0) - i))), (0, .ref mo), (1, .int (jI i)), (2, .int (jI j))]) hx hb dX5_reach_91 hl (by decide) rfl (fun ls hl => ?_)
                refine lv_iconst (v := jI 0) hx hb dX5_reach_93 rfl ?_
                refine lv_istore (lv' := [(8, .int (jI 0)), (7, .int (jI u.1)), (6, .int (jI d)), (5, .int (jI u.1)), (4, .int (jI ((N 1) - j))), (3, .int (jI ((N 0) - i))), (0, .ref mo), (1, .int (jI i)), (2, .int (jI j))]) hx hb dX5_reach_94 hl (by decide) rfl (fun ls hl => ?_)
                have lp96 : ∀ (fu : Nat) (pp : Int) (u2 : acc) (sc2 : Int → Int) (ls : Array Slot) (H : Heap) (locs : List Loc), d + 1 - pp < (fu : Int) → (0 ≤ pp ∧ pp ≤ d + 1 ∧ pp ≤ n0 - i + 1) → ((d = 0 → u2 = u) ∧ (1 ≤ d → u2 = rA (Zi (smv L0 L1 i j ga lo) (n0 - i) (n1 - j) gp li d).2.1 d u pp)) → (∀ x y, 0 ≤ x → x ≤ n0 - i → 0 ≤ y → y ≤ n1 - j → (x + y < d ∨ (x + y = d ∧ x < pp)) → sc2 (49 * x + y) = (Zi (smv L0 L1 i j ga lo) (n0 - i) (n1 - j) gp li (x + y)).2.1 x) → (0 ≤ u2.1 ∧ u2.1 ≤ 2000) → lv_has ls 12 [(8, .int (jI pp)), (7, .int (jI u.1)), (6, .int (jI d)), (5, .int (jI u2.1)), (4, .int (jI ((N 1) - j))), (3, .int (jI ((N 0) - i))), (0, .ref mo), (1, .int (jI i)), (2, .int (jI j))] → va_P D cls [(mo, .inr (5, [.ref ml, .ref mn, .int (jI K), .int (jI g), .int (jI ga), .int (jI lo), .int (jI gp), .int (jI li), .ref mf, .ref mt, .ref mw, .int (jI fo), .ref mk, .int (jI ln), .int (jI bs), .int (jI kn), .ref mz, .int (jI 1), .int (jI u2.2.1), .int (jI u2.2.2.1), .int (jI u2.2.2.2.1), .int (jI u2.2.2.2.2)])), (ml, .inl (cA, 96, .inl (jA M))), (mn, .inl (cA, 2, .inl (jA N))), (mz, .inl (cA, 2401, .inl (jA sc2)))] H → va_D A [(mo, .inr (5, [.ref ml, .ref mn, .int (jI K), .int (jI g), .int (jI ga), .int (jI lo), .int (jI gp), .int (jI li), .ref mf, .ref mt, .ref mw, .int (jI fo), .ref mk, .int (jI ln), .int (jI bs), .int (jI kn), .ref mz, .int (jI 1), .int (jI u2.2.1), .int (jI u2.2.2.1), .int (jI u2.2.2.2.1), .int (jI u2.2.2.2.2)])), (ml, .inl (cA, 96, .inl (jA M))), (mn, .inl (cA, 2, .inl (jA N))), (mz, .inl (cA, 2401, .inl (jA sc2)))] → va_S A s.heap H locs → W p l e (rmk 1 0 0 22) s m args below meth c H locs 0 0 Q (F0 m 96 ls []) := by
                  intro fu
                  induction fu with
                  | zero => intro pp u2 sc2 ls H locs hfu hp hu2 hsc2 hb2 hl hP hD hS; exfalso; omega
                  | succ fu ih96 =>
                    intro pp u2 sc2 ls H locs hfu hp hu2 hsc2 hb2 hl hP hD hS
                    refine lv_iload hx hb dX5_reach_96 (lv_at hl 0 rfl) ?_
                    refine lv_iload_n hx hb dX5_reach_98 rfl (lv_at hl 5 rfl) ?_
                    refine jv_icmp_gt (tgt := 413) hx hb dX5_reach_99 rfl (by omega) (by omega) (fun c99 => ?_) (fun c99 => ?_)
                    · refine lv_iinc (k := 2) (v := jI (d + 1)) (lv' := [(6, .int (jI (d + 1))), (8, .int (jI pp)), (7, .int (jI u.1)), (5, .int (jI u2.1)), (4, .int (jI ((N 1) - j))), (3, .int (jI ((N 0) - i))), (0, .ref mo), (1, .int (jI i)), (2, .int (jI j))]) hx hb dX5_reach_413 hl rfl (jI_add _ _) (by decide) rfl (fun ls hl => ?_)
                      refine lv_goto (tgt := 80) hx hb dX5_reach_416 rfl ?_
                      refine ih80 (d + 1) u2 sc2 ls H locs (by omega) ?_ ?_ ?_ (lv_sub hl [0, 3, 4, 5, 6, 7, 8] rfl) hP hD hS
                      · omega
                      · rw [show d + 1 - 1 = d by omega]
                        by_cases h5 : d = 0
                        · rw [hu2.1 h5, hu, h5]; rfl
                        · rw [hu2.2 (by omega)]
                          have h6 : (Zi (smv L0 L1 i j ga lo) (n0 - i) (n1 - j) gp li d).2.2 = rA (Zi (smv L0 L1 i j ga lo) (n0 - i) (n1 - j) gp li d).2.1 d u (d + 1) := by rw [hZs (by omega)]
                          rw [h6]
                          exact (rA_skip2 (by omega) (by omega) (fun x x0 x1 => by rw [hZd (by omega)]; exact nx_out (by omega))).symm
                      · intro x y x0 x1 y0 y1 h5
                        exact hsc2 x y x0 x1 y0 y1 (by omega)
                    · refine lv_iload hx hb dX5_reach_102 (lv_at hl 0 rfl) ?_
                      refine lv_iload hx hb dX5_reach_104 (lv_at hl 2 rfl) ?_
                      refine jv_icmp_gt (tgt := 413) hx hb dX5_reach_106 rfl (by omega) (by omega) (fun c106 => ?_) (fun c106 => ?_)
                      · refine lv_iinc (k := 2) (v := jI (d + 1)) (lv' := [(6, .int (jI (d + 1))), (8, .int (jI pp)), (7, .int (jI u.1)), (5, .int (jI u2.1)), (4, .int (jI ((N 1) - j))), (3, .int (jI ((N 0) - i))), (0, .ref mo), (1, .int (jI i)), (2, .int (jI j))]) hx hb dX5_reach_413 hl rfl (jI_add _ _) (by decide) rfl (fun ls hl => ?_)
                        refine lv_goto (tgt := 80) hx hb dX5_reach_416 rfl ?_
                        refine ih80 (d + 1) u2 sc2 ls H locs (by omega) ?_ ?_ ?_ (lv_sub hl [0, 3, 4, 5, 6, 7, 8] rfl) hP hD hS
                        · omega
                        · rw [show d + 1 - 1 = d by omega]
                          by_cases h5 : d = 0
                          · rw [hu2.1 h5, hu, h5]; rfl
                          · rw [hu2.2 (by omega)]
                            have h6 : (Zi (smv L0 L1 i j ga lo) (n0 - i) (n1 - j) gp li d).2.2 = rA (Zi (smv L0 L1 i j ga lo) (n0 - i) (n1 - j) gp li d).2.1 d u (d + 1) := by rw [hZs (by omega)]
                            rw [h6]
                            exact (rA_skip2 (by omega) (by omega) (fun x x0 x1 => by rw [hZd (by omega)]; exact nx_out (by omega))).symm
                        · intro x y x0 x1 y0 y1 h5
                          exact hsc2 x y x0 x1 y0 y1 (by omega)
                      · refine lv_iload hx hb dX5_reach_109 (lv_at hl 2 rfl) ?_
                        refine lv_iload hx hb dX5_reach_111 (lv_at hl 0 rfl) ?_
                        refine jv_isub hx hb dX5_reach_113 ?_
                        refine lv_istore (lv' := [(9, .int (jI (d - pp))), (8, .int (jI pp)), (7, .int (jI u.1)), (6, .int (jI d)), (5, .int (jI u2.1)), (4, .int (jI ((N 1) - j))), (3, .int (jI ((N 0) - i))), (0, .ref mo), (1, .int (jI i)), (2, .int (jI j))]) hx hb dX5_reach_114 hl (by decide) rfl (fun ls hl => ?_)
                        refine lv_iload hx hb dX5_reach_116 (lv_at hl 0 rfl) ?_
                        refine lv_iload hx hb dX5_reach_118 (lv_at hl 5 rfl) ?_
                        refine jv_icmp_le (tgt := 126) hx hb dX5_reach_120 rfl (by omega) (by omega) (fun c120 => ?_) (fun c120 => ?_)
                        · have hB : sat sc2 (pp - 1) (d - pp) = -1000000 ∧ pp = 0 ∨ 0 < pp ∧ sat sc2 (pp - 1) (d - pp) = (Zi (smv L0 L1 i j ga lo) (n0 - i) (n1 - j) gp li (d - 1)).2.1 (pp - 1) := by
                            by_cases h5 : pp = 0
                            · exact Or.inl ⟨sat_o (by omega), h5⟩
                            · refine Or.inr ⟨by omega, ?_⟩
                              rw [sat_i (by omega), hsc2 (pp - 1) (d - pp) (by omega) (by omega) (by omega) (by omega) (by omega), show pp - 1 + (d - pp) = d - 1 by omega]
                          have hC : sat sc2 pp (d - pp - 1) = -1000000 ∧ d - pp = 0 ∨ 0 < d - pp ∧ sat sc2 pp (d - pp - 1) = (Zi (smv L0 L1 i j ga lo) (n0 - i) (n1 - j) gp li (d - 1)).2.1 pp := by
                            by_cases h5 : d - pp = 0
                            · exact Or.inl ⟨sat_o (by omega), h5⟩
                            · refine Or.inr ⟨by omega, ?_⟩
                              rw [sat_i (by omega), hsc2 pp (d - pp - 1) (by omega) (by omega) (by omega) (by omega) (by omega), show pp + (d - pp - 1) = d - 1 by omega]
                          have hA9 : 0 < pp → 0 < d - pp → sat sc2 (pp - 1) (d - pp - 1) = (Zi (smv L0 L1 i j ga lo) (n0 - i) (n1 - j) gp li (d - 1)).1 (pp - 1) := by
                            intro h5 h6
                            have h7 := Zi_s (sm := (smv L0 L1 i j ga lo)) (P := n0 - i) (Q := n1 - j) (gp := gp) (li := li) (d := d - 2) (by omega)
                            rw [show d - 2 + 1 = d - 1 by omega] at h7
                            rw [sat_i (by omega), hsc2 (pp - 1) (d - pp - 1) (by omega) (by omega) (by omega) (by omega) (by omega), show pp - 1 + (d - pp - 1) = d - 2 by omega, h7]
                          have hz1 := (zi_b hzi (by omega)).1
                          have hz2 := (zi_b hzi (by omega)).2.1
                          have hbB := hz1 (pp - 1)
                          have hbC := hz1 pp
                          have hbA := hz2 (pp - 1)
                          have lp307 : ∀ (s3 : Int) (ls : Array Slot) (H : Heap) (locs : List Loc), (-1000000 ≤ s3 ∧ s3 ≤ 1000) → ((d = 0 → s3 = 0) ∧ (1 ≤ d → hid (∃ s1 s2, (0 < pp ∧ 0 < d - pp ∧ -1000000 < sat sc2 (pp - 1) (d - pp - 1) ∧ s1 = sat sc2 (pp - 1) (d - pp - 1) + smv L0 L1 i j ga lo pp (d - pp) ∨ ¬ (0 < pp ∧ 0 < d - pp ∧ -1000000 < sat sc2 (pp - 1) (d - pp - 1)) ∧ s1 = -1000000) ∧ (-1000000 < sat sc2 (pp - 1) (d - pp) ∧ s2 = max s1 (sat sc2 (pp - 1) (d - pp) - gp) ∨ ¬ -1000000 < sat sc2 (pp - 1) (d - pp) ∧ s2 = s1) ∧ (-1000000 < sat sc2 pp (d - pp - 1) ∧ s3 = max s2 (sat sc2 pp (d - pp - 1) - gp) ∨ ¬ -1000000 < sat sc2 pp (d - pp - 1) ∧ s3 = s2)))) → lv_has ls 12 [(10, .int (jI s3)), (9, .int (jI (d - pp))), (8, .int (jI pp)), (7, .int (jI u.1)), (6, .int (jI d)), (5, .int (jI u2.1)), (4, .int (jI ((N 1) - j))), (3, .int (jI ((N 0) - i))), (0, .ref mo), (1, .int (jI i)), (2, .int (jI j))] → va_P D cls [(mo, .inr (5, [.ref ml, .ref mn, .int (jI K), .int (jI g), .int (jI ga), .int (jI lo), .int (jI gp), .int (jI li), .ref mf, .ref mt, .ref mw, .int (jI fo), .ref mk, .int (jI ln), .int (jI bs), .int (jI kn), .ref mz, .int (jI 1), .int (jI u2.2.1), .int (jI u2.2.2.1), .int (jI u2.2.2.2.1), .int (jI u2.2.2.2.2)])), (ml, .inl (cA, 96, .inl (jA M))), (mn, .inl (cA, 2, .inl (jA N))), (mz, .inl (cA, 2401, .inl (jA sc2)))] H → va_D A [(mo, .inr (5, [.ref ml, .ref mn, .int (jI K), .int (jI g), .int (jI ga), .int (jI lo), .int (jI gp), .int (jI li), .ref mf, .ref mt, .ref mw, .int (jI fo), .ref mk, .int (jI ln), .int (jI bs), .int (jI kn), .ref mz, .int (jI 1), .int (jI u2.2.1), .int (jI u2.2.2.1), .int (jI u2.2.2.2.1), .int (jI u2.2.2.2.2)])), (ml, .inl (cA, 96, .inl (jA M))), (mn, .inl (cA, 2, .inl (jA N))), (mz, .inl (cA, 2401, .inl (jA sc2)))] → va_S A s.heap H locs → W p l e (rmk 1 0 0 22) s m args below meth c H locs 0 0 Q (F0 m 307 ls []) := by
                            intro s3 ls H locs hb4 hE3 hl hP hD hS
                            have hcell : (-1000000 < s3 ∧ u.1 - li ≤ s3 → s3 = (Zi (smv L0 L1 i j ga lo) (n0 - i) (n1 - j) gp li d).2.1 pp ∧ s3 ≠ -1000000) ∧ (¬ (-1000000 < s3 ∧ u.1 - li ≤ s3) → (Zi (smv L0 L1 i j ga lo) (n0 - i) (n1 - j) gp li d).2.1 pp = -1000000) := by
                              by_cases hd0 : d = 0
                              · have h5 : s3 = 0 := hE3.1 hd0
                                have h6 : pp = 0 := by omega
                                have h7 := hu0 hd0
                                refine ⟨fun _ => ⟨?_, by omega⟩, fun h8 => (h8 ⟨by omega, by omega⟩).elim⟩
                                rw [h5, h6, hd0]
                                rfl
                              · obtain ⟨s1, s2, e1, e2, e3⟩ := hE3.2 (by omega)
                                rw [hZd (by omega)]
                                have hzi2 := hzi
                                rw [show max 0 (d - 1) = d - 1 by omega] at hzi2
                                exact mc_eq (smv_b hga hlo) hgp hli (by omega) hub.1 hzi2.1 (by rw [show d - 2 = d - 1 - 1 by omega]; exact hzi2.2.1) (by omega) (by omega) hA9 hB hC e1 e2 e3
                            refine lv_iload hx hb dX5_reach_307 (lv_at hl 0 rfl) ?_
                            refine lv_ldc (v := jI (-1000000)) hx hb F.own (F.wd wcX5_78) dX5_reach_309 ?_
                            refine jv_icmp_le (tgt := 330) hx hb dX5_reach_311 rfl (by omega) (by omega) (fun c311 => ?_) (fun c311 => ?_)
                            · refine lv_iconst (v := jI 0) hx hb dX5_reach_330 rfl ?_
                              refine lv_istore (lv' := [(11, .int (jI 0)), (10, .int (jI s3)), (9, .int (jI (d - pp))), (8, .int (jI pp)), (7, .int (jI u.1)), (6, .int (jI d)), (5, .int (jI u2.1)), (4, .int (jI ((N 1) - j))), (3, .int (jI ((N 0) - i))), (0, .ref mo), (1, .int (jI i)), (2, .int (jI j))]) hx hb dX5_reach_331 hl (by decide) rfl (fun ls hl => ?_)
                              refine lv_aload_n hx hb dX5_reach_333 rfl (lv_at hl 9 rfl) ?_
                              refine jv_get (v := .ref mz) F hP 0 rfl flX5_47 rfl dX5_reach_334 ?_
                              refine lv_bipush (v := jI 49) hx hb dX5_reach_337 (by decide +kernel) ?_
                              refine lv_iload hx hb dX5_reach_339 (lv_at hl 3 rfl) ?_
                              refine jv_imul hx hb dX5_reach_341 ?_
                              refine lv_iload hx hb dX5_reach_342 (lv_at hl 2 rfl) ?_
                              refine jv_iadd hx hb dX5_reach_344 ?_
                              refine lv_iload hx hb dX5_reach_345 (lv_at hl 0 rfl) ?_
                              refine jv_if_eq (tgt := 355) hx hb dX5_reach_347 rfl (by omega) (fun c347 => ?_) (fun c347 => ?_)
                              · refine lv_ldc (v := jI (-1000000)) hx hb F.own (F.wd wcX5_78) dX5_reach_355 ?_
                                refine jv_iast (fa := sc2) F hP hD hS 3 rfl (by omega) (by decide) dX5_reach_357 (fun H locs hP hD hS => ?_)
                                have hP : va_P D cls [(mo, .inr (5, [.ref ml, .ref mn, .int (jI K), .int (jI g), .int (jI ga), .int (jI lo), .int (jI gp), .int (jI li), .ref mf, .ref mt, .ref mw, .int (jI fo), .ref mk, .int (jI ln), .int (jI bs), .int (jI kn), .ref mz, .int (jI 1), .int (jI u2.2.1), .int (jI u2.2.2.1), .int (jI u2.2.2.2.1), .int (jI u2.2.2.2.2)])), (ml, .inl (cA, 96, .inl (jA M))), (mn, .inl (cA, 2, .inl (jA N))), (mz, .inl (cA, 2401, .inl (jA (jU sc2 ((49 * pp) + (d - pp)) (-1000000)))))] H := hP
                                have hD : va_D A [(mo, .inr (5, [.ref ml, .ref mn, .int (jI K), .int (jI g), .int (jI ga), .int (jI lo), .int (jI gp), .int (jI li), .ref mf, .ref mt, .ref mw, .int (jI fo), .ref mk, .int (jI ln), .int (jI bs), .int (jI kn), .ref mz, .int (jI 1), .int (jI u2.2.1), .int (jI u2.2.2.1), .int (jI u2.2.2.2.1), .int (jI u2.2.2.2.2)])), (ml, .inl (cA, 96, .inl (jA M))), (mn, .inl (cA, 2, .inl (jA N))), (mz, .inl (cA, 2401, .inl (jA (jU sc2 ((49 * pp) + (d - pp)) (-1000000)))))] := hD
                                refine lv_iload hx hb dX5_reach_358 (lv_at hl 0 rfl) ?_
                                refine jv_if_eq (tgt := 407) hx hb dX5_reach_360 rfl (by omega) (fun c360 => ?_) (fun c360 => ?_)
                                · refine lv_iinc (k := 3) (v := jI (pp + 1)) (lv' := [(8, .int (jI (pp + 1))), (11, .int (jI 0)), (10, .int (jI s3)), (9, .int (jI (d - pp))), (7, .int (jI u.1)), (6, .int (jI d)), (5, .int (jI u2.1)), (4, .int (jI ((N 1) - j))), (3, .int (jI ((N 0) - i))), (0, .ref mo), (1, .int (jI i)), (2, .int (jI j))]) hx hb dX5_reach_407 hl rfl (jI_add _ _) (by decide) rfl (fun ls hl => ?_)
                                  refine lv_goto (tgt := 96) hx hb dX5_reach_410 rfl ?_
                                  refine ih96 (pp + 1) u2 (jU sc2 ((49 * pp) + (d - pp)) (-1000000)) ls H locs (by omega) ?_ ?_ ?_ ?_ (lv_sub hl [0, 4, 5, 6, 7, 8, 9, 10, 11] rfl) hP hD hS
                                  · omega
                                  · refine ⟨fun h5 => ?_, fun h5 => ?_⟩
                                    · first
                                        | exact hu2.1 h5
                                        | (exfalso; omega)
                                    · rw [rA_s (by omega), ← hu2.2 h5]
                                      first
                                        | (rw [acc1_dead (hcell.2 (by omega))]; done)
                                        | (exfalso; omega)
                                        | (rw [acc1_dead (by rw [hZd h5]; exact nx_out (by omega))]; done)
                                        | (rw [← (hcell.1 ⟨by omega, by omega⟩).1, acc1_hi (by omega) (by omega)]; done)
                                        | (rw [← (hcell.1 ⟨by omega, by omega⟩).1, acc1_lo (by omega) (by omega)]; done)
                                  · intro x y x0 x1 y0 y1 h5
                                    first
                                      | (by_cases h6 : x = pp ∧ y = d - pp
                                         · obtain ⟨h7, h8⟩ := h6
                                           rw [h7, h8, show pp + (d - pp) = d by omega]
                                           first
                                             | (rw [jU_s, hcell.2 (by omega)]; done)
                                             | (rw [jU_s]; exact (hcell.1 ⟨by omega, by omega⟩).1)
                                         · rw [jU_n (by omega)]
                                           exact hsc2 x y x0 x1 y0 y1 (by omega))
                                      | exact hsc2 x y x0 x1 y0 y1 (by omega)
                                  · first
                                      | exact hb2
                                      | (show 0 ≤ s3 ∧ s3 ≤ 2000; omega)
                                      | (show 0 ≤ u2.1 ∧ u2.1 ≤ 2000; exact hb2)
                                · exfalso
                                  omega
                              · exfalso
                                omega
                            · refine lv_iload hx hb dX5_reach_314 (lv_at hl 0 rfl) ?_
                              refine lv_iload hx hb dX5_reach_316 (lv_at hl 3 rfl) ?_
                              refine lv_aload_n hx hb dX5_reach_318 rfl (lv_at hl 8 rfl) ?_
                              refine jv_get (v := .int (jI li)) F hP 0 rfl flX5_32 rfl dX5_reach_319 ?_
                              refine jv_isub hx hb dX5_reach_322 ?_
                              refine jv_icmp_lt (tgt := 330) hx hb dX5_reach_323 rfl (by omega) (by omega) (fun c323 => ?_) (fun c323 => ?_)
                              · refine lv_iconst (v := jI 0) hx hb dX5_reach_330 rfl ?_
                                refine lv_istore (lv' := [(11, .int (jI 0)), (10, .int (jI s3)), (9, .int (jI (d - pp))), (8, .int (jI pp)), (7, .int (jI u.1)), (6, .int (jI d)), (5, .int (jI u2.1)), (4, .int (jI ((N 1) - j))), (3, .int (jI ((N 0) - i))), (0, .ref mo), (1, .int (jI i)), (2, .int (jI j))]) hx hb dX5_reach_331 hl (by decide) rfl (fun ls hl => ?_)
                                refine lv_aload_n hx hb dX5_reach_333 rfl (lv_at hl 9 rfl) ?_
                                refine jv_get (v := .ref mz) F hP 0 rfl flX5_47 rfl dX5_reach_334 ?_
                                refine lv_bipush (v := jI 49) hx hb dX5_reach_337 (by decide +kernel) ?_
                                refine lv_iload hx hb dX5_reach_339 (lv_at hl 3 rfl) ?_
                                refine jv_imul hx hb dX5_reach_341 ?_
                                refine lv_iload hx hb dX5_reach_342 (lv_at hl 2 rfl) ?_
                                refine jv_iadd hx hb dX5_reach_344 ?_
                                refine lv_iload hx hb dX5_reach_345 (lv_at hl 0 rfl) ?_
                                refine jv_if_eq (tgt := 355) hx hb dX5_reach_347 rfl (by omega) (fun c347 => ?_) (fun c347 => ?_)
                                · refine lv_ldc (v := jI (-1000000)) hx hb F.own (F.wd wcX5_78) dX5_reach_355 ?_
                                  refine jv_iast (fa := sc2) F hP hD hS 3 rfl (by omega) (by decide) dX5_reach_357 (fun H locs hP hD hS => ?_)
                                  have hP : va_P D cls [(mo, .inr (5, [.ref ml, .ref mn, .int (jI K), .int (jI g), .int (jI ga), .int (jI lo), .int (jI gp), .int (jI li), .ref mf, .ref mt, .ref mw, .int (jI fo), .ref mk, .int (jI ln), .int (jI bs), .int (jI kn), .ref mz, .int (jI 1), .int (jI u2.2.1), .int (jI u2.2.2.1), .int (jI u2.2.2.2.1), .int (jI u2.2.2.2.2)])), (ml, .inl (cA, 96, .inl (jA M))), (mn, .inl (cA, 2, .inl (jA N))), (mz, .inl (cA, 2401, .inl (jA (jU sc2 ((49 * pp) + (d - pp)) (-1000000)))))] H := hP
                                  have hD : va_D A [(mo, .inr (5, [.ref ml, .ref mn, .int (jI K), .int (jI g), .int (jI ga), .int (jI lo), .int (jI gp), .int (jI li), .ref mf, .ref mt, .ref mw, .int (jI fo), .ref mk, .int (jI ln), .int (jI bs), .int (jI kn), .ref mz, .int (jI 1), .int (jI u2.2.1), .int (jI u2.2.2.1), .int (jI u2.2.2.2.1), .int (jI u2.2.2.2.2)])), (ml, .inl (cA, 96, .inl (jA M))), (mn, .inl (cA, 2, .inl (jA N))), (mz, .inl (cA, 2401, .inl (jA (jU sc2 ((49 * pp) + (d - pp)) (-1000000)))))] := hD
                                  refine lv_iload hx hb dX5_reach_358 (lv_at hl 0 rfl) ?_
                                  refine jv_if_eq (tgt := 407) hx hb dX5_reach_360 rfl (by omega) (fun c360 => ?_) (fun c360 => ?_)
                                  · refine lv_iinc (k := 3) (v := jI (pp + 1)) (lv' := [(8, .int (jI (pp + 1))), (11, .int (jI 0)), (10, .int (jI s3)), (9, .int (jI (d - pp))), (7, .int (jI u.1)), (6, .int (jI d)), (5, .int (jI u2.1)), (4, .int (jI ((N 1) - j))), (3, .int (jI ((N 0) - i))), (0, .ref mo), (1, .int (jI i)), (2, .int (jI j))]) hx hb dX5_reach_407 hl rfl (jI_add _ _) (by decide) rfl (fun ls hl => ?_)
                                    refine lv_goto (tgt := 96) hx hb dX5_reach_410 rfl ?_
                                    refine ih96 (pp + 1) u2 (jU sc2 ((49 * pp) + (d - pp)) (-1000000)) ls H locs (by omega) ?_ ?_ ?_ ?_ (lv_sub hl [0, 4, 5, 6, 7, 8, 9, 10, 11] rfl) hP hD hS
                                    · omega
                                    · refine ⟨fun h5 => ?_, fun h5 => ?_⟩
                                      · first
                                          | exact hu2.1 h5
                                          | (exfalso; omega)
                                      · rw [rA_s (by omega), ← hu2.2 h5]
                                        first
                                          | (rw [acc1_dead (hcell.2 (by omega))]; done)
                                          | (exfalso; omega)
                                          | (rw [acc1_dead (by rw [hZd h5]; exact nx_out (by omega))]; done)
                                          | (rw [← (hcell.1 ⟨by omega, by omega⟩).1, acc1_hi (by omega) (by omega)]; done)
                                          | (rw [← (hcell.1 ⟨by omega, by omega⟩).1, acc1_lo (by omega) (by omega)]; done)
                                    · intro x y x0 x1 y0 y1 h5
                                      first
                                        | (by_cases h6 : x = pp ∧ y = d - pp
                                           · obtain ⟨h7, h8⟩ := h6
                                             rw [h7, h8, show pp + (d - pp) = d by omega]
                                             first
                                               | (rw [jU_s, hcell.2 (by omega)]; done)
                                               | (rw [jU_s]; exact (hcell.1 ⟨by omega, by omega⟩).1)
                                           · rw [jU_n (by omega)]
                                             exact hsc2 x y x0 x1 y0 y1 (by omega))
                                        | exact hsc2 x y x0 x1 y0 y1 (by omega)
                                    · first
                                        | exact hb2
                                        | (show 0 ≤ s3 ∧ s3 ≤ 2000; omega)
                                        | (show 0 ≤ u2.1 ∧ u2.1 ≤ 2000; exact hb2)
                                  · exfalso
                                    omega
                                · exfalso
                                  omega
                              · refine lv_iconst (v := jI 1) hx hb dX5_reach_326 rfl ?_
                                refine lv_goto (tgt := 331) hx hb dX5_reach_327 rfl ?_
                                refine lv_istore (lv' := [(11, .int (jI 1)), (10, .int (jI s3)), (9, .int (jI (d - pp))), (8, .int (jI pp)), (7, .int (jI u.1)), (6, .int (jI d)), (5, .int (jI u2.1)), (4, .int (jI ((N 1) - j))), (3, .int (jI ((N 0) - i))), (0, .ref mo), (1, .int (jI i)), (2, .int (jI j))]) hx hb dX5_reach_331 hl (by decide) rfl (fun ls hl => ?_)
                                refine lv_aload_n hx hb dX5_reach_333 rfl (lv_at hl 9 rfl) ?_
                                refine jv_get (v := .ref mz) F hP 0 rfl flX5_47 rfl dX5_reach_334 ?_
                                refine lv_bipush (v := jI 49) hx hb dX5_reach_337 (by decide +kernel) ?_
                                refine lv_iload hx hb dX5_reach_339 (lv_at hl 3 rfl) ?_
                                refine jv_imul hx hb dX5_reach_341 ?_
                                refine lv_iload hx hb dX5_reach_342 (lv_at hl 2 rfl) ?_
                                refine jv_iadd hx hb dX5_reach_344 ?_
                                refine lv_iload hx hb dX5_reach_345 (lv_at hl 0 rfl) ?_
                                refine jv_if_eq (tgt := 355) hx hb dX5_reach_347 rfl (by omega) (fun c347 => ?_) (fun c347 => ?_)
                                · exfalso
                                  omega
                                · refine lv_iload hx hb dX5_reach_350 (lv_at hl 1 rfl) ?_
                                  refine lv_goto (tgt := 357) hx hb dX5_reach_352 rfl ?_
                                  refine jv_iast (fa := sc2) F hP hD hS 3 rfl (by omega) (by decide) dX5_reach_357 (fun H locs hP hD hS => ?_)
                                  have hP : va_P D cls [(mo, .inr (5, [.ref ml, .ref mn, .int (jI K), .int (jI g), .int (jI ga), .int (jI lo), .int (jI gp), .int (jI li), .ref mf, .ref mt, .ref mw, .int (jI fo), .ref mk, .int (jI ln), .int (jI bs), .int (jI kn), .ref mz, .int (jI 1), .int (jI u2.2.1), .int (jI u2.2.2.1), .int (jI u2.2.2.2.1), .int (jI u2.2.2.2.2)])), (ml, .inl (cA, 96, .inl (jA M))), (mn, .inl (cA, 2, .inl (jA N))), (mz, .inl (cA, 2401, .inl (jA (jU sc2 ((49 * pp) + (d - pp)) s3))))] H := hP
                                  have hD : va_D A [(mo, .inr (5, [.ref ml, .ref mn, .int (jI K), .int (jI g), .int (jI ga), .int (jI lo), .int (jI gp), .int (jI li), .ref mf, .ref mt, .ref mw, .int (jI fo), .ref mk, .int (jI ln), .int (jI bs), .int (jI kn), .ref mz, .int (jI 1), .int (jI u2.2.1), .int (jI u2.2.2.1), .int (jI u2.2.2.2.1), .int (jI u2.2.2.2.2)])), (ml, .inl (cA, 96, .inl (jA M))), (mn, .inl (cA, 2, .inl (jA N))), (mz, .inl (cA, 2401, .inl (jA (jU sc2 ((49 * pp) + (d - pp)) s3))))] := hD
                                  refine lv_iload hx hb dX5_reach_358 (lv_at hl 0 rfl) ?_
                                  refine jv_if_eq (tgt := 407) hx hb dX5_reach_360 rfl (by omega) (fun c360 => ?_) (fun c360 => ?_)
                                  · exfalso
                                    omega
                                  · refine lv_iload hx hb dX5_reach_363 (lv_at hl 5 rfl) ?_
                                    refine jv_if_le (tgt := 407) hx hb dX5_reach_365 rfl (by omega) (fun c365 => ?_) (fun c365 => ?_)
                                    · refine lv_iinc (k := 3) (v := jI (pp + 1)) (lv' := [(8, .int (jI (pp + 1))), (11, .int (jI 1)), (10, .int (jI s3)), (9, .int (jI (d - pp))), (7, .int (jI u.1)), (6, .int (jI d)), (5, .int (jI u2.1)), (4, .int (jI ((N 1) - j))), (3, .int (jI ((N 0) - i))), (0, .ref mo), (1, .int (jI i)), (2, .int (jI j))]) hx hb dX5_reach_407 hl rfl (jI_add _ _) (by decide) rfl (fun ls hl => ?_)
                                      refine lv_goto (tgt := 96) hx hb dX5_reach_410 rfl ?_
                                      refine ih96 (pp + 1) u2 (jU sc2 ((49 * pp) + (d - pp)) s3) ls H locs (by omega) ?_ ?_ ?_ ?_ (lv_sub hl [0, 4, 5, 6, 7, 8, 9, 10, 11] rfl) hP hD hS
                                      · omega
                                      · refine ⟨fun h5 => ?_, fun h5 => ?_⟩
                                        · first
                                            | exact hu2.1 h5
                                            | (exfalso; omega)
                                        · rw [rA_s (by omega), ← hu2.2 h5]
                                          first
                                            | (rw [acc1_dead (hcell.2 (by omega))]; done)
                                            | (exfalso; omega)
                                            | (rw [acc1_dead (by rw [hZd h5]; exact nx_out (by omega))]; done)
                                            | (rw [← (hcell.1 ⟨by omega, by omega⟩).1, acc1_hi (by omega) (by omega)]; done)
                                            | (rw [← (hcell.1 ⟨by omega, by omega⟩).1, acc1_lo (by omega) (by omega)]; done)
                                      · intro x y x0 x1 y0 y1 h5
                                        first
                                          | (by_cases h6 : x = pp ∧ y = d - pp
                                             · obtain ⟨h7, h8⟩ := h6
                                               rw [h7, h8, show pp + (d - pp) = d by omega]
                                               first
                                                 | (rw [jU_s, hcell.2 (by omega)]; done)
                                                 | (rw [jU_s]; exact (hcell.1 ⟨by omega, by omega⟩).1)
                                             · rw [jU_n (by omega)]
                                               exact hsc2 x y x0 x1 y0 y1 (by omega))
                                          | exact hsc2 x y x0 x1 y0 y1 (by omega)
                                      · first
                                          | exact hb2
                                          | (show 0 ≤ s3 ∧ s3 ≤ 2000; omega)
                                          | (show 0 ≤ u2.1 ∧ u2.1 ≤ 2000; exact hb2)
                                    · refine lv_aload_n hx hb dX5_reach_368 rfl (lv_at hl 9 rfl) ?_
                                      refine lv_dup hx hb dX5_reach_369 rfl ?_
                                      refine jv_get (v := .int (jI u2.2.2.2.1)) F hP 0 rfl flX5_88 rfl dX5_reach_370 ?_
                                      refine lv_iconst (v := jI 1) hx hb dX5_reach_373 rfl ?_
                                      refine jv_iadd hx hb dX5_reach_374 ?_
                                      refine jv_put (v := .int (jI (u2.2.2.2.1 + 1))) F hP hD hS 0 rfl flX5_88 pfX5 (by decide +kernel) rfl rfl (Nat.le_of_ble_eq_true rfl) dX5_reach_375 (fun H locs hP hD hS => ?_)
                                      have hP : va_P D cls [(mo, .inr (5, [.ref ml, .ref mn, .int (jI K), .int (jI g), .int (jI ga), .int (jI lo), .int (jI gp), .int (jI li), .ref mf, .ref mt, .ref mw, .int (jI fo), .ref mk, .int (jI ln), .int (jI bs), .int (jI kn), .ref mz, .int (jI 1), .int (jI u2.2.1), .int (jI u2.2.2.1), .int (jI (u2.2.2.2.1 + 1)), .int (jI u2.2.2.2.2)])), (ml, .inl (cA, 96, .inl (jA M))), (mn, .inl (cA, 2, .inl (jA N))), (mz, .inl (cA, 2401, .inl (jA (jU sc2 ((49 * pp) + (d - pp)) s3))))] H := hP
                                      have hD : va_D A [(mo, .inr (5, [.ref ml, .ref mn, .int (jI K), .int (jI g), .int (jI ga), .int (jI lo), .int (jI gp), .int (jI li), .ref mf, .ref mt, .ref mw, .int (jI fo), .ref mk, .int (jI ln), .int (jI bs), .int (jI kn), .ref mz, .int (jI 1), .int (jI u2.2.1), .int (jI u2.2.2.1), .int (jI (u2.2.2.2.1 + 1)), .int (jI u2.2.2.2.2)])), (ml, .inl (cA, 96, .inl (jA M))), (mn, .inl (cA, 2, .inl (jA N))), (mz, .inl (cA, 2401, .inl (jA (jU sc2 ((49 * pp) + (d - pp)) s3))))] := hD
                                      refine lv_aload_n hx hb dX5_reach_378 rfl (lv_at hl 9 rfl) ?_
                                      refine lv_iload hx hb dX5_reach_379 (lv_at hl 5 rfl) ?_
                                      refine jv_put (v := .int (jI d)) F hP hD hS 0 rfl flX5_91 pfX5 (by decide +kernel) rfl rfl (Nat.le_of_ble_eq_true rfl) dX5_reach_381 (fun H locs hP hD hS => ?_)
                                      have hP : va_P D cls [(mo, .inr (5, [.ref ml, .ref mn, .int (jI K), .int (jI g), .int (jI ga), .int (jI lo), .int (jI gp), .int (jI li), .ref mf, .ref mt, .ref mw, .int (jI fo), .ref mk, .int (jI ln), .int (jI bs), .int (jI kn), .ref mz, .int (jI 1), .int (jI u2.2.1), .int (jI u2.2.2.1), .int (jI (u2.2.2.2.1 + 1)), .int (jI d)])), (ml, .inl (cA, 96, .inl (jA M))), (mn, .inl (cA, 2, .inl (jA N))), (mz, .inl (cA, 2401, .inl (jA (jU sc2 ((49 * pp) + (d - pp)) s3))))] H := hP
                                      have hD : va_D A [(mo, .inr (5, [.ref ml, .ref mn, .int (jI K), .int (jI g), .int (jI ga), .int (jI lo), .int (jI gp), .int (jI li), .ref mf, .ref mt, .ref mw, .int (jI fo), .ref mk, .int (jI ln), .int (jI bs), .int (jI kn), .ref mz, .int (jI 1), .int (jI u2.2.1), .int (jI u2.2.2.1), .int (jI (u2.2.2.2.1 + 1)), .int (jI d)])), (ml, .inl (cA, 96, .inl (jA M))), (mn, .inl (cA, 2, .inl (jA N))), (mz, .inl (cA, 2401, .inl (jA (jU sc2 ((49 * pp) + (d - pp)) s3))))] := hD
                                      refine lv_iload hx hb dX5_reach_384 (lv_at hl 1 rfl) ?_
                                      refine lv_iload hx hb dX5_reach_386 (lv_at hl 6 rfl) ?_
                                      refine jv_icmp_le (tgt := 407) hx hb dX5_reach_388 rfl (by omega) (by omega) (fun c388 => ?_) (fun c388 => ?_)
                                      · refine lv_iinc (k := 3) (v := jI (pp + 1)) (lv' := [(8, .int (jI (pp + 1))), (11, .int (jI 1)), (10, .int (jI s3)), (9, .int (jI (d - pp))), (7, .int (jI u.1)), (6, .int (jI d)), (5, .int (jI u2.1)), (4, .int (jI ((N 1) - j))), (3, .int (jI ((N 0) - i))), (0, .ref mo), (1, .int (jI i)), (2, .int (jI j))]) hx hb dX5_reach_407 hl rfl (jI_add _ _) (by decide) rfl (fun ls hl => ?_)
                                        refine lv_goto (tgt := 96) hx hb dX5_reach_410 rfl ?_
                                        refine ih96 (pp + 1) (u2.1, u2.2.1, u2.2.2.1, u2.2.2.2.1 + 1, d) (jU sc2 ((49 * pp) + (d - pp)) s3) ls H locs (by omega) ?_ ?_ ?_ ?_ (lv_sub hl [0, 4, 5, 6, 7, 8, 9, 10, 11] rfl) hP hD hS
                                        · omega
                                        · refine ⟨fun h5 => ?_, fun h5 => ?_⟩
                                          · first
                                              | exact hu2.1 h5
                                              | (exfalso; omega)
                                          · rw [rA_s (by omega), ← hu2.2 h5]
                                            first
                                              | (rw [acc1_dead (hcell.2 (by omega))]; done)
                                              | (exfalso; omega)
                                              | (rw [acc1_dead (by rw [hZd h5]; exact nx_out (by omega))]; done)
                                              | (rw [← (hcell.1 ⟨by omega, by omega⟩).1, acc1_hi (by omega) (by omega)]; done)
                                              | (rw [← (hcell.1 ⟨by omega, by omega⟩).1, acc1_lo (by omega) (by omega)]; done)
                                        · intro x y x0 x1 y0 y1 h5
                                          first
                                            | (by_cases h6 : x = pp ∧ y = d - pp
                                               · obtain ⟨h7, h8⟩ := h6
                                                 rw [h7, h8, show pp + (d - pp) = d by omega]
                                                 first
                                                   | (rw [jU_s, hcell.2 (by omega)]; done)
                                                   | (rw [jU_s]; exact (hcell.1 ⟨by omega, by omega⟩).1)
                                               · rw [jU_n (by omega)]
                                                 exact hsc2 x y x0 x1 y0 y1 (by omega))
                                            | exact hsc2 x y x0 x1 y0 y1 (by omega)
                                        · first
                                            | exact hb2
                                            | (show 0 ≤ s3 ∧ s3 ≤ 2000; omega)
                                            | (show 0 ≤ u2.1 ∧ u2.1 ≤ 2000; exact hb2)
                                      · refine lv_iload hx hb dX5_reach_391 (lv_at hl 1 rfl) ?_
                                        refine lv_istore (lv' := [(5, .int (jI s3)), (11, .int (jI 1)), (10, .int (jI s3)), (9, .int (jI (d - pp))), (8, .int (jI pp)), (7, .int (jI u.1)), (6, .int (jI d)), (4, .int (jI ((N 1) - j))), (3, .int (jI ((N 0) - i))), (0, .ref mo), (1, .int (jI i)), (2, .int (jI j))]) hx hb dX5_reach_393 hl (by decide) rfl (fun ls hl => ?_)
                                        refine lv_aload_n hx hb dX5_reach_395 rfl (lv_at hl 9 rfl) ?_
                                        refine lv_iload hx hb dX5_reach_396 (lv_at hl 4 rfl) ?_
                                        refine jv_put (v := .int (jI pp)) F hP hD hS 0 rfl flX5_82 pfX5 (by decide +kernel) rfl rfl (Nat.le_of_ble_eq_true rfl) dX5_reach_398 (fun H locs hP hD hS => ?_)
                                        have hP : va_P D cls [(mo, .inr (5, [.ref ml, .ref mn, .int (jI K), .int (jI g), .int (jI ga), .int (jI lo), .int (jI gp), .int (jI li), .ref mf, .ref mt, .ref mw, .int (jI fo), .ref mk, .int (jI ln), .int (jI bs), .int (jI kn), .ref mz, .int (jI 1), .int (jI pp), .int (jI u2.2.2.1), .int (jI (u2.2.2.2.1 + 1)), .int (jI d)])), (ml, .inl (cA, 96, .inl (jA M))), (mn, .inl (cA, 2, .inl (jA N))), (mz, .inl (cA, 2401, .inl (jA (jU sc2 ((49 * pp) + (d - pp)) s3))))] H := hP
                                        have hD : va_D A [(mo, .inr (5, [.ref ml, .ref mn, .int (jI K), .int (jI g), .int (jI ga), .int (jI lo), .int (jI gp), .int (jI li), .ref mf, .ref mt, .ref mw, .int (jI fo), .ref mk, .int (jI ln), .int (jI bs), .int (jI kn), .ref mz, .int (jI 1), .int (jI pp), .int (jI u2.2.2.1), .int (jI (u2.2.2.2.1 + 1)), .int (jI d)])), (ml, .inl (cA, 96, .inl (jA M))), (mn, .inl (cA, 2, .inl (jA N))), (mz, .inl (cA, 2401, .inl (jA (jU sc2 ((49 * pp) + (d - pp)) s3))))] := hD
                                        refine lv_aload_n hx hb dX5_reach_401 rfl (lv_at hl 9 rfl) ?_
                                        refine lv_iload hx hb dX5_reach_402 (lv_at hl 3 rfl) ?_
                                        refine jv_put (v := .int (jI (d - pp))) F hP hD hS 0 rfl flX5_85 pfX5 (by decide +kernel) rfl rfl (Nat.le_of_ble_eq_true rfl) dX5_reach_404 (fun H locs hP hD hS => ?_)
                                        have hP : va_P D cls [(mo, .inr (5, [.ref ml, .ref mn, .int (jI K), .int (jI g), .int (jI ga), .int (jI lo), .int (jI gp), .int (jI li), .ref mf, .ref mt, .ref mw, .int (jI fo), .ref mk, .int (jI ln), .int (jI bs), .int (jI kn), .ref mz, .int (jI 1), .int (jI pp), .int (jI (d - pp)), .int (jI (u2.2.2.2.1 + 1)), .int (jI d)])), (ml, .inl (cA, 96, .inl (jA M))), (mn, .inl (cA, 2, .inl (jA N))), (mz, .inl (cA, 2401, .inl (jA (jU sc2 ((49 * pp) + (d - pp)) s3))))] H := hP
                                        have hD : va_D A [(mo, .inr (5, [.ref ml, .ref mn, .int (jI K), .int (jI g), .int (jI ga), .int (jI lo), .int (jI gp), .int (jI li), .ref mf, .ref mt, .ref mw, .int (jI fo), .ref mk, .int (jI ln), .int (jI bs), .int (jI kn), .ref mz, .int (jI 1), .int (jI pp), .int (jI (d - pp)), .int (jI (u2.2.2.2.1 + 1)), .int (jI d)])), (ml, .inl (cA, 96, .inl (jA M))), (mn, .inl (cA, 2, .inl (jA N))), (mz, .inl (cA, 2401, .inl (jA (jU sc2 ((49 * pp) + (d - pp)) s3))))] := hD
                                        refine lv_iinc (k := 4) (v := jI (pp + 1)) (lv' := [(8, .int (jI (pp + 1))), (5, .int (jI s3)), (11, .int (jI 1)), (10, .int (jI s3)), (9, .int (jI (d - pp))), (7, .int (jI u.1)), (6, .int (jI d)), (4, .int (jI ((N 1) - j))), (3, .int (jI ((N 0) - i))), (0, .ref mo), (1, .int (jI i)), (2, .int (jI j))]) hx hb dX5_reach_407 hl rfl (jI_add _ _) (by decide) rfl (fun ls hl => ?_)
                                        refine lv_goto (tgt := 96) hx hb dX5_reach_410 rfl ?_
                                        refine ih96 (pp + 1) (s3, pp, d - pp, u2.2.2.2.1 + 1, d) (jU sc2 ((49 * pp) + (d - pp)) s3) ls H locs (by omega) ?_ ?_ ?_ ?_ (lv_sub hl [0, 5, 6, 1, 7, 8, 9, 10, 11] rfl) hP hD hS
                                        · omega
                                        · refine ⟨fun h5 => ?_, fun h5 => ?_⟩
                                          · first
                                              | exact hu2.1 h5
                                              | (exfalso; omega)
                                          · rw [rA_s (by omega), ← hu2.2 h5]
                                            first
                                              | (rw [acc1_dead (hcell.2 (by omega))]; done)
                                              | (exfalso; omega)
                                              | (rw [acc1_dead (by rw [hZd h5]; exact nx_out (by omega))]; done)
                                              | (rw [← (hcell.1 ⟨by omega, by omega⟩).1, acc1_hi (by omega) (by omega)]; done)
                                              | (rw [← (hcell.1 ⟨by omega, by omega⟩).1, acc1_lo (by omega) (by omega)]; done)
                                        · intro x y x0 x1 y0 y1 h5
                                          first
                                            | (by_cases h6 : x = pp ∧ y = d - pp
                                               · obtain ⟨h7, h8⟩ := h6
                                                 rw [h7, h8, show pp + (d - pp) = d by omega]
                                                 first
                                                   | (rw [jU_s, hcell.2 (by omega)]; done)
                                                   | (rw [jU_s]; exact (hcell.1 ⟨by omega, by omega⟩).1)
                                               · rw [jU_n (by omega)]
                                                 exact hsc2 x y x0 x1 y0 y1 (by omega))
                                            | exact hsc2 x y x0 x1 y0 y1 (by omega)
                                        · first
                                            | exact hb2
                                            | (show 0 ≤ s3 ∧ s3 ≤ 2000; omega)
                                            | (show 0 ≤ u2.1 ∧ u2.1 ≤ 2000; exact hb2)
                          have lp270 : ∀ (s2 : Int) (ls : Array Slot) (H : Heap) (locs : List Loc), (-1000000 ≤ s2 ∧ s2 ≤ 1000) → ((d = 0 → s2 = 0) ∧ (1 ≤ d → hid (∃ s1, (0 < pp ∧ 0 < d - pp ∧ -1000000 < sat sc2 (pp - 1) (d - pp - 1) ∧ s1 = sat sc2 (pp - 1) (d - pp - 1) + smv L0 L1 i j ga lo pp (d - pp) ∨ ¬ (0 < pp ∧ 0 < d - pp ∧ -1000000 < sat sc2 (pp - 1) (d - pp - 1)) ∧ s1 = -1000000) ∧ (-1000000 < sat sc2 (pp - 1) (d - pp) ∧ s2 = max s1 (sat sc2 (pp - 1) (d - pp) - gp) ∨ ¬ -1000000 < sat sc2 (pp - 1) (d - pp) ∧ s2 = s1)))) → lv_has ls 12 [(10, .int (jI s2)), (9, .int (jI (d - pp))), (8, .int (jI pp)), (7, .int (jI u.1)), (6, .int (jI d)), (5, .int (jI u2.1)), (4, .int (jI ((N 1) - j))), (3, .int (jI ((N 0) - i))), (0, .ref mo), (1, .int (jI i)), (2, .int (jI j))] → va_P D cls [(mo, .inr (5, [.ref ml, .ref mn, .int (jI K), .int (jI g), .int (jI ga), .int (jI lo), .int (jI gp), .int (jI li), .ref mf, .ref mt, .ref mw, .int (jI fo), .ref mk, .int (jI ln), .int (jI bs), .int (jI kn), .ref mz, .int (jI 1), .int (jI u2.2.1), .int (jI u2.2.2.1), .int (jI u2.2.2.2.1), .int (jI u2.2.2.2.2)])), (ml, .inl (cA, 96, .inl (jA M))), (mn, .inl (cA, 2, .inl (jA N))), (mz, .inl (cA, 2401, .inl (jA sc2)))] H → va_D A [(mo, .inr (5, [.ref ml, .ref mn, .int (jI K), .int (jI g), .int (jI ga), .int (jI lo), .int (jI gp), .int (jI li), .ref mf, .ref mt, .ref mw, .int (jI fo), .ref mk, .int (jI ln), .int (jI bs), .int (jI kn), .ref mz, .int (jI 1), .int (jI u2.2.1), .int (jI u2.2.2.1), .int (jI u2.2.2.2.1), .int (jI u2.2.2.2.2)])), (ml, .inl (cA, 96, .inl (jA M))), (mn, .inl (cA, 2, .inl (jA N))), (mz, .inl (cA, 2401, .inl (jA sc2)))] → va_S A s.heap H locs → W p l e (rmk 1 0 0 22) s m args below meth c H locs 0 0 Q (F0 m 270 ls []) := by
                            intro s2 ls H locs hb3 hE2 hl hP hD hS
                            refine lv_aload_n hx hb dX5_reach_270 rfl (lv_at hl 8 rfl) ?_
                            refine lv_iload hx hb dX5_reach_271 (lv_at hl 2 rfl) ?_
                            refine lv_iload hx hb dX5_reach_273 (lv_at hl 1 rfl) ?_
                            refine lv_iconst (v := jI 1) hx hb dX5_reach_275 rfl ?_
                            refine jv_isub hx hb dX5_reach_276 ?_
                            refine jr_V F (kX5_scoreAt l D cA mo ml mn mf mt mw mk mz K g ga lo gp li fo ln bs kn 1 u2.2.1 u2.2.2.1 u2.2.2.2.1 u2.2.2.2.2 sc2 pp ((d - pp) - 1) (by omega) (by omega)) cvX5_94 hP [0, 3] rfl 0 rfl rfl hl ⟨rfl, rfl, by decide, by decide⟩ rfl rfl (Nat.le_of_ble_eq_true rfl) dX5_reach_277 ⟨by decide, by decide⟩ (fun v hv => ?_)
                            subst hv
                            refine lv_ldc (v := jI (-1000000)) hx hb F.own (F.wd wcX5_78) dX5_reach_280 ?_
                            refine jv_icmp_le (tgt := 307) hx hb dX5_reach_282 rfl (by omega) (by omega) (fun c282 => ?_) (fun c282 => ?_)
                            · refine lp307 s2 ls H locs ?_ ?_ (lv_sub hl [0, 1, 2, 3, 4, 5, 6, 7, 8, 9, 10] rfl) hP hD hS
                              · omega
                              · refine ⟨fun h5 => ?_, fun h5 => ?_⟩
                                · first
                                    | exact hE2.1 h5
                                    | (exfalso; omega)
                                · obtain ⟨s1, e1, e2⟩ := hE2.2 h5
                                  exact hid_i ⟨s1, s2, e1, e2, by omega⟩
                            · refine lv_iload hx hb dX5_reach_285 (lv_at hl 0 rfl) ?_
                              refine lv_aload_n hx hb dX5_reach_287 rfl (lv_at hl 8 rfl) ?_
                              refine lv_iload hx hb dX5_reach_288 (lv_at hl 2 rfl) ?_
                              refine lv_iload hx hb dX5_reach_290 (lv_at hl 1 rfl) ?_
                              refine lv_iconst (v := jI 1) hx hb dX5_reach_292 rfl ?_
                              refine jv_isub hx hb dX5_reach_293 ?_
                              refine jr_V F (kX5_scoreAt l D cA mo ml mn mf mt mw mk mz K g ga lo gp li fo ln bs kn 1 u2.2.1 u2.2.2.1 u2.2.2.2.1 u2.2.2.2.2 sc2 pp ((d - pp) - 1) (by omega) (by omega)) cvX5_94 hP [0, 3] rfl 0 rfl rfl hl ⟨rfl, rfl, by decide, by decide⟩ rfl rfl (Nat.le_of_ble_eq_true rfl) dX5_reach_294 ⟨by decide, by decide⟩ (fun v hv => ?_)
                              subst hv
                              refine lv_aload_n hx hb dX5_reach_297 rfl (lv_at hl 8 rfl) ?_
                              refine jv_get (v := .int (jI gp)) F hP 0 rfl flX5_29 rfl dX5_reach_298 ?_
                              refine jv_isub hx hb dX5_reach_301 ?_
                              refine jr_S F (kX5_greater l D cA s2 ((sat sc2 pp ((d - pp) - 1)) - gp) (by omega) (by omega)) csX5_97 hP [] rfl hl ⟨rfl, rfl, by decide, by decide⟩ rfl rfl (Nat.le_of_ble_eq_true rfl) dX5_reach_302 ⟨by decide, by decide⟩ (fun v hv => ?_)
                              subst hv
                              refine lv_istore (lv' := [(10, .int (jI (max s2 ((sat sc2 pp ((d - pp) - 1)) - gp)))), (9, .int (jI (d - pp))), (8, .int (jI pp)), (7, .int (jI u.1)), (6, .int (jI d)), (5, .int (jI u2.1)), (4, .int (jI ((N 1) - j))), (3, .int (jI ((N 0) - i))), (0, .ref mo), (1, .int (jI i)), (2, .int (jI j))]) hx hb dX5_reach_305 hl (by decide) rfl (fun ls hl => ?_)
                              refine lp307 (max s2 ((sat sc2 pp ((d - pp) - 1)) - gp)) ls H locs ?_ ?_ (lv_sub hl [0, 1, 2, 3, 4, 5, 6, 7, 8, 9, 10] rfl) hP hD hS
                              · omega
                              · refine ⟨fun h5 => ?_, fun h5 => ?_⟩
                                · first
                                    | exact hE2.1 h5
                                    | (exfalso; omega)
                                · obtain ⟨s1, e1, e2⟩ := hE2.2 h5
                                  exact hid_i ⟨s1, s2, e1, e2, by omega⟩
                          have lp233 : ∀ (s1 : Int) (ls : Array Slot) (H : Heap) (locs : List Loc), (-1000000 ≤ s1 ∧ s1 ≤ 1000) → ((d = 0 → s1 = 0) ∧ (1 ≤ d → (0 < pp ∧ 0 < d - pp ∧ -1000000 < sat sc2 (pp - 1) (d - pp - 1) ∧ s1 = sat sc2 (pp - 1) (d - pp - 1) + smv L0 L1 i j ga lo pp (d - pp) ∨ ¬ (0 < pp ∧ 0 < d - pp ∧ -1000000 < sat sc2 (pp - 1) (d - pp - 1)) ∧ s1 = -1000000))) → lv_has ls 12 [(10, .int (jI s1)), (9, .int (jI (d - pp))), (8, .int (jI pp)), (7, .int (jI u.1)), (6, .int (jI d)), (5, .int (jI u2.1)), (4, .int (jI ((N 1) - j))), (3, .int (jI ((N 0) - i))), (0, .ref mo), (1, .int (jI i)), (2, .int (jI j))] → va_P D cls [(mo, .inr (5, [.ref ml, .ref mn, .int (jI K), .int (jI g), .int (jI ga), .int (jI lo), .int (jI gp), .int (jI li), .ref mf, .ref mt, .ref mw, .int (jI fo), .ref mk, .int (jI ln), .int (jI bs), .int (jI kn), .ref mz, .int (jI 1), .int (jI u2.2.1), .int (jI u2.2.2.1), .int (jI u2.2.2.2.1), .int (jI u2.2.2.2.2)])), (ml, .inl (cA, 96, .inl (jA M))), (mn, .inl (cA, 2, .inl (jA N))), (mz, .inl (cA, 2401, .inl (jA sc2)))] H → va_D A [(mo, .inr (5, [.ref ml, .ref mn, .int (jI K), .int (jI g), .int (jI ga), .int (jI lo), .int (jI gp), .int (jI li), .ref mf, .ref mt, .ref mw, .int (jI fo), .ref mk, .int (jI ln), .int (jI bs), .int (jI kn), .ref mz, .int (jI 1), .int (jI u2.2.1), .int (jI u2.2.2.1), .int (jI u2.2.2.2.1), .int (jI u2.2.2.2.2)])), (ml, .inl (cA, 96, .inl (jA M))), (mn, .inl (cA, 2, .inl (jA N))), (mz, .inl (cA, 2401, .inl (jA sc2)))] → va_S A s.heap H locs → W p l e (rmk 1 0 0 22) s m args below meth c H locs 0 0 Q (F0 m 233 ls []) := by
                            intro s1 ls H locs hb1 hE1 hl hP hD hS
                            refine lv_aload_n hx hb dX5_reach_233 rfl (lv_at hl 8 rfl) ?_
                            refine lv_iload hx hb dX5_reach_234 (lv_at hl 2 rfl) ?_
                            refine lv_iconst (v := jI 1) hx hb dX5_reach_236 rfl ?_
                            refine jv_isub hx hb dX5_reach_237 ?_
                            refine lv_iload hx hb dX5_reach_238 (lv_at hl 1 rfl) ?_
                            refine jr_V F (kX5_scoreAt l D cA mo ml mn mf mt mw mk mz K g ga lo gp li fo ln bs kn 1 u2.2.1 u2.2.2.1 u2.2.2.2.1 u2.2.2.2.2 sc2 (pp - 1) (d - pp) (by omega) (by omega)) cvX5_94 hP [0, 3] rfl 0 rfl rfl hl ⟨rfl, rfl, by decide, by decide⟩ rfl rfl (Nat.le_of_ble_eq_true rfl) dX5_reach_240 ⟨by decide, by decide⟩ (fun v hv => ?_)
                            subst hv
                            refine lv_ldc (v := jI (-1000000)) hx hb F.own (F.wd wcX5_78) dX5_reach_243 ?_
                            refine jv_icmp_le (tgt := 270) hx hb dX5_reach_245 rfl (by omega) (by omega) (fun c245 => ?_) (fun c245 => ?_)
                            · refine lp270 s1 ls H locs ?_ ?_ (lv_sub hl [0, 1, 2, 3, 4, 5, 6, 7, 8, 9, 10] rfl) hP hD hS
                              · omega
                              · refine ⟨fun h5 => ?_, fun h5 => hid_i ⟨s1, hE1.2 h5, by omega⟩⟩
                                first
                                  | exact hE1.1 h5
                                  | (exfalso; omega)
                            · refine lv_iload hx hb dX5_reach_248 (lv_at hl 0 rfl) ?_
                              refine lv_aload_n hx hb dX5_reach_250 rfl (lv_at hl 8 rfl) ?_
                              refine lv_iload hx hb dX5_reach_251 (lv_at hl 2 rfl) ?_
                              refine lv_iconst (v := jI 1) hx hb dX5_reach_253 rfl ?_
                              refine jv_isub hx hb dX5_reach_254 ?_
                              refine lv_iload hx hb dX5_reach_255 (lv_at hl 1 rfl) ?_
                              refine jr_V F (kX5_scoreAt l D cA mo ml mn mf mt mw mk mz K g ga lo gp li fo ln bs kn 1 u2.2.1 u2.2.2.1 u2.2.2.2.1 u2.2.2.2.2 sc2 (pp - 1) (d - pp) (by omega) (by omega)) cvX5_94 hP [0, 3] rfl 0 rfl rfl hl ⟨rfl, rfl, by decide, by decide⟩ rfl rfl (Nat.le_of_ble_eq_true rfl) dX5_reach_257 ⟨by decide, by decide⟩ (fun v hv => ?_)
                              subst hv
                              refine lv_aload_n hx hb dX5_reach_260 rfl (lv_at hl 8 rfl) ?_
                              refine jv_get (v := .int (jI gp)) F hP 0 rfl flX5_29 rfl dX5_reach_261 ?_
                              refine jv_isub hx hb dX5_reach_264 ?_
                              refine jr_S F (kX5_greater l D cA s1 ((sat sc2 (pp - 1) (d - pp)) - gp) (by omega) (by omega)) csX5_97 hP [] rfl hl ⟨rfl, rfl, by decide, by decide⟩ rfl rfl (Nat.le_of_ble_eq_true rfl) dX5_reach_265 ⟨by decide, by decide⟩ (fun v hv => ?_)
                              subst hv
                              refine lv_istore (lv' := [(10, .int (jI (max s1 ((sat sc2 (pp - 1) (d - pp)) - gp)))), (9, .int (jI (d - pp))), (8, .int (jI pp)), (7, .int (jI u.1)), (6, .int (jI d)), (5, .int (jI u2.1)), (4, .int (jI ((N 1) - j))), (3, .int (jI ((N 0) - i))), (0, .ref mo), (1, .int (jI i)), (2, .int (jI j))]) hx hb dX5_reach_268 hl (by decide) rfl (fun ls hl => ?_)
                              refine lp270 (max s1 ((sat sc2 (pp - 1) (d - pp)) - gp)) ls H locs ?_ ?_ (lv_sub hl [0, 1, 2, 3, 4, 5, 6, 7, 8, 9, 10] rfl) hP hD hS
                              · omega
                              · refine ⟨fun h5 => ?_, fun h5 => hid_i ⟨s1, hE1.2 h5, by omega⟩⟩
                                first
                                  | exact hE1.1 h5
                                  | (exfalso; omega)
                          refine lv_iload hx hb dX5_reach_126 (lv_at hl 3 rfl) ?_
                          refine jv_if_ne (tgt := 135) hx hb dX5_reach_128 rfl (by omega) (fun c128 => ?_) (fun c128 => ?_)
                          · refine lv_ldc (v := jI (-1000000)) hx hb F.own (F.wd wcX5_78) dX5_reach_135 ?_
                            refine lv_istore (lv' := [(10, .int (jI (-1000000))), (9, .int (jI (d - pp))), (8, .int (jI pp)), (7, .int (jI u.1)), (6, .int (jI d)), (5, .int (jI u2.1)), (4, .int (jI ((N 1) - j))), (3, .int (jI ((N 0) - i))), (0, .ref mo), (1, .int (jI i)), (2, .int (jI j))]) hx hb dX5_reach_137 hl (by decide) rfl (fun ls hl => ?_)
                            refine lv_iload hx hb dX5_reach_139 (lv_at hl 2 rfl) ?_
                            refine jv_if_le (tgt := 233) hx hb dX5_reach_141 rfl (by omega) (fun c141 => ?_) (fun c141 => ?_)
                            · refine lp233 (-1000000) ls H locs ?_ ?_ (lv_sub hl [0, 1, 2, 3, 4, 5, 6, 7, 8, 9, 10] rfl) hP hD hS
                              · omega
                              · first
                                  | (refine ⟨fun h5 => ?_, fun h5 => ?_⟩
                                     · omega
                                     · refine Or.inr ⟨by omega, by omega⟩)
                                  | (refine ⟨fun h5 => ?_, fun h5 => Or.inl ⟨by omega, by omega, by omega, ?_⟩⟩
                                     · omega
                                     · unfold smv
                                       first | (rw [if_pos c191]; done) | (rw [if_neg c191]; done))
                            · refine lv_iload hx hb dX5_reach_144 (lv_at hl 1 rfl) ?_
                              refine jv_if_le (tgt := 233) hx hb dX5_reach_146 rfl (by omega) (fun c146 => ?_) (fun c146 => ?_)
                              · refine lp233 (-1000000) ls H locs ?_ ?_ (lv_sub hl [0, 1, 2, 3, 4, 5, 6, 7, 8, 9, 10] rfl) hP hD hS
                                · omega
                                · first
                                    | (refine ⟨fun h5 => ?_, fun h5 => ?_⟩
                                       · omega
                                       · refine Or.inr ⟨by omega, by omega⟩)
                                    | (refine ⟨fun h5 => ?_, fun h5 => Or.inl ⟨by omega, by omega, by omega, ?_⟩⟩
                                       · omega
                                       · unfold smv
                                         first | (rw [if_pos c191]; done) | (rw [if_neg c191]; done))
                              · refine lv_aload_n hx hb dX5_reach_149 rfl (lv_at hl 8 rfl) ?_
                                refine lv_iload hx hb dX5_reach_150 (lv_at hl 2 rfl) ?_
                                refine lv_iconst (v := jI 1) hx hb dX5_reach_152 rfl ?_
                                refine jv_isub hx hb dX5_reach_153 ?_
                                refine lv_iload hx hb dX5_reach_154 (lv_at hl 1 rfl) ?_
                                refine lv_iconst (v := jI 1) hx hb dX5_reach_156 rfl ?_
                                refine jv_isub hx hb dX5_reach_157 ?_
                                refine jr_V F (kX5_scoreAt l D cA mo ml mn mf mt mw mk mz K g ga lo gp li fo ln bs kn 1 u2.2.1 u2.2.2.1 u2.2.2.2.1 u2.2.2.2.2 sc2 (pp - 1) ((d - pp) - 1) (by omega) (by omega)) cvX5_94 hP [0, 3] rfl 0 rfl rfl hl ⟨rfl, rfl, by decide, by decide⟩ rfl rfl (Nat.le_of_ble_eq_true rfl) dX5_reach_158 ⟨by decide, by decide⟩ (fun v hv => ?_)
                                subst hv
                                refine lv_ldc (v := jI (-1000000)) hx hb F.own (F.wd wcX5_78) dX5_reach_161 ?_
                                have hA8 := hA9 (by omega) (by omega)
                                refine jv_icmp_le (tgt := 233) hx hb dX5_reach_163 rfl (by omega) (by omega) (fun c163 => ?_) (fun c163 => ?_)
                                · refine lp233 (-1000000) ls H locs ?_ ?_ (lv_sub hl [0, 1, 2, 3, 4, 5, 6, 7, 8, 9, 10] rfl) hP hD hS
                                  · omega
                                  · first
                                      | (refine ⟨fun h5 => ?_, fun h5 => ?_⟩
                                         · omega
                                         · refine Or.inr ⟨by omega, by omega⟩)
                                      | (refine ⟨fun h5 => ?_, fun h5 => Or.inl ⟨by omega, by omega, by omega, ?_⟩⟩
                                         · omega
                                         · unfold smv
                                           first | (rw [if_pos c191]; done) | (rw [if_neg c191]; done))
                                · refine lv_aload_n hx hb dX5_reach_166 rfl (lv_at hl 8 rfl) ?_
                                  refine jv_get (v := .ref ml) F hP 0 rfl flX5_7 rfl dX5_reach_167 ?_
                                  refine lv_iload_n hx hb dX5_reach_170 rfl (lv_at hl 9 rfl) ?_
                                  refine lv_iload hx hb dX5_reach_171 (lv_at hl 2 rfl) ?_
                                  refine jv_iadd hx hb dX5_reach_173 ?_
                                  refine lv_iconst (v := jI 1) hx hb dX5_reach_174 rfl ?_
                                  refine jv_isub hx hb dX5_reach_175 ?_
                                  refine jv_iald (fa := M) F hP 1 rfl (by omega) (by decide) dX5_reach_176 ?_
                                  refine lv_aload_n hx hb dX5_reach_177 rfl (lv_at hl 8 rfl) ?_
                                  refine jv_get (v := .ref ml) F hP 0 rfl flX5_7 rfl dX5_reach_178 ?_
                                  refine lv_bipush (v := jI 48) hx hb dX5_reach_181 (by decide +kernel) ?_
                                  refine lv_iload_n hx hb dX5_reach_183 rfl (lv_at hl 10 rfl) ?_
                                  refine jv_iadd hx hb dX5_reach_184 ?_
                                  refine lv_iload hx hb dX5_reach_185 (lv_at hl 1 rfl) ?_
                                  refine jv_iadd hx hb dX5_reach_187 ?_
                                  refine lv_iconst (v := jI 1) hx hb dX5_reach_188 rfl ?_
                                  refine jv_isub hx hb dX5_reach_189 ?_
                                  refine jv_iald (fa := M) F hP 1 rfl (by omega) (by decide) dX5_reach_190 ?_
                                  have m0 := hM0 (i + pp - 1) (by omega) (by omega)
                                  have m1 := hM1 (j + (d - pp) - 1) (by omega) (by omega)
                                  have l0 := hL0 (i + pp - 1)
                                  have l1 := hL1 (j + (d - pp) - 1)
                                  rw [show 48 + j + (d - pp) - 1 = 48 + (j + (d - pp) - 1) by omega, m0, m1]
                                  refine jv_icmp_ne (tgt := 198) hx hb dX5_reach_191 rfl (by omega) (by omega) (fun c191 => ?_) (fun c191 => ?_)
                                  · refine lv_iconst (v := jI 0) hx hb dX5_reach_198 rfl ?_
                                    refine lv_istore (lv' := [(11, .int (jI 0)), (10, .int (jI (-1000000))), (9, .int (jI (d - pp))), (8, .int (jI pp)), (7, .int (jI u.1)), (6, .int (jI d)), (5, .int (jI u2.1)), (4, .int (jI ((N 1) - j))), (3, .int (jI ((N 0) - i))), (0, .ref mo), (1, .int (jI i)), (2, .int (jI j))]) hx hb dX5_reach_199 hl (by decide) rfl (fun ls hl => ?_)
                                    refine lv_aload_n hx hb dX5_reach_201 rfl (lv_at hl 9 rfl) ?_
                                    refine lv_iload hx hb dX5_reach_202 (lv_at hl 3 rfl) ?_
                                    refine lv_iconst (v := jI 1) hx hb dX5_reach_204 rfl ?_
                                    refine jv_isub hx hb dX5_reach_205 ?_
                                    refine lv_iload hx hb dX5_reach_206 (lv_at hl 2 rfl) ?_
                                    refine lv_iconst (v := jI 1) hx hb dX5_reach_208 rfl ?_
                                    refine jv_isub hx hb dX5_reach_209 ?_
                                    refine jr_V F (kX5_scoreAt l D cA mo ml mn mf mt mw mk mz K g ga lo gp li fo ln bs kn 1 u2.2.1 u2.2.2.1 u2.2.2.2.1 u2.2.2.2.2 sc2 (pp - 1) ((d - pp) - 1) (by omega) (by omega)) cvX5_94 hP [0, 3] rfl 0 rfl rfl hl ⟨rfl, rfl, by decide, by decide⟩ rfl rfl (Nat.le_of_ble_eq_true rfl) dX5_reach_210 ⟨by decide, by decide⟩ (fun v hv => ?_)
                                    subst hv
                                    refine lv_iload hx hb dX5_reach_213 (lv_at hl 0 rfl) ?_
                                    refine jv_if_eq (tgt := 225) hx hb dX5_reach_215 rfl (by omega) (fun c215 => ?_) (fun c215 => ?_)
                                    · refine lv_aload_n hx hb dX5_reach_225 rfl (lv_at hl 9 rfl) ?_
                                      refine jv_get (v := .int (jI lo)) F hP 0 rfl flX5_26 rfl dX5_reach_226 ?_
                                      refine jv_ineg hx hb dX5_reach_229 ?_
                                      refine jv_iadd hx hb dX5_reach_230 ?_
                                      refine lv_istore (lv' := [(10, .int (jI ((sat sc2 (pp - 1) ((d - pp) - 1)) + (-lo)))), (11, .int (jI 0)), (9, .int (jI (d - pp))), (8, .int (jI pp)), (7, .int (jI u.1)), (6, .int (jI d)), (5, .int (jI u2.1)), (4, .int (jI ((N 1) - j))), (3, .int (jI ((N 0) - i))), (0, .ref mo), (1, .int (jI i)), (2, .int (jI j))]) hx hb dX5_reach_231 hl (by decide) rfl (fun ls hl => ?_)
                                      refine lp233 ((sat sc2 (pp - 1) ((d - pp) - 1)) + (-lo)) ls H locs ?_ ?_ (lv_sub hl [0, 2, 3, 4, 5, 6, 7, 8, 9, 10, 11] rfl) hP hD hS
                                      · omega
                                      · first
                                          | (refine ⟨fun h5 => ?_, fun h5 => ?_⟩
                                             · omega
                                             · refine Or.inr ⟨by omega, by omega⟩)
                                          | (refine ⟨fun h5 => ?_, fun h5 => Or.inl ⟨by omega, by omega, by omega, ?_⟩⟩
                                             · omega
                                             · unfold smv
                                               first | (rw [if_pos c191]; done) | (rw [if_neg c191]; done))
                                    · exfalso
                                      omega
                                  · refine lv_iconst (v := jI 1) hx hb dX5_reach_194 rfl ?_
                                    refine lv_goto (tgt := 199) hx hb dX5_reach_195 rfl ?_
                                    refine lv_istore (lv' := [(11, .int (jI 1)), (10, .int (jI (-1000000))), (9, .int (jI (d - pp))), (8, .int (jI pp)), (7, .int (jI u.1)), (6, .int (jI d)), (5, .int (jI u2.1)), (4, .int (jI ((N 1) - j))), (3, .int (jI ((N 0) - i))), (0, .ref mo), (1, .int (jI i)), (2, .int (jI j))]) hx hb dX5_reach_199 hl (by decide) rfl (fun ls hl => ?_)
                                    refine lv_aload_n hx hb dX5_reach_201 rfl (lv_at hl 9 rfl) ?_
                                    refine lv_iload hx hb dX5_reach_202 (lv_at hl 3 rfl) ?_
                                    refine lv_iconst (v := jI 1) hx hb dX5_reach_204 rfl ?_
                                    refine jv_isub hx hb dX5_reach_205 ?_
                                    refine lv_iload hx hb dX5_reach_206 (lv_at hl 2 rfl) ?_
                                    refine lv_iconst (v := jI 1) hx hb dX5_reach_208 rfl ?_
                                    refine jv_isub hx hb dX5_reach_209 ?_
                                    refine jr_V F (kX5_scoreAt l D cA mo ml mn mf mt mw mk mz K g ga lo gp li fo ln bs kn 1 u2.2.1 u2.2.2.1 u2.2.2.2.1 u2.2.2.2.2 sc2 (pp - 1) ((d - pp) - 1) (by omega) (by omega)) cvX5_94 hP [0, 3] rfl 0 rfl rfl hl ⟨rfl, rfl, by decide, by decide⟩ rfl rfl (Nat.le_of_ble_eq_true rfl) dX5_reach_210 ⟨by decide, by decide⟩ (fun v hv => ?_)
                                    subst hv
                                    refine lv_iload hx hb dX5_reach_213 (lv_at hl 0 rfl) ?_
                                    refine jv_if_eq (tgt := 225) hx hb dX5_reach_215 rfl (by omega) (fun c215 => ?_) (fun c215 => ?_)
                                    · exfalso
                                      omega
                                    · refine lv_aload_n hx hb dX5_reach_218 rfl (lv_at hl 9 rfl) ?_
                                      refine jv_get (v := .int (jI ga)) F hP 0 rfl flX5_23 rfl dX5_reach_219 ?_
                                      refine lv_goto (tgt := 230) hx hb dX5_reach_222 rfl ?_
                                      refine jv_iadd hx hb dX5_reach_230 ?_
                                      refine lv_istore (lv' := [(10, .int (jI ((sat sc2 (pp - 1) ((d - pp) - 1)) + ga))), (11, .int (jI 1)), (9, .int (jI (d - pp))), (8, .int (jI pp)), (7, .int (jI u.1)), (6, .int (jI d)), (5, .int (jI u2.1)), (4, .int (jI ((N 1) - j))), (3, .int (jI ((N 0) - i))), (0, .ref mo), (1, .int (jI i)), (2, .int (jI j))]) hx hb dX5_reach_231 hl (by decide) rfl (fun ls hl => ?_)
                                      refine lp233 ((sat sc2 (pp - 1) ((d - pp) - 1)) + ga) ls H locs ?_ ?_ (lv_sub hl [0, 2, 3, 4, 5, 6, 7, 8, 9, 10, 11] rfl) hP hD hS
                                      · omega
                                      · first
                                          | (refine ⟨fun h5 => ?_, fun h5 => ?_⟩
                                             · omega
                                             · refine Or.inr ⟨by omega, by omega⟩)
                                          | (refine ⟨fun h5 => ?_, fun h5 => Or.inl ⟨by omega, by omega, by omega, ?_⟩⟩
                                             · omega
                                             · unfold smv
                                               first | (rw [if_pos c191]; done) | (rw [if_neg c191]; done))
                          · refine lv_iconst (v := jI 0) hx hb dX5_reach_131 rfl ?_
                            refine lv_goto (tgt := 137) hx hb dX5_reach_132 rfl ?_
                            refine lv_istore (lv' := [(10, .int (jI 0)), (9, .int (jI (d - pp))), (8, .int (jI pp)), (7, .int (jI u.1)), (6, .int (jI d)), (5, .int (jI u2.1)), (4, .int (jI ((N 1) - j))), (3, .int (jI ((N 0) - i))), (0, .ref mo), (1, .int (jI i)), (2, .int (jI j))]) hx hb dX5_reach_137 hl (by decide) rfl (fun ls hl => ?_)
                            refine lv_iload hx hb dX5_reach_139 (lv_at hl 2 rfl) ?_
                            refine jv_if_le (tgt := 233) hx hb dX5_reach_141 rfl (by omega) (fun c141 => ?_) (fun c141 => ?_)
                            · refine lp233 0 ls H locs ?_ ?_ (lv_sub hl [0, 1, 2, 3, 4, 5, 6, 7, 8, 9, 10] rfl) hP hD hS
                              · omega
                              · first
                                  | (refine ⟨fun h5 => ?_, fun h5 => ?_⟩
                                     · omega
                                     · refine Or.inr ⟨by omega, by omega⟩)
                                  | (refine ⟨fun h5 => ?_, fun h5 => Or.inl ⟨by omega, by omega, by omega, ?_⟩⟩
                                     · omega
                                     · unfold smv
                                       first | (rw [if_pos c191]; done) | (rw [if_neg c191]; done))
                            · refine lv_iload hx hb dX5_reach_144 (lv_at hl 1 rfl) ?_
                              refine jv_if_le (tgt := 233) hx hb dX5_reach_146 rfl (by omega) (fun c146 => ?_) (fun c146 => ?_)
                              · refine lp233 0 ls H locs ?_ ?_ (lv_sub hl [0, 1, 2, 3, 4, 5, 6, 7, 8, 9, 10] rfl) hP hD hS
                                · omega
                                · first
                                    | (refine ⟨fun h5 => ?_, fun h5 => ?_⟩
                                       · omega
                                       · refine Or.inr ⟨by omega, by omega⟩)
                                    | (refine ⟨fun h5 => ?_, fun h5 => Or.inl ⟨by omega, by omega, by omega, ?_⟩⟩
                                       · omega
                                       · unfold smv
                                         first | (rw [if_pos c191]; done) | (rw [if_neg c191]; done))
                              · refine lv_aload_n hx hb dX5_reach_149 rfl (lv_at hl 8 rfl) ?_
                                refine lv_iload hx hb dX5_reach_150 (lv_at hl 2 rfl) ?_
                                refine lv_iconst (v := jI 1) hx hb dX5_reach_152 rfl ?_
                                refine jv_isub hx hb dX5_reach_153 ?_
                                refine lv_iload hx hb dX5_reach_154 (lv_at hl 1 rfl) ?_
                                refine lv_iconst (v := jI 1) hx hb dX5_reach_156 rfl ?_
                                refine jv_isub hx hb dX5_reach_157 ?_
                                refine jr_V F (kX5_scoreAt l D cA mo ml mn mf mt mw mk mz K g ga lo gp li fo ln bs kn 1 u2.2.1 u2.2.2.1 u2.2.2.2.1 u2.2.2.2.2 sc2 (pp - 1) ((d - pp) - 1) (by omega) (by omega)) cvX5_94 hP [0, 3] rfl 0 rfl rfl hl ⟨rfl, rfl, by decide, by decide⟩ rfl rfl (Nat.le_of_ble_eq_true rfl) dX5_reach_158 ⟨by decide, by decide⟩ (fun v hv => ?_)
                                subst hv
                                refine lv_ldc (v := jI (-1000000)) hx hb F.own (F.wd wcX5_78) dX5_reach_161 ?_
                                have hA8 := hA9 (by omega) (by omega)
                                refine jv_icmp_le (tgt := 233) hx hb dX5_reach_163 rfl (by omega) (by omega) (fun c163 => ?_) (fun c163 => ?_)
                                · refine lp233 0 ls H locs ?_ ?_ (lv_sub hl [0, 1, 2, 3, 4, 5, 6, 7, 8, 9, 10] rfl) hP hD hS
                                  · omega
                                  · first
                                      | (refine ⟨fun h5 => ?_, fun h5 => ?_⟩
                                         · omega
                                         · refine Or.inr ⟨by omega, by omega⟩)
                                      | (refine ⟨fun h5 => ?_, fun h5 => Or.inl ⟨by omega, by omega, by omega, ?_⟩⟩
                                         · omega
                                         · unfold smv
                                           first | (rw [if_pos c191]; done) | (rw [if_neg c191]; done))
                                · refine lv_aload_n hx hb dX5_reach_166 rfl (lv_at hl 8 rfl) ?_
                                  refine jv_get (v := .ref ml) F hP 0 rfl flX5_7 rfl dX5_reach_167 ?_
                                  refine lv_iload_n hx hb dX5_reach_170 rfl (lv_at hl 9 rfl) ?_
                                  refine lv_iload hx hb dX5_reach_171 (lv_at hl 2 rfl) ?_
                                  refine jv_iadd hx hb dX5_reach_173 ?_
                                  refine lv_iconst (v := jI 1) hx hb dX5_reach_174 rfl ?_
                                  refine jv_isub hx hb dX5_reach_175 ?_
                                  refine jv_iald (fa := M) F hP 1 rfl (by omega) (by decide) dX5_reach_176 ?_
                                  refine lv_aload_n hx hb dX5_reach_177 rfl (lv_at hl 8 rfl) ?_
                                  refine jv_get (v := .ref ml) F hP 0 rfl flX5_7 rfl dX5_reach_178 ?_
                                  refine lv_bipush (v := jI 48) hx hb dX5_reach_181 (by decide +kernel) ?_
                                  refine lv_iload_n hx hb dX5_reach_183 rfl (lv_at hl 10 rfl) ?_
                                  refine jv_iadd hx hb dX5_reach_184 ?_
                                  refine lv_iload hx hb dX5_reach_185 (lv_at hl 1 rfl) ?_
                                  refine jv_iadd hx hb dX5_reach_187 ?_
                                  refine lv_iconst (v := jI 1) hx hb dX5_reach_188 rfl ?_
                                  refine jv_isub hx hb dX5_reach_189 ?_
                                  refine jv_iald (fa := M) F hP 1 rfl (by omega) (by decide) dX5_reach_190 ?_
                                  have m0 := hM0 (i + pp - 1) (by omega) (by omega)
                                  have m1 := hM1 (j + (d - pp) - 1) (by omega) (by omega)
                                  have l0 := hL0 (i + pp - 1)
                                  have l1 := hL1 (j + (d - pp) - 1)
                                  rw [show 48 + j + (d - pp) - 1 = 48 + (j + (d - pp) - 1) by omega, m0, m1]
                                  refine jv_icmp_ne (tgt := 198) hx hb dX5_reach_191 rfl (by omega) (by omega) (fun c191 => ?_) (fun c191 => ?_)
                                  · refine lv_iconst (v := jI 0) hx hb dX5_reach_198 rfl ?_
                                    refine lv_istore (lv' := [(11, .int (jI 0)), (10, .int (jI 0)), (9, .int (jI (d - pp))), (8, .int (jI pp)), (7, .int (jI u.1)), (6, .int (jI d)), (5, .int (jI u2.1)), (4, .int (jI ((N 1) - j))), (3, .int (jI ((N 0) - i))), (0, .ref mo), (1, .int (jI i)), (2, .int (jI j))]) hx hb dX5_reach_199 hl (by decide) rfl (fun ls hl => ?_)
                                    refine lv_aload_n hx hb dX5_reach_201 rfl (lv_at hl 9 rfl) ?_
                                    refine lv_iload hx hb dX5_reach_202 (lv_at hl 3 rfl) ?_
                                    refine lv_iconst (v := jI 1) hx hb dX5_reach_204 rfl ?_
                                    refine jv_isub hx hb dX5_reach_205 ?_
                                    refine lv_iload hx hb dX5_reach_206 (lv_at hl 2 rfl) ?_
                                    refine lv_iconst (v := jI 1) hx hb dX5_reach_208 rfl ?_
                                    refine jv_isub hx hb dX5_reach_209 ?_
                                    refine jr_V F (kX5_scoreAt l D cA mo ml mn mf mt mw mk mz K g ga lo gp li fo ln bs kn 1 u2.2.1 u2.2.2.1 u2.2.2.2.1 u2.2.2.2.2 sc2 (pp - 1) ((d - pp) - 1) (by omega) (by omega)) cvX5_94 hP [0, 3] rfl 0 rfl rfl hl ⟨rfl, rfl, by decide, by decide⟩ rfl rfl (Nat.le_of_ble_eq_true rfl) dX5_reach_210 ⟨by decide, by decide⟩ (fun v hv => ?_)
                                    subst hv
                                    refine lv_iload hx hb dX5_reach_213 (lv_at hl 0 rfl) ?_
                                    refine jv_if_eq (tgt := 225) hx hb dX5_reach_215 rfl (by omega) (fun c215 => ?_) (fun c215 => ?_)
                                    · refine lv_aload_n hx hb dX5_reach_225 rfl (lv_at hl 9 rfl) ?_
                                      refine jv_get (v := .int (jI lo)) F hP 0 rfl flX5_26 rfl dX5_reach_226 ?_
                                      refine jv_ineg hx hb dX5_reach_229 ?_
                                      refine jv_iadd hx hb dX5_reach_230 ?_
                                      refine lv_istore (lv' := [(10, .int (jI ((sat sc2 (pp - 1) ((d - pp) - 1)) + (-lo)))), (11, .int (jI 0)), (9, .int (jI (d - pp))), (8, .int (jI pp)), (7, .int (jI u.1)), (6, .int (jI d)), (5, .int (jI u2.1)), (4, .int (jI ((N 1) - j))), (3, .int (jI ((N 0) - i))), (0, .ref mo), (1, .int (jI i)), (2, .int (jI j))]) hx hb dX5_reach_231 hl (by decide) rfl (fun ls hl => ?_)
                                      refine lp233 ((sat sc2 (pp - 1) ((d - pp) - 1)) + (-lo)) ls H locs ?_ ?_ (lv_sub hl [0, 2, 3, 4, 5, 6, 7, 8, 9, 10, 11] rfl) hP hD hS
                                      · omega
                                      · first
                                          | (refine ⟨fun h5 => ?_, fun h5 => ?_⟩
                                             · omega
                                             · refine Or.inr ⟨by omega, by omega⟩)
                                          | (refine ⟨fun h5 => ?_, fun h5 => Or.inl ⟨by omega, by omega, by omega, ?_⟩⟩
                                             · omega
                                             · unfold smv
                                               first | (rw [if_pos c191]; done) | (rw [if_neg c191]; done))
                                    · exfalso
                                      omega
                                  · refine lv_iconst (v := jI 1) hx hb dX5_reach_194 rfl ?_
                                    refine lv_goto (tgt := 199) hx hb dX5_reach_195 rfl ?_
                                    refine lv_istore (lv' := [(11, .int (jI 1)), (10, .int (jI 0)), (9, .int (jI (d - pp))), (8, .int (jI pp)), (7, .int (jI u.1)), (6, .int (jI d)), (5, .int (jI u2.1)), (4, .int (jI ((N 1) - j))), (3, .int (jI ((N 0) - i))), (0, .ref mo), (1, .int (jI i)), (2, .int (jI j))]) hx hb dX5_reach_199 hl (by decide) rfl (fun ls hl => ?_)
                                    refine lv_aload_n hx hb dX5_reach_201 rfl (lv_at hl 9 rfl) ?_
                                    refine lv_iload hx hb dX5_reach_202 (lv_at hl 3 rfl) ?_
                                    refine lv_iconst (v := jI 1) hx hb dX5_reach_204 rfl ?_
                                    refine jv_isub hx hb dX5_reach_205 ?_
                                    refine lv_iload hx hb dX5_reach_206 (lv_at hl 2 rfl) ?_
                                    refine lv_iconst (v := jI 1) hx hb dX5_reach_208 rfl ?_
                                    refine jv_isub hx hb dX5_reach_209 ?_
                                    refine jr_V F (kX5_scoreAt l D cA mo ml mn mf mt mw mk mz K g ga lo gp li fo ln bs kn 1 u2.2.1 u2.2.2.1 u2.2.2.2.1 u2.2.2.2.2 sc2 (pp - 1) ((d - pp) - 1) (by omega) (by omega)) cvX5_94 hP [0, 3] rfl 0 rfl rfl hl ⟨rfl, rfl, by decide, by decide⟩ rfl rfl (Nat.le_of_ble_eq_true rfl) dX5_reach_210 ⟨by decide, by decide⟩ (fun v hv => ?_)
                                    subst hv
                                    refine lv_iload hx hb dX5_reach_213 (lv_at hl 0 rfl) ?_
                                    refine jv_if_eq (tgt := 225) hx hb dX5_reach_215 rfl (by omega) (fun c215 => ?_) (fun c215 => ?_)
                                    · exfalso
                                      omega
                                    · refine lv_aload_n hx hb dX5_reach_218 rfl (lv_at hl 9 rfl) ?_
                                      refine jv_get (v := .int (jI ga)) F hP 0 rfl flX5_23 rfl dX5_reach_219 ?_
                                      refine lv_goto (tgt := 230) hx hb dX5_reach_222 rfl ?_
                                      refine jv_iadd hx hb dX5_reach_230 ?_
                                      refine lv_istore (lv' := [(10, .int (jI ((sat sc2 (pp - 1) ((d - pp) - 1)) + ga))), (11, .int (jI 1)), (9, .int (jI (d - pp))), (8, .int (jI pp)), (7, .int (jI u.1)), (6, .int (jI d)), (5, .int (jI u2.1)), (4, .int (jI ((N 1) - j))), (3, .int (jI ((N 0) - i))), (0, .ref mo), (1, .int (jI i)), (2, .int (jI j))]) hx hb dX5_reach_231 hl (by decide) rfl (fun ls hl => ?_)
                                      refine lp233 ((sat sc2 (pp - 1) ((d - pp) - 1)) + ga) ls H locs ?_ ?_ (lv_sub hl [0, 2, 3, 4, 5, 6, 7, 8, 9, 10, 11] rfl) hP hD hS
                                      · omega
                                      · first
                                          | (refine ⟨fun h5 => ?_, fun h5 => ?_⟩
                                             · omega
                                             · refine Or.inr ⟨by omega, by omega⟩)
                                          | (refine ⟨fun h5 => ?_, fun h5 => Or.inl ⟨by omega, by omega, by omega, ?_⟩⟩
                                             · omega
                                             · unfold smv
                                               first | (rw [if_pos c191]; done) | (rw [if_neg c191]; done))
                        · refine lv_goto (tgt := 407) hx hb dX5_reach_123 rfl ?_
                          refine lv_iinc (k := 1) (v := jI (pp + 1)) (lv' := [(8, .int (jI (pp + 1))), (9, .int (jI (d - pp))), (7, .int (jI u.1)), (6, .int (jI d)), (5, .int (jI u2.1)), (4, .int (jI ((N 1) - j))), (3, .int (jI ((N 0) - i))), (0, .ref mo), (1, .int (jI i)), (2, .int (jI j))]) hx hb dX5_reach_407 hl rfl (jI_add _ _) (by decide) rfl (fun ls hl => ?_)
                          refine lv_goto (tgt := 96) hx hb dX5_reach_410 rfl ?_
                          refine ih96 (pp + 1) u2 sc2 ls H locs (by omega) ?_ ?_ ?_ ?_ (lv_sub hl [0, 2, 3, 4, 5, 6, 7, 8, 9] rfl) hP hD hS
                          · omega
                          · refine ⟨fun h5 => ?_, fun h5 => ?_⟩
                            · first
                                | exact hu2.1 h5
                                | (exfalso; omega)
                            · rw [rA_s (by omega), ← hu2.2 h5]
                              first
                                | (rw [acc1_dead (hcell.2 (by omega))]; done)
                                | (exfalso; omega)
                                | (rw [acc1_dead (by rw [hZd h5]; exact nx_out (by omega))]; done)
                                | (rw [← (hcell.1 ⟨by omega, by omega⟩).1, acc1_hi (by omega) (by omega)]; done)
                                | (rw [← (hcell.1 ⟨by omega, by omega⟩).1, acc1_lo (by omega) (by omega)]; done)
                          · intro x y x0 x1 y0 y1 h5
                            first
                              | (by_cases h6 : x = pp ∧ y = d - pp
                                 · obtain ⟨h7, h8⟩ := h6
                                   rw [h7, h8, show pp + (d - pp) = d by omega]
                                   first
                                     | (rw [jU_s, hcell.2 (by omega)]; done)
                                     | (rw [jU_s]; exact (hcell.1 ⟨by omega, by omega⟩).1)
                                 · rw [jU_n (by omega)]
                                   exact hsc2 x y x0 x1 y0 y1 (by omega))
                              | exact hsc2 x y x0 x1 y0 y1 (by omega)
                          · first
                              | exact hb2
                              | (show 0 ≤ s3 ∧ s3 ≤ 2000; omega)
                              | (show 0 ≤ u2.1 ∧ u2.1 ≤ 2000; exact hb2)
                refine lp96 (Int.toNat (d + 1 - 0) + 1) 0 u sc1 ls H locs (by omega) ?_ ?_ ?_ ?_ (lv_sub hl [0, 1, 2, 3, 4, 5, 6, 7, 8] rfl) hP hD hS
                · omega
                · exact ⟨fun _ => rfl, fun _ => rfl⟩
                · intro x y x0 x1 y0 y1 h5
                  exact hsc x y x0 x1 y0 y1 (by omega)
                · omega
          refine lp80 (Int.toNat (n0 - i + (n1 - j) + 1 - 0) + 1) 0 (0, 0, 0, 1, 0) sc ls H locs (by omega) ?_ ?_ ?_ (lv_sub hl [0, 1, 2, 3, 4, 5, 6] rfl) hP hD hS
          · omega
          · rfl
          · intro x y; omega
        · refine lv_iconst (v := jI (-1)) hx hb dX5_reach_28 rfl ?_
          exact jM.ri F hQ rfl dX5_reach_29 hS hP hD (by exact Or.inr ⟨by omega, rfl, rfl⟩)
end
