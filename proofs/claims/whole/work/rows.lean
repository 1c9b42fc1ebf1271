section
-- ===== PART A: goes FIRST, ahead of the names: the tables' words, and 'selects' of the private methods out of them =====
/-- a private method of a class that the tables say can be made, by its rows of tables_1 -/
def lw_okq (q : MethodName × Nat) : Prop := (q.1.cls ≠ "java/lang/invoke/MethodHandle" ∧ q.1.cls ≠ "java/lang/invoke/VarHandle") ∧ Cond.instantiable q.1.cls q.2 ∈ tables_1 ∧ Cond.privateMethod q.1 ∈ tables_1 ∧ Cond.instanceMethod q.1 ∈ tables_1
theorem lw_p0 : lw_okq (⟨"SeedChainer", "rowOf", "(I)LSeedChainer$LetterRow;"⟩, 7) := ⟨⟨by decide +kernel, by decide +kernel⟩, List.mem_of_getElem? (i := 10) (by decide +kernel), List.mem_of_getElem? (i := 136) (by decide +kernel), List.mem_of_getElem? (i := 137) (by decide +kernel)⟩
theorem lw_p1 : lw_okq (⟨"SeedChainer", "freshBest", "()LSeedChainer$BestChain;"⟩, 7) := ⟨⟨by decide +kernel, by decide +kernel⟩, List.mem_of_getElem? (i := 10) (by decide +kernel), List.mem_of_getElem? (i := 224) (by decide +kernel), List.mem_of_getElem? (i := 225) (by decide +kernel)⟩
theorem lw_p2 : lw_okq (⟨"SeedChainer$BestChain", "lookAhead", "(LSeedChainer$Seeds;I)V"⟩, 4) := ⟨⟨by decide +kernel, by decide +kernel⟩, List.mem_of_getElem? (i := 48) (by decide +kernel), List.mem_of_getElem? (i := 232) (by decide +kernel), List.mem_of_getElem? (i := 233) (by decide +kernel)⟩
theorem lw_p3 : lw_okq (⟨"SeedChainer$BestChain", "mostFrom", "(LSeedChainer$Seeds;III)I"⟩, 4) := ⟨⟨by decide +kernel, by decide +kernel⟩, List.mem_of_getElem? (i := 48) (by decide +kernel), List.mem_of_getElem? (i := 244) (by decide +kernel), List.mem_of_getElem? (i := 245) (by decide +kernel)⟩
theorem lw_p4 : lw_okq (⟨"SeedChainer$BestChain", "worthFrom", "(LSeedChainer$Seeds;II)I"⟩, 4) := ⟨⟨by decide +kernel, by decide +kernel⟩, List.mem_of_getElem? (i := 48) (by decide +kernel), List.mem_of_getElem? (i := 253) (by decide +kernel), List.mem_of_getElem? (i := 254) (by decide +kernel)⟩
theorem lw_p5 : lw_okq (⟨"SeedChainer$BestChain", "firstPair", "(LSeedChainer$Seeds;)I"⟩, 4) := ⟨⟨by decide +kernel, by decide +kernel⟩, List.mem_of_getElem? (i := 48) (by decide +kernel), List.mem_of_getElem? (i := 261) (by decide +kernel), List.mem_of_getElem? (i := 262) (by decide +kernel)⟩
theorem lw_p6 : lw_okq (⟨"SeedChainer$BestChain", "nextPair", "(LSeedChainer$Seeds;III)I"⟩, 4) := ⟨⟨by decide +kernel, by decide +kernel⟩, List.mem_of_getElem? (i := 48) (by decide +kernel), List.mem_of_getElem? (i := 267) (by decide +kernel), List.mem_of_getElem? (i := 268) (by decide +kernel)⟩
theorem lw_p7 : lw_okq (⟨"SeedChainer$Reaching", "begin", "()V"⟩, 12) := ⟨⟨by decide +kernel, by decide +kernel⟩, List.mem_of_getElem? (i := 67) (by decide +kernel), List.mem_of_getElem? (i := 299) (by decide +kernel), List.mem_of_getElem? (i := 300) (by decide +kernel)⟩
theorem lw_p8 : lw_okq (⟨"SeedChainer$Reaching", "turnSlopes", "()V"⟩, 12) := ⟨⟨by decide +kernel, by decide +kernel⟩, List.mem_of_getElem? (i := 67) (by decide +kernel), List.mem_of_getElem? (i := 308) (by decide +kernel), List.mem_of_getElem? (i := 309) (by decide +kernel)⟩
theorem lw_p9 : lw_okq (⟨"SeedChainer$Reaching", "walkSlope", "(LSeedChainer$LetterRow;ILSeedChainer$LetterRow;II)V"⟩, 12) := ⟨⟨by decide +kernel, by decide +kernel⟩, List.mem_of_getElem? (i := 67) (by decide +kernel), List.mem_of_getElem? (i := 312) (by decide +kernel), List.mem_of_getElem? (i := 313) (by decide +kernel)⟩
theorem lw_p10 : lw_okq (⟨"SeedChainer$Reaching", "gapScore", "(I)I"⟩, 12) := ⟨⟨by decide +kernel, by decide +kernel⟩, List.mem_of_getElem? (i := 67) (by decide +kernel), List.mem_of_getElem? (i := 320) (by decide +kernel), List.mem_of_getElem? (i := 321) (by decide +kernel)⟩
theorem lw_p11 : lw_okq (⟨"SeedChainer$Reaching", "keepAlive", "(III)V"⟩, 12) := ⟨⟨by decide +kernel, by decide +kernel⟩, List.mem_of_getElem? (i := 67) (by decide +kernel), List.mem_of_getElem? (i := 325) (by decide +kernel), List.mem_of_getElem? (i := 326) (by decide +kernel)⟩
theorem lw_p12 : lw_okq (⟨"SeedChainerModel", "learn", "()V"⟩, 22) := ⟨⟨by decide +kernel, by decide +kernel⟩, List.mem_of_getElem? (i := 341) (by decide +kernel), List.mem_of_getElem? (i := 445) (by decide +kernel), List.mem_of_getElem? (i := 446) (by decide +kernel)⟩
theorem lw_p13 : lw_okq (⟨"SeedChainerModel", "isAnchor", "(II)Z"⟩, 22) := ⟨⟨by decide +kernel, by decide +kernel⟩, List.mem_of_getElem? (i := 341) (by decide +kernel), List.mem_of_getElem? (i := 449) (by decide +kernel), List.mem_of_getElem? (i := 450) (by decide +kernel)⟩
theorem lw_p14 : lw_okq (⟨"SeedChainerModel", "between", "(II)I"⟩, 22) := ⟨⟨by decide +kernel, by decide +kernel⟩, List.mem_of_getElem? (i := 341) (by decide +kernel), List.mem_of_getElem? (i := 453) (by decide +kernel), List.mem_of_getElem? (i := 454) (by decide +kernel)⟩
theorem lw_p15 : lw_okq (⟨"SeedChainerModel", "scoreAt", "(II)I"⟩, 22) := ⟨⟨by decide +kernel, by decide +kernel⟩, List.mem_of_getElem? (i := 341) (by decide +kernel), List.mem_of_getElem? (i := 478) (by decide +kernel), List.mem_of_getElem? (i := 479) (by decide +kernel)⟩
def lw_privs_1 : List (MethodName × Nat) := [(⟨"SeedChainer", "rowOf", "(I)LSeedChainer$LetterRow;"⟩, 7), (⟨"SeedChainer", "freshBest", "()LSeedChainer$BestChain;"⟩, 7), (⟨"SeedChainer$BestChain", "lookAhead", "(LSeedChainer$Seeds;I)V"⟩, 4), (⟨"SeedChainer$BestChain", "mostFrom", "(LSeedChainer$Seeds;III)I"⟩, 4), (⟨"SeedChainer$BestChain", "worthFrom", "(LSeedChainer$Seeds;II)I"⟩, 4), (⟨"SeedChainer$BestChain", "firstPair", "(LSeedChainer$Seeds;)I"⟩, 4), (⟨"SeedChainer$BestChain", "nextPair", "(LSeedChainer$Seeds;III)I"⟩, 4), (⟨"SeedChainer$Reaching", "begin", "()V"⟩, 12), (⟨"SeedChainer$Reaching", "turnSlopes", "()V"⟩, 12), (⟨"SeedChainer$Reaching", "walkSlope", "(LSeedChainer$LetterRow;ILSeedChainer$LetterRow;II)V"⟩, 12), (⟨"SeedChainer$Reaching", "gapScore", "(I)I"⟩, 12), (⟨"SeedChainer$Reaching", "keepAlive", "(III)V"⟩, 12), (⟨"SeedChainerModel", "learn", "()V"⟩, 22), (⟨"SeedChainerModel", "isAnchor", "(II)Z"⟩, 22), (⟨"SeedChainerModel", "between", "(II)I"⟩, 22), (⟨"SeedChainerModel", "scoreAt", "(II)I"⟩, 22)]
theorem lw_r1 : ∀ q ∈ lw_privs_1, lw_okq q := List.forall_mem_cons.mpr ⟨lw_p0, List.forall_mem_cons.mpr ⟨lw_p1, List.forall_mem_cons.mpr ⟨lw_p2, List.forall_mem_cons.mpr ⟨lw_p3, List.forall_mem_cons.mpr ⟨lw_p4, List.forall_mem_cons.mpr ⟨lw_p5, List.forall_mem_cons.mpr ⟨lw_p6, List.forall_mem_cons.mpr ⟨lw_p7, List.forall_mem_cons.mpr ⟨lw_p8, List.forall_mem_cons.mpr ⟨lw_p9, List.forall_mem_cons.mpr ⟨lw_p10, List.forall_mem_cons.mpr ⟨lw_p11, List.forall_mem_cons.mpr ⟨lw_p12, List.forall_mem_cons.mpr ⟨lw_p13, List.forall_mem_cons.mpr ⟨lw_p14, List.forall_mem_cons.mpr ⟨lw_p15, fun _ h => absurd h List.not_mem_nil⟩⟩⟩⟩⟩⟩⟩⟩⟩⟩⟩⟩⟩⟩⟩⟩
def lw_privs : List (MethodName × Nat) := lw_privs_1
def lw_tbl : List Cond := k2_sels lw_privs ++ tables_1
theorem lw_privs_ok : ∀ q ∈ lw_privs, lw_okq q := lw_r1
end
section
/-! ===== names: classes, fields, codes (laid by wip/whole/gen/names.py out of the Statement) ===== -/
/-- a method's name, code, locals, answer -/
abbrev jY : Type := MethodName × ByteArray × Nat × Option FieldType
def RX0 : String := "SeedChainer$BestChain"
def TX0 : u_T := fun k => match k with
  | 0 => ("SeedChainer$BestChain", "ahead", "[I", true)
  | 1 => ("SeedChainer$BestChain", "pairs", "[I", true)
  | 2 => ("SeedChainer$BestChain", "size", "I", false)
  | _ => ("SeedChainer$BestChain", "total", "I", false)
def tyX0 : Nat → FieldType := fun k => match k with
  | 0 => .array .int
  | 1 => .array .int
  | 2 => .int
  | _ => .int
def RX1 : String := "SeedChainer$LetterRow"
def TX1 : u_T := fun k => match k with
  | 0 => ("SeedChainer$LetterRow", "letters", "[I", true)
  | _ => ("SeedChainer$LetterRow", "size", "I", false)
def tyX1 : Nat → FieldType := fun k => match k with
  | 0 => .array .int
  | _ => .int
def RX2 : String := "SeedChainer$Reaching"
def TX2 : u_T := fun k => match k with
  | 0 => ("SeedChainer$Reaching", "gain", "I", false)
  | 1 => ("SeedChainer$Reaching", "loss", "I", false)
  | 2 => ("SeedChainer$Reaching", "gap", "I", false)
  | 3 => ("SeedChainer$Reaching", "limit", "I", false)
  | 4 => ("SeedChainer$Reaching", "twoBefore", "[I", false)
  | 5 => ("SeedChainer$Reaching", "oneBefore", "[I", false)
  | 6 => ("SeedChainer$Reaching", "current", "[I", false)
  | 7 => ("SeedChainer$Reaching", "endScore", "I", false)
  | 8 => ("SeedChainer$Reaching", "endP", "I", false)
  | 9 => ("SeedChainer$Reaching", "endQ", "I", false)
  | 10 => ("SeedChainer$Reaching", "aliveCells", "I", false)
  | _ => ("SeedChainer$Reaching", "lastSlope", "I", false)
def tyX2 : Nat → FieldType := fun k => match k with
  | 0 => .int
  | 1 => .int
  | 2 => .int
  | 3 => .int
  | 4 => .array .int
  | 5 => .array .int
  | 6 => .array .int
  | 7 => .int
  | 8 => .int
  | 9 => .int
  | 10 => .int
  | _ => .int
def RX3 : String := "SeedChainer$Seeds"
def TX3 : u_T := fun k => match k with
  | 0 => ("SeedChainer$Seeds", "first", "LSeedChainer$LetterRow;", true)
  | 1 => ("SeedChainer$Seeds", "second", "LSeedChainer$LetterRow;", true)
  | _ => ("SeedChainer$Seeds", "length", "I", false)
def tyX3 : Nat → FieldType := fun k => match k with
  | 0 => .object "SeedChainer$LetterRow"
  | 1 => .object "SeedChainer$LetterRow"
  | _ => .int
def RX4 : String := "SeedChainer"
def TX4 : u_T := fun k => match k with
  | 0 => ("SeedChainer", "row0", "LSeedChainer$LetterRow;", true)
  | 1 => ("SeedChainer", "row1", "LSeedChainer$LetterRow;", true)
  | 2 => ("SeedChainer", "seedPairs", "LSeedChainer$Seeds;", true)
  | 3 => ("SeedChainer", "best", "LSeedChainer$BestChain;", true)
  | 4 => ("SeedChainer", "reaching", "LSeedChainer$Reaching;", true)
  | 5 => ("SeedChainer", "gapPenalty", "I", false)
  | _ => ("SeedChainer", "bestIsFresh", "Z", false)
def tyX4 : Nat → FieldType := fun k => match k with
  | 0 => .object "SeedChainer$LetterRow"
  | 1 => .object "SeedChainer$LetterRow"
  | 2 => .object "SeedChainer$Seeds"
  | 3 => .object "SeedChainer$BestChain"
  | 4 => .object "SeedChainer$Reaching"
  | 5 => .int
  | _ => .boolean
def RX5 : String := "SeedChainerModel"
def TX5 : u_T := fun k => match k with
  | 0 => ("SeedChainerModel", "letters", "[I", true)
  | 1 => ("SeedChainerModel", "lengths", "[I", true)
  | 2 => ("SeedChainerModel", "seed", "I", false)
  | 3 => ("SeedChainerModel", "penalty", "I", false)
  | 4 => ("SeedChainerModel", "gain", "I", false)
  | 5 => ("SeedChainerModel", "loss", "I", false)
  | 6 => ("SeedChainerModel", "gap", "I", false)
  | 7 => ("SeedChainerModel", "limit", "I", false)
  | 8 => ("SeedChainerModel", "firsts", "[I", true)
  | 9 => ("SeedChainerModel", "seconds", "[I", true)
  | 10 => ("SeedChainerModel", "worths", "[I", true)
  | 11 => ("SeedChainerModel", "found", "I", false)
  | 12 => ("SeedChainerModel", "links", "[I", true)
  | 13 => ("SeedChainerModel", "linked", "I", false)
  | 14 => ("SeedChainerModel", "best", "I", false)
  | 15 => ("SeedChainerModel", "isKnown", "Z", false)
  | 16 => ("SeedChainerModel", "scores", "[I", true)
  | 17 => ("SeedChainerModel", "isReached", "Z", false)
  | 18 => ("SeedChainerModel", "endP", "I", false)
  | 19 => ("SeedChainerModel", "endQ", "I", false)
  | 20 => ("SeedChainerModel", "alive", "I", false)
  | _ => ("SeedChainerModel", "farthest", "I", false)
def tyX5 : Nat → FieldType := fun k => match k with
  | 0 => .array .int
  | 1 => .array .int
  | 2 => .int
  | 3 => .int
  | 4 => .int
  | 5 => .int
  | 6 => .int
  | 7 => .int
  | 8 => .array .int
  | 9 => .array .int
  | 10 => .array .int
  | 11 => .int
  | 12 => .array .int
  | 13 => .int
  | 14 => .int
  | 15 => .boolean
  | 16 => .array .int
  | 17 => .boolean
  | 18 => .int
  | 19 => .int
  | 20 => .int
  | _ => .int
def RL : String := "SeedChainerLaw"
def RJ7 : String := "java/util/Arrays"
abbrev cls : List vw_C := [(RX0, TX0, 4), (RX1, TX1, 2), (RX2, TX2, 12), (RX3, TX3, 3), (RX4, TX4, 7), (RX5, TX5, 22)]
abbrev cX4_init : ByteArray := prog_1_method_1_code
def yX4_init : MethodName := ⟨RX4, "<init>", "()V"⟩
abbrev YX4_init : jY := (yX4_init, cX4_init, 1, none)
abbrev cX1_init : ByteArray := prog_3_method_1_code
def yX1_init : MethodName := ⟨RX1, "<init>", "()V"⟩
abbrev YX1_init : jY := (yX1_init, cX1_init, 1, none)
abbrev cX3_init : ByteArray := prog_5_method_1_code
def yX3_init : MethodName := ⟨RX3, "<init>", "(LSeedChainer$LetterRow;LSeedChainer$LetterRow;)V"⟩
abbrev YX3_init : jY := (yX3_init, cX3_init, 3, none)
abbrev cX0_init : ByteArray := prog_2_method_1_code
def yX0_init : MethodName := ⟨RX0, "<init>", "()V"⟩
abbrev YX0_init : jY := (yX0_init, cX0_init, 1, none)
abbrev cX2_init : ByteArray := prog_4_method_1_code
def yX2_init : MethodName := ⟨RX2, "<init>", "()V"⟩
abbrev YX2_init : jY := (yX2_init, cX2_init, 1, none)
abbrev cX4_put : ByteArray := prog_1_method_2_code
def yX4_put : MethodName := ⟨RX4, "put", "(II)I"⟩
abbrev YX4_put : jY := (yX4_put, cX4_put, 4, (some .int))
abbrev cX4_rowOf : ByteArray := prog_1_method_15_code
def yX4_rowOf : MethodName := ⟨RX4, "rowOf", "(I)LSeedChainer$LetterRow;"⟩
abbrev YX4_rowOf : jY := (yX4_rowOf, cX4_rowOf, 2, (some (.object "SeedChainer$LetterRow")))
abbrev cX4_isBetween : ByteArray := prog_1_method_17_code
def yX4_isBetween : MethodName := ⟨RX4, "isBetween", "(III)Z"⟩
abbrev YX4_isBetween : jY := (yX4_isBetween, cX4_isBetween, 3, (some .boolean))
abbrev cX1_isFull : ByteArray := prog_3_method_3_code
def yX1_isFull : MethodName := ⟨RX1, "isFull", "()Z"⟩
abbrev YX1_isFull : jY := (yX1_isFull, cX1_isFull, 1, (some .boolean))
abbrev cX1_append : ByteArray := prog_3_method_4_code
def yX1_append : MethodName := ⟨RX1, "append", "(I)V"⟩
abbrev YX1_append : jY := (yX1_append, cX1_append, 2, none)
abbrev cX1_size : ByteArray := prog_3_method_2_code
def yX1_size : MethodName := ⟨RX1, "size", "()I"⟩
abbrev YX1_size : jY := (yX1_size, cX1_size, 1, (some .int))
abbrev cX4_cut : ByteArray := prog_1_method_3_code
def yX4_cut : MethodName := ⟨RX4, "cut", "(I)I"⟩
abbrev YX4_cut : jY := (yX4_cut, cX4_cut, 3, (some .int))
abbrev cX1_dropLast : ByteArray := prog_3_method_5_code
def yX1_dropLast : MethodName := ⟨RX1, "dropLast", "()I"⟩
abbrev YX1_dropLast : jY := (yX1_dropLast, cX1_dropLast, 1, (some .int))
abbrev cX4_letter : ByteArray := prog_1_method_4_code
def yX4_letter : MethodName := ⟨RX4, "letter", "(II)I"⟩
abbrev YX4_letter : jY := (yX4_letter, cX4_letter, 4, (some .int))
abbrev cX1_at : ByteArray := prog_3_method_6_code
def yX1_at : MethodName := ⟨RX1, "at", "(I)I"⟩
abbrev YX1_at : jY := (yX1_at, cX1_at, 2, (some .int))
abbrev cX4_seeds : ByteArray := prog_1_method_5_code
def yX4_seeds : MethodName := ⟨RX4, "seeds", "(I)Z"⟩
abbrev YX4_seeds : jY := (yX4_seeds, cX4_seeds, 2, (some .boolean))
abbrev cX3_useLength : ByteArray := prog_5_method_3_code
def yX3_useLength : MethodName := ⟨RX3, "useLength", "(I)V"⟩
abbrev YX3_useLength : jY := (yX3_useLength, cX3_useLength, 2, none)
abbrev cX4_penalty : ByteArray := prog_1_method_6_code
def yX4_penalty : MethodName := ⟨RX4, "penalty", "(I)Z"⟩
abbrev YX4_penalty : jY := (yX4_penalty, cX4_penalty, 2, (some .boolean))
abbrev cX4_scores : ByteArray := prog_1_method_7_code
def yX4_scores : MethodName := ⟨RX4, "scores", "(IIII)Z"⟩
abbrev YX4_scores : jY := (yX4_scores, cX4_scores, 5, (some .boolean))
abbrev cX2_useScores : ByteArray := prog_4_method_2_code
def yX2_useScores : MethodName := ⟨RX2, "useScores", "(IIII)V"⟩
abbrev YX2_useScores : jY := (yX2_useScores, cX2_useScores, 5, none)
abbrev cX4_anchors : ByteArray := prog_1_method_8_code
def yX4_anchors : MethodName := ⟨RX4, "anchors", "()I"⟩
abbrev YX4_anchors : jY := (yX4_anchors, cX4_anchors, 1, (some .int))
abbrev cX3_count : ByteArray := prog_5_method_7_code
def yX3_count : MethodName := ⟨RX3, "count", "()I"⟩
abbrev YX3_count : jY := (yX3_count, cX3_count, 4, (some .int))
abbrev cX3_isSeed : ByteArray := prog_5_method_6_code
def yX3_isSeed : MethodName := ⟨RX3, "isSeed", "(II)Z"⟩
abbrev YX3_isSeed : jY := (yX3_isSeed, cX3_isSeed, 4, (some .boolean))
abbrev cX4_anchor : ByteArray := prog_1_method_9_code
def yX4_anchor : MethodName := ⟨RX4, "anchor", "(II)I"⟩
abbrev YX4_anchor : jY := (yX4_anchor, cX4_anchor, 3, (some .int))
abbrev cX3_pairAt : ByteArray := prog_5_method_8_code
def yX3_pairAt : MethodName := ⟨RX3, "pairAt", "(I)I"⟩
abbrev YX3_pairAt : jY := (yX3_pairAt, cX3_pairAt, 5, (some .int))
abbrev cX4_pairOf : ByteArray := prog_1_method_18_code
def yX4_pairOf : MethodName := ⟨RX4, "pairOf", "(II)I"⟩
abbrev YX4_pairOf : jY := (yX4_pairOf, cX4_pairOf, 2, (some .int))
abbrev cX4_placeOf : ByteArray := prog_1_method_19_code
def yX4_placeOf : MethodName := ⟨RX4, "placeOf", "(II)I"⟩
abbrev YX4_placeOf : jY := (yX4_placeOf, cX4_placeOf, 2, (some .int))
abbrev cX4_chain : ByteArray := prog_1_method_10_code
def yX4_chain : MethodName := ⟨RX4, "chain", "()I"⟩
abbrev YX4_chain : jY := (yX4_chain, cX4_chain, 1, (some .int))
abbrev cX4_freshBest : ByteArray := prog_1_method_16_code
def yX4_freshBest : MethodName := ⟨RX4, "freshBest", "()LSeedChainer$BestChain;"⟩
abbrev YX4_freshBest : jY := (yX4_freshBest, cX4_freshBest, 1, (some (.object "SeedChainer$BestChain")))
abbrev cX0_find : ByteArray := prog_2_method_5_code
def yX0_find : MethodName := ⟨RX0, "find", "(LSeedChainer$Seeds;I)V"⟩
abbrev YX0_find : jY := (yX0_find, cX0_find, 6, none)
abbrev cX0_lookAhead : ByteArray := prog_2_method_6_code
def yX0_lookAhead : MethodName := ⟨RX0, "lookAhead", "(LSeedChainer$Seeds;I)V"⟩
abbrev YX0_lookAhead : jY := (yX0_lookAhead, cX0_lookAhead, 5, none)
abbrev cX3_firstSize : ByteArray := prog_5_method_4_code
def yX3_firstSize : MethodName := ⟨RX3, "firstSize", "()I"⟩
abbrev YX3_firstSize : jY := (yX3_firstSize, cX3_firstSize, 1, (some .int))
abbrev cX3_secondSize : ByteArray := prog_5_method_5_code
def yX3_secondSize : MethodName := ⟨RX3, "secondSize", "()I"⟩
abbrev YX3_secondSize : jY := (yX3_secondSize, cX3_secondSize, 1, (some .int))
abbrev cX0_mostFrom : ByteArray := prog_2_method_7_code
def yX0_mostFrom : MethodName := ⟨RX0, "mostFrom", "(LSeedChainer$Seeds;III)I"⟩
abbrev YX0_mostFrom : jY := (yX0_mostFrom, cX0_mostFrom, 6, (some .int))
abbrev cX0_worthFrom : ByteArray := prog_2_method_8_code
def yX0_worthFrom : MethodName := ⟨RX0, "worthFrom", "(LSeedChainer$Seeds;II)I"⟩
abbrev YX0_worthFrom : jY := (yX0_worthFrom, cX0_worthFrom, 5, (some .int))
abbrev cX3_length : ByteArray := prog_5_method_2_code
def yX3_length : MethodName := ⟨RX3, "length", "()I"⟩
abbrev YX3_length : jY := (yX3_length, cX3_length, 1, (some .int))
abbrev cX0_firstPair : ByteArray := prog_2_method_9_code
def yX0_firstPair : MethodName := ⟨RX0, "firstPair", "(LSeedChainer$Seeds;)I"⟩
abbrev YX0_firstPair : jY := (yX0_firstPair, cX0_firstPair, 6, (some .int))
abbrev cX0_nextPair : ByteArray := prog_2_method_10_code
def yX0_nextPair : MethodName := ⟨RX0, "nextPair", "(LSeedChainer$Seeds;III)I"⟩
abbrev YX0_nextPair : jY := (yX0_nextPair, cX0_nextPair, 9, (some .int))
abbrev cX0_total : ByteArray := prog_2_method_2_code
def yX0_total : MethodName := ⟨RX0, "total", "()I"⟩
abbrev YX0_total : jY := (yX0_total, cX0_total, 1, (some .int))
abbrev cX4_links : ByteArray := prog_1_method_11_code
def yX4_links : MethodName := ⟨RX4, "links", "()I"⟩
abbrev YX4_links : jY := (yX4_links, cX4_links, 1, (some .int))
abbrev cX0_size : ByteArray := prog_2_method_3_code
def yX0_size : MethodName := ⟨RX0, "size", "()I"⟩
abbrev YX0_size : jY := (yX0_size, cX0_size, 1, (some .int))
abbrev cX4_link : ByteArray := prog_1_method_12_code
def yX4_link : MethodName := ⟨RX4, "link", "(II)I"⟩
abbrev YX4_link : jY := (yX4_link, cX4_link, 3, (some .int))
abbrev cX0_pairAt : ByteArray := prog_2_method_4_code
def yX0_pairAt : MethodName := ⟨RX0, "pairAt", "(I)I"⟩
abbrev YX0_pairAt : jY := (yX0_pairAt, cX0_pairAt, 2, (some .int))
abbrev cX4_reach : ByteArray := prog_1_method_13_code
def yX4_reach : MethodName := ⟨RX4, "reach", "(II)I"⟩
abbrev YX4_reach : jY := (yX4_reach, cX4_reach, 3, (some .int))
abbrev cX2_walk : ByteArray := prog_4_method_5_code
def yX2_walk : MethodName := ⟨RX2, "walk", "(LSeedChainer$LetterRow;ILSeedChainer$LetterRow;I)V"⟩
abbrev YX2_walk : jY := (yX2_walk, cX2_walk, 7, none)
abbrev cX2_begin : ByteArray := prog_4_method_6_code
def yX2_begin : MethodName := ⟨RX2, "begin", "()V"⟩
abbrev YX2_begin : jY := (yX2_begin, cX2_begin, 1, none)
abbrev cJ7_fill : ByteArray := prog_9_method_103_code
def yJ7_fill : MethodName := ⟨RJ7, "fill", "([II)V"⟩
abbrev YJ7_fill : jY := (yJ7_fill, cJ7_fill, 4, none)
abbrev cX2_turnSlopes : ByteArray := prog_4_method_7_code
def yX2_turnSlopes : MethodName := ⟨RX2, "turnSlopes", "()V"⟩
abbrev YX2_turnSlopes : jY := (yX2_turnSlopes, cX2_turnSlopes, 2, none)
abbrev cX2_walkSlope : ByteArray := prog_4_method_8_code
def yX2_walkSlope : MethodName := ⟨RX2, "walkSlope", "(LSeedChainer$LetterRow;ILSeedChainer$LetterRow;II)V"⟩
abbrev YX2_walkSlope : jY := (yX2_walkSlope, cX2_walkSlope, 12, none)
abbrev cX2_gapScore : ByteArray := prog_4_method_9_code
def yX2_gapScore : MethodName := ⟨RX2, "gapScore", "(I)I"⟩
abbrev YX2_gapScore : jY := (yX2_gapScore, cX2_gapScore, 3, (some .int))
abbrev cX2_keepAlive : ByteArray := prog_4_method_10_code
def yX2_keepAlive : MethodName := ⟨RX2, "keepAlive", "(III)V"⟩
abbrev YX2_keepAlive : jY := (yX2_keepAlive, cX2_keepAlive, 4, none)
abbrev cX2_endScore : ByteArray := prog_4_method_3_code
def yX2_endScore : MethodName := ⟨RX2, "endScore", "()I"⟩
abbrev YX2_endScore : jY := (yX2_endScore, cX2_endScore, 1, (some .int))
abbrev cX4_reached : ByteArray := prog_1_method_14_code
def yX4_reached : MethodName := ⟨RX4, "reached", "(I)I"⟩
abbrev YX4_reached : jY := (yX4_reached, cX4_reached, 2, (some .int))
abbrev cX2_outcome : ByteArray := prog_4_method_4_code
def yX2_outcome : MethodName := ⟨RX2, "outcome", "(I)I"⟩
abbrev YX2_outcome : jY := (yX2_outcome, cX2_outcome, 2, (some .int))
abbrev cX5_init : ByteArray := prog_7_method_1_code
def yX5_init : MethodName := ⟨RX5, "<init>", "()V"⟩
abbrev YX5_init : jY := (yX5_init, cX5_init, 1, none)
abbrev cX5_put : ByteArray := prog_7_method_4_code
def yX5_put : MethodName := ⟨RX5, "put", "(II)I"⟩
abbrev YX5_put : jY := (yX5_put, cX5_put, 3, (some .int))
abbrev cX5_isRow : ByteArray := prog_7_method_3_code
def yX5_isRow : MethodName := ⟨RX5, "isRow", "(I)Z"⟩
abbrev YX5_isRow : jY := (yX5_isRow, cX5_isRow, 1, (some .boolean))
abbrev cX5_cut : ByteArray := prog_7_method_5_code
def yX5_cut : MethodName := ⟨RX5, "cut", "(I)I"⟩
abbrev YX5_cut : jY := (yX5_cut, cX5_cut, 2, (some .int))
abbrev cX5_letter : ByteArray := prog_7_method_6_code
def yX5_letter : MethodName := ⟨RX5, "letter", "(II)I"⟩
abbrev YX5_letter : jY := (yX5_letter, cX5_letter, 3, (some .int))
abbrev cX5_seeds : ByteArray := prog_7_method_7_code
def yX5_seeds : MethodName := ⟨RX5, "seeds", "(I)Z"⟩
abbrev YX5_seeds : jY := (yX5_seeds, cX5_seeds, 2, (some .boolean))
abbrev cX5_penalty : ByteArray := prog_7_method_8_code
def yX5_penalty : MethodName := ⟨RX5, "penalty", "(I)Z"⟩
abbrev YX5_penalty : jY := (yX5_penalty, cX5_penalty, 2, (some .boolean))
abbrev cX5_scores : ByteArray := prog_7_method_9_code
def yX5_scores : MethodName := ⟨RX5, "scores", "(IIII)Z"⟩
abbrev YX5_scores : jY := (yX5_scores, cX5_scores, 5, (some .boolean))
abbrev cX5_anchors : ByteArray := prog_7_method_13_code
def yX5_anchors : MethodName := ⟨RX5, "anchors", "()I"⟩
abbrev YX5_anchors : jY := (yX5_anchors, cX5_anchors, 1, (some .int))
abbrev cX5_learn : ByteArray := prog_7_method_12_code
def yX5_learn : MethodName := ⟨RX5, "learn", "()V"⟩
abbrev YX5_learn : jY := (yX5_learn, cX5_learn, 6, none)
abbrev cX5_isAnchor : ByteArray := prog_7_method_10_code
def yX5_isAnchor : MethodName := ⟨RX5, "isAnchor", "(II)Z"⟩
abbrev YX5_isAnchor : jY := (yX5_isAnchor, cX5_isAnchor, 5, (some .boolean))
abbrev cX5_between : ByteArray := prog_7_method_11_code
def yX5_between : MethodName := ⟨RX5, "between", "(II)I"⟩
abbrev YX5_between : jY := (yX5_between, cX5_between, 5, (some .int))
abbrev cX5_anchor : ByteArray := prog_7_method_14_code
def yX5_anchor : MethodName := ⟨RX5, "anchor", "(II)I"⟩
abbrev YX5_anchor : jY := (yX5_anchor, cX5_anchor, 3, (some .int))
abbrev cX5_chain : ByteArray := prog_7_method_15_code
def yX5_chain : MethodName := ⟨RX5, "chain", "()I"⟩
abbrev YX5_chain : jY := (yX5_chain, cX5_chain, 1, (some .int))
abbrev cX5_links : ByteArray := prog_7_method_16_code
def yX5_links : MethodName := ⟨RX5, "links", "()I"⟩
abbrev YX5_links : jY := (yX5_links, cX5_links, 1, (some .int))
abbrev cX5_link : ByteArray := prog_7_method_17_code
def yX5_link : MethodName := ⟨RX5, "link", "(II)I"⟩
abbrev YX5_link : jY := (yX5_link, cX5_link, 3, (some .int))
abbrev cX5_reach : ByteArray := prog_7_method_20_code
def yX5_reach : MethodName := ⟨RX5, "reach", "(II)I"⟩
abbrev YX5_reach : jY := (yX5_reach, cX5_reach, 12, (some .int))
abbrev cX5_scoreAt : ByteArray := prog_7_method_18_code
def yX5_scoreAt : MethodName := ⟨RX5, "scoreAt", "(II)I"⟩
abbrev YX5_scoreAt : jY := (yX5_scoreAt, cX5_scoreAt, 3, (some .int))
abbrev cX5_greater : ByteArray := prog_7_method_19_code
def yX5_greater : MethodName := ⟨RX5, "greater", "(II)I"⟩
abbrev YX5_greater : jY := (yX5_greater, cX5_greater, 2, (some .int))
abbrev cX5_reached : ByteArray := prog_7_method_21_code
def yX5_reached : MethodName := ⟨RX5, "reached", "(I)I"⟩
abbrev YX5_reached : jY := (yX5_reached, cX5_reached, 2, (some .int))
end
section
/-! ===== whole numbers as the machine's ints: jI ===== -/
def jI (z : Int) : Int32 := Int32.ofInt z
theorem jI_toInt {z : Int} (h : -2147483648 ≤ z ∧ z < 2147483648) : (jI z).toInt = z := Int32.toInt_ofInt_of_le (by omega) (by omega)
theorem jI_add (a b : Int) : jI a + jI b = jI (a + b) := (Int32.ofInt_add a b).symm
theorem jI_sub (a b : Int) : jI a - jI b = jI (a - b) := (Int32.ofInt_sub a b).symm
theorem jI_mul (a b : Int) : jI a * jI b = jI (a * b) := (Int32.ofInt_mul a b).symm
theorem jI_neg (a : Int) : -jI a = jI (-a) := (Int32.ofInt_neg a).symm
theorem jI_of (x : Int32) : jI x.toInt = x := Int32.ofInt_toInt x
theorem jI_rg (x : Int32) : -2147483648 ≤ x.toInt ∧ x.toInt < 2147483648 := ⟨by have := x.le_toInt; omega, by have := x.toInt_lt; omega⟩
theorem jI_le {a b : Int} (ra : -2147483648 ≤ a ∧ a < 2147483648) (rb : -2147483648 ≤ b ∧ b < 2147483648) : jI a ≤ jI b ↔ a ≤ b := by rw [Int32.le_iff_toInt_le, jI_toInt ra, jI_toInt rb]
theorem jI_lt {a b : Int} (ra : -2147483648 ≤ a ∧ a < 2147483648) (rb : -2147483648 ≤ b ∧ b < 2147483648) : jI a < jI b ↔ a < b := by rw [Int32.lt_iff_toInt_lt, jI_toInt ra, jI_toInt rb]
theorem jI_eq {a b : Int} (ra : -2147483648 ≤ a ∧ a < 2147483648) (rb : -2147483648 ≤ b ∧ b < 2147483648) : jI a = jI b ↔ a = b := by rw [← Int32.toInt_inj, jI_toInt ra, jI_toInt rb]
theorem jI_0 : jI 0 = 0 := rfl
theorem jI_clamp {z : Int} (h : 0 ≤ z ∧ z < 2147483648) : (jI z).toNatClampNeg = z.toNat := Int32.toNatClampNeg_ofInt_of_le (by omega) (by omega)
theorem jI_in {z : Int} {n : Nat} (h : 0 ≤ z ∧ z < n) (hn : n < 2147483648) : vp_in (jI z) n := by
  unfold vp_in
  rw [jI_clamp ⟨h.1, by omega⟩, ← jI_0, jI_lt (by omega) (by omega)]
  omega
theorem jI_div {a b : Int} (ra : 0 ≤ a ∧ a < 2147483648) (rb : 0 < b ∧ b < 2147483648) : jI a / jI b = jI (a / b) := by
  have hq : 0 ≤ a / b ∧ a / b ≤ a := ⟨Int.ediv_nonneg ra.1 (by omega), Int.ediv_le_self _ ra.1⟩
  rw [← Int32.toInt_inj, Int32.toInt_div, jI_toInt (by omega), jI_toInt (by omega), jI_toInt (by omega), Int.tdiv_eq_ediv_of_nonneg ra.1]
  exact Int.bmod_eq_of_le (by omega) (by omega)
theorem jI_rem {a b : Int} (ra : 0 ≤ a ∧ a < 2147483648) (rb : 0 < b ∧ b < 2147483648) : jI a - jI a / jI b * jI b = jI (a % b) := by
  rw [jI_div ra rb, jI_mul, jI_sub, Int.emod_def, Int.mul_comm b]
/-- an array's contents by a function on whole numbers -/
def jA (F : Int → Int) : Nat → Int32 := fun j => jI (F (j : Int))
def jU (F : Int → Int) (z v : Int) : Int → Int := fun x => if x = z then v else F x
theorem jU_s {F : Int → Int} {z v : Int} : jU F z v z = v := by simp [jU]
theorem jU_n {F : Int → Int} {z v x : Int} (h : x ≠ z) : jU F z v x = F x := by simp [jU, h]
theorem jA_at {F : Int → Int} {z : Int} (h : 0 ≤ z ∧ z < 2147483648) : jA F (jI z).toNatClampNeg = jI (F z) := by
  rw [jI_clamp h]
  unfold jA
  rw [Int.toNat_of_nonneg h.1]
theorem jA_up {F : Int → Int} {z v : Int} (h : 0 ≤ z ∧ z < 2147483648) : upd (jA F) (jI z).toNatClampNeg (jI v) = jA (jU F z v) := by
  rw [jI_clamp h]
  funext j
  unfold upd jA jU
  by_cases hj : j = z.toNat
  · rw [if_pos hj, if_pos (by omega)]
  · rw [if_neg hj, if_neg (by omega)]
theorem jA_0 : (fun _ => (0 : Int32)) = jA (fun _ => 0) := rfl
section JV
variable {p : Program} {l : Launch} {e : Env} {R : Room} {s : State} {m : MethodId} {args : Array Value} {below : List Frame} {meth : Method} {c : Code} {H : Heap} {locs : List Loc} {cells slots : Nat} {Q : State → Prop}
variable {cc : ByteArray} {pc : Nat} {ls : Array Slot} {rest : List Value}
theorem jv_iadd (hx : p.tables.exec = Jvm.exec) (hb : c.code = cc) {a b : Int} (hdg : decode cc pc = .ok (.iadd, 1)) (k : W p l e R s m args below meth c H locs cells slots Q (F0 m (pc + 1) ls (.int (jI (a + b)) :: rest))) : W p l e R s m args below meth c H locs cells slots Q (F0 m pc ls (.int (jI b) :: .int (jI a) :: rest)) := lv_iadd hx hb hdg (by rw [jI_add]; exact k)
theorem jv_isub (hx : p.tables.exec = Jvm.exec) (hb : c.code = cc) {a b : Int} (hdg : decode cc pc = .ok (.isub, 1)) (k : W p l e R s m args below meth c H locs cells slots Q (F0 m (pc + 1) ls (.int (jI (a - b)) :: rest))) : W p l e R s m args below meth c H locs cells slots Q (F0 m pc ls (.int (jI b) :: .int (jI a) :: rest)) := lv_isub hx hb hdg (by rw [jI_sub]; exact k)
theorem jv_imul (hx : p.tables.exec = Jvm.exec) (hb : c.code = cc) {a b : Int} (hdg : decode cc pc = .ok (.imul, 1)) (k : W p l e R s m args below meth c H locs cells slots Q (F0 m (pc + 1) ls (.int (jI (a * b)) :: rest))) : W p l e R s m args below meth c H locs cells slots Q (F0 m pc ls (.int (jI b) :: .int (jI a) :: rest)) := lv_imul hx hb hdg (by rw [jI_mul]; exact k)
theorem jv_ineg (hx : p.tables.exec = Jvm.exec) (hb : c.code = cc) {a : Int} (hdg : decode cc pc = .ok (.ineg, 1)) (k : W p l e R s m args below meth c H locs cells slots Q (F0 m (pc + 1) ls (.int (jI (-a)) :: rest))) : W p l e R s m args below meth c H locs cells slots Q (F0 m pc ls (.int (jI a) :: rest)) := lv_ineg hx hb hdg (by first | (rw [jI_neg]; exact k) | (rw [← jI_0, jI_sub, Int.zero_sub]; exact k))
theorem jv_idiv (hx : p.tables.exec = Jvm.exec) (hb : c.code = cc) {a b : Int} (hdg : decode cc pc = .ok (.idiv, 1)) (ra : 0 ≤ a ∧ a < 2147483648) (rb : 0 < b ∧ b < 2147483648) (k : W p l e R s m args below meth c H locs cells slots Q (F0 m (pc + 1) ls (.int (jI (a / b)) :: rest))) : W p l e R s m args below meth c H locs cells slots Q (F0 m pc ls (.int (jI b) :: .int (jI a) :: rest)) := lv_idiv hx hb hdg (by rw [← jI_0, jI_eq (by omega) (by omega)]; omega) (by rw [jI_div ra rb]; exact k)
theorem jv_irem (hx : p.tables.exec = Jvm.exec) (hb : c.code = cc) {a b : Int} (hdg : decode cc pc = .ok (.irem, 1)) (ra : 0 ≤ a ∧ a < 2147483648) (rb : 0 < b ∧ b < 2147483648) (k : W p l e R s m args below meth c H locs cells slots Q (F0 m (pc + 1) ls (.int (jI (a % b)) :: rest))) : W p l e R s m args below meth c H locs cells slots Q (F0 m pc ls (.int (jI b) :: .int (jI a) :: rest)) := lv_irem hx hb hdg (by rw [← jI_0, jI_eq (by omega) (by omega)]; omega) (by rw [jI_rem ra rb]; exact k)
theorem jv_icmp_eq (hx : p.tables.exec = Jvm.exec) (hb : c.code = cc) {a b : Int} {off : Int} {tgt : Nat} (hdg : decode cc pc = .ok (.if_icmp .eq off, 3)) (ht : (pc : Int) + off = (tgt : Int)) (ra : -2147483648 ≤ a ∧ a < 2147483648) (rb : -2147483648 ≤ b ∧ b < 2147483648) (kt : a = b → W p l e R s m args below meth c H locs cells slots Q (F0 m tgt ls rest)) (kf : ¬ a = b → W p l e R s m args below meth c H locs cells slots Q (F0 m (pc + 3) ls rest)) : W p l e R s m args below meth c H locs cells slots Q (F0 m pc ls (.int (jI b) :: .int (jI a) :: rest)) := lv_icmp_eq hx hb hdg ht (fun h => kt ((jI_eq ra rb).1 h)) (fun h => kf (fun h2 => h ((jI_eq ra rb).2 h2)))
theorem jv_if_eq (hx : p.tables.exec = Jvm.exec) (hb : c.code = cc) {a : Int} {off : Int} {tgt : Nat} (hdg : decode cc pc = .ok (.ifCond .eq off, 3)) (ht : (pc : Int) + off = (tgt : Int)) (ra : -2147483648 ≤ a ∧ a < 2147483648) (kt : a = 0 → W p l e R s m args below meth c H locs cells slots Q (F0 m tgt ls rest)) (kf : ¬ a = 0 → W p l e R s m args below meth c H locs cells slots Q (F0 m (pc + 3) ls rest)) : W p l e R s m args below meth c H locs cells slots Q (F0 m pc ls (.int (jI a) :: rest)) := by
  have r0 : -2147483648 ≤ (0 : Int) ∧ (0 : Int) < 2147483648 := by omega
  refine lv_if_eq hx hb hdg ht ?_ ?_
  · rw [← jI_0]; exact fun h => kt ((jI_eq ra r0).1 h)
  · rw [← jI_0]; exact fun h => kf (fun h2 => h ((jI_eq ra r0).2 h2))
theorem jv_icmp_ne (hx : p.tables.exec = Jvm.exec) (hb : c.code = cc) {a b : Int} {off : Int} {tgt : Nat} (hdg : decode cc pc = .ok (.if_icmp .ne off, 3)) (ht : (pc : Int) + off = (tgt : Int)) (ra : -2147483648 ≤ a ∧ a < 2147483648) (rb : -2147483648 ≤ b ∧ b < 2147483648) (kt : ¬ a = b → W p l e R s m args below meth c H locs cells slots Q (F0 m tgt ls rest)) (kf : a = b → W p l e R s m args below meth c H locs cells slots Q (F0 m (pc + 3) ls rest)) : W p l e R s m args below meth c H locs cells slots Q (F0 m pc ls (.int (jI b) :: .int (jI a) :: rest)) := lv_icmp_ne hx hb hdg ht (fun h => kt (fun h2 => h ((jI_eq ra rb).2 h2))) (fun h => kf ((jI_eq ra rb).1 h))
theorem jv_if_ne (hx : p.tables.exec = Jvm.exec) (hb : c.code = cc) {a : Int} {off : Int} {tgt : Nat} (hdg : decode cc pc = .ok (.ifCond .ne off, 3)) (ht : (pc : Int) + off = (tgt : Int)) (ra : -2147483648 ≤ a ∧ a < 2147483648) (kt : ¬ a = 0 → W p l e R s m args below meth c H locs cells slots Q (F0 m tgt ls rest)) (kf : a = 0 → W p l e R s m args below meth c H locs cells slots Q (F0 m (pc + 3) ls rest)) : W p l e R s m args below meth c H locs cells slots Q (F0 m pc ls (.int (jI a) :: rest)) := by
  have r0 : -2147483648 ≤ (0 : Int) ∧ (0 : Int) < 2147483648 := by omega
  refine lv_if_ne hx hb hdg ht ?_ ?_
  · rw [← jI_0]; exact fun h => kt (fun h2 => h ((jI_eq ra r0).2 h2))
  · rw [← jI_0]; exact fun h => kf ((jI_eq ra r0).1 h)
theorem jv_icmp_lt (hx : p.tables.exec = Jvm.exec) (hb : c.code = cc) {a b : Int} {off : Int} {tgt : Nat} (hdg : decode cc pc = .ok (.if_icmp .lt off, 3)) (ht : (pc : Int) + off = (tgt : Int)) (ra : -2147483648 ≤ a ∧ a < 2147483648) (rb : -2147483648 ≤ b ∧ b < 2147483648) (kt : a < b → W p l e R s m args below meth c H locs cells slots Q (F0 m tgt ls rest)) (kf : ¬ a < b → W p l e R s m args below meth c H locs cells slots Q (F0 m (pc + 3) ls rest)) : W p l e R s m args below meth c H locs cells slots Q (F0 m pc ls (.int (jI b) :: .int (jI a) :: rest)) := lv_icmp_lt hx hb hdg ht (fun h => kt ((jI_lt ra rb).1 h)) (fun h => kf (fun h2 => h ((jI_lt ra rb).2 h2)))
theorem jv_if_lt (hx : p.tables.exec = Jvm.exec) (hb : c.code = cc) {a : Int} {off : Int} {tgt : Nat} (hdg : decode cc pc = .ok (.ifCond .lt off, 3)) (ht : (pc : Int) + off = (tgt : Int)) (ra : -2147483648 ≤ a ∧ a < 2147483648) (kt : a < 0 → W p l e R s m args below meth c H locs cells slots Q (F0 m tgt ls rest)) (kf : ¬ a < 0 → W p l e R s m args below meth c H locs cells slots Q (F0 m (pc + 3) ls rest)) : W p l e R s m args below meth c H locs cells slots Q (F0 m pc ls (.int (jI a) :: rest)) := by
  have r0 : -2147483648 ≤ (0 : Int) ∧ (0 : Int) < 2147483648 := by omega
  refine lv_if_lt hx hb hdg ht ?_ ?_
  · rw [← jI_0]; exact fun h => kt ((jI_lt ra r0).1 h)
  · rw [← jI_0]; exact fun h => kf (fun h2 => h ((jI_lt ra r0).2 h2))
theorem jv_icmp_ge (hx : p.tables.exec = Jvm.exec) (hb : c.code = cc) {a b : Int} {off : Int} {tgt : Nat} (hdg : decode cc pc = .ok (.if_icmp .ge off, 3)) (ht : (pc : Int) + off = (tgt : Int)) (ra : -2147483648 ≤ a ∧ a < 2147483648) (rb : -2147483648 ≤ b ∧ b < 2147483648) (kt : b ≤ a → W p l e R s m args below meth c H locs cells slots Q (F0 m tgt ls rest)) (kf : ¬ b ≤ a → W p l e R s m args below meth c H locs cells slots Q (F0 m (pc + 3) ls rest)) : W p l e R s m args below meth c H locs cells slots Q (F0 m pc ls (.int (jI b) :: .int (jI a) :: rest)) := lv_icmp_ge hx hb hdg ht (fun h => kt ((jI_le rb ra).1 h)) (fun h => kf (fun h2 => h ((jI_le rb ra).2 h2)))
theorem jv_if_ge (hx : p.tables.exec = Jvm.exec) (hb : c.code = cc) {a : Int} {off : Int} {tgt : Nat} (hdg : decode cc pc = .ok (.ifCond .ge off, 3)) (ht : (pc : Int) + off = (tgt : Int)) (ra : -2147483648 ≤ a ∧ a < 2147483648) (kt : 0 ≤ a → W p l e R s m args below meth c H locs cells slots Q (F0 m tgt ls rest)) (kf : ¬ 0 ≤ a → W p l e R s m args below meth c H locs cells slots Q (F0 m (pc + 3) ls rest)) : W p l e R s m args below meth c H locs cells slots Q (F0 m pc ls (.int (jI a) :: rest)) := by
  have r0 : -2147483648 ≤ (0 : Int) ∧ (0 : Int) < 2147483648 := by omega
  refine lv_if_ge hx hb hdg ht ?_ ?_
  · rw [← jI_0]; exact fun h => kt ((jI_le r0 ra).1 h)
  · rw [← jI_0]; exact fun h => kf (fun h2 => h ((jI_le r0 ra).2 h2))
theorem jv_icmp_gt (hx : p.tables.exec = Jvm.exec) (hb : c.code = cc) {a b : Int} {off : Int} {tgt : Nat} (hdg : decode cc pc = .ok (.if_icmp .gt off, 3)) (ht : (pc : Int) + off = (tgt : Int)) (ra : -2147483648 ≤ a ∧ a < 2147483648) (rb : -2147483648 ≤ b ∧ b < 2147483648) (kt : b < a → W p l e R s m args below meth c H locs cells slots Q (F0 m tgt ls rest)) (kf : ¬ b < a → W p l e R s m args below meth c H locs cells slots Q (F0 m (pc + 3) ls rest)) : W p l e R s m args below meth c H locs cells slots Q (F0 m pc ls (.int (jI b) :: .int (jI a) :: rest)) := lv_icmp_gt hx hb hdg ht (fun h => kt ((jI_lt rb ra).1 h)) (fun h => kf (fun h2 => h ((jI_lt rb ra).2 h2)))
theorem jv_if_gt (hx : p.tables.exec = Jvm.exec) (hb : c.code = cc) {a : Int} {off : Int} {tgt : Nat} (hdg : decode cc pc = .ok (.ifCond .gt off, 3)) (ht : (pc : Int) + off = (tgt : Int)) (ra : -2147483648 ≤ a ∧ a < 2147483648) (kt : 0 < a → W p l e R s m args below meth c H locs cells slots Q (F0 m tgt ls rest)) (kf : ¬ 0 < a → W p l e R s m args below meth c H locs cells slots Q (F0 m (pc + 3) ls rest)) : W p l e R s m args below meth c H locs cells slots Q (F0 m pc ls (.int (jI a) :: rest)) := by
  have r0 : -2147483648 ≤ (0 : Int) ∧ (0 : Int) < 2147483648 := by omega
  refine lv_if_gt hx hb hdg ht ?_ ?_
  · rw [← jI_0]; exact fun h => kt ((jI_lt r0 ra).1 h)
  · rw [← jI_0]; exact fun h => kf (fun h2 => h ((jI_lt r0 ra).2 h2))
theorem jv_icmp_le (hx : p.tables.exec = Jvm.exec) (hb : c.code = cc) {a b : Int} {off : Int} {tgt : Nat} (hdg : decode cc pc = .ok (.if_icmp .le off, 3)) (ht : (pc : Int) + off = (tgt : Int)) (ra : -2147483648 ≤ a ∧ a < 2147483648) (rb : -2147483648 ≤ b ∧ b < 2147483648) (kt : a ≤ b → W p l e R s m args below meth c H locs cells slots Q (F0 m tgt ls rest)) (kf : ¬ a ≤ b → W p l e R s m args below meth c H locs cells slots Q (F0 m (pc + 3) ls rest)) : W p l e R s m args below meth c H locs cells slots Q (F0 m pc ls (.int (jI b) :: .int (jI a) :: rest)) := lv_icmp_le hx hb hdg ht (fun h => kt ((jI_le ra rb).1 h)) (fun h => kf (fun h2 => h ((jI_le ra rb).2 h2)))
theorem jv_if_le (hx : p.tables.exec = Jvm.exec) (hb : c.code = cc) {a : Int} {off : Int} {tgt : Nat} (hdg : decode cc pc = .ok (.ifCond .le off, 3)) (ht : (pc : Int) + off = (tgt : Int)) (ra : -2147483648 ≤ a ∧ a < 2147483648) (kt : a ≤ 0 → W p l e R s m args below meth c H locs cells slots Q (F0 m tgt ls rest)) (kf : ¬ a ≤ 0 → W p l e R s m args below meth c H locs cells slots Q (F0 m (pc + 3) ls rest)) : W p l e R s m args below meth c H locs cells slots Q (F0 m pc ls (.int (jI a) :: rest)) := by
  have r0 : -2147483648 ≤ (0 : Int) ∧ (0 : Int) < 2147483648 := by omega
  refine lv_if_le hx hb hdg ht ?_ ?_
  · rw [← jI_0]; exact fun h => kt ((jI_le ra r0).1 h)
  · rw [← jI_0]; exact fun h => kf (fun h2 => h ((jI_le ra r0).2 h2))
end JV
end
section
/-! ===== the words that every method has: those of the tables that stay true as the tables warm up ===== -/
def gw : List Cond := lw_tbl.filter goodWord
theorem gw_of {w : Cond} (h : w ∈ lw_tbl) (hg : goodWord w = true) : w ∈ gw := List.mem_filter.mpr ⟨h, hg⟩
theorem gw_good : ∀ w ∈ gw, (w.onTables && w.keeps) = true ∨ ∃ ty, w = .arrayClass ty := fun w h => good_of_word (List.mem_filter.mp h).2
theorem gw_in {c1 : Cond} (h : c1 ∈ gw) : GoodIn gw (c1 :: gw) := fun w hw => (List.mem_cons.mp hw).elim (fun e => ⟨e ▸ h, gw_good w (e ▸ h)⟩) (fun h2 => ⟨h2, gw_good w h2⟩)
/-- private members of nest mates: what the tables say of them -/
def nst (U : State) : Prop := ∀ a i x h, Cond.methodLinkNest a i x h ∈ tables_1 → va_Nw (.methodLinkNest a i x h) U
theorem nst.warm {s U : State} (hW : s.WarmedH U.vm) (h : nst s) : nst U := fun a i x g hm => va_Nw.warmM hW (h a i x g hm)
theorem nst.same {u U : State} (hv : u.vm = U.vm) (h : nst u) : nst U := fun a i x g hm => va_Nw.same rfl hv (h a i x g hm)
/-- what is known of the classes at any time -/
def cxt (D : va_G) (cA : ClassId) (U : State) : Prop := va_K D cls [(cA, .int)] U ∧ nst U
theorem cxt.warm {D : va_G} {cA : ClassId} {s U : State} (hW : s.WarmedH U.vm) (h : cxt D cA s) : cxt D cA U := ⟨va_K.moved hW.alike h.1, nst.warm hW h.2⟩
theorem cxt.call {D : va_G} {cA : ClassId} {U : State} {g : JFrame} {mk : MethodId} {a : Array Value} (h : cxt D cA U) : cxt D cA (U.calling g mk a) := ⟨va_K.moved (u := U) (U := U.calling g mk a) (Vm.Alike.refl U.vm) h.1, nst.same (u := U) (U := U.calling g mk a) rfl h.2⟩
/-- a start of a method that reads; of one that writes -/
def jP (D : va_G) (cA : ClassId) (av : List Value) (wc : va_W) : Array Value → State → Prop := fun v U => v = av.toArray ∧ cxt D cA U ∧ va_P D cls wc U.heap
theorem jP_blind {D : va_G} {cA : ClassId} {av : List Value} {wc : va_W} : FrameBlind (jP D cA av wc) := fun _ _ _ _ h => ⟨h.1, cxt.call h.2.1, h.2.2⟩
def jPM (D : va_G) (cA : ClassId) (av : List Value) (wc : va_W) (sz : Nat) : Array Value → State → Prop := fun v U => v = av.toArray ∧ cxt D cA U ∧ U.heap.size = sz ∧ va_P D cls wc U.heap ∧ va_D (fun _ => True) wc
theorem jPM_blind {D : va_G} {cA : ClassId} {av : List Value} {wc : va_W} {sz : Nat} : FrameBlind (jPM D cA av wc sz) := fun _ _ _ _ h => ⟨h.1, cxt.call h.2.1, h.2.2⟩
/-- an end without a trace: the answer, the heap as it was -/
def jS (Po : Value → Prop) : Array Value → State → Outcome → State → Prop := fun _ st oc t => (∃ v, oc = .returned (some v) ∧ Po v) ∧ t.heap = st.heap
/-- an end with a new world -/
def jQ (D : va_G) (Wd : Option Value → va_W → Prop) (A : Nat → Prop) : Array Value → State → Outcome → State → Prop := fun _ st oc t => (∃ v w1, oc = .returned v ∧ Wd v w1 ∧ va_P D cls w1 t.heap ∧ va_D A w1) ∧ va_F A st t
abbrev jws (Y : jY) : List Cond := Cond.code Y.1 Y.2.1 Y.2.2.1 Y.2.2.2 :: gw
abbrev rmk (f mc ms lo : Nat) : Room := { frames := f, cells := mc, slots := ms, locals := lo }
/-- the contract of a method that reads -/
def jR (l : Launch) (Y : jY) (rm : Room) (D : va_G) (cA : ClassId) (av : List Value) (wc : va_W) (Po : Value → Prop) : Prop := Met l Y.1 (jws Y) rm (jP D cA av wc) (jS Po) 0 0 (fun _ => False)
/-- the contract of a method that writes -/
def jM (l : Launch) (Y : jY) (rm : Room) (D : va_G) (cA : ClassId) (av : List Value) (wc : va_W) (Wd : Option Value → va_W → Prop) (mc ms : Nat) : Prop := ∀ sz : Nat, Met l Y.1 (jws Y) rm (jPM D cA av wc sz) (jQ D Wd (va_A wc sz)) mc ms (va_A wc sz)
/-- what stands fixed in a method -/
def jF (p : Program) (s : State) (m : MethodId) (args : Array Value) (meth : Method) (c : Code) (Y : jY) (D : va_G) (cA : ClassId) : Prop :=
  p.tables.exec = Jvm.exec ∧ c.code = Y.2.1 ∧ meth.sig.returnType = Y.2.2.2 ∧ meth.locks = false ∧ c.maxLocals = Y.2.2.1 ∧ s.vm.findClass Y.1.cls = some m.cls ∧ (∀ w ∈ gw, w.before args s = true) ∧ cxt D cA s ∧ (Y.1.name = "<init>" → meth.name = "<init>")
section JF
variable {p : Program} {s : State} {m : MethodId} {args : Array Value} {meth : Method} {c : Code} {Y : jY} {D : va_G} {cA : ClassId}
theorem jF.own (F : jF p s m args meth c Y D cA) : s.vm.findClass Y.1.cls = some m.cls := F.2.2.2.2.2.1
theorem jF.ts (F : jF p s m args meth c Y D cA) : ∀ w ∈ gw, w.before args s = true := F.2.2.2.2.2.2.1
theorem jF.wd (F : jF p s m args meth c Y D cA) {w : Cond} (h : w ∈ gw) : w.before args s = true := F.ts w h
theorem jF.cx (F : jF p s m args meth c Y D cA) : cxt D cA s := F.2.2.2.2.2.2.2.1
theorem jF.K (F : jF p s m args meth c Y D cA) : va_K D cls [(cA, .int)] s := F.cx.1
theorem jF.fix (F : jF p s m args meth c Y D cA) : CallFix p m c Y.2.1 Y.2.2.1 s args gw Y.1.cls := ⟨F.1, F.2.1, F.2.2.2.2.1, F.own, F.ts⟩
end JF
theorem jR.intro {l : Launch} {Y : jY} {rm : Room} {D : va_G} {cA : ClassId} {av : List Value} {wc : va_W} {Po : Value → Prop} (hy : plainName Y.1.cls = true) (hlen : (lg_sl av).length ≤ Y.2.2.1)
    (body : ∀ (p : Program) (e : Env) (s : State) (m : MethodId) (args : Array Value) (below : List Frame) (meth : Method) (c : Code) (ls : Array Slot) (Q : State → Prop), jF p s m args meth c Y D cA → Q = MQ below (jS Po) args s 0 0 (fun _ => False) → va_P D cls wc s.heap → lv_has ls Y.2.2.1 (lv_args 0 av) →
      W p l e rm s m args below meth c s.heap [] 0 0 Q (F0 m 0 ls [])) : jR l Y rm D cA av wc Po := by
  refine Met.ofW (cc := Y.2.1) (maxL := Y.2.2.1) (ret := Y.2.2.2) hy rfl ?_
  intro p e s m args below meth c s₁ B hml hv
  obtain ⟨rfl, hcx, hpic⟩ := hv
  have hts := atoms_spec (ws := jws Y) B.pre
  rw [lg_entry_eq]
  exact body p e s m _ below meth c _ _ ⟨B.exec, B.bytes, B.returns, B.notSynchronized, hml, findClass_of_methodNamed B.named, fun w h => hts w (List.mem_cons_of_mem _ h), hcx, fun h => (name_of_methodNamed B.named B.method).1.trans h⟩ rfl hpic (lv_entry av hlen)
theorem jM.intro {l : Launch} {Y : jY} {rm : Room} {D : va_G} {cA : ClassId} {av : List Value} {wc : va_W} {Wd : Option Value → va_W → Prop} {mc ms : Nat} (hy : plainName Y.1.cls = true) (hlen : (lg_sl av).length ≤ Y.2.2.1)
    (body : ∀ (p : Program) (e : Env) (s : State) (m : MethodId) (args : Array Value) (below : List Frame) (meth : Method) (c : Code) (ls : Array Slot) (Q : State → Prop) (A : Nat → Prop), jF p s m args meth c Y D cA → Q = MQ below (jQ D Wd A) args s mc ms A → (∀ q : Nat, s.heap.size ≤ q → A q) → va_P D cls wc s.heap → va_D A wc → va_S A s.heap s.heap [] → lv_has ls Y.2.2.1 (lv_args 0 av) →
      W p l e rm s m args below meth c s.heap [] 0 0 Q (F0 m 0 ls [])) : jM l Y rm D cA av wc Wd mc ms := by
  intro sz
  refine Met.ofW (cc := Y.2.1) (maxL := Y.2.2.1) (ret := Y.2.2.2) hy rfl ?_
  intro p e s m args below meth c s₁ B hml hv
  obtain ⟨rfl, hcx, hsz, hP, hD⟩ := hv
  subst hsz
  have hts := atoms_spec (ws := jws Y) B.pre
  rw [lg_entry_eq]
  exact body p e s m _ below meth c _ _ (va_A wc s.heap.size) ⟨B.exec, B.bytes, B.returns, B.notSynchronized, hml, findClass_of_methodNamed B.named, fun w h => hts w (List.mem_cons_of_mem _ h), hcx, fun h => (name_of_methodNamed B.named B.method).1.trans h⟩ rfl (fun q h => Or.inr h) hP hD.self va_S.rf (lv_entry av hlen)
theorem jsub {ws wc : va_W} {is : List Nat} (h : is.map (fun i => ws[i]?) = wc.map some) : is.filterMap (fun i => ws[i]?) = wc := by
  have e : is.filterMap (fun i => ws[i]?) = (is.map (fun i => ws[i]?)).filterMap id := by rw [List.filterMap_map]; rfl
  rw [e, h, List.filterMap_map]
  exact List.filterMap_some
section JC
variable {p : Program} {l : Launch} {e : Env} {R : Room} {s : State} {m : MethodId} {args : Array Value} {below : List Frame} {meth : Method} {c : Code} {H : Heap} {locs : List Loc} {cells slots : Nat} {Q : State → Prop}
variable {pc : Nat} {ls : Array Slot} {rest st0 : List Value} {a : Array Value} {A A0 : Nat → Prop} {H0 : Heap} {mc ms : Nat} {D : va_G} {cA : ClassId} {Y Yc : jY} {Po : Value → Prop} {Wd : Option Value → va_W → Prop} {w1 : va_W} {z : Int}
/-! ends -/
theorem jR.ri (F : jF p s m args meth c Y D cA) (hQ : Q = MQ below (jS Po) args s 0 0 (fun _ => False)) (hret : Y.2.2.2 = some .int) (hdg : decode Y.2.1 pc = .ok (.ireturn, 1)) (hv : Po (.int (jI z))) : W p l e R s m args below meth c s.heap [] 0 0 Q (F0 m pc ls [.int (jI z)]) := by
  subst hQ
  exact W.iret F.1 F.2.1 (F.2.2.1.trans hret) (fun t ht hW => ⟨⟨_, rfl, hv⟩, ht⟩) (fun q h => by cases h) hdg F.2.2.2.1
theorem jB_nar {z : Int} (h : z = 0 ∨ z = 1) : narrow .boolean (.int (jI z)) = .int (jI z) := by rcases h with rfl | rfl <;> decide +kernel
theorem jR.rz (F : jF p s m args meth c Y D cA) (hQ : Q = MQ below (jS Po) args s 0 0 (fun _ => False)) (hret : Y.2.2.2 = some .boolean) (hz : z = 0 ∨ z = 1) (hdg : decode Y.2.1 pc = .ok (.ireturn, 1)) (hv : Po (.int (jI z))) : W p l e R s m args below meth c s.heap [] 0 0 Q (F0 m pc ls [.int (jI z)]) := by
  subst hQ
  exact W.zret F.1 F.2.1 (F.2.2.1.trans hret) (jB_nar hz) (fun t ht hW => ⟨⟨_, rfl, hv⟩, ht⟩) (fun q h => by cases h) hdg F.2.2.2.1
theorem jR.ra {n : String} {b : Nat} (F : jF p s m args meth c Y D cA) (hQ : Q = MQ below (jS Po) args s 0 0 (fun _ => False)) (hret : Y.2.2.2 = some (.object n)) (hdg : decode Y.2.1 pc = .ok (.areturn, 1)) (hv : Po (.ref b)) : W p l e R s m args below meth c s.heap [] 0 0 Q (F0 m pc ls [.ref b]) := by
  subst hQ
  exact W.aret F.1 F.2.1 (F.2.2.1.trans hret) (Or.inl ⟨_, rfl⟩) (Or.inr ⟨_, rfl⟩) (fun t ht hW => ⟨⟨_, rfl, hv⟩, ht⟩) (fun q h => by cases h) hdg F.2.2.2.1
theorem jR.rn {n : String} (F : jF p s m args meth c Y D cA) (hQ : Q = MQ below (jS Po) args s 0 0 (fun _ => False)) (hret : Y.2.2.2 = some (.object n)) (hdg : decode Y.2.1 pc = .ok (.areturn, 1)) (hv : Po .null) : W p l e R s m args below meth c s.heap [] 0 0 Q (F0 m pc ls [.null]) := by
  subst hQ
  exact W.aret F.1 F.2.1 (F.2.2.1.trans hret) (Or.inl ⟨_, rfl⟩) (Or.inl rfl) (fun t ht hW => ⟨⟨_, rfl, hv⟩, ht⟩) (fun q h => by cases h) hdg F.2.2.2.1
theorem jM.rv (F : jF p s m args meth c Y D cA) (hQ : Q = MQ below (jQ D Wd A) args s mc ms A) (hret : Y.2.2.2 = none) (hdg : decode Y.2.1 pc = .ok (.return_, 1)) (hS : va_S A s.heap H locs) (hP : va_P D cls w1 H) (hD : va_D A w1) (hv : Wd none w1) : W p l e R s m args below meth c H locs mc ms Q (F0 m pc ls []) := by
  subst hQ
  exact W.vret F.1 F.2.1 (F.2.2.1.trans hret) (fun t ht hW => ⟨⟨_, w1, rfl, hv, by rw [ht]; exact hP, hD⟩, hS.F ht⟩) hS.2.2 hdg F.2.2.2.1
theorem jM.ri (F : jF p s m args meth c Y D cA) (hQ : Q = MQ below (jQ D Wd A) args s mc ms A) (hret : Y.2.2.2 = some .int) (hdg : decode Y.2.1 pc = .ok (.ireturn, 1)) (hS : va_S A s.heap H locs) (hP : va_P D cls w1 H) (hD : va_D A w1) (hv : Wd (some (.int (jI z))) w1) : W p l e R s m args below meth c H locs mc ms Q (F0 m pc ls [.int (jI z)]) := by
  subst hQ
  exact W.iret F.1 F.2.1 (F.2.2.1.trans hret) (fun t ht hW => ⟨⟨_, w1, rfl, hv, by rw [ht]; exact hP, hD⟩, hS.F ht⟩) hS.2.2 hdg F.2.2.2.1
theorem jM.rz (F : jF p s m args meth c Y D cA) (hQ : Q = MQ below (jQ D Wd A) args s mc ms A) (hret : Y.2.2.2 = some .boolean) (hz : z = 0 ∨ z = 1) (hdg : decode Y.2.1 pc = .ok (.ireturn, 1)) (hS : va_S A s.heap H locs) (hP : va_P D cls w1 H) (hD : va_D A w1) (hv : Wd (some (.int (jI z))) w1) : W p l e R s m args below meth c H locs mc ms Q (F0 m pc ls [.int (jI z)]) := by
  subst hQ
  exact W.zret F.1 F.2.1 (F.2.2.1.trans hret) (jB_nar hz) (fun t ht hW => ⟨⟨_, w1, rfl, hv, by rw [ht]; exact hP, hD⟩, hS.F ht⟩) hS.2.2 hdg F.2.2.2.1
theorem jM.ra {n : String} {b : Nat} (F : jF p s m args meth c Y D cA) (hQ : Q = MQ below (jQ D Wd A) args s mc ms A) (hret : Y.2.2.2 = some (.object n)) (hdg : decode Y.2.1 pc = .ok (.areturn, 1)) (hS : va_S A s.heap H locs) (hP : va_P D cls w1 H) (hD : va_D A w1) (hv : Wd (some (.ref b)) w1) : W p l e R s m args below meth c H locs mc ms Q (F0 m pc ls [.ref b]) := by
  subst hQ
  exact W.aret F.1 F.2.1 (F.2.2.1.trans hret) (Or.inl ⟨_, rfl⟩) (Or.inr ⟨_, rfl⟩) (fun t ht hW => ⟨⟨_, w1, rfl, hv, by rw [ht]; exact hP, hD⟩, hS.F ht⟩) hS.2.2 hdg F.2.2.2.1
/-! behind a call -/
theorem jr_go (hr : va_Run p l e R s m args below meth c H locs cells slots 0 0 (F0 m pc ls st0) rest (jS Po a) (fun _ => False))
    (kk : ∀ v, Po v → W p l e R s m args below meth c H locs cells slots Q (F0 m (pc + 3) ls (v :: rest))) : W p l e R s m args below meth c H locs cells slots Q (F0 m pc ls st0) := by
  intro T hT X
  obtain ⟨v', st₀, t, T', L, h0, X', hL, e1, -, ⟨⟨v, hv, hp⟩, hh⟩, st⟩ := hr T hT X
  cases hv
  obtain ⟨t2, a1, b1⟩ := kk v hp T' (by rw [e1, hh, h0]) (Stand.forget X' (fun q h => (hL q h).elim))
  exact ⟨t2, st t2 a1, b1⟩
theorem jw_go {ws wc wr : va_W} (hr : va_Run p l e R s m args below meth c H locs cells slots mc ms (F0 m pc ls st0) rest (jQ D Wd (va_A wc H.size) a) (va_A wc H.size))
    (hP : va_P D cls ws H) (hD : va_D A0 ws) (hS : va_S A0 H0 H locs) (hA : ∀ q, H0.size ≤ q → A0 q) (isC isR : List Nat) (hC : isC.map (fun i => ws[i]?) = wc.map some) (hR : isR.map (fun i => ws[i]?) = wr.map some) (hn : va_nd isR = true) (hdis : ∀ i ∈ isR, i ∉ isC)
    (kk : ∀ (v : Option Value) (w1 : va_W) (H1 : Heap) (locs1 : List Loc), Wd v w1 → va_P D cls (wr ++ w1) H1 → va_D A0 (wr ++ w1) → va_S A0 H0 H1 locs1 → W p l e R s m args below meth c H1 locs1 (cells + mc) (slots + ms) Q (F0 m (pc + 3) ls (v.toList ++ rest))) : W p l e R s m args below meth c H locs cells slots Q (F0 m pc ls st0) := by
  have hF := va_free (wc := wc) hD hS hA isC hC
  intro T hT X
  obtain ⟨v', st₀, t, T', L, h0, X', hL, e1, -, ⟨⟨v, w1, hv, hw, hP1, hD1⟩, hz, hk⟩, st⟩ := hr T hT X
  cases hv
  rw [h0] at hz hk
  rw [← e1] at hP1 hz hk
  obtain ⟨hP2, hD2⟩ := va_join (wr := wr) (w1 := w1) hP hD isC isR hC hR hn hdis hk hF hP1 hD1
  obtain ⟨t2, a1, b1⟩ := kk v' w1 T'.heap (locs ++ L) hw hP2 hD2
    ⟨Nat.le_trans hS.1 hz, fun q h1 h2 => by rw [hk q (Nat.lt_of_lt_of_le h1 hS.1) (fun z => h2 (hF q z))]; exact hS.2.1 q h1 h2, fun q hq => by
      rcases List.mem_append.mp hq with h | h
      · exact hS.2.2 q h
      · exact hF _ (hL q h)⟩ T' rfl X'
  exact ⟨t2, st t2 a1, b1⟩
/-! what a call's words are -/
def jOk (Yc : jY) (n : Nat) : Prop := Yc.1.cls ≠ "java/lang/invoke/MethodHandle" ∧ Yc.1.cls ≠ "java/lang/invoke/VarHandle" ∧ (parseMethodDescriptor Yc.1.desc).map (fun d => d.parameters.length) = some n
def jCo (Yc : jY) : Prop := Cond.code Yc.1 Yc.2.1 Yc.2.2.1 Yc.2.2.2 ∈ gw ∧ Cond.initialized Yc.1.cls ∈ gw
def jCV (own : String) (index : Nat) (Yc : jY) (n : Nat) : Prop := jCo Yc ∧ jOk Yc n ∧ Cond.methodLink own index Yc.1 ∈ gw ∧ Cond.instanceMethod Yc.1 ∈ gw ∧ Cond.selects Yc.1.cls Yc.1 Yc.1 ∈ gw
def jCS (own : String) (index : Nat) (Yc : jY) (n : Nat) : Prop := jCo Yc ∧ jOk Yc n ∧ Cond.methodLink own index Yc.1 ∈ gw ∧ Cond.static Yc.1 ∈ gw
def jCI (own : String) (index : Nat) (Yc : jY) (n : Nat) : Prop := jCo Yc ∧ jOk Yc n ∧ Cond.methodLink own index Yc.1 ∈ gw ∧ Cond.instanceMethod Yc.1 ∈ gw ∧ Yc.1.name = "<init>" ∧ Yc.2.2.2 = none
def jCSN (own : String) (index : Nat) (Yc : jY) (n : Nat) : Prop := jCo Yc ∧ jOk Yc n ∧ (∃ h, Cond.methodLinkNest own index Yc.1 h ∈ tables_1) ∧ Cond.static Yc.1 ∈ gw
def jCIN (own : String) (index : Nat) (Yc : jY) (n : Nat) : Prop := jCo Yc ∧ jOk Yc n ∧ (∃ h, Cond.methodLinkNest own index Yc.1 h ∈ tables_1) ∧ Cond.instanceMethod Yc.1 ∈ gw ∧ Yc.1.name = "<init>" ∧ Yc.2.2.2 = none
variable {rc : Room} {index b ci n N : Nat} {As fs : List Value} {ws wc wr : va_W} {T : u_T} {lv : List (Nat × Value)}
abbrev jRm (rc R : Room) (Yc : jY) (mc ms : Nat) : Prop := rc.cells = mc ∧ rc.slots = ms ∧ rc.frames + 1 ≤ R.frames ∧ 8 + (Yc.2.2.1 + 11) + rc.locals ≤ R.locals
theorem jr_V (F : jF p s m args meth c Y D cA) (hM : jR l Yc rc D cA (.ref b :: As) wc Po) (hw : jCV Y.1.cls index Yc n) (hP : va_P D cls ws H) (isC : List Nat) (hC : isC.map (fun i => ws[i]?) = wc.map some)
    (q0 : Nat) (he : ws[q0]? = some (b, .inr (ci, fs))) (hc : cls[ci]? = some (Yc.1.cls, T, N)) (hl : lv_has ls Y.2.2.1 lv) (hR : jRm rc R Yc 0 0) (hn : As.length = n) (hst : st0 = As.reverse ++ .ref b :: rest) (hcat : (rest.map fun v => v.category).sum ≤ 8)
    (hdg : decode Y.2.1 pc = .ok (.invokevirtual index, 3)) (hcs : cells ≤ R.cells ∧ slots ≤ R.slots)
    (kk : ∀ v, Po v → W p l e R s m args below meth c H locs cells slots Q (F0 m (pc + 3) ls (v :: rest))) : W p l e R s m args below meth c H locs cells slots Q (F0 m pc ls st0) := by
  obtain ⟨⟨w5, w3⟩, hd, w1, w2, w4⟩ := hw
  exact jr_go (va_runV (C := Yc.1.cls) F.fix hM ⟨callB_of n F.ts (gw_in w5) rfl hR.1 hR.2.1 (F.wd w3) (F.wd w1) hd hR.2.2, F.wd w2, F.wd w4⟩ ⟨jP_blind, va_recv F.K hP hc he, fun U hU hW => ⟨rfl, cxt.warm hW F.cx, by rw [hU]; exact hP.sub isC (jsub hC)⟩⟩ rfl hn hl.1 hst (lv_room hcat) hdg hcs) kk
theorem jr_S (F : jF p s m args meth c Y D cA) (hM : jR l Yc rc D cA As wc Po) (hw : jCS Y.1.cls index Yc n) (hP : va_P D cls ws H) (isC : List Nat) (hC : isC.map (fun i => ws[i]?) = wc.map some)
    (hl : lv_has ls Y.2.2.1 lv) (hR : jRm rc R Yc 0 0) (hn : As.length = n) (hst : st0 = As.reverse ++ rest) (hcat : (rest.map fun v => v.category).sum ≤ 8)
    (hdg : decode Y.2.1 pc = .ok (.invokestatic index, 3)) (hcs : cells ≤ R.cells ∧ slots ≤ R.slots)
    (kk : ∀ v, Po v → W p l e R s m args below meth c H locs cells slots Q (F0 m (pc + 3) ls (v :: rest))) : W p l e R s m args below meth c H locs cells slots Q (F0 m pc ls st0) := by
  obtain ⟨⟨w5, w3⟩, hd, w1, w2⟩ := hw
  exact jr_go (va_runS F.fix hM ⟨callB_of n F.ts (gw_in w5) rfl hR.1 hR.2.1 (F.wd w3) (F.wd w1) hd hR.2.2, F.wd w2⟩ ⟨jP_blind, fun U hU hW => ⟨rfl, cxt.warm hW F.cx, by rw [hU]; exact hP.sub isC (jsub hC)⟩⟩ rfl hn hl.1 hst (lv_room hcat) hdg hcs) kk
theorem jr_SN (F : jF p s m args meth c Y D cA) (hM : jR l Yc rc D cA As wc Po) (hw : jCSN Y.1.cls index Yc n) (hP : va_P D cls ws H) (isC : List Nat) (hC : isC.map (fun i => ws[i]?) = wc.map some)
    (hl : lv_has ls Y.2.2.1 lv) (hR : jRm rc R Yc 0 0) (hn : As.length = n) (hst : st0 = As.reverse ++ rest) (hcat : (rest.map fun v => v.category).sum ≤ 8)
    (hdg : decode Y.2.1 pc = .ok (.invokestatic index, 3)) (hcs : cells ≤ R.cells ∧ slots ≤ R.slots)
    (kk : ∀ v, Po v → W p l e R s m args below meth c H locs cells slots Q (F0 m (pc + 3) ls (v :: rest))) : W p l e R s m args below meth c H locs cells slots Q (F0 m pc ls st0) := by
  obtain ⟨⟨w5, w3⟩, hd, ⟨hh, w1⟩, w2⟩ := hw
  exact jr_go (va_runSN (host := hh) F.fix hM ⟨va_cnB n F.ts (gw_in w5) rfl hR.1 hR.2.1 (F.cx.2 _ _ _ _ w1) (F.wd w3) hd hR.2.2, F.wd w2, trivial⟩ ⟨jP_blind, fun U hU hW => ⟨rfl, cxt.warm hW F.cx, by rw [hU]; exact hP.sub isC (jsub hC)⟩⟩ rfl hn hl.1 hst (lv_room hcat) hdg hcs) kk
theorem jw_V (F : jF p s m args meth c Y D cA) (hM : jM l Yc rc D cA (.ref b :: As) wc Wd mc ms) (hw : jCV Y.1.cls index Yc n) (hP : va_P D cls ws H) (hD : va_D A0 ws) (hS : va_S A0 H0 H locs) (hA : ∀ q, H0.size ≤ q → A0 q) (isC isR : List Nat) (hC : isC.map (fun i => ws[i]?) = wc.map some) (hRr : isR.map (fun i => ws[i]?) = wr.map some) (hnd : va_nd isR = true) (hdis : ∀ i ∈ isR, i ∉ isC)
    (q0 : Nat) (he : ws[q0]? = some (b, .inr (ci, fs))) (hc : cls[ci]? = some (Yc.1.cls, T, N)) (hl : lv_has ls Y.2.2.1 lv) (hR : jRm rc R Yc mc ms) (hn : As.length = n) (hst : st0 = As.reverse ++ .ref b :: rest) (hcat : (rest.map fun v => v.category).sum ≤ 8)
    (hdg : decode Y.2.1 pc = .ok (.invokevirtual index, 3)) (hcs : cells + mc ≤ R.cells ∧ slots + ms ≤ R.slots) (hnC : va_nd isC = true)
    (kk : ∀ (v : Option Value) (w1 : va_W) (H1 : Heap) (locs1 : List Loc), Wd v w1 → va_P D cls (wr ++ w1) H1 → va_D A0 (wr ++ w1) → va_S A0 H0 H1 locs1 → W p l e R s m args below meth c H1 locs1 (cells + mc) (slots + ms) Q (F0 m (pc + 3) ls (v.toList ++ rest))) : W p l e R s m args below meth c H locs cells slots Q (F0 m pc ls st0) := by
  obtain ⟨⟨w5, w3⟩, hd, w1, w2, w4⟩ := hw
  exact jw_go (va_runV (C := Yc.1.cls) F.fix (hM H.size) ⟨callB_of n F.ts (gw_in w5) rfl hR.1 hR.2.1 (F.wd w3) (F.wd w1) hd hR.2.2, F.wd w2, F.wd w4⟩ ⟨jPM_blind, va_recv F.K hP hc he, fun U hU hW => ⟨rfl, cxt.warm hW F.cx, by rw [hU], by rw [hU]; exact hP.sub isC (jsub hC), (hD.sub isC hnC hC).weaken (fun _ _ _ _ => trivial)⟩⟩ rfl hn hl.1 hst (lv_room hcat) hdg hcs) hP hD hS hA isC isR hC hRr hnd hdis kk
theorem jw_S (F : jF p s m args meth c Y D cA) (hM : jM l Yc rc D cA As wc Wd mc ms) (hw : jCS Y.1.cls index Yc n) (hP : va_P D cls ws H) (hD : va_D A0 ws) (hS : va_S A0 H0 H locs) (hA : ∀ q, H0.size ≤ q → A0 q) (isC isR : List Nat) (hC : isC.map (fun i => ws[i]?) = wc.map some) (hRr : isR.map (fun i => ws[i]?) = wr.map some) (hnd : va_nd isR = true) (hdis : ∀ i ∈ isR, i ∉ isC)
    (hl : lv_has ls Y.2.2.1 lv) (hR : jRm rc R Yc mc ms) (hn : As.length = n) (hst : st0 = As.reverse ++ rest) (hcat : (rest.map fun v => v.category).sum ≤ 8)
    (hdg : decode Y.2.1 pc = .ok (.invokestatic index, 3)) (hcs : cells + mc ≤ R.cells ∧ slots + ms ≤ R.slots) (hnC : va_nd isC = true)
    (kk : ∀ (v : Option Value) (w1 : va_W) (H1 : Heap) (locs1 : List Loc), Wd v w1 → va_P D cls (wr ++ w1) H1 → va_D A0 (wr ++ w1) → va_S A0 H0 H1 locs1 → W p l e R s m args below meth c H1 locs1 (cells + mc) (slots + ms) Q (F0 m (pc + 3) ls (v.toList ++ rest))) : W p l e R s m args below meth c H locs cells slots Q (F0 m pc ls st0) := by
  obtain ⟨⟨w5, w3⟩, hd, w1, w2⟩ := hw
  exact jw_go (va_runS F.fix (hM H.size) ⟨callB_of n F.ts (gw_in w5) rfl hR.1 hR.2.1 (F.wd w3) (F.wd w1) hd hR.2.2, F.wd w2⟩ ⟨jPM_blind, fun U hU hW => ⟨rfl, cxt.warm hW F.cx, by rw [hU], by rw [hU]; exact hP.sub isC (jsub hC), (hD.sub isC hnC hC).weaken (fun _ _ _ _ => trivial)⟩⟩ rfl hn hl.1 hst (lv_room hcat) hdg hcs) hP hD hS hA isC isR hC hRr hnd hdis kk
theorem jw_I (F : jF p s m args meth c Y D cA) (hM : jM l Yc rc D cA (.ref b :: As) wc Wd mc ms) (hw : jCI Y.1.cls index Yc n) (hP : va_P D cls ws H) (hD : va_D A0 ws) (hS : va_S A0 H0 H locs) (hA : ∀ q, H0.size ≤ q → A0 q) (isC isR : List Nat) (hC : isC.map (fun i => ws[i]?) = wc.map some) (hRr : isR.map (fun i => ws[i]?) = wr.map some) (hnd : va_nd isR = true) (hdis : ∀ i ∈ isR, i ∉ isC)
    (hl : lv_has ls Y.2.2.1 lv) (hR : jRm rc R Yc mc ms) (hn : As.length = n) (hst : st0 = As.reverse ++ .ref b :: rest) (hcat : (rest.map fun v => v.category).sum ≤ 8)
    (hdg : decode Y.2.1 pc = .ok (.invokespecial index, 3)) (hcs : cells + mc ≤ R.cells ∧ slots + ms ≤ R.slots) (hnC : va_nd isC = true)
    (kk : ∀ (v : Option Value) (w1 : va_W) (H1 : Heap) (locs1 : List Loc), Wd v w1 → va_P D cls (wr ++ w1) H1 → va_D A0 (wr ++ w1) → va_S A0 H0 H1 locs1 → W p l e R s m args below meth c H1 locs1 (cells + mc) (slots + ms) Q (F0 m (pc + 3) ls (v.toList ++ rest))) : W p l e R s m args below meth c H locs cells slots Q (F0 m pc ls st0) := by
  obtain ⟨⟨w5, w3⟩, hd, w1, w2, hnm, hrt⟩ := hw
  obtain ⟨y, bb, mL, rt⟩ := Yc
  dsimp only at hrt
  subst hrt
  exact jw_go (va_runI F.fix (hM H.size) ⟨callB_of n F.ts (gw_in w5) rfl hR.1 hR.2.1 (F.wd w3) (F.wd w1) hd hR.2.2, hnm, F.wd w2⟩ ⟨jPM_blind, fun U hU hW => ⟨rfl, cxt.warm hW F.cx, by rw [hU], by rw [hU]; exact hP.sub isC (jsub hC), (hD.sub isC hnC hC).weaken (fun _ _ _ _ => trivial)⟩⟩ rfl hn hl.1 hst (lv_room hcat) hdg hcs) hP hD hS hA isC isR hC hRr hnd hdis kk
theorem jw_IN (F : jF p s m args meth c Y D cA) (hM : jM l Yc rc D cA (.ref b :: As) wc Wd mc ms) (hw : jCIN Y.1.cls index Yc n) (hP : va_P D cls ws H) (hD : va_D A0 ws) (hS : va_S A0 H0 H locs) (hA : ∀ q, H0.size ≤ q → A0 q) (isC isR : List Nat) (hC : isC.map (fun i => ws[i]?) = wc.map some) (hRr : isR.map (fun i => ws[i]?) = wr.map some) (hnd : va_nd isR = true) (hdis : ∀ i ∈ isR, i ∉ isC)
    (hl : lv_has ls Y.2.2.1 lv) (hR : jRm rc R Yc mc ms) (hn : As.length = n) (hst : st0 = As.reverse ++ .ref b :: rest) (hcat : (rest.map fun v => v.category).sum ≤ 8)
    (hdg : decode Y.2.1 pc = .ok (.invokespecial index, 3)) (hcs : cells + mc ≤ R.cells ∧ slots + ms ≤ R.slots) (hnC : va_nd isC = true)
    (kk : ∀ (v : Option Value) (w1 : va_W) (H1 : Heap) (locs1 : List Loc), Wd v w1 → va_P D cls (wr ++ w1) H1 → va_D A0 (wr ++ w1) → va_S A0 H0 H1 locs1 → W p l e R s m args below meth c H1 locs1 (cells + mc) (slots + ms) Q (F0 m (pc + 3) ls (v.toList ++ rest))) : W p l e R s m args below meth c H locs cells slots Q (F0 m pc ls st0) := by
  obtain ⟨⟨w5, w3⟩, hd, ⟨hh, w1⟩, w2, hnm, hrt⟩ := hw
  obtain ⟨y, bb, mL, rt⟩ := Yc
  dsimp only at hrt
  subst hrt
  exact jw_go (va_runIN (host := hh) F.fix (hM H.size) ⟨va_cnB n F.ts (gw_in w5) rfl hR.1 hR.2.1 (F.cx.2 _ _ _ _ w1) (F.wd w3) hd hR.2.2, hnm, F.wd w2⟩ ⟨jPM_blind, fun U hU hW => ⟨rfl, cxt.warm hW F.cx, by rw [hU], by rw [hU]; exact hP.sub isC (jsub hC), (hD.sub isC hnC hC).weaken (fun _ _ _ _ => trivial)⟩⟩ rfl hn hl.1 hst (lv_room hcat) hdg hcs) hP hD hS hA isC isR hC hRr hnd hdis kk
/-! fields and arrays -/
def jNw (own : String) (index ci : Nat) (C : String) (T : u_T) (N : Nat) : Prop := (∀ w ∈ u_ws C T N, w ∈ gw) ∧ cls[ci]? = some (C, T, N) ∧ Cond.classLink own index C ∈ gw ∧ Cond.instantiable C N ∈ gw ∧ Cond.initialized C ∈ gw
def jFl (own : String) (index ci k : Nat) (C : String) (T : u_T) (N : Nat) : Prop := (∀ w ∈ u_ws C T N, w ∈ gw) ∧ cls[ci]? = some (C, T, N) ∧ k < N ∧ Cond.fieldLink own index (T k).1 (T k).2.1 (T k).2.2.1 ∈ gw
def jPf (T : u_T) (N : Nat) (ty : Nat → FieldType) : Prop := (∀ k, k < N → parseFieldDescriptor (T k).2.2.1 = some (ty k)) ∧ ∀ a, a < N → ∀ b, b < N → a ≠ b → (T a).2.1 ≠ (T b).2.1
variable {C : String} {k : Nat} {v : Value} {ty : Nat → FieldType} {q : Nat} {fa : Int → Int} {an : Nat}
theorem jv_get (F : jF p s m args meth c Y D cA) (hP : va_P D cls ws H) (q0 : Nat) (he : ws[q0]? = some (q, .inr (ci, fs))) (hf : jFl Y.1.cls index ci k C T N) (hv : fs[k]? = some v) (hdg : decode Y.2.1 pc = .ok (.getfield index, 3))
    (kk : W p l e R s m args below meth c H locs cells slots Q (F0 m (pc + 3) ls (v :: rest))) : W p l e R s m args below meth c H locs cells slots Q (F0 m pc ls (.ref q :: rest)) :=
  va_get F.1 F.2.1 (Ts := gw) (fun w h => F.wd h) hf.1 F.own F.K hP q0 he hf.2.1 k hf.2.2.1 (F.wd hf.2.2.2) (fun _ h => h) hv hdg kk
theorem jv_put (F : jF p s m args meth c Y D cA) (hP : va_P D cls ws H) (hD : va_D A ws) (hS : va_S A H0 H locs) (q0 : Nat) (he : ws[q0]? = some (q, .inr (ci, fs))) (hf : jFl Y.1.cls index ci k C T N) (hp : jPf T N ty) (hfin : (T k).2.2.2 = false) (hn : narrow (ty k) v = v) (hfit : fits (ty k) v = true) (hl : k < fs.length) (hdg : decode Y.2.1 pc = .ok (.putfield index, 3))
    (kk : ∀ (H1 : Heap) (locs1 : List Loc), va_P D cls (ws.set q0 (q, .inr (ci, fs.set k v))) H1 → va_D A (ws.set q0 (q, .inr (ci, fs.set k v))) → va_S A H0 H1 locs1 → W p l e R s m args below meth c H1 locs1 cells slots Q (F0 m (pc + 3) ls rest)) : W p l e R s m args below meth c H locs cells slots Q (F0 m pc ls (v :: .ref q :: rest)) :=
  va_put F.1 F.2.1 (Ts := gw) (fun w h => F.wd h) hf.1 ty hp.1 hp.2 F.own F.K hP hD hS q0 he hf.2.1 k hf.2.2.1 (F.wd hf.2.2.2) (fun _ h => h) hfin (hp.1 k hf.2.2.1) hn hfit hl hdg kk
theorem jv_putF (F : jF p s m args meth c Y D cA) (hP : va_P D cls ws H) (hD : va_D A ws) (hS : va_S A H0 H locs) (q0 : Nat) (he : ws[q0]? = some (q, .inr (ci, fs))) (hf : jFl Y.1.cls index ci k C T N) (hp : jPf T N ty) (hfin : (T k).2.2.2 = true) (hin : Y.1.name = "<init>") (hdecl : (T k).1 = Y.1.cls) (hn : narrow (ty k) v = v) (hfit : fits (ty k) v = true) (hl : k < fs.length) (hdg : decode Y.2.1 pc = .ok (.putfield index, 3))
    (kk : ∀ (H1 : Heap) (locs1 : List Loc), va_P D cls (ws.set q0 (q, .inr (ci, fs.set k v))) H1 → va_D A (ws.set q0 (q, .inr (ci, fs.set k v))) → va_S A H0 H1 locs1 → W p l e R s m args below meth c H1 locs1 cells slots Q (F0 m (pc + 3) ls rest)) : W p l e R s m args below meth c H locs cells slots Q (F0 m pc ls (v :: .ref q :: rest)) :=
  va_putF F.1 F.2.1 (Ts := gw) (fun w h => F.wd h) hf.1 ty hp.1 hp.2 F.own F.K hP hD hS q0 he hf.2.1 k hf.2.2.1 (F.wd hf.2.2.2) (fun _ h => h) hfin (F.2.2.2.2.2.2.2.2 hin) hdecl (hp.1 k hf.2.2.1) hn hfit hl hdg kk
theorem jv_iald (F : jF p s m args meth c Y D cA) (hP : va_P D cls ws H) (q0 : Nat) (he : ws[q0]? = some (q, .inl (cA, an, .inl (jA fa)))) (hz : 0 ≤ z ∧ z < (an : Int)) (hn : an < 2147483648) (hdg : decode Y.2.1 pc = .ok (.iaload, 1))
    (kk : W p l e R s m args below meth c H locs cells slots Q (F0 m (pc + 1) ls (.int (jI (fa z)) :: rest))) : W p l e R s m args below meth c H locs cells slots Q (F0 m pc ls (.int (jI z) :: .ref q :: rest)) :=
  va_iald F.1 F.2.1 F.K hP q0 0 he rfl (jI_in hz hn) hdg (by rw [jA_at ⟨hz.1, by omega⟩]; exact kk)
theorem jv_iast {x : Int} (F : jF p s m args meth c Y D cA) (hP : va_P D cls ws H) (hD : va_D A ws) (hS : va_S A H0 H locs) (q0 : Nat) (he : ws[q0]? = some (q, .inl (cA, an, .inl (jA fa)))) (hz : 0 ≤ z ∧ z < (an : Int)) (hn : an < 2147483648) (hdg : decode Y.2.1 pc = .ok (.iastore, 1))
    (kk : ∀ (H1 : Heap) (locs1 : List Loc), va_P D cls (ws.set q0 (q, .inl (cA, an, .inl (jA (jU fa z x))))) H1 → va_D A (ws.set q0 (q, .inl (cA, an, .inl (jA (jU fa z x))))) → va_S A H0 H1 locs1 → W p l e R s m args below meth c H1 locs1 cells slots Q (F0 m (pc + 1) ls rest)) : W p l e R s m args below meth c H locs cells slots Q (F0 m pc ls (.int (jI x) :: .int (jI z) :: .ref q :: rest)) :=
  va_iast F.1 F.2.1 F.K hP hD hS q0 0 he rfl (jI_in hz hn) hdg (by rw [jA_up ⟨hz.1, by omega⟩]; exact kk)
end JC
end
