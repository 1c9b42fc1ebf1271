/-! ===== BEGIN words of one list among another's, by their places ===== -/
theorem goodIn_r {big : List Cond} (ws : List Cond) (ps : List Nat) (hp : ws = ps.filterMap (fun i => big[i]?)) (h : ws.all goodWord = true) : GoodIn big ws := by
  intro w hw
  have h1 := List.all_eq_true.mp h w hw
  rw [hp] at hw
  obtain ⟨i, -, hi⟩ := List.mem_filterMap.mp hw
  have hm : w ∈ big := by first | exact List.mem_of_getElem? hi | exact List.getElem?_mem hi
  exact ⟨hm, good_of_word h1⟩
theorem goodIn_app {big a b : List Cond} (ha : GoodIn big a) (hb : GoodIn big b) : GoodIn big (a ++ b) := fun w h => (List.mem_append.mp h).elim (ha w) (hb w)
theorem goodIn_ca {big a b : List Cond} {c : Cond} (ha : GoodIn big (c :: a)) (hb : GoodIn big b) : GoodIn big (c :: (a ++ b)) := fun w h => (List.mem_cons.mp h).elim (fun e => ha w (List.mem_cons.mpr (Or.inl e))) (fun h => (List.mem_append.mp h).elim (fun h => ha w (List.mem_cons.mpr (Or.inr h))) (hb w))
theorem goodIn_sub {big ws : List Cond} (hm : ∀ w ∈ ws, w ∈ big) (h : ws.all goodWord = true) : GoodIn big ws := fun w hw => ⟨hm w hw, good_of_word (List.all_eq_true.mp h w hw)⟩
/-! ===== END ===== -/

/-! ===== BEGIN printed: names, fields, word lists, decode rows ===== -/
def RX0 : String := "SeedChainer$BestChain"
def TX0 : u_T := fun k => match k with
  | 0 => ("SeedChainer$BestChain", "ahead", "[I", true)
  | 1 => ("SeedChainer$BestChain", "pairs", "[I", true)
  | 2 => ("SeedChainer$BestChain", "size", "I", false)
  | _ => ("SeedChainer$BestChain", "total", "I", false)
def tyX0 : Nat → FieldType := fun k => match k with
  | 0 => .array .int
  | 1 => .array .int
  | 2 => .int
  | _ => .int
abbrev wsX00 : List Cond := u_ws RX0 TX0 4
theorem nmX0 : ∀ a, a < 4 → ∀ b, b < 4 → a ≠ b → (TX0 a).2.1 ≠ (TX0 b).2.1 := by decide +kernel
theorem tyX0_ok : ∀ k, k < 4 → parseFieldDescriptor (TX0 k).2.2.1 = some (tyX0 k) := by decide +kernel
abbrev cX0_init : ByteArray := prog_2_method_1_code
def yX0_init : MethodName := ⟨RX0, "<init>", "()V"⟩
abbrev cX0_find : ByteArray := prog_2_method_5_code
def yX0_find : MethodName := ⟨RX0, "find", "(LSeedChainer$Seeds;I)V"⟩
abbrev cX0_lookAhead : ByteArray := prog_2_method_6_code
def yX0_lookAhead : MethodName := ⟨RX0, "lookAhead", "(LSeedChainer$Seeds;I)V"⟩
def RX1 : String := "SeedChainer$LetterRow"
def TX1 : u_T := fun k => match k with
  | 0 => ("SeedChainer$LetterRow", "letters", "[I", true)
  | _ => ("SeedChainer$LetterRow", "size", "I", false)
def tyX1 : Nat → FieldType := fun k => match k with
  | 0 => .array .int
  | _ => .int
abbrev wsX10 : List Cond := u_ws RX1 TX1 2
theorem nmX1 : ∀ a, a < 2 → ∀ b, b < 2 → a ≠ b → (TX1 a).2.1 ≠ (TX1 b).2.1 := by decide +kernel
theorem tyX1_ok : ∀ k, k < 2 → parseFieldDescriptor (TX1 k).2.2.1 = some (tyX1 k) := by decide +kernel
abbrev cX1_init : ByteArray := prog_3_method_1_code
def yX1_init : MethodName := ⟨RX1, "<init>", "()V"⟩
abbrev cX1_size : ByteArray := prog_3_method_2_code
def yX1_size : MethodName := ⟨RX1, "size", "()I"⟩
abbrev cX1_isFull : ByteArray := prog_3_method_3_code
def yX1_isFull : MethodName := ⟨RX1, "isFull", "()Z"⟩
abbrev cX1_append : ByteArray := prog_3_method_4_code
def yX1_append : MethodName := ⟨RX1, "append", "(I)V"⟩
abbrev cX1_dropLast : ByteArray := prog_3_method_5_code
def yX1_dropLast : MethodName := ⟨RX1, "dropLast", "()I"⟩
abbrev cX1_at : ByteArray := prog_3_method_6_code
def yX1_at : MethodName := ⟨RX1, "at", "(I)I"⟩
def RX2 : String := "SeedChainer$Reaching"
def TX2 : u_T := fun k => match k with
  | 0 => ("SeedChainer$Reaching", "gain", "I", false)
  | 1 => ("SeedChainer$Reaching", "loss", "I", false)
  | 2 => ("SeedChainer$Reaching", "gap", "I", false)
  | 3 => ("SeedChainer$Reaching", "limit", "I", false)
  | 4 => ("SeedChainer$Reaching", "twoBefore", "[I", false)
  | 5 => ("SeedChainer$Reaching", "oneBefore", "[I", false)
  | 6 => ("SeedChainer$Reaching", "current", "[I", false)
  | 7 => ("SeedChainer$Reaching", "endScore", "I", false)
  | 8 => ("SeedChainer$Reaching", "endP", "I", false)
  | 9 => ("SeedChainer$Reaching", "endQ", "I", false)
  | 10 => ("SeedChainer$Reaching", "aliveCells", "I", false)
  | _ => ("SeedChainer$Reaching", "lastSlope", "I", false)
def tyX2 : Nat → FieldType := fun k => match k with
  | 0 => .int
  | 1 => .int
  | 2 => .int
  | 3 => .int
  | 4 => .array .int
  | 5 => .array .int
  | 6 => .array .int
  | 7 => .int
  | 8 => .int
  | 9 => .int
  | 10 => .int
  | _ => .int
abbrev wsX20 : List Cond := u_ws RX2 TX2 12
theorem nmX2 : ∀ a, a < 12 → ∀ b, b < 12 → a ≠ b → (TX2 a).2.1 ≠ (TX2 b).2.1 := by decide +kernel
theorem tyX2_ok : ∀ k, k < 12 → parseFieldDescriptor (TX2 k).2.2.1 = some (tyX2 k) := by decide +kernel
abbrev cX2_init : ByteArray := prog_4_method_1_code
def yX2_init : MethodName := ⟨RX2, "<init>", "()V"⟩
abbrev cX2_useScores : ByteArray := prog_4_method_2_code
def yX2_useScores : MethodName := ⟨RX2, "useScores", "(IIII)V"⟩
def RX3 : String := "SeedChainer$Seeds"
def TX3 : u_T := fun k => match k with
  | 0 => ("SeedChainer$Seeds", "first", "LSeedChainer$LetterRow;", true)
  | 1 => ("SeedChainer$Seeds", "second", "LSeedChainer$LetterRow;", true)
  | _ => ("SeedChainer$Seeds", "length", "I", false)
def tyX3 : Nat → FieldType := fun k => match k with
  | 0 => .object "SeedChainer$LetterRow"
  | 1 => .object "SeedChainer$LetterRow"
  | _ => .int
abbrev wsX30 : List Cond := u_ws RX3 TX3 3
theorem nmX3 : ∀ a, a < 3 → ∀ b, b < 3 → a ≠ b → (TX3 a).2.1 ≠ (TX3 b).2.1 := by decide +kernel
theorem tyX3_ok : ∀ k, k < 3 → parseFieldDescriptor (TX3 k).2.2.1 = some (tyX3 k) := by decide +kernel
abbrev cX3_init : ByteArray := prog_5_method_1_code
def yX3_init : MethodName := ⟨RX3, "<init>", "(LSeedChainer$LetterRow;LSeedChainer$LetterRow;)V"⟩
abbrev cX3_useLength : ByteArray := prog_5_method_3_code
def yX3_useLength : MethodName := ⟨RX3, "useLength", "(I)V"⟩
abbrev cX3_firstSize : ByteArray := prog_5_method_4_code
def yX3_firstSize : MethodName := ⟨RX3, "firstSize", "()I"⟩
abbrev cX3_isSeed : ByteArray := prog_5_method_6_code
def yX3_isSeed : MethodName := ⟨RX3, "isSeed", "(II)Z"⟩
abbrev cX3_count : ByteArray := prog_5_method_7_code
def yX3_count : MethodName := ⟨RX3, "count", "()I"⟩
abbrev cX3_pairAt : ByteArray := prog_5_method_8_code
def yX3_pairAt : MethodName := ⟨RX3, "pairAt", "(I)I"⟩
def RX4 : String := "SeedChainer"
def TX4 : u_T := fun k => match k with
  | 0 => ("SeedChainer", "row0", "LSeedChainer$LetterRow;", true)
  | 1 => ("SeedChainer", "row1", "LSeedChainer$LetterRow;", true)
  | 2 => ("SeedChainer", "seedPairs", "LSeedChainer$Seeds;", true)
  | 3 => ("SeedChainer", "best", "LSeedChainer$BestChain;", true)
  | 4 => ("SeedChainer", "reaching", "LSeedChainer$Reaching;", true)
  | 5 => ("SeedChainer", "gapPenalty", "I", false)
  | _ => ("SeedChainer", "bestIsFresh", "Z", false)
def tyX4 : Nat → FieldType := fun k => match k with
  | 0 => .object "SeedChainer$LetterRow"
  | 1 => .object "SeedChainer$LetterRow"
  | 2 => .object "SeedChainer$Seeds"
  | 3 => .object "SeedChainer$BestChain"
  | 4 => .object "SeedChainer$Reaching"
  | 5 => .int
  | _ => .boolean
abbrev wsX40 : List Cond := u_ws RX4 TX4 7
theorem nmX4 : ∀ a, a < 7 → ∀ b, b < 7 → a ≠ b → (TX4 a).2.1 ≠ (TX4 b).2.1 := by decide +kernel
theorem tyX4_ok : ∀ k, k < 7 → parseFieldDescriptor (TX4 k).2.2.1 = some (tyX4 k) := by decide +kernel
abbrev cX4_init : ByteArray := prog_1_method_1_code
def yX4_init : MethodName := ⟨RX4, "<init>", "()V"⟩
abbrev cX4_put : ByteArray := prog_1_method_2_code
def yX4_put : MethodName := ⟨RX4, "put", "(II)I"⟩
abbrev cX4_cut : ByteArray := prog_1_method_3_code
def yX4_cut : MethodName := ⟨RX4, "cut", "(I)I"⟩
abbrev cX4_letter : ByteArray := prog_1_method_4_code
def yX4_letter : MethodName := ⟨RX4, "letter", "(II)I"⟩
abbrev cX4_seeds : ByteArray := prog_1_method_5_code
def yX4_seeds : MethodName := ⟨RX4, "seeds", "(I)Z"⟩
abbrev cX4_penalty : ByteArray := prog_1_method_6_code
def yX4_penalty : MethodName := ⟨RX4, "penalty", "(I)Z"⟩
abbrev cX4_scores : ByteArray := prog_1_method_7_code
def yX4_scores : MethodName := ⟨RX4, "scores", "(IIII)Z"⟩
abbrev cX4_anchors : ByteArray := prog_1_method_8_code
def yX4_anchors : MethodName := ⟨RX4, "anchors", "()I"⟩
abbrev cX4_anchor : ByteArray := prog_1_method_9_code
def yX4_anchor : MethodName := ⟨RX4, "anchor", "(II)I"⟩
abbrev cX4_chain : ByteArray := prog_1_method_10_code
def yX4_chain : MethodName := ⟨RX4, "chain", "()I"⟩
abbrev cX4_rowOf : ByteArray := prog_1_method_15_code
def yX4_rowOf : MethodName := ⟨RX4, "rowOf", "(I)LSeedChainer$LetterRow;"⟩
abbrev cX4_freshBest : ByteArray := prog_1_method_16_code
def yX4_freshBest : MethodName := ⟨RX4, "freshBest", "()LSeedChainer$BestChain;"⟩
abbrev cX4_isBetween : ByteArray := prog_1_method_17_code
def yX4_isBetween : MethodName := ⟨RX4, "isBetween", "(III)Z"⟩
abbrev cX4_pairOf : ByteArray := prog_1_method_18_code
def yX4_pairOf : MethodName := ⟨RX4, "pairOf", "(II)I"⟩
abbrev cX4_placeOf : ByteArray := prog_1_method_19_code
def yX4_placeOf : MethodName := ⟨RX4, "placeOf", "(II)I"⟩
def RX5 : String := "SeedChainerModel"
def TX5 : u_T := fun k => match k with
  | _ => ("", "", "", false)
def tyX5 : Nat → FieldType := fun k => match k with
  | _ => .int
abbrev wsX50 : List Cond := u_ws RX5 TX5 0
theorem nmX5 : ∀ a, a < 0 → ∀ b, b < 0 → a ≠ b → (TX5 a).2.1 ≠ (TX5 b).2.1 := by decide +kernel
theorem tyX5_ok : ∀ k, k < 0 → parseFieldDescriptor (TX5 k).2.2.1 = some (tyX5 k) := by decide +kernel
def RJ9 : String := "java/lang/Math"
def TJ9 : u_T := fun k => match k with
  | _ => ("", "", "", false)
def tyJ9 : Nat → FieldType := fun k => match k with
  | _ => .int
abbrev wsJ90 : List Cond := u_ws RJ9 TJ9 0
theorem nmJ9 : ∀ a, a < 0 → ∀ b, b < 0 → a ≠ b → (TJ9 a).2.1 ≠ (TJ9 b).2.1 := by decide +kernel
theorem tyJ9_ok : ∀ k, k < 0 → parseFieldDescriptor (TJ9 k).2.2.1 = some (tyJ9 k) := by decide +kernel
def RJ7 : String := "java/util/Arrays"
def TJ7 : u_T := fun k => match k with
  | _ => ("", "", "", false)
def tyJ7 : Nat → FieldType := fun k => match k with
  | _ => .int
abbrev wsJ70 : List Cond := u_ws RJ7 TJ7 0
theorem nmJ7 : ∀ a, a < 0 → ∀ b, b < 0 → a ≠ b → (TJ7 a).2.1 ≠ (TJ7 b).2.1 := by decide +kernel
theorem tyJ7_ok : ∀ k, k < 0 → parseFieldDescriptor (TJ7 k).2.2.1 = some (tyJ7 k) := by decide +kernel
def RL : String := "SeedChainerLaw"
abbrev cL_law : ByteArray := code
def yL_law : MethodName := ⟨RL, "law", "([I)Z"⟩
def wsX0_init : List Cond := .code yX0_init cX0_init 1 none :: ([.methodLink RX0 3 objectInit, .instanceMethod objectInit, .code objectInit ⟨#[0xb1]⟩ 1 none, .arrayClass .int, .fieldLink RX0 11 "SeedChainer$BestChain" "ahead" "[I", .fieldLink RX0 15 "SeedChainer$BestChain" "pairs" "[I", .fieldLink RX0 18 "SeedChainer$BestChain" "size" "I", .fieldLink RX0 22 "SeedChainer$BestChain" "total" "I"] ++ wsX00)
def wsX1_size : List Cond := .code yX1_size cX1_size 1 (some .int) :: ([.fieldLink RX1 15 "SeedChainer$LetterRow" "size" "I"] ++ wsX10)
def wsX3_firstSize : List Cond := .code yX3_firstSize cX3_firstSize 1 (some .int) :: ([.fieldLink RX3 15 "SeedChainer$Seeds" "first" "LSeedChainer$LetterRow;", .methodLink RX3 22 yX1_size, .instanceMethod yX1_size, .selects RX1 yX1_size yX1_size, .initialized RX1, .code yX1_size cX1_size 1 (some .int), .fieldLink RX1 15 "SeedChainer$LetterRow" "size" "I"] ++ wsX30 ++ wsX10)
def wsX0_lookAhead : List Cond := .code yX0_lookAhead cX0_lookAhead 5 none :: ([.fieldLink RX0 11 "SeedChainer$BestChain" "ahead" "[I", .methodLink RX0 51 yX3_firstSize, .instanceMethod yX3_firstSize, .selects RX3 yX3_firstSize yX3_firstSize, .initialized RX3, .code yX3_firstSize cX3_firstSize 1 (some .int), .fieldLink RX3 15 "SeedChainer$Seeds" "first" "LSeedChainer$LetterRow;", .methodLink RX3 22 yX1_size, .instanceMethod yX1_size, .selects RX1 yX1_size yX1_size, .initialized RX1, .code yX1_size cX1_size 1 (some .int), .fieldLink RX1 15 "SeedChainer$LetterRow" "size" "I"] ++ wsX00 ++ wsX30 ++ wsX10)
def wsX0_find : List Cond := .code yX0_find cX0_find 6 none :: ([.fieldLink RX0 18 "SeedChainer$BestChain" "size" "I", .fieldLink RX0 22 "SeedChainer$BestChain" "total" "I", .fieldLink RX0 15 "SeedChainer$BestChain" "pairs" "[I", .methodLink RX0 25 yX0_lookAhead, .instanceMethod yX0_lookAhead, .selects RX0 yX0_lookAhead yX0_lookAhead, .initialized RX0, .code yX0_lookAhead cX0_lookAhead 5 none, .fieldLink RX0 11 "SeedChainer$BestChain" "ahead" "[I", .methodLink RX0 51 yX3_firstSize, .instanceMethod yX3_firstSize, .selects RX3 yX3_firstSize yX3_firstSize, .initialized RX3, .code yX3_firstSize cX3_firstSize 1 (some .int), .fieldLink RX3 15 "SeedChainer$Seeds" "first" "LSeedChainer$LetterRow;", .methodLink RX3 22 yX1_size, .instanceMethod yX1_size, .selects RX1 yX1_size yX1_size, .initialized RX1, .code yX1_size cX1_size 1 (some .int), .fieldLink RX1 15 "SeedChainer$LetterRow" "size" "I"] ++ wsX00 ++ wsX30 ++ wsX10)
def wsX1_init : List Cond := .code yX1_init cX1_init 1 none :: ([.methodLink RX1 3 objectInit, .instanceMethod objectInit, .code objectInit ⟨#[0xb1]⟩ 1 none, .arrayClass .int, .fieldLink RX1 9 "SeedChainer$LetterRow" "letters" "[I", .fieldLink RX1 15 "SeedChainer$LetterRow" "size" "I"] ++ wsX10)
def wsX1_isFull : List Cond := .code yX1_isFull cX1_isFull 1 (some .boolean) :: ([.fieldLink RX1 15 "SeedChainer$LetterRow" "size" "I"] ++ wsX10)
def wsX1_append : List Cond := .code yX1_append cX1_append 2 none :: ([.fieldLink RX1 9 "SeedChainer$LetterRow" "letters" "[I", .fieldLink RX1 15 "SeedChainer$LetterRow" "size" "I", .methodLink RX1 19 yX1_isFull, .instanceMethod yX1_isFull, .selects RX1 yX1_isFull yX1_isFull, .initialized RX1, .code yX1_isFull cX1_isFull 1 (some .boolean)] ++ wsX10)
def wsX1_dropLast : List Cond := .code yX1_dropLast cX1_dropLast 1 (some .int) :: ([.fieldLink RX1 15 "SeedChainer$LetterRow" "size" "I", .fieldLink RX1 9 "SeedChainer$LetterRow" "letters" "[I"] ++ wsX10)
def wsX1_at : List Cond := .code yX1_at cX1_at 2 (some .int) :: ([.fieldLink RX1 15 "SeedChainer$LetterRow" "size" "I", .fieldLink RX1 9 "SeedChainer$LetterRow" "letters" "[I"] ++ wsX10)
def wsX2_init : List Cond := .code yX2_init cX2_init 1 none :: ([.methodLink RX2 3 objectInit, .instanceMethod objectInit, .code objectInit ⟨#[0xb1]⟩ 1 none, .fieldLink RX2 9 "SeedChainer$Reaching" "gain" "I", .fieldLink RX2 15 "SeedChainer$Reaching" "loss" "I", .fieldLink RX2 18 "SeedChainer$Reaching" "gap" "I", .fieldLink RX2 21 "SeedChainer$Reaching" "limit" "I", .arrayClass .int, .fieldLink RX2 24 "SeedChainer$Reaching" "twoBefore" "[I", .fieldLink RX2 28 "SeedChainer$Reaching" "oneBefore" "[I", .fieldLink RX2 31 "SeedChainer$Reaching" "current" "[I", .fieldLink RX2 34 "SeedChainer$Reaching" "endScore" "I", .fieldLink RX2 37 "SeedChainer$Reaching" "endP" "I", .fieldLink RX2 40 "SeedChainer$Reaching" "endQ" "I", .fieldLink RX2 43 "SeedChainer$Reaching" "aliveCells" "I", .fieldLink RX2 46 "SeedChainer$Reaching" "lastSlope" "I"] ++ wsX20)
def wsX2_useScores : List Cond := .code yX2_useScores cX2_useScores 5 none :: ([.fieldLink RX2 9 "SeedChainer$Reaching" "gain" "I", .fieldLink RX2 15 "SeedChainer$Reaching" "loss" "I", .fieldLink RX2 18 "SeedChainer$Reaching" "gap" "I", .fieldLink RX2 21 "SeedChainer$Reaching" "limit" "I"] ++ wsX20)
def wsX3_init : List Cond := .code yX3_init cX3_init 3 none :: ([.methodLink RX3 3 objectInit, .instanceMethod objectInit, .code objectInit ⟨#[0xb1]⟩ 1 none, .fieldLink RX3 9 "SeedChainer$Seeds" "length" "I", .fieldLink RX3 15 "SeedChainer$Seeds" "first" "LSeedChainer$LetterRow;", .fieldLink RX3 19 "SeedChainer$Seeds" "second" "LSeedChainer$LetterRow;"] ++ wsX30)
def wsX3_useLength : List Cond := .code yX3_useLength cX3_useLength 2 none :: ([.fieldLink RX3 9 "SeedChainer$Seeds" "length" "I"] ++ wsX30)
def wsX3_isSeed : List Cond := .code yX3_isSeed cX3_isSeed 4 (some .boolean) :: ([.fieldLink RX3 9 "SeedChainer$Seeds" "length" "I", .fieldLink RX3 15 "SeedChainer$Seeds" "first" "LSeedChainer$LetterRow;", .fieldLink RX3 19 "SeedChainer$Seeds" "second" "LSeedChainer$LetterRow;", .methodLink RX3 22 yX1_size, .instanceMethod yX1_size, .selects RX1 yX1_size yX1_size, .initialized RX1, .code yX1_size cX1_size 1 (some .int), .fieldLink RX1 15 "SeedChainer$LetterRow" "size" "I", .methodLink RX3 28 yX1_at, .instanceMethod yX1_at, .selects RX1 yX1_at yX1_at, .code yX1_at cX1_at 2 (some .int), .fieldLink RX1 9 "SeedChainer$LetterRow" "letters" "[I"] ++ wsX30 ++ wsX10)
def wsX3_count : List Cond := .code yX3_count cX3_count 4 (some .int) :: ([.fieldLink RX3 15 "SeedChainer$Seeds" "first" "LSeedChainer$LetterRow;", .fieldLink RX3 19 "SeedChainer$Seeds" "second" "LSeedChainer$LetterRow;", .methodLink RX3 22 yX1_size, .instanceMethod yX1_size, .selects RX1 yX1_size yX1_size, .initialized RX1, .code yX1_size cX1_size 1 (some .int), .fieldLink RX1 15 "SeedChainer$LetterRow" "size" "I", .methodLink RX3 32 yX3_isSeed, .instanceMethod yX3_isSeed, .selects RX3 yX3_isSeed yX3_isSeed, .initialized RX3, .code yX3_isSeed cX3_isSeed 4 (some .boolean), .fieldLink RX3 9 "SeedChainer$Seeds" "length" "I", .methodLink RX3 28 yX1_at, .instanceMethod yX1_at, .selects RX1 yX1_at yX1_at, .code yX1_at cX1_at 2 (some .int), .fieldLink RX1 9 "SeedChainer$LetterRow" "letters" "[I"] ++ wsX30 ++ wsX10)
def wsX4_pairOf : List Cond := .code yX4_pairOf cX4_pairOf 2 (some .int) :: ([])
def wsX3_pairAt : List Cond := .code yX3_pairAt cX3_pairAt 5 (some .int) :: ([.fieldLink RX3 15 "SeedChainer$Seeds" "first" "LSeedChainer$LetterRow;", .fieldLink RX3 19 "SeedChainer$Seeds" "second" "LSeedChainer$LetterRow;", .methodLink RX3 22 yX1_size, .instanceMethod yX1_size, .selects RX1 yX1_size yX1_size, .initialized RX1, .code yX1_size cX1_size 1 (some .int), .fieldLink RX1 15 "SeedChainer$LetterRow" "size" "I", .methodLink RX3 32 yX3_isSeed, .instanceMethod yX3_isSeed, .selects RX3 yX3_isSeed yX3_isSeed, .initialized RX3, .code yX3_isSeed cX3_isSeed 4 (some .boolean), .fieldLink RX3 9 "SeedChainer$Seeds" "length" "I", .methodLink RX3 28 yX1_at, .instanceMethod yX1_at, .selects RX1 yX1_at yX1_at, .code yX1_at cX1_at 2 (some .int), .fieldLink RX1 9 "SeedChainer$LetterRow" "letters" "[I", .static yX4_pairOf, .initialized RX4, .code yX4_pairOf cX4_pairOf 2 (some .int)] ++ wsX30 ++ wsX10)
def wsX4_init_r1 : List Cond := [Cond.methodLink RX4 1 objectInit, Cond.instanceMethod objectInit, Cond.code objectInit ⟨#[0xb1]⟩ 1 none, Cond.classLink RX4 7 RX1, Cond.instantiable RX1 2, Cond.initialized RX1, Cond.fieldLink RX4 10 "SeedChainer" "row0" "LSeedChainer$LetterRow;", Cond.fieldLink RX4 16 "SeedChainer" "row1" "LSeedChainer$LetterRow;", Cond.classLink RX4 19 RX3, Cond.instantiable RX3 3, Cond.initialized RX3, Cond.fieldLink RX4 24 "SeedChainer" "seedPairs" "LSeedChainer$Seeds;", Cond.classLink RX4 28 RX0, Cond.instantiable RX0 4, Cond.initialized RX0, Cond.fieldLink RX4 31 "SeedChainer" "best" "LSeedChainer$BestChain;", Cond.classLink RX4 35 RX2, Cond.instantiable RX2 12, Cond.initialized RX2, Cond.fieldLink RX4 38 "SeedChainer" "reaching" "LSeedChainer$Reaching;", Cond.fieldLink RX4 42 "SeedChainer" "gapPenalty" "I", Cond.fieldLink RX4 46 "SeedChainer" "bestIsFresh" "Z", Cond.instanceMethod yX1_init, Cond.code yX1_init cX1_init 1 none]
def wsX4_init_r2 : List Cond := [Cond.methodLink RX1 3 objectInit, Cond.arrayClass .int, Cond.fieldLink RX1 9 "SeedChainer$LetterRow" "letters" "[I", Cond.fieldLink RX1 15 "SeedChainer$LetterRow" "size" "I", Cond.methodLink RX4 21 yX3_init, Cond.instanceMethod yX3_init, Cond.code yX3_init cX3_init 3 none, Cond.methodLink RX3 3 objectInit, Cond.fieldLink RX3 9 "SeedChainer$Seeds" "length" "I", Cond.fieldLink RX3 15 "SeedChainer$Seeds" "first" "LSeedChainer$LetterRow;", Cond.fieldLink RX3 19 "SeedChainer$Seeds" "second" "LSeedChainer$LetterRow;", Cond.instanceMethod yX0_init, Cond.code yX0_init cX0_init 1 none, Cond.methodLink RX0 3 objectInit, Cond.fieldLink RX0 11 "SeedChainer$BestChain" "ahead" "[I", Cond.fieldLink RX0 15 "SeedChainer$BestChain" "pairs" "[I", Cond.fieldLink RX0 18 "SeedChainer$BestChain" "size" "I", Cond.fieldLink RX0 22 "SeedChainer$BestChain" "total" "I", Cond.instanceMethod yX2_init, Cond.code yX2_init cX2_init 1 none, Cond.methodLink RX2 3 objectInit, Cond.fieldLink RX2 9 "SeedChainer$Reaching" "gain" "I", Cond.fieldLink RX2 15 "SeedChainer$Reaching" "loss" "I", Cond.fieldLink RX2 18 "SeedChainer$Reaching" "gap" "I"]
def wsX4_init_r3 : List Cond := [Cond.fieldLink RX2 21 "SeedChainer$Reaching" "limit" "I", Cond.fieldLink RX2 24 "SeedChainer$Reaching" "twoBefore" "[I", Cond.fieldLink RX2 28 "SeedChainer$Reaching" "oneBefore" "[I", Cond.fieldLink RX2 31 "SeedChainer$Reaching" "current" "[I", Cond.fieldLink RX2 34 "SeedChainer$Reaching" "endScore" "I", Cond.fieldLink RX2 37 "SeedChainer$Reaching" "endP" "I", Cond.fieldLink RX2 40 "SeedChainer$Reaching" "endQ" "I", Cond.fieldLink RX2 43 "SeedChainer$Reaching" "aliveCells" "I", Cond.fieldLink RX2 46 "SeedChainer$Reaching" "lastSlope" "I"]
def wsX4_init : List Cond := .code yX4_init cX4_init 1 none :: ((wsX4_init_r1 ++ (wsX4_init_r2 ++ wsX4_init_r3)) ++ wsX10 ++ wsX40 ++ wsX30 ++ wsX00 ++ wsX20)
def wsX4_rowOf : List Cond := .code yX4_rowOf cX4_rowOf 2 (some (.object "SeedChainer$LetterRow")) :: ([.fieldLink RX4 10 "SeedChainer" "row0" "LSeedChainer$LetterRow;", .fieldLink RX4 16 "SeedChainer" "row1" "LSeedChainer$LetterRow;"] ++ wsX40)
def wsX4_isBetween : List Cond := .code yX4_isBetween cX4_isBetween 3 (some .boolean) :: ([])
def wsX4_put_r1 : List Cond := [Cond.fieldLink RX4 46 "SeedChainer" "bestIsFresh" "Z", Cond.methodLink RX4 50 yX4_rowOf, Cond.instanceMethod yX4_rowOf, Cond.selects RX4 yX4_rowOf yX4_rowOf, Cond.initialized RX4, Cond.code yX4_rowOf cX4_rowOf 2 (some (.object "SeedChainer$LetterRow")), Cond.fieldLink RX4 10 "SeedChainer" "row0" "LSeedChainer$LetterRow;", Cond.fieldLink RX4 16 "SeedChainer" "row1" "LSeedChainer$LetterRow;", Cond.methodLink RX4 54 yX4_isBetween, Cond.static yX4_isBetween, Cond.code yX4_isBetween cX4_isBetween 3 (some .boolean), Cond.methodLink RX4 58 yX1_isFull, Cond.instanceMethod yX1_isFull, Cond.selects RX1 yX1_isFull yX1_isFull, Cond.initialized RX1, Cond.code yX1_isFull cX1_isFull 1 (some .boolean), Cond.fieldLink RX1 15 "SeedChainer$LetterRow" "size" "I", Cond.methodLink RX4 62 yX1_append, Cond.instanceMethod yX1_append, Cond.selects RX1 yX1_append yX1_append, Cond.code yX1_append cX1_append 2 none, Cond.fieldLink RX1 9 "SeedChainer$LetterRow" "letters" "[I", Cond.methodLink RX1 19 yX1_isFull, Cond.methodLink RX4 66 yX1_size]
def wsX4_put_r2 : List Cond := [Cond.instanceMethod yX1_size, Cond.selects RX1 yX1_size yX1_size, Cond.code yX1_size cX1_size 1 (some .int)]
def wsX4_put : List Cond := .code yX4_put cX4_put 4 (some .int) :: ((wsX4_put_r1 ++ wsX4_put_r2) ++ wsX40 ++ wsX10)
def wsX4_cut : List Cond := .code yX4_cut cX4_cut 3 (some .int) :: ([.fieldLink RX4 46 "SeedChainer" "bestIsFresh" "Z", .methodLink RX4 50 yX4_rowOf, .instanceMethod yX4_rowOf, .selects RX4 yX4_rowOf yX4_rowOf, .initialized RX4, .code yX4_rowOf cX4_rowOf 2 (some (.object "SeedChainer$LetterRow")), .fieldLink RX4 10 "SeedChainer" "row0" "LSeedChainer$LetterRow;", .fieldLink RX4 16 "SeedChainer" "row1" "LSeedChainer$LetterRow;", .methodLink RX4 66 yX1_size, .instanceMethod yX1_size, .selects RX1 yX1_size yX1_size, .initialized RX1, .code yX1_size cX1_size 1 (some .int), .fieldLink RX1 15 "SeedChainer$LetterRow" "size" "I", .methodLink RX4 70 yX1_dropLast, .instanceMethod yX1_dropLast, .selects RX1 yX1_dropLast yX1_dropLast, .code yX1_dropLast cX1_dropLast 1 (some .int), .fieldLink RX1 9 "SeedChainer$LetterRow" "letters" "[I"] ++ wsX40 ++ wsX10)
def wsX4_letter : List Cond := .code yX4_letter cX4_letter 4 (some .int) :: ([.methodLink RX4 50 yX4_rowOf, .instanceMethod yX4_rowOf, .selects RX4 yX4_rowOf yX4_rowOf, .initialized RX4, .code yX4_rowOf cX4_rowOf 2 (some (.object "SeedChainer$LetterRow")), .fieldLink RX4 10 "SeedChainer" "row0" "LSeedChainer$LetterRow;", .fieldLink RX4 16 "SeedChainer" "row1" "LSeedChainer$LetterRow;", .methodLink RX4 73 yX1_at, .instanceMethod yX1_at, .selects RX1 yX1_at yX1_at, .initialized RX1, .code yX1_at cX1_at 2 (some .int), .fieldLink RX1 15 "SeedChainer$LetterRow" "size" "I", .fieldLink RX1 9 "SeedChainer$LetterRow" "letters" "[I"] ++ wsX40 ++ wsX10)
def wsX4_seeds : List Cond := .code yX4_seeds cX4_seeds 2 (some .boolean) :: ([.fieldLink RX4 46 "SeedChainer" "bestIsFresh" "Z", .fieldLink RX4 24 "SeedChainer" "seedPairs" "LSeedChainer$Seeds;", .methodLink RX4 54 yX4_isBetween, .static yX4_isBetween, .initialized RX4, .code yX4_isBetween cX4_isBetween 3 (some .boolean), .methodLink RX4 77 yX3_useLength, .instanceMethod yX3_useLength, .selects RX3 yX3_useLength yX3_useLength, .initialized RX3, .code yX3_useLength cX3_useLength 2 none, .fieldLink RX3 9 "SeedChainer$Seeds" "length" "I"] ++ wsX40 ++ wsX30)
def wsX4_penalty : List Cond := .code yX4_penalty cX4_penalty 2 (some .boolean) :: ([.fieldLink RX4 46 "SeedChainer" "bestIsFresh" "Z", .fieldLink RX4 42 "SeedChainer" "gapPenalty" "I", .methodLink RX4 54 yX4_isBetween, .static yX4_isBetween, .initialized RX4, .code yX4_isBetween cX4_isBetween 3 (some .boolean)] ++ wsX40)
def wsX4_scores : List Cond := .code yX4_scores cX4_scores 5 (some .boolean) :: ([.fieldLink RX4 38 "SeedChainer" "reaching" "LSeedChainer$Reaching;", .methodLink RX4 54 yX4_isBetween, .static yX4_isBetween, .initialized RX4, .code yX4_isBetween cX4_isBetween 3 (some .boolean), .methodLink RX4 80 yX2_useScores, .instanceMethod yX2_useScores, .selects RX2 yX2_useScores yX2_useScores, .initialized RX2, .code yX2_useScores cX2_useScores 5 none, .fieldLink RX2 9 "SeedChainer$Reaching" "gain" "I", .fieldLink RX2 15 "SeedChainer$Reaching" "loss" "I", .fieldLink RX2 18 "SeedChainer$Reaching" "gap" "I", .fieldLink RX2 21 "SeedChainer$Reaching" "limit" "I"] ++ wsX40 ++ wsX20)
def wsX4_anchors : List Cond := .code yX4_anchors cX4_anchors 1 (some .int) :: ([.fieldLink RX4 24 "SeedChainer" "seedPairs" "LSeedChainer$Seeds;", .methodLink RX4 84 yX3_count, .instanceMethod yX3_count, .selects RX3 yX3_count yX3_count, .initialized RX3, .code yX3_count cX3_count 4 (some .int), .fieldLink RX3 15 "SeedChainer$Seeds" "first" "LSeedChainer$LetterRow;", .fieldLink RX3 19 "SeedChainer$Seeds" "second" "LSeedChainer$LetterRow;", .methodLink RX3 22 yX1_size, .instanceMethod yX1_size, .selects RX1 yX1_size yX1_size, .initialized RX1, .code yX1_size cX1_size 1 (some .int), .fieldLink RX1 15 "SeedChainer$LetterRow" "size" "I", .methodLink RX3 32 yX3_isSeed, .instanceMethod yX3_isSeed, .selects RX3 yX3_isSeed yX3_isSeed, .code yX3_isSeed cX3_isSeed 4 (some .boolean), .fieldLink RX3 9 "SeedChainer$Seeds" "length" "I", .methodLink RX3 28 yX1_at, .instanceMethod yX1_at, .selects RX1 yX1_at yX1_at, .code yX1_at cX1_at 2 (some .int), .fieldLink RX1 9 "SeedChainer$LetterRow" "letters" "[I"] ++ wsX40 ++ wsX30 ++ wsX10)
def wsX4_placeOf : List Cond := .code yX4_placeOf cX4_placeOf 2 (some .int) :: ([.methodLink RX4 54 yX4_isBetween, .static yX4_isBetween, .initialized RX4, .code yX4_isBetween cX4_isBetween 3 (some .boolean)])
def wsX4_anchor_r1 : List Cond := [Cond.fieldLink RX4 24 "SeedChainer" "seedPairs" "LSeedChainer$Seeds;", Cond.methodLink RX4 87 yX3_pairAt, Cond.instanceMethod yX3_pairAt, Cond.selects RX3 yX3_pairAt yX3_pairAt, Cond.initialized RX3, Cond.code yX3_pairAt cX3_pairAt 5 (some .int), Cond.fieldLink RX3 15 "SeedChainer$Seeds" "first" "LSeedChainer$LetterRow;", Cond.fieldLink RX3 19 "SeedChainer$Seeds" "second" "LSeedChainer$LetterRow;", Cond.methodLink RX3 22 yX1_size, Cond.instanceMethod yX1_size, Cond.selects RX1 yX1_size yX1_size, Cond.initialized RX1, Cond.code yX1_size cX1_size 1 (some .int), Cond.fieldLink RX1 15 "SeedChainer$LetterRow" "size" "I", Cond.methodLink RX3 32 yX3_isSeed, Cond.instanceMethod yX3_isSeed, Cond.selects RX3 yX3_isSeed yX3_isSeed, Cond.code yX3_isSeed cX3_isSeed 4 (some .boolean), Cond.fieldLink RX3 9 "SeedChainer$Seeds" "length" "I", Cond.methodLink RX3 28 yX1_at, Cond.instanceMethod yX1_at, Cond.selects RX1 yX1_at yX1_at, Cond.code yX1_at cX1_at 2 (some .int), Cond.fieldLink RX1 9 "SeedChainer$LetterRow" "letters" "[I"]
def wsX4_anchor_r2 : List Cond := [Cond.static yX4_pairOf, Cond.initialized RX4, Cond.code yX4_pairOf cX4_pairOf 2 (some .int), Cond.methodLink RX4 90 yX4_placeOf, Cond.static yX4_placeOf, Cond.code yX4_placeOf cX4_placeOf 2 (some .int), Cond.methodLink RX4 54 yX4_isBetween, Cond.static yX4_isBetween, Cond.code yX4_isBetween cX4_isBetween 3 (some .boolean)]
def wsX4_anchor : List Cond := .code yX4_anchor cX4_anchor 3 (some .int) :: ((wsX4_anchor_r1 ++ wsX4_anchor_r2) ++ wsX40 ++ wsX30 ++ wsX10)
def wsX4_freshBest_r1 : List Cond := [Cond.fieldLink RX4 46 "SeedChainer" "bestIsFresh" "Z", Cond.fieldLink RX4 31 "SeedChainer" "best" "LSeedChainer$BestChain;", Cond.fieldLink RX4 24 "SeedChainer" "seedPairs" "LSeedChainer$Seeds;", Cond.fieldLink RX4 42 "SeedChainer" "gapPenalty" "I", Cond.methodLink RX4 113 yX0_find, Cond.instanceMethod yX0_find, Cond.selects RX0 yX0_find yX0_find, Cond.initialized RX0, Cond.code yX0_find cX0_find 6 none, Cond.fieldLink RX0 18 "SeedChainer$BestChain" "size" "I", Cond.fieldLink RX0 22 "SeedChainer$BestChain" "total" "I", Cond.fieldLink RX0 15 "SeedChainer$BestChain" "pairs" "[I", Cond.methodLink RX0 25 yX0_lookAhead, Cond.instanceMethod yX0_lookAhead, Cond.selects RX0 yX0_lookAhead yX0_lookAhead, Cond.code yX0_lookAhead cX0_lookAhead 5 none, Cond.fieldLink RX0 11 "SeedChainer$BestChain" "ahead" "[I", Cond.methodLink RX0 51 yX3_firstSize, Cond.instanceMethod yX3_firstSize, Cond.selects RX3 yX3_firstSize yX3_firstSize, Cond.initialized RX3, Cond.code yX3_firstSize cX3_firstSize 1 (some .int), Cond.fieldLink RX3 15 "SeedChainer$Seeds" "first" "LSeedChainer$LetterRow;", Cond.methodLink RX3 22 yX1_size]
def wsX4_freshBest_r2 : List Cond := [Cond.instanceMethod yX1_size, Cond.selects RX1 yX1_size yX1_size, Cond.initialized RX1, Cond.code yX1_size cX1_size 1 (some .int), Cond.fieldLink RX1 15 "SeedChainer$LetterRow" "size" "I"]
def wsX4_freshBest : List Cond := .code yX4_freshBest cX4_freshBest 1 (some (.object "SeedChainer$BestChain")) :: ((wsX4_freshBest_r1 ++ wsX4_freshBest_r2) ++ wsX40 ++ wsX00 ++ wsX30 ++ wsX10)
def wsX4_chain_r1 : List Cond := [Cond.methodLink RX4 94 yX4_freshBest, Cond.instanceMethod yX4_freshBest, Cond.selects RX4 yX4_freshBest yX4_freshBest, Cond.initialized RX4, Cond.code yX4_freshBest cX4_freshBest 1 (some (.object "SeedChainer$BestChain")), Cond.fieldLink RX4 46 "SeedChainer" "bestIsFresh" "Z", Cond.fieldLink RX4 31 "SeedChainer" "best" "LSeedChainer$BestChain;", Cond.fieldLink RX4 24 "SeedChainer" "seedPairs" "LSeedChainer$Seeds;", Cond.fieldLink RX4 42 "SeedChainer" "gapPenalty" "I", Cond.methodLink RX4 113 yX0_find, Cond.instanceMethod yX0_find, Cond.selects RX0 yX0_find yX0_find, Cond.initialized RX0, Cond.code yX0_find cX0_find 6 none, Cond.fieldLink RX0 18 "SeedChainer$BestChain" "size" "I", Cond.fieldLink RX0 22 "SeedChainer$BestChain" "total" "I", Cond.fieldLink RX0 15 "SeedChainer$BestChain" "pairs" "[I", Cond.methodLink RX0 25 yX0_lookAhead, Cond.instanceMethod yX0_lookAhead, Cond.selects RX0 yX0_lookAhead yX0_lookAhead, Cond.code yX0_lookAhead cX0_lookAhead 5 none, Cond.fieldLink RX0 11 "SeedChainer$BestChain" "ahead" "[I", Cond.methodLink RX0 51 yX3_firstSize, Cond.instanceMethod yX3_firstSize]
def wsX4_chain_r2 : List Cond := [Cond.selects RX3 yX3_firstSize yX3_firstSize, Cond.initialized RX3, Cond.code yX3_firstSize cX3_firstSize 1 (some .int), Cond.fieldLink RX3 15 "SeedChainer$Seeds" "first" "LSeedChainer$LetterRow;", Cond.methodLink RX3 22 yX1_size, Cond.instanceMethod yX1_size, Cond.selects RX1 yX1_size yX1_size, Cond.initialized RX1, Cond.code yX1_size cX1_size 1 (some .int), Cond.fieldLink RX1 15 "SeedChainer$LetterRow" "size" "I"]
def wsX4_chain : List Cond := .code yX4_chain cX4_chain 1 (some .int) :: ((wsX4_chain_r1 ++ wsX4_chain_r2) ++ wsX40 ++ wsX00 ++ wsX30 ++ wsX10)
def wsL_law_r1 : List Cond := [Cond.classLink RL 7 RX4, Cond.instantiable RX4 7, Cond.initialized RX4, Cond.methodLink RL 9 yX4_init, Cond.instanceMethod yX4_init, Cond.code yX4_init cX4_init 1 none, Cond.methodLink RX4 1 objectInit, Cond.instanceMethod objectInit, Cond.code objectInit ⟨#[0xb1]⟩ 1 none, Cond.classLink RX4 7 RX1, Cond.instantiable RX1 2, Cond.initialized RX1, Cond.fieldLink RX4 10 "SeedChainer" "row0" "LSeedChainer$LetterRow;", Cond.fieldLink RX4 16 "SeedChainer" "row1" "LSeedChainer$LetterRow;", Cond.classLink RX4 19 RX3, Cond.instantiable RX3 3, Cond.initialized RX3, Cond.fieldLink RX4 24 "SeedChainer" "seedPairs" "LSeedChainer$Seeds;", Cond.classLink RX4 28 RX0, Cond.instantiable RX0 4, Cond.initialized RX0, Cond.fieldLink RX4 31 "SeedChainer" "best" "LSeedChainer$BestChain;", Cond.classLink RX4 35 RX2, Cond.instantiable RX2 12]
def wsL_law_r2 : List Cond := [Cond.initialized RX2, Cond.fieldLink RX4 38 "SeedChainer" "reaching" "LSeedChainer$Reaching;", Cond.fieldLink RX4 42 "SeedChainer" "gapPenalty" "I", Cond.fieldLink RX4 46 "SeedChainer" "bestIsFresh" "Z", Cond.instanceMethod yX1_init, Cond.code yX1_init cX1_init 1 none, Cond.methodLink RX1 3 objectInit, Cond.arrayClass .int, Cond.fieldLink RX1 9 "SeedChainer$LetterRow" "letters" "[I", Cond.fieldLink RX1 15 "SeedChainer$LetterRow" "size" "I", Cond.methodLink RX4 21 yX3_init, Cond.instanceMethod yX3_init, Cond.code yX3_init cX3_init 3 none, Cond.methodLink RX3 3 objectInit, Cond.fieldLink RX3 9 "SeedChainer$Seeds" "length" "I", Cond.fieldLink RX3 15 "SeedChainer$Seeds" "first" "LSeedChainer$LetterRow;", Cond.fieldLink RX3 19 "SeedChainer$Seeds" "second" "LSeedChainer$LetterRow;", Cond.instanceMethod yX0_init, Cond.code yX0_init cX0_init 1 none, Cond.methodLink RX0 3 objectInit, Cond.fieldLink RX0 11 "SeedChainer$BestChain" "ahead" "[I", Cond.fieldLink RX0 15 "SeedChainer$BestChain" "pairs" "[I", Cond.fieldLink RX0 18 "SeedChainer$BestChain" "size" "I", Cond.fieldLink RX0 22 "SeedChainer$BestChain" "total" "I"]
def wsL_law_r3 : List Cond := [Cond.instanceMethod yX2_init, Cond.code yX2_init cX2_init 1 none, Cond.methodLink RX2 3 objectInit, Cond.fieldLink RX2 9 "SeedChainer$Reaching" "gain" "I", Cond.fieldLink RX2 15 "SeedChainer$Reaching" "loss" "I", Cond.fieldLink RX2 18 "SeedChainer$Reaching" "gap" "I", Cond.fieldLink RX2 21 "SeedChainer$Reaching" "limit" "I", Cond.fieldLink RX2 24 "SeedChainer$Reaching" "twoBefore" "[I", Cond.fieldLink RX2 28 "SeedChainer$Reaching" "oneBefore" "[I", Cond.fieldLink RX2 31 "SeedChainer$Reaching" "current" "[I", Cond.fieldLink RX2 34 "SeedChainer$Reaching" "endScore" "I", Cond.fieldLink RX2 37 "SeedChainer$Reaching" "endP" "I", Cond.fieldLink RX2 40 "SeedChainer$Reaching" "endQ" "I", Cond.fieldLink RX2 43 "SeedChainer$Reaching" "aliveCells" "I", Cond.fieldLink RX2 46 "SeedChainer$Reaching" "lastSlope" "I", Cond.methodLink RL 13 yX4_put, Cond.instanceMethod yX4_put, Cond.selects RX4 yX4_put yX4_put, Cond.code yX4_put cX4_put 4 (some .int), Cond.methodLink RX4 50 yX4_rowOf, Cond.instanceMethod yX4_rowOf, Cond.selects RX4 yX4_rowOf yX4_rowOf, Cond.code yX4_rowOf cX4_rowOf 2 (some (.object "SeedChainer$LetterRow")), Cond.methodLink RX4 54 yX4_isBetween]
def wsL_law_r4 : List Cond := [Cond.static yX4_isBetween, Cond.code yX4_isBetween cX4_isBetween 3 (some .boolean), Cond.methodLink RX4 58 yX1_isFull, Cond.instanceMethod yX1_isFull, Cond.selects RX1 yX1_isFull yX1_isFull, Cond.code yX1_isFull cX1_isFull 1 (some .boolean), Cond.methodLink RX4 62 yX1_append, Cond.instanceMethod yX1_append, Cond.selects RX1 yX1_append yX1_append, Cond.code yX1_append cX1_append 2 none, Cond.methodLink RX1 19 yX1_isFull, Cond.methodLink RX4 66 yX1_size, Cond.instanceMethod yX1_size, Cond.selects RX1 yX1_size yX1_size, Cond.code yX1_size cX1_size 1 (some .int), Cond.methodLink RL 18 yX4_cut, Cond.instanceMethod yX4_cut, Cond.selects RX4 yX4_cut yX4_cut, Cond.code yX4_cut cX4_cut 3 (some .int), Cond.methodLink RX4 70 yX1_dropLast, Cond.instanceMethod yX1_dropLast, Cond.selects RX1 yX1_dropLast yX1_dropLast, Cond.code yX1_dropLast cX1_dropLast 1 (some .int), Cond.methodLink RL 23 yX4_letter]
def wsL_law_r5 : List Cond := [Cond.instanceMethod yX4_letter, Cond.selects RX4 yX4_letter yX4_letter, Cond.code yX4_letter cX4_letter 4 (some .int), Cond.methodLink RX4 73 yX1_at, Cond.instanceMethod yX1_at, Cond.selects RX1 yX1_at yX1_at, Cond.code yX1_at cX1_at 2 (some .int), Cond.methodLink RL 27 yX4_seeds, Cond.instanceMethod yX4_seeds, Cond.selects RX4 yX4_seeds yX4_seeds, Cond.code yX4_seeds cX4_seeds 2 (some .boolean), Cond.methodLink RX4 77 yX3_useLength, Cond.instanceMethod yX3_useLength, Cond.selects RX3 yX3_useLength yX3_useLength, Cond.code yX3_useLength cX3_useLength 2 none, Cond.methodLink RL 32 yX4_penalty, Cond.instanceMethod yX4_penalty, Cond.selects RX4 yX4_penalty yX4_penalty, Cond.code yX4_penalty cX4_penalty 2 (some .boolean), Cond.methodLink RL 36 yX4_scores, Cond.instanceMethod yX4_scores, Cond.selects RX4 yX4_scores yX4_scores, Cond.code yX4_scores cX4_scores 5 (some .boolean), Cond.methodLink RX4 80 yX2_useScores]
def wsL_law_r6 : List Cond := [Cond.instanceMethod yX2_useScores, Cond.selects RX2 yX2_useScores yX2_useScores, Cond.code yX2_useScores cX2_useScores 5 none, Cond.methodLink RL 41 yX4_anchors, Cond.instanceMethod yX4_anchors, Cond.selects RX4 yX4_anchors yX4_anchors, Cond.code yX4_anchors cX4_anchors 1 (some .int), Cond.methodLink RX4 84 yX3_count, Cond.instanceMethod yX3_count, Cond.selects RX3 yX3_count yX3_count, Cond.code yX3_count cX3_count 4 (some .int), Cond.methodLink RX3 22 yX1_size, Cond.methodLink RX3 32 yX3_isSeed, Cond.instanceMethod yX3_isSeed, Cond.selects RX3 yX3_isSeed yX3_isSeed, Cond.code yX3_isSeed cX3_isSeed 4 (some .boolean), Cond.methodLink RX3 28 yX1_at, Cond.methodLink RL 46 yX4_anchor, Cond.instanceMethod yX4_anchor, Cond.selects RX4 yX4_anchor yX4_anchor, Cond.code yX4_anchor cX4_anchor 3 (some .int), Cond.methodLink RX4 87 yX3_pairAt, Cond.instanceMethod yX3_pairAt, Cond.selects RX3 yX3_pairAt yX3_pairAt]
def wsL_law_r7 : List Cond := [Cond.code yX3_pairAt cX3_pairAt 5 (some .int), Cond.static yX4_pairOf, Cond.code yX4_pairOf cX4_pairOf 2 (some .int), Cond.methodLink RX4 90 yX4_placeOf, Cond.static yX4_placeOf, Cond.code yX4_placeOf cX4_placeOf 2 (some .int), Cond.methodLink RL 50 yX4_chain, Cond.instanceMethod yX4_chain, Cond.selects RX4 yX4_chain yX4_chain, Cond.code yX4_chain cX4_chain 1 (some .int), Cond.methodLink RX4 94 yX4_freshBest, Cond.instanceMethod yX4_freshBest, Cond.selects RX4 yX4_freshBest yX4_freshBest, Cond.code yX4_freshBest cX4_freshBest 1 (some (.object "SeedChainer$BestChain")), Cond.methodLink RX4 113 yX0_find, Cond.instanceMethod yX0_find, Cond.selects RX0 yX0_find yX0_find, Cond.code yX0_find cX0_find 6 none, Cond.methodLink RX0 25 yX0_lookAhead, Cond.instanceMethod yX0_lookAhead, Cond.selects RX0 yX0_lookAhead yX0_lookAhead, Cond.code yX0_lookAhead cX0_lookAhead 5 none, Cond.methodLink RX0 51 yX3_firstSize, Cond.instanceMethod yX3_firstSize]
def wsL_law_r8 : List Cond := [Cond.selects RX3 yX3_firstSize yX3_firstSize, Cond.code yX3_firstSize cX3_firstSize 1 (some .int)]
def wsL_law : List Cond := (wsL_law_r1 ++ (wsL_law_r2 ++ (wsL_law_r3 ++ (wsL_law_r4 ++ (wsL_law_r5 ++ (wsL_law_r6 ++ (wsL_law_r7 ++ wsL_law_r8))))))) ++ wsX40 ++ wsX10 ++ wsX30 ++ wsX00 ++ wsX20 ++ ([] : List Cond)
set_option maxRecDepth 20000 in
theorem wsL_law_in : ∀ w ∈ wsL_law, w ∈ lw_tbl := fun w h => (goodIn_p wsL_law [16, 19, 24, 38, 54, 73, 137, 141, 144, 148, 152, 157, 161, 165, 169, 173, 177, 181, 185, 189, 193, 197, 201, 206, 211, 215, 218, 221, 225, 229, 233, 237, 241] (by decide +kernel) (by decide +kernel) w h).1
theorem inlX0 : ∀ w ∈ wsX00, w ∈ wsL_law := fun _ h => List.mem_append_left _ (List.mem_append_left _ (List.mem_append_right _ h))
theorem inX0 : ∀ w ∈ wsX00, w ∈ lw_tbl := fun w h => wsL_law_in w (inlX0 w h)
theorem inlX1 : ∀ w ∈ wsX10, w ∈ wsL_law := fun _ h => List.mem_append_left _ (List.mem_append_left _ (List.mem_append_left _ (List.mem_append_left _ (List.mem_append_right _ h))))
theorem inX1 : ∀ w ∈ wsX10, w ∈ lw_tbl := fun w h => wsL_law_in w (inlX1 w h)
theorem inlX2 : ∀ w ∈ wsX20, w ∈ wsL_law := fun _ h => List.mem_append_left _ (List.mem_append_right _ h)
theorem inX2 : ∀ w ∈ wsX20, w ∈ lw_tbl := fun w h => wsL_law_in w (inlX2 w h)
theorem inlX3 : ∀ w ∈ wsX30, w ∈ wsL_law := fun _ h => List.mem_append_left _ (List.mem_append_left _ (List.mem_append_left _ (List.mem_append_right _ h)))
theorem inX3 : ∀ w ∈ wsX30, w ∈ lw_tbl := fun w h => wsL_law_in w (inlX3 w h)
theorem inlX4 : ∀ w ∈ wsX40, w ∈ wsL_law := fun _ h => List.mem_append_left _ (List.mem_append_left _ (List.mem_append_left _ (List.mem_append_left _ (List.mem_append_left _ (List.mem_append_right _ h)))))
theorem inX4 : ∀ w ∈ wsX40, w ∈ lw_tbl := fun w h => wsL_law_in w (inlX4 w h)
theorem inX5 : ∀ w ∈ wsX50, w ∈ lw_tbl := by decide +kernel
theorem inJ9 : ∀ w ∈ wsJ90, w ∈ lw_tbl := by decide +kernel
theorem inJ7 : ∀ w ∈ wsJ70, w ∈ lw_tbl := by decide +kernel
theorem dX0_init_0 : decode cX0_init 0 = .ok (.aload_n 0, 1) := by decide +kernel
theorem dX0_init_1 : decode cX0_init 1 = .ok (.invokespecial 3, 3) := by decide +kernel
theorem dX0_init_4 : decode cX0_init 4 = .ok (.aload_n 0, 1) := by decide +kernel
theorem dX0_init_5 : decode cX0_init 5 = .ok (.sipush 2401, 3) := by decide +kernel
theorem dX0_init_8 : decode cX0_init 8 = .ok (.newarray .int, 2) := by decide +kernel
theorem dX0_init_10 : decode cX0_init 10 = .ok (.putfield 11, 3) := by decide +kernel
theorem dX0_init_13 : decode cX0_init 13 = .ok (.aload_n 0, 1) := by decide +kernel
theorem dX0_init_14 : decode cX0_init 14 = .ok (.bipush 48, 2) := by decide +kernel
theorem dX0_init_16 : decode cX0_init 16 = .ok (.newarray .int, 2) := by decide +kernel
theorem dX0_init_18 : decode cX0_init 18 = .ok (.putfield 15, 3) := by decide +kernel
theorem dX0_init_21 : decode cX0_init 21 = .ok (.aload_n 0, 1) := by decide +kernel
theorem dX0_init_22 : decode cX0_init 22 = .ok (.iconst 0, 1) := by decide +kernel
theorem dX0_init_23 : decode cX0_init 23 = .ok (.putfield 18, 3) := by decide +kernel
theorem dX0_init_26 : decode cX0_init 26 = .ok (.aload_n 0, 1) := by decide +kernel
theorem dX0_init_27 : decode cX0_init 27 = .ok (.iconst 0, 1) := by decide +kernel
theorem dX0_init_28 : decode cX0_init 28 = .ok (.putfield 22, 3) := by decide +kernel
theorem dX0_init_31 : decode cX0_init 31 = .ok (.return_, 1) := by decide +kernel
set_option maxRecDepth 20000 in
theorem ggX0_find_X0_lookAhead : GoodIn wsX0_find wsX0_lookAhead := goodIn_r _ [8, 9, 10, 11, 12, 13, 14, 15, 16, 17, 18, 19, 20, 21, 22, 23, 24, 25, 26, 27, 28, 29, 30] (by decide +kernel) (by decide +kernel)
set_option maxRecDepth 20000 in
theorem gX0_find_X0_lookAhead : GoodIn wsX0_find (wsV RX0 25 RX0 yX0_lookAhead wsX0_lookAhead) := goodIn_app (goodIn_of _ (by decide +kernel)) ggX0_find_X0_lookAhead
theorem dX0_find_0 : decode cX0_find 0 = .ok (.aload_n 0, 1) := by decide +kernel
theorem dX0_find_1 : decode cX0_find 1 = .ok (.aload_n 1, 1) := by decide +kernel
theorem dX0_find_2 : decode cX0_find 2 = .ok (.iload_n 2, 1) := by decide +kernel
theorem dX0_find_3 : decode cX0_find 3 = .ok (.invokevirtual 25, 3) := by decide +kernel
theorem dX0_find_6 : decode cX0_find 6 = .ok (.aload_n 0, 1) := by decide +kernel
theorem dX0_find_7 : decode cX0_find 7 = .ok (.iconst 0, 1) := by decide +kernel
theorem dX0_find_8 : decode cX0_find 8 = .ok (.putfield 18, 3) := by decide +kernel
theorem dX0_find_11 : decode cX0_find 11 = .ok (.aload_n 0, 1) := by decide +kernel
theorem dX0_find_12 : decode cX0_find 12 = .ok (.iconst 0, 1) := by decide +kernel
theorem dX0_find_13 : decode cX0_find 13 = .ok (.putfield 22, 3) := by decide +kernel
theorem dX0_find_16 : decode cX0_find 16 = .ok (.aload_n 0, 1) := by decide +kernel
theorem dX0_find_17 : decode cX0_find 17 = .ok (.aload_n 1, 1) := by decide +kernel
theorem dX0_find_18 : decode cX0_find 18 = .ok (.invokevirtual 29, 3) := by decide +kernel
theorem dX0_find_21 : decode cX0_find 21 = .ok (.istore_n 3, 1) := by decide +kernel
theorem dX0_find_22 : decode cX0_find 22 = .ok (.iload_n 3, 1) := by decide +kernel
theorem dX0_find_23 : decode cX0_find 23 = .ok (.iconst (-1), 1) := by decide +kernel
theorem dX0_find_24 : decode cX0_find 24 = .ok (.if_icmp .eq 22, 3) := by decide +kernel
theorem dX0_find_27 : decode cX0_find 27 = .ok (.aload_n 0, 1) := by decide +kernel
theorem dX0_find_28 : decode cX0_find 28 = .ok (.aload_n 0, 1) := by decide +kernel
theorem dX0_find_29 : decode cX0_find 29 = .ok (.aload_n 1, 1) := by decide +kernel
theorem dX0_find_30 : decode cX0_find 30 = .ok (.iload_n 3, 1) := by decide +kernel
theorem dX0_find_31 : decode cX0_find 31 = .ok (.iconst 0, 1) := by decide +kernel
theorem dX0_find_32 : decode cX0_find 32 = .ok (.invokestatic 33, 3) := by decide +kernel
theorem dX0_find_35 : decode cX0_find 35 = .ok (.iload_n 3, 1) := by decide +kernel
theorem dX0_find_36 : decode cX0_find 36 = .ok (.iconst 1, 1) := by decide +kernel
theorem dX0_find_37 : decode cX0_find 37 = .ok (.invokestatic 33, 3) := by decide +kernel
theorem dX0_find_40 : decode cX0_find 40 = .ok (.invokevirtual 37, 3) := by decide +kernel
theorem dX0_find_43 : decode cX0_find 43 = .ok (.putfield 22, 3) := by decide +kernel
theorem dX0_find_46 : decode cX0_find 46 = .ok (.iload_n 3, 1) := by decide +kernel
theorem dX0_find_47 : decode cX0_find 47 = .ok (.iconst (-1), 1) := by decide +kernel
theorem dX0_find_48 : decode cX0_find 48 = .ok (.if_icmp .eq 70, 3) := by decide +kernel
theorem dX0_find_51 : decode cX0_find 51 = .ok (.aload_n 0, 1) := by decide +kernel
theorem dX0_find_52 : decode cX0_find 52 = .ok (.getfield 18, 3) := by decide +kernel
theorem dX0_find_55 : decode cX0_find 55 = .ok (.bipush 48, 2) := by decide +kernel
theorem dX0_find_57 : decode cX0_find 57 = .ok (.if_icmp .ge 61, 3) := by decide +kernel
theorem dX0_find_60 : decode cX0_find 60 = .ok (.aload_n 0, 1) := by decide +kernel
theorem dX0_find_61 : decode cX0_find 61 = .ok (.getfield 15, 3) := by decide +kernel
theorem dX0_find_64 : decode cX0_find 64 = .ok (.aload_n 0, 1) := by decide +kernel
theorem dX0_find_65 : decode cX0_find 65 = .ok (.getfield 18, 3) := by decide +kernel
theorem dX0_find_68 : decode cX0_find 68 = .ok (.iload_n 3, 1) := by decide +kernel
theorem dX0_find_69 : decode cX0_find 69 = .ok (.iastore, 1) := by decide +kernel
theorem dX0_find_70 : decode cX0_find 70 = .ok (.aload_n 0, 1) := by decide +kernel
theorem dX0_find_71 : decode cX0_find 71 = .ok (.dup, 1) := by decide +kernel
theorem dX0_find_72 : decode cX0_find 72 = .ok (.getfield 18, 3) := by decide +kernel
theorem dX0_find_75 : decode cX0_find 75 = .ok (.iconst 1, 1) := by decide +kernel
theorem dX0_find_76 : decode cX0_find 76 = .ok (.iadd, 1) := by decide +kernel
theorem dX0_find_77 : decode cX0_find 77 = .ok (.putfield 18, 3) := by decide +kernel
theorem dX0_find_80 : decode cX0_find 80 = .ok (.iload_n 3, 1) := by decide +kernel
theorem dX0_find_81 : decode cX0_find 81 = .ok (.iconst 0, 1) := by decide +kernel
theorem dX0_find_82 : decode cX0_find 82 = .ok (.invokestatic 33, 3) := by decide +kernel
theorem dX0_find_85 : decode cX0_find 85 = .ok (.aload_n 1, 1) := by decide +kernel
theorem dX0_find_86 : decode cX0_find 86 = .ok (.invokevirtual 41, 3) := by decide +kernel
theorem dX0_find_89 : decode cX0_find 89 = .ok (.iadd, 1) := by decide +kernel
theorem dX0_find_90 : decode cX0_find 90 = .ok (.istore 4, 2) := by decide +kernel
theorem dX0_find_92 : decode cX0_find 92 = .ok (.iload_n 3, 1) := by decide +kernel
theorem dX0_find_93 : decode cX0_find 93 = .ok (.iconst 1, 1) := by decide +kernel
theorem dX0_find_94 : decode cX0_find 94 = .ok (.invokestatic 33, 3) := by decide +kernel
theorem dX0_find_97 : decode cX0_find 97 = .ok (.aload_n 1, 1) := by decide +kernel
theorem dX0_find_98 : decode cX0_find 98 = .ok (.invokevirtual 41, 3) := by decide +kernel
theorem dX0_find_101 : decode cX0_find 101 = .ok (.iadd, 1) := by decide +kernel
theorem dX0_find_102 : decode cX0_find 102 = .ok (.istore 5, 2) := by decide +kernel
theorem dX0_find_104 : decode cX0_find 104 = .ok (.aload_n 0, 1) := by decide +kernel
theorem dX0_find_105 : decode cX0_find 105 = .ok (.aload_n 1, 1) := by decide +kernel
theorem dX0_find_106 : decode cX0_find 106 = .ok (.iload_n 2, 1) := by decide +kernel
theorem dX0_find_107 : decode cX0_find 107 = .ok (.iload 4, 2) := by decide +kernel
theorem dX0_find_109 : decode cX0_find 109 = .ok (.iload 5, 2) := by decide +kernel
theorem dX0_find_111 : decode cX0_find 111 = .ok (.invokevirtual 47, 3) := by decide +kernel
theorem dX0_find_114 : decode cX0_find 114 = .ok (.istore_n 3, 1) := by decide +kernel
theorem dX0_find_115 : decode cX0_find 115 = .ok (.goto (-69), 3) := by decide +kernel
theorem dX0_find_118 : decode cX0_find 118 = .ok (.return_, 1) := by decide +kernel
set_option maxRecDepth 20000 in
theorem ggX0_lookAhead_X3_firstSize : GoodIn wsX0_lookAhead wsX3_firstSize := goodIn_r _ [6, 7, 8, 9, 10, 11, 12, 13, 18, 19, 20, 21, 22] (by decide +kernel) (by decide +kernel)
set_option maxRecDepth 20000 in
theorem gX0_lookAhead_X3_firstSize : GoodIn wsX0_lookAhead (wsV RX0 51 RX3 yX3_firstSize wsX3_firstSize) := goodIn_app (goodIn_of _ (by decide +kernel)) ggX0_lookAhead_X3_firstSize
theorem dX0_lookAhead_0 : decode cX0_lookAhead 0 = .ok (.aload_n 1, 1) := by decide +kernel
theorem dX0_lookAhead_1 : decode cX0_lookAhead 1 = .ok (.invokevirtual 51, 3) := by decide +kernel
theorem dX0_lookAhead_4 : decode cX0_lookAhead 4 = .ok (.istore_n 3, 1) := by decide +kernel
theorem dX0_lookAhead_5 : decode cX0_lookAhead 5 = .ok (.iload_n 3, 1) := by decide +kernel
theorem dX0_lookAhead_6 : decode cX0_lookAhead 6 = .ok (.ifCond .lt 47, 3) := by decide +kernel
theorem dX0_lookAhead_9 : decode cX0_lookAhead 9 = .ok (.aload_n 1, 1) := by decide +kernel
theorem dX0_lookAhead_10 : decode cX0_lookAhead 10 = .ok (.invokevirtual 54, 3) := by decide +kernel
theorem dX0_lookAhead_13 : decode cX0_lookAhead 13 = .ok (.istore 4, 2) := by decide +kernel
theorem dX0_lookAhead_15 : decode cX0_lookAhead 15 = .ok (.iload 4, 2) := by decide +kernel
theorem dX0_lookAhead_17 : decode cX0_lookAhead 17 = .ok (.ifCond .lt 30, 3) := by decide +kernel
theorem dX0_lookAhead_20 : decode cX0_lookAhead 20 = .ok (.aload_n 0, 1) := by decide +kernel
theorem dX0_lookAhead_21 : decode cX0_lookAhead 21 = .ok (.getfield 11, 3) := by decide +kernel
theorem dX0_lookAhead_24 : decode cX0_lookAhead 24 = .ok (.iload_n 3, 1) := by decide +kernel
theorem dX0_lookAhead_25 : decode cX0_lookAhead 25 = .ok (.bipush 49, 2) := by decide +kernel
theorem dX0_lookAhead_27 : decode cX0_lookAhead 27 = .ok (.imul, 1) := by decide +kernel
theorem dX0_lookAhead_28 : decode cX0_lookAhead 28 = .ok (.iload 4, 2) := by decide +kernel
theorem dX0_lookAhead_30 : decode cX0_lookAhead 30 = .ok (.iadd, 1) := by decide +kernel
theorem dX0_lookAhead_31 : decode cX0_lookAhead 31 = .ok (.aload_n 0, 1) := by decide +kernel
theorem dX0_lookAhead_32 : decode cX0_lookAhead 32 = .ok (.aload_n 1, 1) := by decide +kernel
theorem dX0_lookAhead_33 : decode cX0_lookAhead 33 = .ok (.iload_n 2, 1) := by decide +kernel
theorem dX0_lookAhead_34 : decode cX0_lookAhead 34 = .ok (.iload_n 3, 1) := by decide +kernel
theorem dX0_lookAhead_35 : decode cX0_lookAhead 35 = .ok (.iload 4, 2) := by decide +kernel
theorem dX0_lookAhead_37 : decode cX0_lookAhead 37 = .ok (.invokevirtual 57, 3) := by decide +kernel
theorem dX0_lookAhead_40 : decode cX0_lookAhead 40 = .ok (.iastore, 1) := by decide +kernel
theorem dX0_lookAhead_41 : decode cX0_lookAhead 41 = .ok (.iinc 4 (-1), 3) := by decide +kernel
theorem dX0_lookAhead_44 : decode cX0_lookAhead 44 = .ok (.goto (-29), 3) := by decide +kernel
theorem dX0_lookAhead_47 : decode cX0_lookAhead 47 = .ok (.iinc 3 (-1), 3) := by decide +kernel
theorem dX0_lookAhead_50 : decode cX0_lookAhead 50 = .ok (.goto (-45), 3) := by decide +kernel
theorem dX0_lookAhead_53 : decode cX0_lookAhead 53 = .ok (.return_, 1) := by decide +kernel
theorem dX1_init_0 : decode cX1_init 0 = .ok (.aload_n 0, 1) := by decide +kernel
theorem dX1_init_1 : decode cX1_init 1 = .ok (.invokespecial 3, 3) := by decide +kernel
theorem dX1_init_4 : decode cX1_init 4 = .ok (.aload_n 0, 1) := by decide +kernel
theorem dX1_init_5 : decode cX1_init 5 = .ok (.bipush 48, 2) := by decide +kernel
theorem dX1_init_7 : decode cX1_init 7 = .ok (.newarray .int, 2) := by decide +kernel
theorem dX1_init_9 : decode cX1_init 9 = .ok (.putfield 9, 3) := by decide +kernel
theorem dX1_init_12 : decode cX1_init 12 = .ok (.aload_n 0, 1) := by decide +kernel
theorem dX1_init_13 : decode cX1_init 13 = .ok (.iconst 0, 1) := by decide +kernel
theorem dX1_init_14 : decode cX1_init 14 = .ok (.putfield 15, 3) := by decide +kernel
theorem dX1_init_17 : decode cX1_init 17 = .ok (.return_, 1) := by decide +kernel
theorem dX1_size_0 : decode cX1_size 0 = .ok (.aload_n 0, 1) := by decide +kernel
theorem dX1_size_1 : decode cX1_size 1 = .ok (.getfield 15, 3) := by decide +kernel
theorem dX1_size_4 : decode cX1_size 4 = .ok (.ireturn, 1) := by decide +kernel
theorem dX1_isFull_0 : decode cX1_isFull 0 = .ok (.aload_n 0, 1) := by decide +kernel
theorem dX1_isFull_1 : decode cX1_isFull 1 = .ok (.getfield 15, 3) := by decide +kernel
theorem dX1_isFull_4 : decode cX1_isFull 4 = .ok (.bipush 48, 2) := by decide +kernel
theorem dX1_isFull_6 : decode cX1_isFull 6 = .ok (.if_icmp .ne 7, 3) := by decide +kernel
theorem dX1_isFull_9 : decode cX1_isFull 9 = .ok (.iconst 1, 1) := by decide +kernel
theorem dX1_isFull_10 : decode cX1_isFull 10 = .ok (.goto 4, 3) := by decide +kernel
theorem dX1_isFull_13 : decode cX1_isFull 13 = .ok (.iconst 0, 1) := by decide +kernel
theorem dX1_isFull_14 : decode cX1_isFull 14 = .ok (.ireturn, 1) := by decide +kernel
set_option maxRecDepth 20000 in
theorem ggX1_append_X1_isFull : GoodIn wsX1_append wsX1_isFull := goodIn_r _ [7, 2, 8, 9] (by decide +kernel) (by decide +kernel)
set_option maxRecDepth 20000 in
theorem gX1_append_X1_isFull : GoodIn wsX1_append (wsV RX1 19 RX1 yX1_isFull wsX1_isFull) := goodIn_app (goodIn_of _ (by decide +kernel)) ggX1_append_X1_isFull
theorem dX1_append_0 : decode cX1_append 0 = .ok (.aload_n 0, 1) := by decide +kernel
theorem dX1_append_1 : decode cX1_append 1 = .ok (.invokevirtual 19, 3) := by decide +kernel
theorem dX1_append_4 : decode cX1_append 4 = .ok (.ifCond .ne 23, 3) := by decide +kernel
theorem dX1_append_7 : decode cX1_append 7 = .ok (.aload_n 0, 1) := by decide +kernel
theorem dX1_append_8 : decode cX1_append 8 = .ok (.getfield 9, 3) := by decide +kernel
theorem dX1_append_11 : decode cX1_append 11 = .ok (.aload_n 0, 1) := by decide +kernel
theorem dX1_append_12 : decode cX1_append 12 = .ok (.getfield 15, 3) := by decide +kernel
theorem dX1_append_15 : decode cX1_append 15 = .ok (.iload_n 1, 1) := by decide +kernel
theorem dX1_append_16 : decode cX1_append 16 = .ok (.iastore, 1) := by decide +kernel
theorem dX1_append_17 : decode cX1_append 17 = .ok (.aload_n 0, 1) := by decide +kernel
theorem dX1_append_18 : decode cX1_append 18 = .ok (.dup, 1) := by decide +kernel
theorem dX1_append_19 : decode cX1_append 19 = .ok (.getfield 15, 3) := by decide +kernel
theorem dX1_append_22 : decode cX1_append 22 = .ok (.iconst 1, 1) := by decide +kernel
theorem dX1_append_23 : decode cX1_append 23 = .ok (.iadd, 1) := by decide +kernel
theorem dX1_append_24 : decode cX1_append 24 = .ok (.putfield 15, 3) := by decide +kernel
theorem dX1_append_27 : decode cX1_append 27 = .ok (.return_, 1) := by decide +kernel
theorem dX1_dropLast_0 : decode cX1_dropLast 0 = .ok (.aload_n 0, 1) := by decide +kernel
theorem dX1_dropLast_1 : decode cX1_dropLast 1 = .ok (.getfield 15, 3) := by decide +kernel
theorem dX1_dropLast_4 : decode cX1_dropLast 4 = .ok (.ifCond .ne 5, 3) := by decide +kernel
theorem dX1_dropLast_7 : decode cX1_dropLast 7 = .ok (.iconst (-1), 1) := by decide +kernel
theorem dX1_dropLast_8 : decode cX1_dropLast 8 = .ok (.ireturn, 1) := by decide +kernel
theorem dX1_dropLast_9 : decode cX1_dropLast 9 = .ok (.aload_n 0, 1) := by decide +kernel
theorem dX1_dropLast_10 : decode cX1_dropLast 10 = .ok (.dup, 1) := by decide +kernel
theorem dX1_dropLast_11 : decode cX1_dropLast 11 = .ok (.getfield 15, 3) := by decide +kernel
theorem dX1_dropLast_14 : decode cX1_dropLast 14 = .ok (.iconst 1, 1) := by decide +kernel
theorem dX1_dropLast_15 : decode cX1_dropLast 15 = .ok (.isub, 1) := by decide +kernel
theorem dX1_dropLast_16 : decode cX1_dropLast 16 = .ok (.putfield 15, 3) := by decide +kernel
theorem dX1_dropLast_19 : decode cX1_dropLast 19 = .ok (.aload_n 0, 1) := by decide +kernel
theorem dX1_dropLast_20 : decode cX1_dropLast 20 = .ok (.getfield 9, 3) := by decide +kernel
theorem dX1_dropLast_23 : decode cX1_dropLast 23 = .ok (.aload_n 0, 1) := by decide +kernel
theorem dX1_dropLast_24 : decode cX1_dropLast 24 = .ok (.getfield 15, 3) := by decide +kernel
theorem dX1_dropLast_27 : decode cX1_dropLast 27 = .ok (.iaload, 1) := by decide +kernel
theorem dX1_dropLast_28 : decode cX1_dropLast 28 = .ok (.ireturn, 1) := by decide +kernel
theorem dX1_at_0 : decode cX1_at 0 = .ok (.iload_n 1, 1) := by decide +kernel
theorem dX1_at_1 : decode cX1_at 1 = .ok (.ifCond .lt 20, 3) := by decide +kernel
theorem dX1_at_4 : decode cX1_at 4 = .ok (.iload_n 1, 1) := by decide +kernel
theorem dX1_at_5 : decode cX1_at 5 = .ok (.aload_n 0, 1) := by decide +kernel
theorem dX1_at_6 : decode cX1_at 6 = .ok (.getfield 15, 3) := by decide +kernel
theorem dX1_at_9 : decode cX1_at 9 = .ok (.if_icmp .ge 12, 3) := by decide +kernel
theorem dX1_at_12 : decode cX1_at 12 = .ok (.aload_n 0, 1) := by decide +kernel
theorem dX1_at_13 : decode cX1_at 13 = .ok (.getfield 9, 3) := by decide +kernel
theorem dX1_at_16 : decode cX1_at 16 = .ok (.iload_n 1, 1) := by decide +kernel
theorem dX1_at_17 : decode cX1_at 17 = .ok (.iaload, 1) := by decide +kernel
theorem dX1_at_18 : decode cX1_at 18 = .ok (.goto 4, 3) := by decide +kernel
theorem dX1_at_21 : decode cX1_at 21 = .ok (.iconst (-1), 1) := by decide +kernel
theorem dX1_at_22 : decode cX1_at 22 = .ok (.ireturn, 1) := by decide +kernel
theorem dX2_init_0 : decode cX2_init 0 = .ok (.aload_n 0, 1) := by decide +kernel
theorem dX2_init_1 : decode cX2_init 1 = .ok (.invokespecial 3, 3) := by decide +kernel
theorem dX2_init_4 : decode cX2_init 4 = .ok (.aload_n 0, 1) := by decide +kernel
theorem dX2_init_5 : decode cX2_init 5 = .ok (.iconst 2, 1) := by decide +kernel
theorem dX2_init_6 : decode cX2_init 6 = .ok (.putfield 9, 3) := by decide +kernel
theorem dX2_init_9 : decode cX2_init 9 = .ok (.aload_n 0, 1) := by decide +kernel
theorem dX2_init_10 : decode cX2_init 10 = .ok (.iconst 1, 1) := by decide +kernel
theorem dX2_init_11 : decode cX2_init 11 = .ok (.putfield 15, 3) := by decide +kernel
theorem dX2_init_14 : decode cX2_init 14 = .ok (.aload_n 0, 1) := by decide +kernel
theorem dX2_init_15 : decode cX2_init 15 = .ok (.iconst 2, 1) := by decide +kernel
theorem dX2_init_16 : decode cX2_init 16 = .ok (.putfield 18, 3) := by decide +kernel
theorem dX2_init_19 : decode cX2_init 19 = .ok (.aload_n 0, 1) := by decide +kernel
theorem dX2_init_20 : decode cX2_init 20 = .ok (.bipush 6, 2) := by decide +kernel
theorem dX2_init_22 : decode cX2_init 22 = .ok (.putfield 21, 3) := by decide +kernel
theorem dX2_init_25 : decode cX2_init 25 = .ok (.aload_n 0, 1) := by decide +kernel
theorem dX2_init_26 : decode cX2_init 26 = .ok (.bipush 49, 2) := by decide +kernel
theorem dX2_init_28 : decode cX2_init 28 = .ok (.newarray .int, 2) := by decide +kernel
theorem dX2_init_30 : decode cX2_init 30 = .ok (.putfield 24, 3) := by decide +kernel
theorem dX2_init_33 : decode cX2_init 33 = .ok (.aload_n 0, 1) := by decide +kernel
theorem dX2_init_34 : decode cX2_init 34 = .ok (.bipush 49, 2) := by decide +kernel
theorem dX2_init_36 : decode cX2_init 36 = .ok (.newarray .int, 2) := by decide +kernel
theorem dX2_init_38 : decode cX2_init 38 = .ok (.putfield 28, 3) := by decide +kernel
theorem dX2_init_41 : decode cX2_init 41 = .ok (.aload_n 0, 1) := by decide +kernel
theorem dX2_init_42 : decode cX2_init 42 = .ok (.bipush 49, 2) := by decide +kernel
theorem dX2_init_44 : decode cX2_init 44 = .ok (.newarray .int, 2) := by decide +kernel
theorem dX2_init_46 : decode cX2_init 46 = .ok (.putfield 31, 3) := by decide +kernel
theorem dX2_init_49 : decode cX2_init 49 = .ok (.aload_n 0, 1) := by decide +kernel
theorem dX2_init_50 : decode cX2_init 50 = .ok (.iconst (-1), 1) := by decide +kernel
theorem dX2_init_51 : decode cX2_init 51 = .ok (.putfield 34, 3) := by decide +kernel
theorem dX2_init_54 : decode cX2_init 54 = .ok (.aload_n 0, 1) := by decide +kernel
theorem dX2_init_55 : decode cX2_init 55 = .ok (.iconst (-1), 1) := by decide +kernel
theorem dX2_init_56 : decode cX2_init 56 = .ok (.putfield 37, 3) := by decide +kernel
theorem dX2_init_59 : decode cX2_init 59 = .ok (.aload_n 0, 1) := by decide +kernel
theorem dX2_init_60 : decode cX2_init 60 = .ok (.iconst (-1), 1) := by decide +kernel
theorem dX2_init_61 : decode cX2_init 61 = .ok (.putfield 40, 3) := by decide +kernel
theorem dX2_init_64 : decode cX2_init 64 = .ok (.aload_n 0, 1) := by decide +kernel
theorem dX2_init_65 : decode cX2_init 65 = .ok (.iconst (-1), 1) := by decide +kernel
theorem dX2_init_66 : decode cX2_init 66 = .ok (.putfield 43, 3) := by decide +kernel
theorem dX2_init_69 : decode cX2_init 69 = .ok (.aload_n 0, 1) := by decide +kernel
theorem dX2_init_70 : decode cX2_init 70 = .ok (.iconst (-1), 1) := by decide +kernel
theorem dX2_init_71 : decode cX2_init 71 = .ok (.putfield 46, 3) := by decide +kernel
theorem dX2_init_74 : decode cX2_init 74 = .ok (.return_, 1) := by decide +kernel
theorem dX2_useScores_0 : decode cX2_useScores 0 = .ok (.aload_n 0, 1) := by decide +kernel
theorem dX2_useScores_1 : decode cX2_useScores 1 = .ok (.iload_n 1, 1) := by decide +kernel
theorem dX2_useScores_2 : decode cX2_useScores 2 = .ok (.putfield 9, 3) := by decide +kernel
theorem dX2_useScores_5 : decode cX2_useScores 5 = .ok (.aload_n 0, 1) := by decide +kernel
theorem dX2_useScores_6 : decode cX2_useScores 6 = .ok (.iload_n 2, 1) := by decide +kernel
theorem dX2_useScores_7 : decode cX2_useScores 7 = .ok (.putfield 15, 3) := by decide +kernel
theorem dX2_useScores_10 : decode cX2_useScores 10 = .ok (.aload_n 0, 1) := by decide +kernel
theorem dX2_useScores_11 : decode cX2_useScores 11 = .ok (.iload_n 3, 1) := by decide +kernel
theorem dX2_useScores_12 : decode cX2_useScores 12 = .ok (.putfield 18, 3) := by decide +kernel
theorem dX2_useScores_15 : decode cX2_useScores 15 = .ok (.aload_n 0, 1) := by decide +kernel
theorem dX2_useScores_16 : decode cX2_useScores 16 = .ok (.iload 4, 2) := by decide +kernel
theorem dX2_useScores_18 : decode cX2_useScores 18 = .ok (.putfield 21, 3) := by decide +kernel
theorem dX2_useScores_21 : decode cX2_useScores 21 = .ok (.return_, 1) := by decide +kernel
theorem dX3_init_0 : decode cX3_init 0 = .ok (.aload_n 0, 1) := by decide +kernel
theorem dX3_init_1 : decode cX3_init 1 = .ok (.invokespecial 3, 3) := by decide +kernel
theorem dX3_init_4 : decode cX3_init 4 = .ok (.aload_n 0, 1) := by decide +kernel
theorem dX3_init_5 : decode cX3_init 5 = .ok (.iconst 2, 1) := by decide +kernel
theorem dX3_init_6 : decode cX3_init 6 = .ok (.putfield 9, 3) := by decide +kernel
theorem dX3_init_9 : decode cX3_init 9 = .ok (.aload_n 0, 1) := by decide +kernel
theorem dX3_init_10 : decode cX3_init 10 = .ok (.aload_n 1, 1) := by decide +kernel
theorem dX3_init_11 : decode cX3_init 11 = .ok (.putfield 15, 3) := by decide +kernel
theorem dX3_init_14 : decode cX3_init 14 = .ok (.aload_n 0, 1) := by decide +kernel
theorem dX3_init_15 : decode cX3_init 15 = .ok (.aload_n 2, 1) := by decide +kernel
theorem dX3_init_16 : decode cX3_init 16 = .ok (.putfield 19, 3) := by decide +kernel
theorem dX3_init_19 : decode cX3_init 19 = .ok (.return_, 1) := by decide +kernel
theorem dX3_useLength_0 : decode cX3_useLength 0 = .ok (.aload_n 0, 1) := by decide +kernel
theorem dX3_useLength_1 : decode cX3_useLength 1 = .ok (.iload_n 1, 1) := by decide +kernel
theorem dX3_useLength_2 : decode cX3_useLength 2 = .ok (.putfield 9, 3) := by decide +kernel
theorem dX3_useLength_5 : decode cX3_useLength 5 = .ok (.return_, 1) := by decide +kernel
set_option maxRecDepth 20000 in
theorem ggX3_firstSize_X1_size : GoodIn wsX3_firstSize wsX1_size := goodIn_r _ [6, 7, 11, 12] (by decide +kernel) (by decide +kernel)
set_option maxRecDepth 20000 in
theorem gX3_firstSize_X1_size : GoodIn wsX3_firstSize (wsV RX3 22 RX1 yX1_size wsX1_size) := goodIn_app (goodIn_of _ (by decide +kernel)) ggX3_firstSize_X1_size
theorem dX3_firstSize_0 : decode cX3_firstSize 0 = .ok (.aload_n 0, 1) := by decide +kernel
theorem dX3_firstSize_1 : decode cX3_firstSize 1 = .ok (.getfield 15, 3) := by decide +kernel
theorem dX3_firstSize_4 : decode cX3_firstSize 4 = .ok (.invokevirtual 22, 3) := by decide +kernel
theorem dX3_firstSize_7 : decode cX3_firstSize 7 = .ok (.ireturn, 1) := by decide +kernel
set_option maxRecDepth 20000 in
theorem ggX3_isSeed_X1_size : GoodIn wsX3_isSeed wsX1_size := goodIn_r _ [8, 9, 18, 19] (by decide +kernel) (by decide +kernel)
set_option maxRecDepth 20000 in
theorem gX3_isSeed_X1_size : GoodIn wsX3_isSeed (wsV RX3 22 RX1 yX1_size wsX1_size) := goodIn_app (goodIn_of _ (by decide +kernel)) ggX3_isSeed_X1_size
set_option maxRecDepth 20000 in
theorem ggX3_isSeed_X1_at : GoodIn wsX3_isSeed wsX1_at := goodIn_r _ [13, 9, 14, 18, 19] (by decide +kernel) (by decide +kernel)
set_option maxRecDepth 20000 in
theorem gX3_isSeed_X1_at : GoodIn wsX3_isSeed (wsV RX3 28 RX1 yX1_at wsX1_at) := goodIn_app (goodIn_of _ (by decide +kernel)) ggX3_isSeed_X1_at
theorem dX3_isSeed_0 : decode cX3_isSeed 0 = .ok (.iload_n 1, 1) := by decide +kernel
theorem dX3_isSeed_1 : decode cX3_isSeed 1 = .ok (.aload_n 0, 1) := by decide +kernel
theorem dX3_isSeed_2 : decode cX3_isSeed 2 = .ok (.getfield 9, 3) := by decide +kernel
theorem dX3_isSeed_5 : decode cX3_isSeed 5 = .ok (.iadd, 1) := by decide +kernel
theorem dX3_isSeed_6 : decode cX3_isSeed 6 = .ok (.aload_n 0, 1) := by decide +kernel
theorem dX3_isSeed_7 : decode cX3_isSeed 7 = .ok (.getfield 15, 3) := by decide +kernel
theorem dX3_isSeed_10 : decode cX3_isSeed 10 = .ok (.invokevirtual 22, 3) := by decide +kernel
theorem dX3_isSeed_13 : decode cX3_isSeed 13 = .ok (.if_icmp .gt 19, 3) := by decide +kernel
theorem dX3_isSeed_16 : decode cX3_isSeed 16 = .ok (.iload_n 2, 1) := by decide +kernel
theorem dX3_isSeed_17 : decode cX3_isSeed 17 = .ok (.aload_n 0, 1) := by decide +kernel
theorem dX3_isSeed_18 : decode cX3_isSeed 18 = .ok (.getfield 9, 3) := by decide +kernel
theorem dX3_isSeed_21 : decode cX3_isSeed 21 = .ok (.iadd, 1) := by decide +kernel
theorem dX3_isSeed_22 : decode cX3_isSeed 22 = .ok (.aload_n 0, 1) := by decide +kernel
theorem dX3_isSeed_23 : decode cX3_isSeed 23 = .ok (.getfield 19, 3) := by decide +kernel
theorem dX3_isSeed_26 : decode cX3_isSeed 26 = .ok (.invokevirtual 22, 3) := by decide +kernel
theorem dX3_isSeed_29 : decode cX3_isSeed 29 = .ok (.if_icmp .le 5, 3) := by decide +kernel
theorem dX3_isSeed_32 : decode cX3_isSeed 32 = .ok (.iconst 0, 1) := by decide +kernel
theorem dX3_isSeed_33 : decode cX3_isSeed 33 = .ok (.ireturn, 1) := by decide +kernel
theorem dX3_isSeed_34 : decode cX3_isSeed 34 = .ok (.iconst 0, 1) := by decide +kernel
theorem dX3_isSeed_35 : decode cX3_isSeed 35 = .ok (.istore_n 3, 1) := by decide +kernel
theorem dX3_isSeed_36 : decode cX3_isSeed 36 = .ok (.iload_n 3, 1) := by decide +kernel
theorem dX3_isSeed_37 : decode cX3_isSeed 37 = .ok (.aload_n 0, 1) := by decide +kernel
theorem dX3_isSeed_38 : decode cX3_isSeed 38 = .ok (.getfield 9, 3) := by decide +kernel
theorem dX3_isSeed_41 : decode cX3_isSeed 41 = .ok (.if_icmp .ge 34, 3) := by decide +kernel
theorem dX3_isSeed_44 : decode cX3_isSeed 44 = .ok (.aload_n 0, 1) := by decide +kernel
theorem dX3_isSeed_45 : decode cX3_isSeed 45 = .ok (.getfield 15, 3) := by decide +kernel
theorem dX3_isSeed_48 : decode cX3_isSeed 48 = .ok (.iload_n 1, 1) := by decide +kernel
theorem dX3_isSeed_49 : decode cX3_isSeed 49 = .ok (.iload_n 3, 1) := by decide +kernel
theorem dX3_isSeed_50 : decode cX3_isSeed 50 = .ok (.iadd, 1) := by decide +kernel
theorem dX3_isSeed_51 : decode cX3_isSeed 51 = .ok (.invokevirtual 28, 3) := by decide +kernel
theorem dX3_isSeed_54 : decode cX3_isSeed 54 = .ok (.aload_n 0, 1) := by decide +kernel
theorem dX3_isSeed_55 : decode cX3_isSeed 55 = .ok (.getfield 19, 3) := by decide +kernel
theorem dX3_isSeed_58 : decode cX3_isSeed 58 = .ok (.iload_n 2, 1) := by decide +kernel
theorem dX3_isSeed_59 : decode cX3_isSeed 59 = .ok (.iload_n 3, 1) := by decide +kernel
theorem dX3_isSeed_60 : decode cX3_isSeed 60 = .ok (.iadd, 1) := by decide +kernel
theorem dX3_isSeed_61 : decode cX3_isSeed 61 = .ok (.invokevirtual 28, 3) := by decide +kernel
theorem dX3_isSeed_64 : decode cX3_isSeed 64 = .ok (.if_icmp .eq 5, 3) := by decide +kernel
theorem dX3_isSeed_67 : decode cX3_isSeed 67 = .ok (.iconst 0, 1) := by decide +kernel
theorem dX3_isSeed_68 : decode cX3_isSeed 68 = .ok (.ireturn, 1) := by decide +kernel
theorem dX3_isSeed_69 : decode cX3_isSeed 69 = .ok (.iinc 3 1, 3) := by decide +kernel
theorem dX3_isSeed_72 : decode cX3_isSeed 72 = .ok (.goto (-36), 3) := by decide +kernel
theorem dX3_isSeed_75 : decode cX3_isSeed 75 = .ok (.iconst 1, 1) := by decide +kernel
theorem dX3_isSeed_76 : decode cX3_isSeed 76 = .ok (.ireturn, 1) := by decide +kernel
set_option maxRecDepth 20000 in
theorem ggX3_count_X1_size : GoodIn wsX3_count wsX1_size := goodIn_r _ [7, 8, 23, 24] (by decide +kernel) (by decide +kernel)
set_option maxRecDepth 20000 in
theorem gX3_count_X1_size : GoodIn wsX3_count (wsV RX3 22 RX1 yX1_size wsX1_size) := goodIn_app (goodIn_of _ (by decide +kernel)) ggX3_count_X1_size
set_option maxRecDepth 20000 in
theorem ggX3_count_X3_isSeed : GoodIn wsX3_count wsX3_isSeed := goodIn_r _ [13, 14, 1, 2, 3, 4, 5, 6, 7, 8, 15, 16, 17, 18, 19, 20, 21, 22, 23, 24] (by decide +kernel) (by decide +kernel)
set_option maxRecDepth 20000 in
theorem gX3_count_X3_isSeed : GoodIn wsX3_count (wsV RX3 32 RX3 yX3_isSeed wsX3_isSeed) := goodIn_app (goodIn_of _ (by decide +kernel)) ggX3_count_X3_isSeed
theorem dX3_count_0 : decode cX3_count 0 = .ok (.iconst 0, 1) := by decide +kernel
theorem dX3_count_1 : decode cX3_count 1 = .ok (.istore_n 1, 1) := by decide +kernel
theorem dX3_count_2 : decode cX3_count 2 = .ok (.iconst 0, 1) := by decide +kernel
theorem dX3_count_3 : decode cX3_count 3 = .ok (.istore_n 2, 1) := by decide +kernel
theorem dX3_count_4 : decode cX3_count 4 = .ok (.iload_n 2, 1) := by decide +kernel
theorem dX3_count_5 : decode cX3_count 5 = .ok (.aload_n 0, 1) := by decide +kernel
theorem dX3_count_6 : decode cX3_count 6 = .ok (.getfield 15, 3) := by decide +kernel
theorem dX3_count_9 : decode cX3_count 9 = .ok (.invokevirtual 22, 3) := by decide +kernel
theorem dX3_count_12 : decode cX3_count 12 = .ok (.if_icmp .ge 40, 3) := by decide +kernel
theorem dX3_count_15 : decode cX3_count 15 = .ok (.iconst 0, 1) := by decide +kernel
theorem dX3_count_16 : decode cX3_count 16 = .ok (.istore_n 3, 1) := by decide +kernel
theorem dX3_count_17 : decode cX3_count 17 = .ok (.iload_n 3, 1) := by decide +kernel
theorem dX3_count_18 : decode cX3_count 18 = .ok (.aload_n 0, 1) := by decide +kernel
theorem dX3_count_19 : decode cX3_count 19 = .ok (.getfield 19, 3) := by decide +kernel
theorem dX3_count_22 : decode cX3_count 22 = .ok (.invokevirtual 22, 3) := by decide +kernel
theorem dX3_count_25 : decode cX3_count 25 = .ok (.if_icmp .ge 21, 3) := by decide +kernel
theorem dX3_count_28 : decode cX3_count 28 = .ok (.aload_n 0, 1) := by decide +kernel
theorem dX3_count_29 : decode cX3_count 29 = .ok (.iload_n 2, 1) := by decide +kernel
theorem dX3_count_30 : decode cX3_count 30 = .ok (.iload_n 3, 1) := by decide +kernel
theorem dX3_count_31 : decode cX3_count 31 = .ok (.invokevirtual 32, 3) := by decide +kernel
theorem dX3_count_34 : decode cX3_count 34 = .ok (.ifCond .eq 6, 3) := by decide +kernel
theorem dX3_count_37 : decode cX3_count 37 = .ok (.iinc 1 1, 3) := by decide +kernel
theorem dX3_count_40 : decode cX3_count 40 = .ok (.iinc 3 1, 3) := by decide +kernel
theorem dX3_count_43 : decode cX3_count 43 = .ok (.goto (-26), 3) := by decide +kernel
theorem dX3_count_46 : decode cX3_count 46 = .ok (.iinc 2 1, 3) := by decide +kernel
theorem dX3_count_49 : decode cX3_count 49 = .ok (.goto (-45), 3) := by decide +kernel
theorem dX3_count_52 : decode cX3_count 52 = .ok (.iload_n 1, 1) := by decide +kernel
theorem dX3_count_53 : decode cX3_count 53 = .ok (.ireturn, 1) := by decide +kernel
set_option maxRecDepth 20000 in
theorem ggX3_pairAt_X1_size : GoodIn wsX3_pairAt wsX1_size := goodIn_r _ [7, 8, 26, 27] (by decide +kernel) (by decide +kernel)
set_option maxRecDepth 20000 in
theorem gX3_pairAt_X1_size : GoodIn wsX3_pairAt (wsV RX3 22 RX1 yX1_size wsX1_size) := goodIn_app (goodIn_of _ (by decide +kernel)) ggX3_pairAt_X1_size
set_option maxRecDepth 20000 in
theorem ggX3_pairAt_X3_isSeed : GoodIn wsX3_pairAt wsX3_isSeed := goodIn_r _ [13, 14, 1, 2, 3, 4, 5, 6, 7, 8, 15, 16, 17, 18, 19, 23, 24, 25, 26, 27] (by decide +kernel) (by decide +kernel)
set_option maxRecDepth 20000 in
theorem gX3_pairAt_X3_isSeed : GoodIn wsX3_pairAt (wsV RX3 32 RX3 yX3_isSeed wsX3_isSeed) := goodIn_app (goodIn_of _ (by decide +kernel)) ggX3_pairAt_X3_isSeed
set_option maxRecDepth 20000 in
theorem ggX3_pairAt_X4_pairOf : GoodIn wsX3_pairAt wsX4_pairOf := goodIn_r _ [22] (by decide +kernel) (by decide +kernel)
set_option maxRecDepth 20000 in
theorem gX3_pairAt_X4_pairOf_n36 : GoodIn wsX3_pairAt (wsX4_pairOf) := ggX3_pairAt_X4_pairOf
theorem dX3_pairAt_0 : decode cX3_pairAt 0 = .ok (.iconst 0, 1) := by decide +kernel
theorem dX3_pairAt_1 : decode cX3_pairAt 1 = .ok (.istore_n 2, 1) := by decide +kernel
theorem dX3_pairAt_2 : decode cX3_pairAt 2 = .ok (.iconst 0, 1) := by decide +kernel
theorem dX3_pairAt_3 : decode cX3_pairAt 3 = .ok (.istore_n 3, 1) := by decide +kernel
theorem dX3_pairAt_4 : decode cX3_pairAt 4 = .ok (.iload_n 3, 1) := by decide +kernel
theorem dX3_pairAt_5 : decode cX3_pairAt 5 = .ok (.aload_n 0, 1) := by decide +kernel
theorem dX3_pairAt_6 : decode cX3_pairAt 6 = .ok (.getfield 15, 3) := by decide +kernel
theorem dX3_pairAt_9 : decode cX3_pairAt 9 = .ok (.invokevirtual 22, 3) := by decide +kernel
theorem dX3_pairAt_12 : decode cX3_pairAt 12 = .ok (.if_icmp .ge 55, 3) := by decide +kernel
theorem dX3_pairAt_15 : decode cX3_pairAt 15 = .ok (.iconst 0, 1) := by decide +kernel
theorem dX3_pairAt_16 : decode cX3_pairAt 16 = .ok (.istore 4, 2) := by decide +kernel
theorem dX3_pairAt_18 : decode cX3_pairAt 18 = .ok (.iload 4, 2) := by decide +kernel
theorem dX3_pairAt_20 : decode cX3_pairAt 20 = .ok (.aload_n 0, 1) := by decide +kernel
theorem dX3_pairAt_21 : decode cX3_pairAt 21 = .ok (.getfield 19, 3) := by decide +kernel
theorem dX3_pairAt_24 : decode cX3_pairAt 24 = .ok (.invokevirtual 22, 3) := by decide +kernel
theorem dX3_pairAt_27 : decode cX3_pairAt 27 = .ok (.if_icmp .ge 34, 3) := by decide +kernel
theorem dX3_pairAt_30 : decode cX3_pairAt 30 = .ok (.aload_n 0, 1) := by decide +kernel
theorem dX3_pairAt_31 : decode cX3_pairAt 31 = .ok (.iload_n 3, 1) := by decide +kernel
theorem dX3_pairAt_32 : decode cX3_pairAt 32 = .ok (.iload 4, 2) := by decide +kernel
theorem dX3_pairAt_34 : decode cX3_pairAt 34 = .ok (.invokevirtual 32, 3) := by decide +kernel
theorem dX3_pairAt_37 : decode cX3_pairAt 37 = .ok (.ifCond .eq 18, 3) := by decide +kernel
theorem dX3_pairAt_40 : decode cX3_pairAt 40 = .ok (.iload_n 2, 1) := by decide +kernel
theorem dX3_pairAt_41 : decode cX3_pairAt 41 = .ok (.iload_n 1, 1) := by decide +kernel
theorem dX3_pairAt_42 : decode cX3_pairAt 42 = .ok (.if_icmp .ne 10, 3) := by decide +kernel
theorem dX3_pairAt_45 : decode cX3_pairAt 45 = .ok (.iload_n 3, 1) := by decide +kernel
theorem dX3_pairAt_46 : decode cX3_pairAt 46 = .ok (.iload 4, 2) := by decide +kernel
theorem dX3_pairAt_48 : decode cX3_pairAt 48 = .ok (.invokestatic 36, 3) := by decide +kernel
theorem dX3_pairAt_51 : decode cX3_pairAt 51 = .ok (.ireturn, 1) := by decide +kernel
theorem dX3_pairAt_52 : decode cX3_pairAt 52 = .ok (.iinc 2 1, 3) := by decide +kernel
theorem dX3_pairAt_55 : decode cX3_pairAt 55 = .ok (.iinc 4 1, 3) := by decide +kernel
theorem dX3_pairAt_58 : decode cX3_pairAt 58 = .ok (.goto (-40), 3) := by decide +kernel
theorem dX3_pairAt_61 : decode cX3_pairAt 61 = .ok (.iinc 3 1, 3) := by decide +kernel
theorem dX3_pairAt_64 : decode cX3_pairAt 64 = .ok (.goto (-60), 3) := by decide +kernel
theorem dX3_pairAt_67 : decode cX3_pairAt 67 = .ok (.iconst (-1), 1) := by decide +kernel
theorem dX3_pairAt_68 : decode cX3_pairAt 68 = .ok (.ireturn, 1) := by decide +kernel
set_option maxRecDepth 20000 in
theorem ggX4_init_X1_init : GoodIn wsX4_init wsX1_init := goodIn_r _ [24, 25, 2, 3, 26, 27, 28, 58, 59] (by decide +kernel) (by decide +kernel)
set_option maxRecDepth 20000 in
theorem gX4_init_X1_init_n9 : GoodIn wsX4_init (wsX1_init) := ggX4_init_X1_init
set_option maxRecDepth 20000 in
theorem ggX4_init_X3_init : GoodIn wsX4_init wsX3_init := goodIn_r _ [31, 32, 2, 3, 33, 34, 35, 67, 68, 69] (by decide +kernel) (by decide +kernel)
set_option maxRecDepth 20000 in
theorem gX4_init_X3_init : GoodIn wsX4_init (wsX3_init) := ggX4_init_X3_init
set_option maxRecDepth 20000 in
theorem ggX4_init_X0_init : GoodIn wsX4_init wsX0_init := goodIn_r _ [37, 38, 2, 3, 26, 39, 40, 41, 42, 70, 71, 72, 73] (by decide +kernel) (by decide +kernel)
set_option maxRecDepth 20000 in
theorem gX4_init_X0_init_n30 : GoodIn wsX4_init (wsX0_init) := ggX4_init_X0_init
set_option maxRecDepth 20000 in
theorem ggX4_init_X2_init : GoodIn wsX4_init wsX2_init := goodIn_r _ [44, 45, 2, 3, 46, 47, 48, 49, 26, 50, 51, 52, 53, 54, 55, 56, 57, 74, 75, 76, 77, 78, 79, 80, 81, 82, 83, 84, 85] (by decide +kernel) (by decide +kernel)
set_option maxRecDepth 20000 in
theorem gX4_init_X2_init_n37 : GoodIn wsX4_init (wsX2_init) := ggX4_init_X2_init
theorem dX4_init_0 : decode cX4_init 0 = .ok (.aload_n 0, 1) := by decide +kernel
theorem dX4_init_1 : decode cX4_init 1 = .ok (.invokespecial 1, 3) := by decide +kernel
theorem dX4_init_4 : decode cX4_init 4 = .ok (.aload_n 0, 1) := by decide +kernel
theorem dX4_init_5 : decode cX4_init 5 = .ok (.new 7, 3) := by decide +kernel
theorem dX4_init_8 : decode cX4_init 8 = .ok (.dup, 1) := by decide +kernel
theorem dX4_init_9 : decode cX4_init 9 = .ok (.invokespecial 9, 3) := by decide +kernel
theorem dX4_init_12 : decode cX4_init 12 = .ok (.putfield 10, 3) := by decide +kernel
theorem dX4_init_15 : decode cX4_init 15 = .ok (.aload_n 0, 1) := by decide +kernel
theorem dX4_init_16 : decode cX4_init 16 = .ok (.new 7, 3) := by decide +kernel
theorem dX4_init_19 : decode cX4_init 19 = .ok (.dup, 1) := by decide +kernel
theorem dX4_init_20 : decode cX4_init 20 = .ok (.invokespecial 9, 3) := by decide +kernel
theorem dX4_init_23 : decode cX4_init 23 = .ok (.putfield 16, 3) := by decide +kernel
theorem dX4_init_26 : decode cX4_init 26 = .ok (.aload_n 0, 1) := by decide +kernel
theorem dX4_init_27 : decode cX4_init 27 = .ok (.new 19, 3) := by decide +kernel
theorem dX4_init_30 : decode cX4_init 30 = .ok (.dup, 1) := by decide +kernel
theorem dX4_init_31 : decode cX4_init 31 = .ok (.aload_n 0, 1) := by decide +kernel
theorem dX4_init_32 : decode cX4_init 32 = .ok (.getfield 10, 3) := by decide +kernel
theorem dX4_init_35 : decode cX4_init 35 = .ok (.aload_n 0, 1) := by decide +kernel
theorem dX4_init_36 : decode cX4_init 36 = .ok (.getfield 16, 3) := by decide +kernel
theorem dX4_init_39 : decode cX4_init 39 = .ok (.invokespecial 21, 3) := by decide +kernel
theorem dX4_init_42 : decode cX4_init 42 = .ok (.putfield 24, 3) := by decide +kernel
theorem dX4_init_45 : decode cX4_init 45 = .ok (.aload_n 0, 1) := by decide +kernel
theorem dX4_init_46 : decode cX4_init 46 = .ok (.new 28, 3) := by decide +kernel
theorem dX4_init_49 : decode cX4_init 49 = .ok (.dup, 1) := by decide +kernel
theorem dX4_init_50 : decode cX4_init 50 = .ok (.invokespecial 30, 3) := by decide +kernel
theorem dX4_init_53 : decode cX4_init 53 = .ok (.putfield 31, 3) := by decide +kernel
theorem dX4_init_56 : decode cX4_init 56 = .ok (.aload_n 0, 1) := by decide +kernel
theorem dX4_init_57 : decode cX4_init 57 = .ok (.new 35, 3) := by decide +kernel
theorem dX4_init_60 : decode cX4_init 60 = .ok (.dup, 1) := by decide +kernel
theorem dX4_init_61 : decode cX4_init 61 = .ok (.invokespecial 37, 3) := by decide +kernel
theorem dX4_init_64 : decode cX4_init 64 = .ok (.putfield 38, 3) := by decide +kernel
theorem dX4_init_67 : decode cX4_init 67 = .ok (.aload_n 0, 1) := by decide +kernel
theorem dX4_init_68 : decode cX4_init 68 = .ok (.iconst 1, 1) := by decide +kernel
theorem dX4_init_69 : decode cX4_init 69 = .ok (.putfield 42, 3) := by decide +kernel
theorem dX4_init_72 : decode cX4_init 72 = .ok (.aload_n 0, 1) := by decide +kernel
theorem dX4_init_73 : decode cX4_init 73 = .ok (.iconst 0, 1) := by decide +kernel
theorem dX4_init_74 : decode cX4_init 74 = .ok (.putfield 46, 3) := by decide +kernel
theorem dX4_init_77 : decode cX4_init 77 = .ok (.return_, 1) := by decide +kernel
set_option maxRecDepth 20000 in
theorem ggX4_put_X4_rowOf : GoodIn wsX4_put wsX4_rowOf := goodIn_r _ [6, 7, 8, 28, 29, 30, 31, 32, 33, 34] (by decide +kernel) (by decide +kernel)
set_option maxRecDepth 20000 in
theorem gX4_put_X4_rowOf : GoodIn wsX4_put (wsV RX4 50 RX4 yX4_rowOf wsX4_rowOf) := goodIn_app (goodIn_of _ (by decide +kernel)) ggX4_put_X4_rowOf
set_option maxRecDepth 20000 in
theorem ggX4_put_X4_isBetween : GoodIn wsX4_put wsX4_isBetween := goodIn_r _ [11] (by decide +kernel) (by decide +kernel)
set_option maxRecDepth 20000 in
theorem gX4_put_X4_isBetween : GoodIn wsX4_put (va_wsS RX4 54 yX4_isBetween wsX4_isBetween) := goodIn_app (goodIn_of _ (by decide +kernel)) ggX4_put_X4_isBetween
set_option maxRecDepth 20000 in
theorem ggX4_put_X1_isFull : GoodIn wsX4_put wsX1_isFull := goodIn_r _ [16, 17, 35, 36] (by decide +kernel) (by decide +kernel)
set_option maxRecDepth 20000 in
theorem gX4_put_X1_isFull : GoodIn wsX4_put (wsV RX4 58 RX1 yX1_isFull wsX1_isFull) := goodIn_app (goodIn_of _ (by decide +kernel)) ggX4_put_X1_isFull
set_option maxRecDepth 20000 in
theorem ggX4_put_X1_append : GoodIn wsX4_put wsX1_append := goodIn_r _ [21, 22, 17, 23, 13, 14, 15, 16, 35, 36] (by decide +kernel) (by decide +kernel)
set_option maxRecDepth 20000 in
theorem gX4_put_X1_append : GoodIn wsX4_put (wsV RX4 62 RX1 yX1_append wsX1_append) := goodIn_app (goodIn_of _ (by decide +kernel)) ggX4_put_X1_append
set_option maxRecDepth 20000 in
theorem ggX4_put_X1_size : GoodIn wsX4_put wsX1_size := goodIn_r _ [27, 17, 35, 36] (by decide +kernel) (by decide +kernel)
set_option maxRecDepth 20000 in
theorem gX4_put_X1_size : GoodIn wsX4_put (wsV RX4 66 RX1 yX1_size wsX1_size) := goodIn_app (goodIn_of _ (by decide +kernel)) ggX4_put_X1_size
theorem dX4_put_0 : decode cX4_put 0 = .ok (.aload_n 0, 1) := by decide +kernel
theorem dX4_put_1 : decode cX4_put 1 = .ok (.iload_n 1, 1) := by decide +kernel
theorem dX4_put_2 : decode cX4_put 2 = .ok (.invokevirtual 50, 3) := by decide +kernel
theorem dX4_put_5 : decode cX4_put 5 = .ok (.astore_n 3, 1) := by decide +kernel
theorem dX4_put_6 : decode cX4_put 6 = .ok (.aload_n 3, 1) := by decide +kernel
theorem dX4_put_7 : decode cX4_put 7 = .ok (.ifnull 19, 3) := by decide +kernel
theorem dX4_put_10 : decode cX4_put 10 = .ok (.iload_n 2, 1) := by decide +kernel
theorem dX4_put_11 : decode cX4_put 11 = .ok (.iconst 0, 1) := by decide +kernel
theorem dX4_put_12 : decode cX4_put 12 = .ok (.iconst 3, 1) := by decide +kernel
theorem dX4_put_13 : decode cX4_put 13 = .ok (.invokestatic 54, 3) := by decide +kernel
theorem dX4_put_16 : decode cX4_put 16 = .ok (.ifCond .eq 10, 3) := by decide +kernel
theorem dX4_put_19 : decode cX4_put 19 = .ok (.aload_n 3, 1) := by decide +kernel
theorem dX4_put_20 : decode cX4_put 20 = .ok (.invokevirtual 58, 3) := by decide +kernel
theorem dX4_put_23 : decode cX4_put 23 = .ok (.ifCond .eq 5, 3) := by decide +kernel
theorem dX4_put_26 : decode cX4_put 26 = .ok (.iconst (-1), 1) := by decide +kernel
theorem dX4_put_27 : decode cX4_put 27 = .ok (.ireturn, 1) := by decide +kernel
theorem dX4_put_28 : decode cX4_put 28 = .ok (.aload_n 0, 1) := by decide +kernel
theorem dX4_put_29 : decode cX4_put 29 = .ok (.iconst 0, 1) := by decide +kernel
theorem dX4_put_30 : decode cX4_put 30 = .ok (.putfield 46, 3) := by decide +kernel
theorem dX4_put_33 : decode cX4_put 33 = .ok (.aload_n 3, 1) := by decide +kernel
theorem dX4_put_34 : decode cX4_put 34 = .ok (.iload_n 2, 1) := by decide +kernel
theorem dX4_put_35 : decode cX4_put 35 = .ok (.invokevirtual 62, 3) := by decide +kernel
theorem dX4_put_38 : decode cX4_put 38 = .ok (.aload_n 3, 1) := by decide +kernel
theorem dX4_put_39 : decode cX4_put 39 = .ok (.invokevirtual 66, 3) := by decide +kernel
theorem dX4_put_42 : decode cX4_put 42 = .ok (.ireturn, 1) := by decide +kernel
set_option maxRecDepth 20000 in
theorem ggX4_cut_X4_rowOf : GoodIn wsX4_cut wsX4_rowOf := goodIn_r _ [6, 7, 8, 20, 21, 22, 23, 24, 25, 26] (by decide +kernel) (by decide +kernel)
set_option maxRecDepth 20000 in
theorem gX4_cut_X4_rowOf : GoodIn wsX4_cut (wsV RX4 50 RX4 yX4_rowOf wsX4_rowOf) := goodIn_app (goodIn_of _ (by decide +kernel)) ggX4_cut_X4_rowOf
set_option maxRecDepth 20000 in
theorem ggX4_cut_X1_size : GoodIn wsX4_cut wsX1_size := goodIn_r _ [13, 14, 27, 28] (by decide +kernel) (by decide +kernel)
set_option maxRecDepth 20000 in
theorem gX4_cut_X1_size : GoodIn wsX4_cut (wsV RX4 66 RX1 yX1_size wsX1_size) := goodIn_app (goodIn_of _ (by decide +kernel)) ggX4_cut_X1_size
set_option maxRecDepth 20000 in
theorem ggX4_cut_X1_dropLast : GoodIn wsX4_cut wsX1_dropLast := goodIn_r _ [18, 14, 19, 27, 28] (by decide +kernel) (by decide +kernel)
set_option maxRecDepth 20000 in
theorem gX4_cut_X1_dropLast : GoodIn wsX4_cut (wsV RX4 70 RX1 yX1_dropLast wsX1_dropLast) := goodIn_app (goodIn_of _ (by decide +kernel)) ggX4_cut_X1_dropLast
theorem dX4_cut_0 : decode cX4_cut 0 = .ok (.aload_n 0, 1) := by decide +kernel
theorem dX4_cut_1 : decode cX4_cut 1 = .ok (.iload_n 1, 1) := by decide +kernel
theorem dX4_cut_2 : decode cX4_cut 2 = .ok (.invokevirtual 50, 3) := by decide +kernel
theorem dX4_cut_5 : decode cX4_cut 5 = .ok (.astore_n 2, 1) := by decide +kernel
theorem dX4_cut_6 : decode cX4_cut 6 = .ok (.aload_n 2, 1) := by decide +kernel
theorem dX4_cut_7 : decode cX4_cut 7 = .ok (.ifnull 10, 3) := by decide +kernel
theorem dX4_cut_10 : decode cX4_cut 10 = .ok (.aload_n 2, 1) := by decide +kernel
theorem dX4_cut_11 : decode cX4_cut 11 = .ok (.invokevirtual 66, 3) := by decide +kernel
theorem dX4_cut_14 : decode cX4_cut 14 = .ok (.ifCond .ne 5, 3) := by decide +kernel
theorem dX4_cut_17 : decode cX4_cut 17 = .ok (.iconst (-1), 1) := by decide +kernel
theorem dX4_cut_18 : decode cX4_cut 18 = .ok (.ireturn, 1) := by decide +kernel
theorem dX4_cut_19 : decode cX4_cut 19 = .ok (.aload_n 0, 1) := by decide +kernel
theorem dX4_cut_20 : decode cX4_cut 20 = .ok (.iconst 0, 1) := by decide +kernel
theorem dX4_cut_21 : decode cX4_cut 21 = .ok (.putfield 46, 3) := by decide +kernel
theorem dX4_cut_24 : decode cX4_cut 24 = .ok (.aload_n 2, 1) := by decide +kernel
theorem dX4_cut_25 : decode cX4_cut 25 = .ok (.invokevirtual 70, 3) := by decide +kernel
theorem dX4_cut_28 : decode cX4_cut 28 = .ok (.ireturn, 1) := by decide +kernel
set_option maxRecDepth 20000 in
theorem ggX4_letter_X4_rowOf : GoodIn wsX4_letter wsX4_rowOf := goodIn_r _ [5, 6, 7, 15, 16, 17, 18, 19, 20, 21] (by decide +kernel) (by decide +kernel)
set_option maxRecDepth 20000 in
theorem gX4_letter_X4_rowOf : GoodIn wsX4_letter (wsV RX4 50 RX4 yX4_rowOf wsX4_rowOf) := goodIn_app (goodIn_of _ (by decide +kernel)) ggX4_letter_X4_rowOf
set_option maxRecDepth 20000 in
theorem ggX4_letter_X1_at : GoodIn wsX4_letter wsX1_at := goodIn_r _ [12, 13, 14, 22, 23] (by decide +kernel) (by decide +kernel)
set_option maxRecDepth 20000 in
theorem gX4_letter_X1_at : GoodIn wsX4_letter (wsV RX4 73 RX1 yX1_at wsX1_at) := goodIn_app (goodIn_of _ (by decide +kernel)) ggX4_letter_X1_at
theorem dX4_letter_0 : decode cX4_letter 0 = .ok (.aload_n 0, 1) := by decide +kernel
theorem dX4_letter_1 : decode cX4_letter 1 = .ok (.iload_n 1, 1) := by decide +kernel
theorem dX4_letter_2 : decode cX4_letter 2 = .ok (.invokevirtual 50, 3) := by decide +kernel
theorem dX4_letter_5 : decode cX4_letter 5 = .ok (.astore_n 3, 1) := by decide +kernel
theorem dX4_letter_6 : decode cX4_letter 6 = .ok (.aload_n 3, 1) := by decide +kernel
theorem dX4_letter_7 : decode cX4_letter 7 = .ok (.ifnonnull 7, 3) := by decide +kernel
theorem dX4_letter_10 : decode cX4_letter 10 = .ok (.iconst (-1), 1) := by decide +kernel
theorem dX4_letter_11 : decode cX4_letter 11 = .ok (.goto 8, 3) := by decide +kernel
theorem dX4_letter_14 : decode cX4_letter 14 = .ok (.aload_n 3, 1) := by decide +kernel
theorem dX4_letter_15 : decode cX4_letter 15 = .ok (.iload_n 2, 1) := by decide +kernel
theorem dX4_letter_16 : decode cX4_letter 16 = .ok (.invokevirtual 73, 3) := by decide +kernel
theorem dX4_letter_19 : decode cX4_letter 19 = .ok (.ireturn, 1) := by decide +kernel
set_option maxRecDepth 20000 in
theorem ggX4_seeds_X4_isBetween : GoodIn wsX4_seeds wsX4_isBetween := goodIn_r _ [6] (by decide +kernel) (by decide +kernel)
set_option maxRecDepth 20000 in
theorem gX4_seeds_X4_isBetween : GoodIn wsX4_seeds (va_wsS RX4 54 yX4_isBetween wsX4_isBetween) := goodIn_app (goodIn_of _ (by decide +kernel)) ggX4_seeds_X4_isBetween
set_option maxRecDepth 20000 in
theorem ggX4_seeds_X3_useLength : GoodIn wsX4_seeds wsX3_useLength := goodIn_r _ [11, 12, 20, 21, 22] (by decide +kernel) (by decide +kernel)
set_option maxRecDepth 20000 in
theorem gX4_seeds_X3_useLength : GoodIn wsX4_seeds (wsV RX4 77 RX3 yX3_useLength wsX3_useLength) := goodIn_app (goodIn_of _ (by decide +kernel)) ggX4_seeds_X3_useLength
theorem dX4_seeds_0 : decode cX4_seeds 0 = .ok (.iload_n 1, 1) := by decide +kernel
theorem dX4_seeds_1 : decode cX4_seeds 1 = .ok (.iconst 1, 1) := by decide +kernel
theorem dX4_seeds_2 : decode cX4_seeds 2 = .ok (.bipush 6, 2) := by decide +kernel
theorem dX4_seeds_4 : decode cX4_seeds 4 = .ok (.invokestatic 54, 3) := by decide +kernel
theorem dX4_seeds_7 : decode cX4_seeds 7 = .ok (.ifCond .ne 5, 3) := by decide +kernel
theorem dX4_seeds_10 : decode cX4_seeds 10 = .ok (.iconst 0, 1) := by decide +kernel
theorem dX4_seeds_11 : decode cX4_seeds 11 = .ok (.ireturn, 1) := by decide +kernel
theorem dX4_seeds_12 : decode cX4_seeds 12 = .ok (.aload_n 0, 1) := by decide +kernel
theorem dX4_seeds_13 : decode cX4_seeds 13 = .ok (.iconst 0, 1) := by decide +kernel
theorem dX4_seeds_14 : decode cX4_seeds 14 = .ok (.putfield 46, 3) := by decide +kernel
theorem dX4_seeds_17 : decode cX4_seeds 17 = .ok (.aload_n 0, 1) := by decide +kernel
theorem dX4_seeds_18 : decode cX4_seeds 18 = .ok (.getfield 24, 3) := by decide +kernel
theorem dX4_seeds_21 : decode cX4_seeds 21 = .ok (.iload_n 1, 1) := by decide +kernel
theorem dX4_seeds_22 : decode cX4_seeds 22 = .ok (.invokevirtual 77, 3) := by decide +kernel
theorem dX4_seeds_25 : decode cX4_seeds 25 = .ok (.iconst 1, 1) := by decide +kernel
theorem dX4_seeds_26 : decode cX4_seeds 26 = .ok (.ireturn, 1) := by decide +kernel
set_option maxRecDepth 20000 in
theorem ggX4_penalty_X4_isBetween : GoodIn wsX4_penalty wsX4_isBetween := goodIn_r _ [6] (by decide +kernel) (by decide +kernel)
set_option maxRecDepth 20000 in
theorem gX4_penalty_X4_isBetween : GoodIn wsX4_penalty (va_wsS RX4 54 yX4_isBetween wsX4_isBetween) := goodIn_app (goodIn_of _ (by decide +kernel)) ggX4_penalty_X4_isBetween
theorem dX4_penalty_0 : decode cX4_penalty 0 = .ok (.iload_n 1, 1) := by decide +kernel
theorem dX4_penalty_1 : decode cX4_penalty 1 = .ok (.iconst 0, 1) := by decide +kernel
theorem dX4_penalty_2 : decode cX4_penalty 2 = .ok (.bipush 9, 2) := by decide +kernel
theorem dX4_penalty_4 : decode cX4_penalty 4 = .ok (.invokestatic 54, 3) := by decide +kernel
theorem dX4_penalty_7 : decode cX4_penalty 7 = .ok (.ifCond .ne 5, 3) := by decide +kernel
theorem dX4_penalty_10 : decode cX4_penalty 10 = .ok (.iconst 0, 1) := by decide +kernel
theorem dX4_penalty_11 : decode cX4_penalty 11 = .ok (.ireturn, 1) := by decide +kernel
theorem dX4_penalty_12 : decode cX4_penalty 12 = .ok (.aload_n 0, 1) := by decide +kernel
theorem dX4_penalty_13 : decode cX4_penalty 13 = .ok (.iconst 0, 1) := by decide +kernel
theorem dX4_penalty_14 : decode cX4_penalty 14 = .ok (.putfield 46, 3) := by decide +kernel
theorem dX4_penalty_17 : decode cX4_penalty 17 = .ok (.aload_n 0, 1) := by decide +kernel
theorem dX4_penalty_18 : decode cX4_penalty 18 = .ok (.iload_n 1, 1) := by decide +kernel
theorem dX4_penalty_19 : decode cX4_penalty 19 = .ok (.putfield 42, 3) := by decide +kernel
theorem dX4_penalty_22 : decode cX4_penalty 22 = .ok (.iconst 1, 1) := by decide +kernel
theorem dX4_penalty_23 : decode cX4_penalty 23 = .ok (.ireturn, 1) := by decide +kernel
set_option maxRecDepth 20000 in
theorem ggX4_scores_X4_isBetween : GoodIn wsX4_scores wsX4_isBetween := goodIn_r _ [5] (by decide +kernel) (by decide +kernel)
set_option maxRecDepth 20000 in
theorem gX4_scores_X4_isBetween : GoodIn wsX4_scores (va_wsS RX4 54 yX4_isBetween wsX4_isBetween) := goodIn_app (goodIn_of _ (by decide +kernel)) ggX4_scores_X4_isBetween
set_option maxRecDepth 20000 in
theorem ggX4_scores_X2_useScores : GoodIn wsX4_scores wsX2_useScores := goodIn_r _ [10, 11, 12, 13, 14, 22, 23, 24, 25, 26, 27, 28, 29, 30, 31, 32, 33] (by decide +kernel) (by decide +kernel)
set_option maxRecDepth 20000 in
theorem gX4_scores_X2_useScores : GoodIn wsX4_scores (wsV RX4 80 RX2 yX2_useScores wsX2_useScores) := goodIn_app (goodIn_of _ (by decide +kernel)) ggX4_scores_X2_useScores
theorem dX4_scores_0 : decode cX4_scores 0 = .ok (.iload_n 1, 1) := by decide +kernel
theorem dX4_scores_1 : decode cX4_scores 1 = .ok (.iconst 1, 1) := by decide +kernel
theorem dX4_scores_2 : decode cX4_scores 2 = .ok (.bipush 9, 2) := by decide +kernel
theorem dX4_scores_4 : decode cX4_scores 4 = .ok (.invokestatic 54, 3) := by decide +kernel
theorem dX4_scores_7 : decode cX4_scores 7 = .ok (.ifCond .eq 34, 3) := by decide +kernel
theorem dX4_scores_10 : decode cX4_scores 10 = .ok (.iload_n 2, 1) := by decide +kernel
theorem dX4_scores_11 : decode cX4_scores 11 = .ok (.iconst 0, 1) := by decide +kernel
theorem dX4_scores_12 : decode cX4_scores 12 = .ok (.bipush 9, 2) := by decide +kernel
theorem dX4_scores_14 : decode cX4_scores 14 = .ok (.invokestatic 54, 3) := by decide +kernel
theorem dX4_scores_17 : decode cX4_scores 17 = .ok (.ifCond .eq 24, 3) := by decide +kernel
theorem dX4_scores_20 : decode cX4_scores 20 = .ok (.iload_n 3, 1) := by decide +kernel
theorem dX4_scores_21 : decode cX4_scores 21 = .ok (.iconst 1, 1) := by decide +kernel
theorem dX4_scores_22 : decode cX4_scores 22 = .ok (.bipush 9, 2) := by decide +kernel
theorem dX4_scores_24 : decode cX4_scores 24 = .ok (.invokestatic 54, 3) := by decide +kernel
theorem dX4_scores_27 : decode cX4_scores 27 = .ok (.ifCond .eq 14, 3) := by decide +kernel
theorem dX4_scores_30 : decode cX4_scores 30 = .ok (.iload 4, 2) := by decide +kernel
theorem dX4_scores_32 : decode cX4_scores 32 = .ok (.iconst 0, 1) := by decide +kernel
theorem dX4_scores_33 : decode cX4_scores 33 = .ok (.bipush 99, 2) := by decide +kernel
theorem dX4_scores_35 : decode cX4_scores 35 = .ok (.invokestatic 54, 3) := by decide +kernel
theorem dX4_scores_38 : decode cX4_scores 38 = .ok (.ifCond .ne 5, 3) := by decide +kernel
theorem dX4_scores_41 : decode cX4_scores 41 = .ok (.iconst 0, 1) := by decide +kernel
theorem dX4_scores_42 : decode cX4_scores 42 = .ok (.ireturn, 1) := by decide +kernel
theorem dX4_scores_43 : decode cX4_scores 43 = .ok (.aload_n 0, 1) := by decide +kernel
theorem dX4_scores_44 : decode cX4_scores 44 = .ok (.getfield 38, 3) := by decide +kernel
theorem dX4_scores_47 : decode cX4_scores 47 = .ok (.iload_n 1, 1) := by decide +kernel
theorem dX4_scores_48 : decode cX4_scores 48 = .ok (.iload_n 2, 1) := by decide +kernel
theorem dX4_scores_49 : decode cX4_scores 49 = .ok (.iload_n 3, 1) := by decide +kernel
theorem dX4_scores_50 : decode cX4_scores 50 = .ok (.iload 4, 2) := by decide +kernel
theorem dX4_scores_52 : decode cX4_scores 52 = .ok (.invokevirtual 80, 3) := by decide +kernel
theorem dX4_scores_55 : decode cX4_scores 55 = .ok (.iconst 1, 1) := by decide +kernel
theorem dX4_scores_56 : decode cX4_scores 56 = .ok (.ireturn, 1) := by decide +kernel
set_option maxRecDepth 20000 in
theorem ggX4_anchors_X3_count : GoodIn wsX4_anchors wsX3_count := goodIn_r _ [6, 7, 8, 9, 10, 11, 12, 13, 14, 15, 16, 17, 5, 18, 19, 20, 21, 22, 23, 24, 32, 33, 34, 35, 36] (by decide +kernel) (by decide +kernel)
set_option maxRecDepth 20000 in
theorem gX4_anchors_X3_count : GoodIn wsX4_anchors (wsV RX4 84 RX3 yX3_count wsX3_count) := goodIn_app (goodIn_of _ (by decide +kernel)) ggX4_anchors_X3_count
theorem dX4_anchors_0 : decode cX4_anchors 0 = .ok (.aload_n 0, 1) := by decide +kernel
theorem dX4_anchors_1 : decode cX4_anchors 1 = .ok (.getfield 24, 3) := by decide +kernel
theorem dX4_anchors_4 : decode cX4_anchors 4 = .ok (.invokevirtual 84, 3) := by decide +kernel
theorem dX4_anchors_7 : decode cX4_anchors 7 = .ok (.ireturn, 1) := by decide +kernel
set_option maxRecDepth 20000 in
theorem ggX4_anchor_X3_pairAt : GoodIn wsX4_anchor wsX3_pairAt := goodIn_r _ [6, 7, 8, 9, 10, 11, 12, 13, 14, 15, 16, 17, 5, 18, 19, 20, 21, 22, 23, 24, 25, 26, 27, 41, 42, 43, 44, 45] (by decide +kernel) (by decide +kernel)
set_option maxRecDepth 20000 in
theorem gX4_anchor_X3_pairAt : GoodIn wsX4_anchor (wsV RX4 87 RX3 yX3_pairAt wsX3_pairAt) := goodIn_app (goodIn_of _ (by decide +kernel)) ggX4_anchor_X3_pairAt
set_option maxRecDepth 20000 in
theorem ggX4_anchor_X4_placeOf : GoodIn wsX4_anchor wsX4_placeOf := goodIn_r _ [30, 31, 32, 26, 33] (by decide +kernel) (by decide +kernel)
set_option maxRecDepth 20000 in
theorem gX4_anchor_X4_placeOf : GoodIn wsX4_anchor (va_wsS RX4 90 yX4_placeOf wsX4_placeOf) := goodIn_app (goodIn_of _ (by decide +kernel)) ggX4_anchor_X4_placeOf
theorem dX4_anchor_0 : decode cX4_anchor 0 = .ok (.aload_n 0, 1) := by decide +kernel
theorem dX4_anchor_1 : decode cX4_anchor 1 = .ok (.getfield 24, 3) := by decide +kernel
theorem dX4_anchor_4 : decode cX4_anchor 4 = .ok (.iload_n 1, 1) := by decide +kernel
theorem dX4_anchor_5 : decode cX4_anchor 5 = .ok (.invokevirtual 87, 3) := by decide +kernel
theorem dX4_anchor_8 : decode cX4_anchor 8 = .ok (.iload_n 2, 1) := by decide +kernel
theorem dX4_anchor_9 : decode cX4_anchor 9 = .ok (.invokestatic 90, 3) := by decide +kernel
theorem dX4_anchor_12 : decode cX4_anchor 12 = .ok (.ireturn, 1) := by decide +kernel
set_option maxRecDepth 20000 in
theorem ggX4_chain_X4_freshBest : GoodIn wsX4_chain wsX4_freshBest := goodIn_r _ [5, 6, 7, 8, 9, 10, 11, 12, 13, 14, 15, 16, 17, 18, 19, 20, 21, 22, 23, 24, 25, 26, 27, 28, 29, 30, 31, 32, 33, 34, 35, 36, 37, 38, 39, 40, 41, 42, 43, 44, 45, 46, 47, 48, 49, 50] (by decide +kernel) (by decide +kernel)
set_option maxRecDepth 20000 in
theorem gX4_chain_X4_freshBest : GoodIn wsX4_chain (wsV RX4 94 RX4 yX4_freshBest wsX4_freshBest) := goodIn_app (goodIn_of _ (by decide +kernel)) ggX4_chain_X4_freshBest
theorem dX4_chain_0 : decode cX4_chain 0 = .ok (.aload_n 0, 1) := by decide +kernel
theorem dX4_chain_1 : decode cX4_chain 1 = .ok (.invokevirtual 94, 3) := by decide +kernel
theorem dX4_chain_4 : decode cX4_chain 4 = .ok (.invokevirtual 98, 3) := by decide +kernel
theorem dX4_chain_7 : decode cX4_chain 7 = .ok (.ireturn, 1) := by decide +kernel
theorem dX4_rowOf_0 : decode cX4_rowOf 0 = .ok (.iload_n 1, 1) := by decide +kernel
theorem dX4_rowOf_1 : decode cX4_rowOf 1 = .ok (.ifCond .ne 8, 3) := by decide +kernel
theorem dX4_rowOf_4 : decode cX4_rowOf 4 = .ok (.aload_n 0, 1) := by decide +kernel
theorem dX4_rowOf_5 : decode cX4_rowOf 5 = .ok (.getfield 10, 3) := by decide +kernel
theorem dX4_rowOf_8 : decode cX4_rowOf 8 = .ok (.areturn, 1) := by decide +kernel
theorem dX4_rowOf_9 : decode cX4_rowOf 9 = .ok (.iload_n 1, 1) := by decide +kernel
theorem dX4_rowOf_10 : decode cX4_rowOf 10 = .ok (.iconst 1, 1) := by decide +kernel
theorem dX4_rowOf_11 : decode cX4_rowOf 11 = .ok (.if_icmp .ne 10, 3) := by decide +kernel
theorem dX4_rowOf_14 : decode cX4_rowOf 14 = .ok (.aload_n 0, 1) := by decide +kernel
theorem dX4_rowOf_15 : decode cX4_rowOf 15 = .ok (.getfield 16, 3) := by decide +kernel
theorem dX4_rowOf_18 : decode cX4_rowOf 18 = .ok (.goto 4, 3) := by decide +kernel
theorem dX4_rowOf_21 : decode cX4_rowOf 21 = .ok (.aconst_null, 1) := by decide +kernel
theorem dX4_rowOf_22 : decode cX4_rowOf 22 = .ok (.areturn, 1) := by decide +kernel
set_option maxRecDepth 20000 in
theorem ggX4_freshBest_X0_find : GoodIn wsX4_freshBest wsX0_find := goodIn_r _ [9, 10, 11, 12, 13, 14, 15, 8, 16, 17, 18, 19, 20, 21, 22, 23, 24, 25, 26, 27, 28, 29, 37, 38, 39, 40, 41, 42, 43, 44, 45] (by decide +kernel) (by decide +kernel)
set_option maxRecDepth 20000 in
theorem gX4_freshBest_X0_find : GoodIn wsX4_freshBest (wsV RX4 113 RX0 yX0_find wsX0_find) := goodIn_app (goodIn_of _ (by decide +kernel)) ggX4_freshBest_X0_find
theorem dX4_freshBest_0 : decode cX4_freshBest 0 = .ok (.aload_n 0, 1) := by decide +kernel
theorem dX4_freshBest_1 : decode cX4_freshBest 1 = .ok (.getfield 46, 3) := by decide +kernel
theorem dX4_freshBest_4 : decode cX4_freshBest 4 = .ok (.ifCond .ne 23, 3) := by decide +kernel
theorem dX4_freshBest_7 : decode cX4_freshBest 7 = .ok (.aload_n 0, 1) := by decide +kernel
theorem dX4_freshBest_8 : decode cX4_freshBest 8 = .ok (.getfield 31, 3) := by decide +kernel
theorem dX4_freshBest_11 : decode cX4_freshBest 11 = .ok (.aload_n 0, 1) := by decide +kernel
theorem dX4_freshBest_12 : decode cX4_freshBest 12 = .ok (.getfield 24, 3) := by decide +kernel
theorem dX4_freshBest_15 : decode cX4_freshBest 15 = .ok (.aload_n 0, 1) := by decide +kernel
theorem dX4_freshBest_16 : decode cX4_freshBest 16 = .ok (.getfield 42, 3) := by decide +kernel
theorem dX4_freshBest_19 : decode cX4_freshBest 19 = .ok (.invokevirtual 113, 3) := by decide +kernel
theorem dX4_freshBest_22 : decode cX4_freshBest 22 = .ok (.aload_n 0, 1) := by decide +kernel
theorem dX4_freshBest_23 : decode cX4_freshBest 23 = .ok (.iconst 1, 1) := by decide +kernel
theorem dX4_freshBest_24 : decode cX4_freshBest 24 = .ok (.putfield 46, 3) := by decide +kernel
theorem dX4_freshBest_27 : decode cX4_freshBest 27 = .ok (.aload_n 0, 1) := by decide +kernel
theorem dX4_freshBest_28 : decode cX4_freshBest 28 = .ok (.getfield 31, 3) := by decide +kernel
theorem dX4_freshBest_31 : decode cX4_freshBest 31 = .ok (.areturn, 1) := by decide +kernel
theorem dX4_isBetween_0 : decode cX4_isBetween 0 = .ok (.iload_n 0, 1) := by decide +kernel
theorem dX4_isBetween_1 : decode cX4_isBetween 1 = .ok (.iload_n 1, 1) := by decide +kernel
theorem dX4_isBetween_2 : decode cX4_isBetween 2 = .ok (.if_icmp .lt 12, 3) := by decide +kernel
theorem dX4_isBetween_5 : decode cX4_isBetween 5 = .ok (.iload_n 0, 1) := by decide +kernel
theorem dX4_isBetween_6 : decode cX4_isBetween 6 = .ok (.iload_n 2, 1) := by decide +kernel
theorem dX4_isBetween_7 : decode cX4_isBetween 7 = .ok (.if_icmp .gt 7, 3) := by decide +kernel
theorem dX4_isBetween_10 : decode cX4_isBetween 10 = .ok (.iconst 1, 1) := by decide +kernel
theorem dX4_isBetween_11 : decode cX4_isBetween 11 = .ok (.goto 4, 3) := by decide +kernel
theorem dX4_isBetween_14 : decode cX4_isBetween 14 = .ok (.iconst 0, 1) := by decide +kernel
theorem dX4_isBetween_15 : decode cX4_isBetween 15 = .ok (.ireturn, 1) := by decide +kernel
theorem dX4_pairOf_0 : decode cX4_pairOf 0 = .ok (.iload_n 0, 1) := by decide +kernel
theorem dX4_pairOf_1 : decode cX4_pairOf 1 = .ok (.bipush 48, 2) := by decide +kernel
theorem dX4_pairOf_3 : decode cX4_pairOf 3 = .ok (.imul, 1) := by decide +kernel
theorem dX4_pairOf_4 : decode cX4_pairOf 4 = .ok (.iload_n 1, 1) := by decide +kernel
theorem dX4_pairOf_5 : decode cX4_pairOf 5 = .ok (.iadd, 1) := by decide +kernel
theorem dX4_pairOf_6 : decode cX4_pairOf 6 = .ok (.ireturn, 1) := by decide +kernel
set_option maxRecDepth 20000 in
theorem ggX4_placeOf_X4_isBetween : GoodIn wsX4_placeOf wsX4_isBetween := goodIn_r _ [4] (by decide +kernel) (by decide +kernel)
set_option maxRecDepth 20000 in
theorem gX4_placeOf_X4_isBetween : GoodIn wsX4_placeOf (va_wsS RX4 54 yX4_isBetween wsX4_isBetween) := goodIn_app (goodIn_of _ (by decide +kernel)) ggX4_placeOf_X4_isBetween
theorem dX4_placeOf_0 : decode cX4_placeOf 0 = .ok (.iload_n 0, 1) := by decide +kernel
theorem dX4_placeOf_1 : decode cX4_placeOf 1 = .ok (.iconst (-1), 1) := by decide +kernel
theorem dX4_placeOf_2 : decode cX4_placeOf 2 = .ok (.if_icmp .eq 12, 3) := by decide +kernel
theorem dX4_placeOf_5 : decode cX4_placeOf 5 = .ok (.iload_n 1, 1) := by decide +kernel
theorem dX4_placeOf_6 : decode cX4_placeOf 6 = .ok (.iconst 0, 1) := by decide +kernel
theorem dX4_placeOf_7 : decode cX4_placeOf 7 = .ok (.iconst 1, 1) := by decide +kernel
theorem dX4_placeOf_8 : decode cX4_placeOf 8 = .ok (.invokestatic 54, 3) := by decide +kernel
theorem dX4_placeOf_11 : decode cX4_placeOf 11 = .ok (.ifCond .ne 5, 3) := by decide +kernel
theorem dX4_placeOf_14 : decode cX4_placeOf 14 = .ok (.iconst (-1), 1) := by decide +kernel
theorem dX4_placeOf_15 : decode cX4_placeOf 15 = .ok (.ireturn, 1) := by decide +kernel
theorem dX4_placeOf_16 : decode cX4_placeOf 16 = .ok (.iload_n 1, 1) := by decide +kernel
theorem dX4_placeOf_17 : decode cX4_placeOf 17 = .ok (.ifCond .ne 10, 3) := by decide +kernel
theorem dX4_placeOf_20 : decode cX4_placeOf 20 = .ok (.iload_n 0, 1) := by decide +kernel
theorem dX4_placeOf_21 : decode cX4_placeOf 21 = .ok (.bipush 48, 2) := by decide +kernel
theorem dX4_placeOf_23 : decode cX4_placeOf 23 = .ok (.idiv, 1) := by decide +kernel
theorem dX4_placeOf_24 : decode cX4_placeOf 24 = .ok (.goto 7, 3) := by decide +kernel
theorem dX4_placeOf_27 : decode cX4_placeOf 27 = .ok (.iload_n 0, 1) := by decide +kernel
theorem dX4_placeOf_28 : decode cX4_placeOf 28 = .ok (.bipush 48, 2) := by decide +kernel
theorem dX4_placeOf_30 : decode cX4_placeOf 30 = .ok (.irem, 1) := by decide +kernel
theorem dX4_placeOf_31 : decode cX4_placeOf 31 = .ok (.ireturn, 1) := by decide +kernel
set_option maxRecDepth 20000 in
theorem ggL_law_X4_init : GoodIn wsL_law wsX4_init := goodIn_r _ [5, 6, 7, 8, 9, 10, 11, 12, 13, 14, 15, 16, 17, 18, 19, 20, 21, 22, 23, 24, 25, 26, 27, 28, 29, 30, 31, 32, 33, 34, 35, 36, 37, 38, 39, 40, 41, 42, 43, 44, 45, 46, 47, 48, 49, 50, 51, 52, 53, 54, 55, 56, 57, 58, 59, 60, 61, 62, 177, 178, 170, 171, 172, 173, 174, 175, 176, 179, 180, 181, 182, 183, 184, 185, 186, 187, 188, 189, 190, 191, 192, 193, 194, 195, 196, 197] (by decide +kernel) (by decide +kernel)
set_option maxRecDepth 20000 in
theorem gL_law_X4_init : GoodIn wsL_law (wsX4_init) := ggL_law_X4_init
set_option maxRecDepth 20000 in
theorem ggL_law_X4_put : GoodIn wsL_law wsX4_put := goodIn_r _ [66, 27, 67, 68, 69, 2, 70, 12, 13, 71, 72, 73, 74, 75, 76, 11, 77, 33, 78, 79, 80, 81, 32, 82, 83, 84, 85, 86, 170, 171, 172, 173, 174, 175, 176, 177, 178] (by decide +kernel) (by decide +kernel)
set_option maxRecDepth 20000 in
theorem gL_law_X4_put : GoodIn wsL_law (wsV RL 13 RX4 yX4_put wsX4_put) := goodIn_app (goodIn_of _ (by decide +kernel)) ggL_law_X4_put
set_option maxRecDepth 20000 in
theorem ggL_law_X4_cut : GoodIn wsL_law wsX4_cut := goodIn_r _ [90, 27, 67, 68, 69, 2, 70, 12, 13, 83, 84, 85, 11, 86, 33, 91, 92, 93, 94, 32, 170, 171, 172, 173, 174, 175, 176, 177, 178] (by decide +kernel) (by decide +kernel)
set_option maxRecDepth 20000 in
theorem gL_law_X4_cut : GoodIn wsL_law (wsV RL 18 RX4 yX4_cut wsX4_cut) := goodIn_app (goodIn_of _ (by decide +kernel)) ggL_law_X4_cut
set_option maxRecDepth 20000 in
theorem ggL_law_X4_letter : GoodIn wsL_law wsX4_letter := goodIn_r _ [98, 67, 68, 69, 2, 70, 12, 13, 99, 100, 101, 11, 102, 33, 32, 170, 171, 172, 173, 174, 175, 176, 177, 178] (by decide +kernel) (by decide +kernel)
set_option maxRecDepth 20000 in
theorem gL_law_X4_letter : GoodIn wsL_law (wsV RL 23 RX4 yX4_letter wsX4_letter) := goodIn_app (goodIn_of _ (by decide +kernel)) ggL_law_X4_letter
set_option maxRecDepth 20000 in
theorem ggL_law_X4_seeds : GoodIn wsL_law wsX4_seeds := goodIn_r _ [106, 27, 17, 71, 72, 2, 73, 107, 108, 109, 16, 110, 38, 170, 171, 172, 173, 174, 175, 176, 179, 180, 181] (by decide +kernel) (by decide +kernel)
set_option maxRecDepth 20000 in
theorem gL_law_X4_seeds : GoodIn wsL_law (wsV RL 27 RX4 yX4_seeds wsX4_seeds) := goodIn_app (goodIn_of _ (by decide +kernel)) ggL_law_X4_seeds
set_option maxRecDepth 20000 in
theorem ggL_law_X4_penalty : GoodIn wsL_law wsX4_penalty := goodIn_r _ [114, 27, 26, 71, 72, 2, 73, 170, 171, 172, 173, 174, 175, 176] (by decide +kernel) (by decide +kernel)
set_option maxRecDepth 20000 in
theorem gL_law_X4_penalty : GoodIn wsL_law (wsV RL 32 RX4 yX4_penalty wsX4_penalty) := goodIn_app (goodIn_of _ (by decide +kernel)) ggL_law_X4_penalty
set_option maxRecDepth 20000 in
theorem ggL_law_X4_scores : GoodIn wsL_law wsX4_scores := goodIn_r _ [118, 25, 71, 72, 2, 73, 119, 120, 121, 24, 122, 51, 52, 53, 54, 170, 171, 172, 173, 174, 175, 176, 186, 187, 188, 189, 190, 191, 192, 193, 194, 195, 196, 197] (by decide +kernel) (by decide +kernel)
set_option maxRecDepth 20000 in
theorem gL_law_X4_scores : GoodIn wsL_law (wsV RL 36 RX4 yX4_scores wsX4_scores) := goodIn_app (goodIn_of _ (by decide +kernel)) ggL_law_X4_scores
set_option maxRecDepth 20000 in
theorem ggL_law_X4_anchors : GoodIn wsL_law wsX4_anchors := goodIn_r _ [126, 17, 127, 128, 129, 16, 130, 39, 40, 131, 84, 85, 11, 86, 33, 132, 133, 134, 135, 38, 136, 100, 101, 102, 32, 170, 171, 172, 173, 174, 175, 176, 179, 180, 181, 177, 178] (by decide +kernel) (by decide +kernel)
set_option maxRecDepth 20000 in
theorem gL_law_X4_anchors : GoodIn wsL_law (wsV RL 41 RX4 yX4_anchors wsX4_anchors) := goodIn_app (goodIn_of _ (by decide +kernel)) ggL_law_X4_anchors
set_option maxRecDepth 20000 in
theorem ggL_law_X4_anchor : GoodIn wsL_law wsX4_anchor := goodIn_r _ [140, 17, 141, 142, 143, 16, 144, 39, 40, 131, 84, 85, 11, 86, 33, 132, 133, 134, 135, 38, 136, 100, 101, 102, 32, 145, 2, 146, 147, 148, 149, 71, 72, 73, 170, 171, 172, 173, 174, 175, 176, 179, 180, 181, 177, 178] (by decide +kernel) (by decide +kernel)
set_option maxRecDepth 20000 in
theorem gL_law_X4_anchor : GoodIn wsL_law (wsV RL 46 RX4 yX4_anchor wsX4_anchor) := goodIn_app (goodIn_of _ (by decide +kernel)) ggL_law_X4_anchor
set_option maxRecDepth 20000 in
theorem ggL_law_X4_chain : GoodIn wsL_law wsX4_chain := goodIn_r _ [153, 154, 155, 156, 2, 157, 27, 21, 17, 26, 158, 159, 160, 20, 161, 46, 47, 45, 162, 163, 164, 165, 44, 166, 167, 168, 16, 169, 39, 131, 84, 85, 11, 86, 33, 170, 171, 172, 173, 174, 175, 176, 182, 183, 184, 185, 179, 180, 181, 177, 178] (by decide +kernel) (by decide +kernel)
set_option maxRecDepth 20000 in
theorem gL_law_X4_chain : GoodIn wsL_law (wsV RL 50 RX4 yX4_chain wsX4_chain) := goodIn_app (goodIn_of _ (by decide +kernel)) ggL_law_X4_chain
theorem dL_law_0 : decode cL_law 0 = .ok (.new 7, 3) := by decide +kernel
theorem dL_law_3 : decode cL_law 3 = .ok (.dup, 1) := by decide +kernel
theorem dL_law_4 : decode cL_law 4 = .ok (.invokespecial 9, 3) := by decide +kernel
theorem dL_law_7 : decode cL_law 7 = .ok (.astore_n 1, 1) := by decide +kernel
theorem dL_law_8 : decode cL_law 8 = .ok (.new 10, 3) := by decide +kernel
theorem dL_law_11 : decode cL_law 11 = .ok (.dup, 1) := by decide +kernel
theorem dL_law_12 : decode cL_law 12 = .ok (.invokespecial 12, 3) := by decide +kernel
theorem dL_law_15 : decode cL_law 15 = .ok (.astore_n 2, 1) := by decide +kernel
theorem dL_law_16 : decode cL_law 16 = .ok (.iconst 0, 1) := by decide +kernel
theorem dL_law_17 : decode cL_law 17 = .ok (.istore_n 3, 1) := by decide +kernel
theorem dL_law_18 : decode cL_law 18 = .ok (.iload_n 3, 1) := by decide +kernel
theorem dL_law_19 : decode cL_law 19 = .ok (.aload_n 0, 1) := by decide +kernel
theorem dL_law_20 : decode cL_law 20 = .ok (.arraylength, 1) := by decide +kernel
theorem dL_law_21 : decode cL_law 21 = .ok (.iconst 5, 1) := by decide +kernel
theorem dL_law_22 : decode cL_law 22 = .ok (.isub, 1) := by decide +kernel
theorem dL_law_23 : decode cL_law 23 = .ok (.if_icmp .gt 432, 3) := by decide +kernel
theorem dL_law_26 : decode cL_law 26 = .ok (.aload_n 0, 1) := by decide +kernel
theorem dL_law_27 : decode cL_law 27 = .ok (.iload_n 3, 1) := by decide +kernel
theorem dL_law_28 : decode cL_law 28 = .ok (.iaload, 1) := by decide +kernel
theorem dL_law_29 : decode cL_law 29 = .ok (.bipush 15, 2) := by decide +kernel
theorem dL_law_31 : decode cL_law 31 = .ok (.iand, 1) := by decide +kernel
theorem dL_law_32 : decode cL_law 32 = .ok (.tableswitch 417 0 12 #[68, 101, 124, 157, 180, 203, 256, 269, 302, 315, 328, 361, 394], 68) := by decide +kernel
theorem dL_law_100 : decode cL_law 100 = .ok (.aload_n 1, 1) := by decide +kernel
theorem dL_law_101 : decode cL_law 101 = .ok (.aload_n 0, 1) := by decide +kernel
theorem dL_law_102 : decode cL_law 102 = .ok (.iload_n 3, 1) := by decide +kernel
theorem dL_law_103 : decode cL_law 103 = .ok (.iconst 1, 1) := by decide +kernel
theorem dL_law_104 : decode cL_law 104 = .ok (.iadd, 1) := by decide +kernel
theorem dL_law_105 : decode cL_law 105 = .ok (.iaload, 1) := by decide +kernel
theorem dL_law_106 : decode cL_law 106 = .ok (.aload_n 0, 1) := by decide +kernel
theorem dL_law_107 : decode cL_law 107 = .ok (.iload_n 3, 1) := by decide +kernel
theorem dL_law_108 : decode cL_law 108 = .ok (.iconst 2, 1) := by decide +kernel
theorem dL_law_109 : decode cL_law 109 = .ok (.iadd, 1) := by decide +kernel
theorem dL_law_110 : decode cL_law 110 = .ok (.iaload, 1) := by decide +kernel
theorem dL_law_111 : decode cL_law 111 = .ok (.invokevirtual 13, 3) := by decide +kernel
theorem dL_law_114 : decode cL_law 114 = .ok (.aload_n 2, 1) := by decide +kernel
theorem dL_law_115 : decode cL_law 115 = .ok (.aload_n 0, 1) := by decide +kernel
theorem dL_law_116 : decode cL_law 116 = .ok (.iload_n 3, 1) := by decide +kernel
theorem dL_law_117 : decode cL_law 117 = .ok (.iconst 1, 1) := by decide +kernel
theorem dL_law_118 : decode cL_law 118 = .ok (.iadd, 1) := by decide +kernel
theorem dL_law_119 : decode cL_law 119 = .ok (.iaload, 1) := by decide +kernel
theorem dL_law_120 : decode cL_law 120 = .ok (.aload_n 0, 1) := by decide +kernel
theorem dL_law_121 : decode cL_law 121 = .ok (.iload_n 3, 1) := by decide +kernel
theorem dL_law_122 : decode cL_law 122 = .ok (.iconst 2, 1) := by decide +kernel
theorem dL_law_123 : decode cL_law 123 = .ok (.iadd, 1) := by decide +kernel
theorem dL_law_124 : decode cL_law 124 = .ok (.iaload, 1) := by decide +kernel
theorem dL_law_125 : decode cL_law 125 = .ok (.invokevirtual 17, 3) := by decide +kernel
theorem dL_law_128 : decode cL_law 128 = .ok (.if_icmp .eq 321, 3) := by decide +kernel
theorem dL_law_131 : decode cL_law 131 = .ok (.iconst 0, 1) := by decide +kernel
theorem dL_law_132 : decode cL_law 132 = .ok (.ireturn, 1) := by decide +kernel
theorem dL_law_133 : decode cL_law 133 = .ok (.aload_n 1, 1) := by decide +kernel
theorem dL_law_134 : decode cL_law 134 = .ok (.aload_n 0, 1) := by decide +kernel
theorem dL_law_135 : decode cL_law 135 = .ok (.iload_n 3, 1) := by decide +kernel
theorem dL_law_136 : decode cL_law 136 = .ok (.iconst 1, 1) := by decide +kernel
theorem dL_law_137 : decode cL_law 137 = .ok (.iadd, 1) := by decide +kernel
theorem dL_law_138 : decode cL_law 138 = .ok (.iaload, 1) := by decide +kernel
theorem dL_law_139 : decode cL_law 139 = .ok (.invokevirtual 18, 3) := by decide +kernel
theorem dL_law_142 : decode cL_law 142 = .ok (.aload_n 2, 1) := by decide +kernel
theorem dL_law_143 : decode cL_law 143 = .ok (.aload_n 0, 1) := by decide +kernel
theorem dL_law_144 : decode cL_law 144 = .ok (.iload_n 3, 1) := by decide +kernel
theorem dL_law_145 : decode cL_law 145 = .ok (.iconst 1, 1) := by decide +kernel
theorem dL_law_146 : decode cL_law 146 = .ok (.iadd, 1) := by decide +kernel
theorem dL_law_147 : decode cL_law 147 = .ok (.iaload, 1) := by decide +kernel
theorem dL_law_148 : decode cL_law 148 = .ok (.invokevirtual 22, 3) := by decide +kernel
theorem dL_law_151 : decode cL_law 151 = .ok (.if_icmp .eq 298, 3) := by decide +kernel
theorem dL_law_154 : decode cL_law 154 = .ok (.iconst 0, 1) := by decide +kernel
theorem dL_law_155 : decode cL_law 155 = .ok (.ireturn, 1) := by decide +kernel
theorem dL_law_156 : decode cL_law 156 = .ok (.aload_n 1, 1) := by decide +kernel
theorem dL_law_157 : decode cL_law 157 = .ok (.aload_n 0, 1) := by decide +kernel
theorem dL_law_158 : decode cL_law 158 = .ok (.iload_n 3, 1) := by decide +kernel
theorem dL_law_159 : decode cL_law 159 = .ok (.iconst 1, 1) := by decide +kernel
theorem dL_law_160 : decode cL_law 160 = .ok (.iadd, 1) := by decide +kernel
theorem dL_law_161 : decode cL_law 161 = .ok (.iaload, 1) := by decide +kernel
theorem dL_law_162 : decode cL_law 162 = .ok (.aload_n 0, 1) := by decide +kernel
theorem dL_law_163 : decode cL_law 163 = .ok (.iload_n 3, 1) := by decide +kernel
theorem dL_law_164 : decode cL_law 164 = .ok (.iconst 2, 1) := by decide +kernel
theorem dL_law_165 : decode cL_law 165 = .ok (.iadd, 1) := by decide +kernel
theorem dL_law_166 : decode cL_law 166 = .ok (.iaload, 1) := by decide +kernel
theorem dL_law_167 : decode cL_law 167 = .ok (.invokevirtual 23, 3) := by decide +kernel
theorem dL_law_170 : decode cL_law 170 = .ok (.aload_n 2, 1) := by decide +kernel
theorem dL_law_171 : decode cL_law 171 = .ok (.aload_n 0, 1) := by decide +kernel
theorem dL_law_172 : decode cL_law 172 = .ok (.iload_n 3, 1) := by decide +kernel
theorem dL_law_173 : decode cL_law 173 = .ok (.iconst 1, 1) := by decide +kernel
theorem dL_law_174 : decode cL_law 174 = .ok (.iadd, 1) := by decide +kernel
theorem dL_law_175 : decode cL_law 175 = .ok (.iaload, 1) := by decide +kernel
theorem dL_law_176 : decode cL_law 176 = .ok (.aload_n 0, 1) := by decide +kernel
theorem dL_law_177 : decode cL_law 177 = .ok (.iload_n 3, 1) := by decide +kernel
theorem dL_law_178 : decode cL_law 178 = .ok (.iconst 2, 1) := by decide +kernel
theorem dL_law_179 : decode cL_law 179 = .ok (.iadd, 1) := by decide +kernel
theorem dL_law_180 : decode cL_law 180 = .ok (.iaload, 1) := by decide +kernel
theorem dL_law_181 : decode cL_law 181 = .ok (.invokevirtual 26, 3) := by decide +kernel
theorem dL_law_184 : decode cL_law 184 = .ok (.if_icmp .eq 265, 3) := by decide +kernel
theorem dL_law_187 : decode cL_law 187 = .ok (.iconst 0, 1) := by decide +kernel
theorem dL_law_188 : decode cL_law 188 = .ok (.ireturn, 1) := by decide +kernel
theorem dL_law_189 : decode cL_law 189 = .ok (.aload_n 1, 1) := by decide +kernel
theorem dL_law_190 : decode cL_law 190 = .ok (.aload_n 0, 1) := by decide +kernel
theorem dL_law_191 : decode cL_law 191 = .ok (.iload_n 3, 1) := by decide +kernel
theorem dL_law_192 : decode cL_law 192 = .ok (.iconst 1, 1) := by decide +kernel
theorem dL_law_193 : decode cL_law 193 = .ok (.iadd, 1) := by decide +kernel
theorem dL_law_194 : decode cL_law 194 = .ok (.iaload, 1) := by decide +kernel
theorem dL_law_195 : decode cL_law 195 = .ok (.invokevirtual 27, 3) := by decide +kernel
theorem dL_law_198 : decode cL_law 198 = .ok (.aload_n 2, 1) := by decide +kernel
theorem dL_law_199 : decode cL_law 199 = .ok (.aload_n 0, 1) := by decide +kernel
theorem dL_law_200 : decode cL_law 200 = .ok (.iload_n 3, 1) := by decide +kernel
theorem dL_law_201 : decode cL_law 201 = .ok (.iconst 1, 1) := by decide +kernel
theorem dL_law_202 : decode cL_law 202 = .ok (.iadd, 1) := by decide +kernel
theorem dL_law_203 : decode cL_law 203 = .ok (.iaload, 1) := by decide +kernel
theorem dL_law_204 : decode cL_law 204 = .ok (.invokevirtual 31, 3) := by decide +kernel
theorem dL_law_207 : decode cL_law 207 = .ok (.if_icmp .eq 242, 3) := by decide +kernel
theorem dL_law_210 : decode cL_law 210 = .ok (.iconst 0, 1) := by decide +kernel
theorem dL_law_211 : decode cL_law 211 = .ok (.ireturn, 1) := by decide +kernel
theorem dL_law_212 : decode cL_law 212 = .ok (.aload_n 1, 1) := by decide +kernel
theorem dL_law_213 : decode cL_law 213 = .ok (.aload_n 0, 1) := by decide +kernel
theorem dL_law_214 : decode cL_law 214 = .ok (.iload_n 3, 1) := by decide +kernel
theorem dL_law_215 : decode cL_law 215 = .ok (.iconst 1, 1) := by decide +kernel
theorem dL_law_216 : decode cL_law 216 = .ok (.iadd, 1) := by decide +kernel
theorem dL_law_217 : decode cL_law 217 = .ok (.iaload, 1) := by decide +kernel
theorem dL_law_218 : decode cL_law 218 = .ok (.invokevirtual 32, 3) := by decide +kernel
theorem dL_law_221 : decode cL_law 221 = .ok (.aload_n 2, 1) := by decide +kernel
theorem dL_law_222 : decode cL_law 222 = .ok (.aload_n 0, 1) := by decide +kernel
theorem dL_law_223 : decode cL_law 223 = .ok (.iload_n 3, 1) := by decide +kernel
theorem dL_law_224 : decode cL_law 224 = .ok (.iconst 1, 1) := by decide +kernel
theorem dL_law_225 : decode cL_law 225 = .ok (.iadd, 1) := by decide +kernel
theorem dL_law_226 : decode cL_law 226 = .ok (.iaload, 1) := by decide +kernel
theorem dL_law_227 : decode cL_law 227 = .ok (.invokevirtual 35, 3) := by decide +kernel
theorem dL_law_230 : decode cL_law 230 = .ok (.if_icmp .eq 219, 3) := by decide +kernel
theorem dL_law_233 : decode cL_law 233 = .ok (.iconst 0, 1) := by decide +kernel
theorem dL_law_234 : decode cL_law 234 = .ok (.ireturn, 1) := by decide +kernel
theorem dL_law_235 : decode cL_law 235 = .ok (.aload_n 1, 1) := by decide +kernel
theorem dL_law_236 : decode cL_law 236 = .ok (.aload_n 0, 1) := by decide +kernel
theorem dL_law_237 : decode cL_law 237 = .ok (.iload_n 3, 1) := by decide +kernel
theorem dL_law_238 : decode cL_law 238 = .ok (.iconst 1, 1) := by decide +kernel
theorem dL_law_239 : decode cL_law 239 = .ok (.iadd, 1) := by decide +kernel
theorem dL_law_240 : decode cL_law 240 = .ok (.iaload, 1) := by decide +kernel
theorem dL_law_241 : decode cL_law 241 = .ok (.aload_n 0, 1) := by decide +kernel
theorem dL_law_242 : decode cL_law 242 = .ok (.iload_n 3, 1) := by decide +kernel
theorem dL_law_243 : decode cL_law 243 = .ok (.iconst 2, 1) := by decide +kernel
theorem dL_law_244 : decode cL_law 244 = .ok (.iadd, 1) := by decide +kernel
theorem dL_law_245 : decode cL_law 245 = .ok (.iaload, 1) := by decide +kernel
theorem dL_law_246 : decode cL_law 246 = .ok (.aload_n 0, 1) := by decide +kernel
theorem dL_law_247 : decode cL_law 247 = .ok (.iload_n 3, 1) := by decide +kernel
theorem dL_law_248 : decode cL_law 248 = .ok (.iconst 3, 1) := by decide +kernel
theorem dL_law_249 : decode cL_law 249 = .ok (.iadd, 1) := by decide +kernel
theorem dL_law_250 : decode cL_law 250 = .ok (.iaload, 1) := by decide +kernel
theorem dL_law_251 : decode cL_law 251 = .ok (.aload_n 0, 1) := by decide +kernel
theorem dL_law_252 : decode cL_law 252 = .ok (.iload_n 3, 1) := by decide +kernel
theorem dL_law_253 : decode cL_law 253 = .ok (.iconst 4, 1) := by decide +kernel
theorem dL_law_254 : decode cL_law 254 = .ok (.iadd, 1) := by decide +kernel
theorem dL_law_255 : decode cL_law 255 = .ok (.iaload, 1) := by decide +kernel
theorem dL_law_256 : decode cL_law 256 = .ok (.invokevirtual 36, 3) := by decide +kernel
theorem dL_law_259 : decode cL_law 259 = .ok (.aload_n 2, 1) := by decide +kernel
theorem dL_law_260 : decode cL_law 260 = .ok (.aload_n 0, 1) := by decide +kernel
theorem dL_law_261 : decode cL_law 261 = .ok (.iload_n 3, 1) := by decide +kernel
theorem dL_law_262 : decode cL_law 262 = .ok (.iconst 1, 1) := by decide +kernel
theorem dL_law_263 : decode cL_law 263 = .ok (.iadd, 1) := by decide +kernel
theorem dL_law_264 : decode cL_law 264 = .ok (.iaload, 1) := by decide +kernel
theorem dL_law_265 : decode cL_law 265 = .ok (.aload_n 0, 1) := by decide +kernel
theorem dL_law_266 : decode cL_law 266 = .ok (.iload_n 3, 1) := by decide +kernel
theorem dL_law_267 : decode cL_law 267 = .ok (.iconst 2, 1) := by decide +kernel
theorem dL_law_268 : decode cL_law 268 = .ok (.iadd, 1) := by decide +kernel
theorem dL_law_269 : decode cL_law 269 = .ok (.iaload, 1) := by decide +kernel
theorem dL_law_270 : decode cL_law 270 = .ok (.aload_n 0, 1) := by decide +kernel
theorem dL_law_271 : decode cL_law 271 = .ok (.iload_n 3, 1) := by decide +kernel
theorem dL_law_272 : decode cL_law 272 = .ok (.iconst 3, 1) := by decide +kernel
theorem dL_law_273 : decode cL_law 273 = .ok (.iadd, 1) := by decide +kernel
theorem dL_law_274 : decode cL_law 274 = .ok (.iaload, 1) := by decide +kernel
theorem dL_law_275 : decode cL_law 275 = .ok (.aload_n 0, 1) := by decide +kernel
theorem dL_law_276 : decode cL_law 276 = .ok (.iload_n 3, 1) := by decide +kernel
theorem dL_law_277 : decode cL_law 277 = .ok (.iconst 4, 1) := by decide +kernel
theorem dL_law_278 : decode cL_law 278 = .ok (.iadd, 1) := by decide +kernel
theorem dL_law_279 : decode cL_law 279 = .ok (.iaload, 1) := by decide +kernel
theorem dL_law_280 : decode cL_law 280 = .ok (.invokevirtual 40, 3) := by decide +kernel
theorem dL_law_283 : decode cL_law 283 = .ok (.if_icmp .eq 166, 3) := by decide +kernel
theorem dL_law_286 : decode cL_law 286 = .ok (.iconst 0, 1) := by decide +kernel
theorem dL_law_287 : decode cL_law 287 = .ok (.ireturn, 1) := by decide +kernel
theorem dL_law_288 : decode cL_law 288 = .ok (.aload_n 1, 1) := by decide +kernel
theorem dL_law_289 : decode cL_law 289 = .ok (.invokevirtual 41, 3) := by decide +kernel
theorem dL_law_292 : decode cL_law 292 = .ok (.aload_n 2, 1) := by decide +kernel
theorem dL_law_293 : decode cL_law 293 = .ok (.invokevirtual 45, 3) := by decide +kernel
theorem dL_law_296 : decode cL_law 296 = .ok (.if_icmp .eq 153, 3) := by decide +kernel
theorem dL_law_299 : decode cL_law 299 = .ok (.iconst 0, 1) := by decide +kernel
theorem dL_law_300 : decode cL_law 300 = .ok (.ireturn, 1) := by decide +kernel
theorem dL_law_301 : decode cL_law 301 = .ok (.aload_n 1, 1) := by decide +kernel
theorem dL_law_302 : decode cL_law 302 = .ok (.aload_n 0, 1) := by decide +kernel
theorem dL_law_303 : decode cL_law 303 = .ok (.iload_n 3, 1) := by decide +kernel
theorem dL_law_304 : decode cL_law 304 = .ok (.iconst 1, 1) := by decide +kernel
theorem dL_law_305 : decode cL_law 305 = .ok (.iadd, 1) := by decide +kernel
theorem dL_law_306 : decode cL_law 306 = .ok (.iaload, 1) := by decide +kernel
theorem dL_law_307 : decode cL_law 307 = .ok (.aload_n 0, 1) := by decide +kernel
theorem dL_law_308 : decode cL_law 308 = .ok (.iload_n 3, 1) := by decide +kernel
theorem dL_law_309 : decode cL_law 309 = .ok (.iconst 2, 1) := by decide +kernel
theorem dL_law_310 : decode cL_law 310 = .ok (.iadd, 1) := by decide +kernel
theorem dL_law_311 : decode cL_law 311 = .ok (.iaload, 1) := by decide +kernel
theorem dL_law_312 : decode cL_law 312 = .ok (.invokevirtual 46, 3) := by decide +kernel
theorem dL_law_315 : decode cL_law 315 = .ok (.aload_n 2, 1) := by decide +kernel
theorem dL_law_316 : decode cL_law 316 = .ok (.aload_n 0, 1) := by decide +kernel
theorem dL_law_317 : decode cL_law 317 = .ok (.iload_n 3, 1) := by decide +kernel
theorem dL_law_318 : decode cL_law 318 = .ok (.iconst 1, 1) := by decide +kernel
theorem dL_law_319 : decode cL_law 319 = .ok (.iadd, 1) := by decide +kernel
theorem dL_law_320 : decode cL_law 320 = .ok (.iaload, 1) := by decide +kernel
theorem dL_law_321 : decode cL_law 321 = .ok (.aload_n 0, 1) := by decide +kernel
theorem dL_law_322 : decode cL_law 322 = .ok (.iload_n 3, 1) := by decide +kernel
theorem dL_law_323 : decode cL_law 323 = .ok (.iconst 2, 1) := by decide +kernel
theorem dL_law_324 : decode cL_law 324 = .ok (.iadd, 1) := by decide +kernel
theorem dL_law_325 : decode cL_law 325 = .ok (.iaload, 1) := by decide +kernel
theorem dL_law_326 : decode cL_law 326 = .ok (.invokevirtual 49, 3) := by decide +kernel
theorem dL_law_329 : decode cL_law 329 = .ok (.if_icmp .eq 120, 3) := by decide +kernel
theorem dL_law_332 : decode cL_law 332 = .ok (.iconst 0, 1) := by decide +kernel
theorem dL_law_333 : decode cL_law 333 = .ok (.ireturn, 1) := by decide +kernel
theorem dL_law_334 : decode cL_law 334 = .ok (.aload_n 1, 1) := by decide +kernel
theorem dL_law_335 : decode cL_law 335 = .ok (.invokevirtual 50, 3) := by decide +kernel
theorem dL_law_338 : decode cL_law 338 = .ok (.aload_n 2, 1) := by decide +kernel
theorem dL_law_339 : decode cL_law 339 = .ok (.invokevirtual 53, 3) := by decide +kernel
theorem dL_law_342 : decode cL_law 342 = .ok (.if_icmp .eq 107, 3) := by decide +kernel
theorem dL_law_345 : decode cL_law 345 = .ok (.iconst 0, 1) := by decide +kernel
theorem dL_law_346 : decode cL_law 346 = .ok (.ireturn, 1) := by decide +kernel
theorem dL_law_347 : decode cL_law 347 = .ok (.aload_n 1, 1) := by decide +kernel
theorem dL_law_348 : decode cL_law 348 = .ok (.invokevirtual 54, 3) := by decide +kernel
theorem dL_law_351 : decode cL_law 351 = .ok (.aload_n 2, 1) := by decide +kernel
theorem dL_law_352 : decode cL_law 352 = .ok (.invokevirtual 57, 3) := by decide +kernel
theorem dL_law_355 : decode cL_law 355 = .ok (.if_icmp .eq 94, 3) := by decide +kernel
theorem dL_law_358 : decode cL_law 358 = .ok (.iconst 0, 1) := by decide +kernel
theorem dL_law_359 : decode cL_law 359 = .ok (.ireturn, 1) := by decide +kernel
theorem dL_law_360 : decode cL_law 360 = .ok (.aload_n 1, 1) := by decide +kernel
theorem dL_law_361 : decode cL_law 361 = .ok (.aload_n 0, 1) := by decide +kernel
theorem dL_law_362 : decode cL_law 362 = .ok (.iload_n 3, 1) := by decide +kernel
theorem dL_law_363 : decode cL_law 363 = .ok (.iconst 1, 1) := by decide +kernel
theorem dL_law_364 : decode cL_law 364 = .ok (.iadd, 1) := by decide +kernel
theorem dL_law_365 : decode cL_law 365 = .ok (.iaload, 1) := by decide +kernel
theorem dL_law_366 : decode cL_law 366 = .ok (.aload_n 0, 1) := by decide +kernel
theorem dL_law_367 : decode cL_law 367 = .ok (.iload_n 3, 1) := by decide +kernel
theorem dL_law_368 : decode cL_law 368 = .ok (.iconst 2, 1) := by decide +kernel
theorem dL_law_369 : decode cL_law 369 = .ok (.iadd, 1) := by decide +kernel
theorem dL_law_370 : decode cL_law 370 = .ok (.iaload, 1) := by decide +kernel
theorem dL_law_371 : decode cL_law 371 = .ok (.invokevirtual 58, 3) := by decide +kernel
theorem dL_law_374 : decode cL_law 374 = .ok (.aload_n 2, 1) := by decide +kernel
theorem dL_law_375 : decode cL_law 375 = .ok (.aload_n 0, 1) := by decide +kernel
theorem dL_law_376 : decode cL_law 376 = .ok (.iload_n 3, 1) := by decide +kernel
theorem dL_law_377 : decode cL_law 377 = .ok (.iconst 1, 1) := by decide +kernel
theorem dL_law_378 : decode cL_law 378 = .ok (.iadd, 1) := by decide +kernel
theorem dL_law_379 : decode cL_law 379 = .ok (.iaload, 1) := by decide +kernel
theorem dL_law_380 : decode cL_law 380 = .ok (.aload_n 0, 1) := by decide +kernel
theorem dL_law_381 : decode cL_law 381 = .ok (.iload_n 3, 1) := by decide +kernel
theorem dL_law_382 : decode cL_law 382 = .ok (.iconst 2, 1) := by decide +kernel
theorem dL_law_383 : decode cL_law 383 = .ok (.iadd, 1) := by decide +kernel
theorem dL_law_384 : decode cL_law 384 = .ok (.iaload, 1) := by decide +kernel
theorem dL_law_385 : decode cL_law 385 = .ok (.invokevirtual 61, 3) := by decide +kernel
theorem dL_law_388 : decode cL_law 388 = .ok (.if_icmp .eq 61, 3) := by decide +kernel
theorem dL_law_391 : decode cL_law 391 = .ok (.iconst 0, 1) := by decide +kernel
theorem dL_law_392 : decode cL_law 392 = .ok (.ireturn, 1) := by decide +kernel
theorem dL_law_393 : decode cL_law 393 = .ok (.aload_n 1, 1) := by decide +kernel
theorem dL_law_394 : decode cL_law 394 = .ok (.aload_n 0, 1) := by decide +kernel
theorem dL_law_395 : decode cL_law 395 = .ok (.iload_n 3, 1) := by decide +kernel
theorem dL_law_396 : decode cL_law 396 = .ok (.iconst 1, 1) := by decide +kernel
theorem dL_law_397 : decode cL_law 397 = .ok (.iadd, 1) := by decide +kernel
theorem dL_law_398 : decode cL_law 398 = .ok (.iaload, 1) := by decide +kernel
theorem dL_law_399 : decode cL_law 399 = .ok (.aload_n 0, 1) := by decide +kernel
theorem dL_law_400 : decode cL_law 400 = .ok (.iload_n 3, 1) := by decide +kernel
theorem dL_law_401 : decode cL_law 401 = .ok (.iconst 2, 1) := by decide +kernel
theorem dL_law_402 : decode cL_law 402 = .ok (.iadd, 1) := by decide +kernel
theorem dL_law_403 : decode cL_law 403 = .ok (.iaload, 1) := by decide +kernel
theorem dL_law_404 : decode cL_law 404 = .ok (.invokevirtual 62, 3) := by decide +kernel
theorem dL_law_407 : decode cL_law 407 = .ok (.aload_n 2, 1) := by decide +kernel
theorem dL_law_408 : decode cL_law 408 = .ok (.aload_n 0, 1) := by decide +kernel
theorem dL_law_409 : decode cL_law 409 = .ok (.iload_n 3, 1) := by decide +kernel
theorem dL_law_410 : decode cL_law 410 = .ok (.iconst 1, 1) := by decide +kernel
theorem dL_law_411 : decode cL_law 411 = .ok (.iadd, 1) := by decide +kernel
theorem dL_law_412 : decode cL_law 412 = .ok (.iaload, 1) := by decide +kernel
theorem dL_law_413 : decode cL_law 413 = .ok (.aload_n 0, 1) := by decide +kernel
theorem dL_law_414 : decode cL_law 414 = .ok (.iload_n 3, 1) := by decide +kernel
theorem dL_law_415 : decode cL_law 415 = .ok (.iconst 2, 1) := by decide +kernel
theorem dL_law_416 : decode cL_law 416 = .ok (.iadd, 1) := by decide +kernel
theorem dL_law_417 : decode cL_law 417 = .ok (.iaload, 1) := by decide +kernel
theorem dL_law_418 : decode cL_law 418 = .ok (.invokevirtual 65, 3) := by decide +kernel
theorem dL_law_421 : decode cL_law 421 = .ok (.if_icmp .eq 28, 3) := by decide +kernel
theorem dL_law_424 : decode cL_law 424 = .ok (.iconst 0, 1) := by decide +kernel
theorem dL_law_425 : decode cL_law 425 = .ok (.ireturn, 1) := by decide +kernel
theorem dL_law_426 : decode cL_law 426 = .ok (.aload_n 1, 1) := by decide +kernel
theorem dL_law_427 : decode cL_law 427 = .ok (.aload_n 0, 1) := by decide +kernel
theorem dL_law_428 : decode cL_law 428 = .ok (.iload_n 3, 1) := by decide +kernel
theorem dL_law_429 : decode cL_law 429 = .ok (.iconst 1, 1) := by decide +kernel
theorem dL_law_430 : decode cL_law 430 = .ok (.iadd, 1) := by decide +kernel
theorem dL_law_431 : decode cL_law 431 = .ok (.iaload, 1) := by decide +kernel
theorem dL_law_432 : decode cL_law 432 = .ok (.invokevirtual 66, 3) := by decide +kernel
theorem dL_law_435 : decode cL_law 435 = .ok (.aload_n 2, 1) := by decide +kernel
theorem dL_law_436 : decode cL_law 436 = .ok (.aload_n 0, 1) := by decide +kernel
theorem dL_law_437 : decode cL_law 437 = .ok (.iload_n 3, 1) := by decide +kernel
theorem dL_law_438 : decode cL_law 438 = .ok (.iconst 1, 1) := by decide +kernel
theorem dL_law_439 : decode cL_law 439 = .ok (.iadd, 1) := by decide +kernel
theorem dL_law_440 : decode cL_law 440 = .ok (.iaload, 1) := by decide +kernel
theorem dL_law_441 : decode cL_law 441 = .ok (.invokevirtual 69, 3) := by decide +kernel
theorem dL_law_444 : decode cL_law 444 = .ok (.if_icmp .eq 5, 3) := by decide +kernel
theorem dL_law_447 : decode cL_law 447 = .ok (.iconst 0, 1) := by decide +kernel
theorem dL_law_448 : decode cL_law 448 = .ok (.ireturn, 1) := by decide +kernel
theorem dL_law_449 : decode cL_law 449 = .ok (.iinc 3 5, 3) := by decide +kernel
theorem dL_law_452 : decode cL_law 452 = .ok (.goto (-434), 3) := by decide +kernel
theorem dL_law_455 : decode cL_law 455 = .ok (.iconst 1, 1) := by decide +kernel
theorem dL_law_456 : decode cL_law 456 = .ok (.ireturn, 1) := by decide +kernel
abbrev vwCl : List vw_C := [(RX0, TX0, 4), (RX1, TX1, 2), (RX2, TX2, 12), (RX3, TX3, 3), (RX4, TX4, 7)]
/-- the objects of SeedChainer$BestChain, kind 0: what each holds, by its address -/
structure wK_O_BestChain where
  f_ahead : Nat → Option Nat
  f_pairs : Nat → Option Nat
  f_size : Nat → Int32
  f_total : Nat → Int32
/-- the objects of SeedChainer$LetterRow, kind 1: what each holds, by its address -/
structure wK_O_LetterRow where
  f_letters : Nat → Option Nat
  f_size : Nat → Int32
/-- the objects of SeedChainer$Reaching, kind 2: what each holds, by its address -/
structure wK_O_Reaching where
  f_gain : Nat → Int32
  f_loss : Nat → Int32
  f_gap : Nat → Int32
  f_limit : Nat → Int32
  f_twoBefore : Nat → Option Nat
  f_oneBefore : Nat → Option Nat
  f_current : Nat → Option Nat
  f_endScore : Nat → Int32
  f_endP : Nat → Int32
  f_endQ : Nat → Int32
  f_aliveCells : Nat → Int32
  f_lastSlope : Nat → Int32
/-- the objects of SeedChainer$Seeds, kind 3: what each holds, by its address -/
structure wK_O_Seeds where
  f_first : Nat → Option Nat
  f_second : Nat → Option Nat
  f_length : Nat → Int32
/-- the objects of SeedChainer, kind 4: what each holds, by its address -/
structure wK_O_SeedChainer where
  f_row0 : Nat → Option Nat
  f_row1 : Nat → Option Nat
  f_seedPairs : Nat → Option Nat
  f_best : Nat → Option Nat
  f_reaching : Nat → Option Nat
  f_gapPenalty : Nat → Int32
  f_bestIsFresh : Nat → Int32
/-- the arrays of kind 5: what each holds, by its address -/
structure wK_R_I where
  len : Nat → Nat
  row : Nat → Nat → Int32
/-- the pool: the addresses, the kind of each, and the kinds -/
structure wPS where
  L : List Nat
  K : Nat → Nat
  O_BestChain : wK_O_BestChain
  O_LetterRow : wK_O_LetterRow
  O_Reaching : wK_O_Reaching
  O_Seeds : wK_O_Seeds
  O_SeedChainer : wK_O_SeedChainer
  R_I : wK_R_I
/-- the empty pool -/
abbrev wP0 : wPS := { L := [], K := (fun _ => 0), O_BestChain := { f_ahead := (fun _ => none), f_pairs := (fun _ => none), f_size := (fun _ => 0), f_total := (fun _ => 0) }, O_LetterRow := { f_letters := (fun _ => none), f_size := (fun _ => 0) }, O_Reaching := { f_gain := (fun _ => 0), f_loss := (fun _ => 0), f_gap := (fun _ => 0), f_limit := (fun _ => 0), f_twoBefore := (fun _ => none), f_oneBefore := (fun _ => none), f_current := (fun _ => none), f_endScore := (fun _ => 0), f_endP := (fun _ => 0), f_endQ := (fun _ => 0), f_aliveCells := (fun _ => 0), f_lastSlope := (fun _ => 0) }, O_Seeds := { f_first := (fun _ => none), f_second := (fun _ => none), f_length := (fun _ => 0) }, O_SeedChainer := { f_row0 := (fun _ => none), f_row1 := (fun _ => none), f_seedPairs := (fun _ => none), f_best := (fun _ => none), f_reaching := (fun _ => none), f_gapPenalty := (fun _ => 0), f_bestIsFresh := (fun _ => 0) }, R_I := { len := (fun _ => 0), row := (fun _ _ => 0) } }
/-- the pool's rows by their kinds -/
abbrev wPF (cyI : ClassId) (S : wPS) : Nat → va_E := fun a => if S.K a = 0 then .inr (0, [va_rf (S.O_BestChain.f_ahead a), va_rf (S.O_BestChain.f_pairs a), .int (S.O_BestChain.f_size a), .int (S.O_BestChain.f_total a)]) else if S.K a = 1 then .inr (1, [va_rf (S.O_LetterRow.f_letters a), .int (S.O_LetterRow.f_size a)]) else if S.K a = 2 then .inr (2, [.int (S.O_Reaching.f_gain a), .int (S.O_Reaching.f_loss a), .int (S.O_Reaching.f_gap a), .int (S.O_Reaching.f_limit a), va_rf (S.O_Reaching.f_twoBefore a), va_rf (S.O_Reaching.f_oneBefore a), va_rf (S.O_Reaching.f_current a), .int (S.O_Reaching.f_endScore a), .int (S.O_Reaching.f_endP a), .int (S.O_Reaching.f_endQ a), .int (S.O_Reaching.f_aliveCells a), .int (S.O_Reaching.f_lastSlope a)]) else if S.K a = 3 then .inr (3, [va_rf (S.O_Seeds.f_first a), va_rf (S.O_Seeds.f_second a), .int (S.O_Seeds.f_length a)]) else if S.K a = 4 then .inr (4, [va_rf (S.O_SeedChainer.f_row0 a), va_rf (S.O_SeedChainer.f_row1 a), va_rf (S.O_SeedChainer.f_seedPairs a), va_rf (S.O_SeedChainer.f_best a), va_rf (S.O_SeedChainer.f_reaching a), .int (S.O_SeedChainer.f_gapPenalty a), .int (S.O_SeedChainer.f_bestIsFresh a)]) else .inl (cyI, S.R_I.len a, .inl (S.R_I.row a))
theorem wAt_O_BestChain (cyI : ClassId) (S : wPS) {a : Nat} (h : S.K a = 0) : wPF cyI S a = .inr (0, [va_rf (S.O_BestChain.f_ahead a), va_rf (S.O_BestChain.f_pairs a), .int (S.O_BestChain.f_size a), .int (S.O_BestChain.f_total a)]) := by simp [wPF, h]
theorem wGt_O_BestChain (cyI : ClassId) (X : va_W) (S : wPS) {a : Nat} (hL : a ∈ S.L) (h : S.K a = 0) : ∃ k : Nat, (X ++ va_pl S.L (wPF cyI S))[k]? = some (a, wPF cyI S a) ∧ (X ++ va_pl S.L (wPF cyI S))[k]? = some (a, .inr (0, [va_rf (S.O_BestChain.f_ahead a), va_rf (S.O_BestChain.f_pairs a), .int (S.O_BestChain.f_size a), .int (S.O_BestChain.f_total a)])) := by
  obtain ⟨k, hk⟩ := va_pl_get (X := X) (f := wPF cyI S) hL
  exact ⟨k, hk, hk.trans (congrArg (fun e => some (a, e)) (wAt_O_BestChain cyI S h))⟩
theorem wSt_O_BestChain_f_ahead (cyI : ClassId) (S : wPS) {a : Nat} (h : S.K a = 0) (v : Option Nat) (b : Nat) : va_up (wPF cyI S) a (.inr (0, [va_rf v, va_rf (S.O_BestChain.f_pairs a), .int (S.O_BestChain.f_size a), .int (S.O_BestChain.f_total a)])) b = wPF cyI { S with O_BestChain := { S.O_BestChain with f_ahead := va_up S.O_BestChain.f_ahead a v } } b := by by_cases hb : b = a <;> first | (simp only [wPF, va_up_ne _ _ hb]; done) | (simp only [wPF, va_up, if_neg hb]; done) | simp [wPF, va_re, va_up, va_rf, hb, h]
theorem wPu_O_BestChain_f_ahead (cyI : ClassId) (X : va_W) (S : wPS) {A : Nat → Prop} {a k : Nat} (hD : va_D A (X ++ va_pl S.L (wPF cyI S))) (hL : a ∈ S.L) (h : S.K a = 0) (hk : (X ++ va_pl S.L (wPF cyI S))[k]? = some (a, wPF cyI S a)) (v : Option Nat) : (X ++ va_pl S.L (wPF cyI S)).set k (a, .inr (0, [va_rf v, va_rf (S.O_BestChain.f_pairs a), .int (S.O_BestChain.f_size a), .int (S.O_BestChain.f_total a)])) = X ++ va_pl S.L (wPF cyI { S with O_BestChain := { S.O_BestChain with f_ahead := va_up S.O_BestChain.f_ahead a v } }) := by
  rw [va_pl_set hD hL hk]
  exact congrArg (fun l => X ++ l) (va_pl_congr (wSt_O_BestChain_f_ahead cyI S h v))
theorem wSt_O_BestChain_f_pairs (cyI : ClassId) (S : wPS) {a : Nat} (h : S.K a = 0) (v : Option Nat) (b : Nat) : va_up (wPF cyI S) a (.inr (0, [va_rf (S.O_BestChain.f_ahead a), va_rf v, .int (S.O_BestChain.f_size a), .int (S.O_BestChain.f_total a)])) b = wPF cyI { S with O_BestChain := { S.O_BestChain with f_pairs := va_up S.O_BestChain.f_pairs a v } } b := by by_cases hb : b = a <;> first | (simp only [wPF, va_up_ne _ _ hb]; done) | (simp only [wPF, va_up, if_neg hb]; done) | simp [wPF, va_re, va_up, va_rf, hb, h]
theorem wPu_O_BestChain_f_pairs (cyI : ClassId) (X : va_W) (S : wPS) {A : Nat → Prop} {a k : Nat} (hD : va_D A (X ++ va_pl S.L (wPF cyI S))) (hL : a ∈ S.L) (h : S.K a = 0) (hk : (X ++ va_pl S.L (wPF cyI S))[k]? = some (a, wPF cyI S a)) (v : Option Nat) : (X ++ va_pl S.L (wPF cyI S)).set k (a, .inr (0, [va_rf (S.O_BestChain.f_ahead a), va_rf v, .int (S.O_BestChain.f_size a), .int (S.O_BestChain.f_total a)])) = X ++ va_pl S.L (wPF cyI { S with O_BestChain := { S.O_BestChain with f_pairs := va_up S.O_BestChain.f_pairs a v } }) := by
  rw [va_pl_set hD hL hk]
  exact congrArg (fun l => X ++ l) (va_pl_congr (wSt_O_BestChain_f_pairs cyI S h v))
theorem wSt_O_BestChain_f_size (cyI : ClassId) (S : wPS) {a : Nat} (h : S.K a = 0) (v : Int32) (b : Nat) : va_up (wPF cyI S) a (.inr (0, [va_rf (S.O_BestChain.f_ahead a), va_rf (S.O_BestChain.f_pairs a), .int v, .int (S.O_BestChain.f_total a)])) b = wPF cyI { S with O_BestChain := { S.O_BestChain with f_size := va_up S.O_BestChain.f_size a v } } b := by by_cases hb : b = a <;> first | (simp only [wPF, va_up_ne _ _ hb]; done) | (simp only [wPF, va_up, if_neg hb]; done) | simp [wPF, va_re, va_up, va_rf, hb, h]
theorem wPu_O_BestChain_f_size (cyI : ClassId) (X : va_W) (S : wPS) {A : Nat → Prop} {a k : Nat} (hD : va_D A (X ++ va_pl S.L (wPF cyI S))) (hL : a ∈ S.L) (h : S.K a = 0) (hk : (X ++ va_pl S.L (wPF cyI S))[k]? = some (a, wPF cyI S a)) (v : Int32) : (X ++ va_pl S.L (wPF cyI S)).set k (a, .inr (0, [va_rf (S.O_BestChain.f_ahead a), va_rf (S.O_BestChain.f_pairs a), .int v, .int (S.O_BestChain.f_total a)])) = X ++ va_pl S.L (wPF cyI { S with O_BestChain := { S.O_BestChain with f_size := va_up S.O_BestChain.f_size a v } }) := by
  rw [va_pl_set hD hL hk]
  exact congrArg (fun l => X ++ l) (va_pl_congr (wSt_O_BestChain_f_size cyI S h v))
theorem wSt_O_BestChain_f_total (cyI : ClassId) (S : wPS) {a : Nat} (h : S.K a = 0) (v : Int32) (b : Nat) : va_up (wPF cyI S) a (.inr (0, [va_rf (S.O_BestChain.f_ahead a), va_rf (S.O_BestChain.f_pairs a), .int (S.O_BestChain.f_size a), .int v])) b = wPF cyI { S with O_BestChain := { S.O_BestChain with f_total := va_up S.O_BestChain.f_total a v } } b := by by_cases hb : b = a <;> first | (simp only [wPF, va_up_ne _ _ hb]; done) | (simp only [wPF, va_up, if_neg hb]; done) | simp [wPF, va_re, va_up, va_rf, hb, h]
theorem wPu_O_BestChain_f_total (cyI : ClassId) (X : va_W) (S : wPS) {A : Nat → Prop} {a k : Nat} (hD : va_D A (X ++ va_pl S.L (wPF cyI S))) (hL : a ∈ S.L) (h : S.K a = 0) (hk : (X ++ va_pl S.L (wPF cyI S))[k]? = some (a, wPF cyI S a)) (v : Int32) : (X ++ va_pl S.L (wPF cyI S)).set k (a, .inr (0, [va_rf (S.O_BestChain.f_ahead a), va_rf (S.O_BestChain.f_pairs a), .int (S.O_BestChain.f_size a), .int v])) = X ++ va_pl S.L (wPF cyI { S with O_BestChain := { S.O_BestChain with f_total := va_up S.O_BestChain.f_total a v } }) := by
  rw [va_pl_set hD hL hk]
  exact congrArg (fun l => X ++ l) (va_pl_congr (wSt_O_BestChain_f_total cyI S h v))
theorem wNw_O_BestChain (cyI : ClassId) (S : wPS) (a b : Nat) : va_up (wPF cyI S) a (.inr (0, [.null, .null, .int 0, .int 0])) b = wPF cyI { S with L := S.L ++ [a], K := va_up S.K a 0, O_BestChain := { f_ahead := va_up S.O_BestChain.f_ahead a none, f_pairs := va_up S.O_BestChain.f_pairs a none, f_size := va_up S.O_BestChain.f_size a 0, f_total := va_up S.O_BestChain.f_total a 0 } } b := by by_cases hb : b = a <;> first | (simp only [wPF, va_up_ne _ _ hb]; done) | (simp only [wPF, va_up, if_neg hb]; done) | simp [wPF, va_re, va_up, va_rf, hb]
theorem wPn_O_BestChain (cyI : ClassId) (X : va_W) (S : wPS) {a : Nat} (ha : a ∉ S.L) : (X ++ va_pl S.L (wPF cyI S)) ++ [(a, .inr (0, [.null, .null, .int 0, .int 0]))] = X ++ va_pl (S.L ++ [a]) (wPF cyI { S with L := S.L ++ [a], K := va_up S.K a 0, O_BestChain := { f_ahead := va_up S.O_BestChain.f_ahead a none, f_pairs := va_up S.O_BestChain.f_pairs a none, f_size := va_up S.O_BestChain.f_size a 0, f_total := va_up S.O_BestChain.f_total a 0 } }) := by
  rw [List.append_assoc, va_pl_push ha]
  exact congrArg (fun l => X ++ l) (va_pl_congr (wNw_O_BestChain cyI S a))
theorem wAt_O_LetterRow (cyI : ClassId) (S : wPS) {a : Nat} (h : S.K a = 1) : wPF cyI S a = .inr (1, [va_rf (S.O_LetterRow.f_letters a), .int (S.O_LetterRow.f_size a)]) := by simp [wPF, h]
theorem wGt_O_LetterRow (cyI : ClassId) (X : va_W) (S : wPS) {a : Nat} (hL : a ∈ S.L) (h : S.K a = 1) : ∃ k : Nat, (X ++ va_pl S.L (wPF cyI S))[k]? = some (a, wPF cyI S a) ∧ (X ++ va_pl S.L (wPF cyI S))[k]? = some (a, .inr (1, [va_rf (S.O_LetterRow.f_letters a), .int (S.O_LetterRow.f_size a)])) := by
  obtain ⟨k, hk⟩ := va_pl_get (X := X) (f := wPF cyI S) hL
  exact ⟨k, hk, hk.trans (congrArg (fun e => some (a, e)) (wAt_O_LetterRow cyI S h))⟩
theorem wSt_O_LetterRow_f_letters (cyI : ClassId) (S : wPS) {a : Nat} (h : S.K a = 1) (v : Option Nat) (b : Nat) : va_up (wPF cyI S) a (.inr (1, [va_rf v, .int (S.O_LetterRow.f_size a)])) b = wPF cyI { S with O_LetterRow := { S.O_LetterRow with f_letters := va_up S.O_LetterRow.f_letters a v } } b := by by_cases hb : b = a <;> first | (simp only [wPF, va_up_ne _ _ hb]; done) | (simp only [wPF, va_up, if_neg hb]; done) | simp [wPF, va_re, va_up, va_rf, hb, h]
theorem wPu_O_LetterRow_f_letters (cyI : ClassId) (X : va_W) (S : wPS) {A : Nat → Prop} {a k : Nat} (hD : va_D A (X ++ va_pl S.L (wPF cyI S))) (hL : a ∈ S.L) (h : S.K a = 1) (hk : (X ++ va_pl S.L (wPF cyI S))[k]? = some (a, wPF cyI S a)) (v : Option Nat) : (X ++ va_pl S.L (wPF cyI S)).set k (a, .inr (1, [va_rf v, .int (S.O_LetterRow.f_size a)])) = X ++ va_pl S.L (wPF cyI { S with O_LetterRow := { S.O_LetterRow with f_letters := va_up S.O_LetterRow.f_letters a v } }) := by
  rw [va_pl_set hD hL hk]
  exact congrArg (fun l => X ++ l) (va_pl_congr (wSt_O_LetterRow_f_letters cyI S h v))
theorem wSt_O_LetterRow_f_size (cyI : ClassId) (S : wPS) {a : Nat} (h : S.K a = 1) (v : Int32) (b : Nat) : va_up (wPF cyI S) a (.inr (1, [va_rf (S.O_LetterRow.f_letters a), .int v])) b = wPF cyI { S with O_LetterRow := { S.O_LetterRow with f_size := va_up S.O_LetterRow.f_size a v } } b := by by_cases hb : b = a <;> first | (simp only [wPF, va_up_ne _ _ hb]; done) | (simp only [wPF, va_up, if_neg hb]; done) | simp [wPF, va_re, va_up, va_rf, hb, h]
theorem wPu_O_LetterRow_f_size (cyI : ClassId) (X : va_W) (S : wPS) {A : Nat → Prop} {a k : Nat} (hD : va_D A (X ++ va_pl S.L (wPF cyI S))) (hL : a ∈ S.L) (h : S.K a = 1) (hk : (X ++ va_pl S.L (wPF cyI S))[k]? = some (a, wPF cyI S a)) (v : Int32) : (X ++ va_pl S.L (wPF cyI S)).set k (a, .inr (1, [va_rf (S.O_LetterRow.f_letters a), .int v])) = X ++ va_pl S.L (wPF cyI { S with O_LetterRow := { S.O_LetterRow with f_size := va_up S.O_LetterRow.f_size a v } }) := by
  rw [va_pl_set hD hL hk]
  exact congrArg (fun l => X ++ l) (va_pl_congr (wSt_O_LetterRow_f_size cyI S h v))
theorem wNw_O_LetterRow (cyI : ClassId) (S : wPS) (a b : Nat) : va_up (wPF cyI S) a (.inr (1, [.null, .int 0])) b = wPF cyI { S with L := S.L ++ [a], K := va_up S.K a 1, O_LetterRow := { f_letters := va_up S.O_LetterRow.f_letters a none, f_size := va_up S.O_LetterRow.f_size a 0 } } b := by by_cases hb : b = a <;> first | (simp only [wPF, va_up_ne _ _ hb]; done) | (simp only [wPF, va_up, if_neg hb]; done) | simp [wPF, va_re, va_up, va_rf, hb]
theorem wPn_O_LetterRow (cyI : ClassId) (X : va_W) (S : wPS) {a : Nat} (ha : a ∉ S.L) : (X ++ va_pl S.L (wPF cyI S)) ++ [(a, .inr (1, [.null, .int 0]))] = X ++ va_pl (S.L ++ [a]) (wPF cyI { S with L := S.L ++ [a], K := va_up S.K a 1, O_LetterRow := { f_letters := va_up S.O_LetterRow.f_letters a none, f_size := va_up S.O_LetterRow.f_size a 0 } }) := by
  rw [List.append_assoc, va_pl_push ha]
  exact congrArg (fun l => X ++ l) (va_pl_congr (wNw_O_LetterRow cyI S a))
theorem wAt_O_Reaching (cyI : ClassId) (S : wPS) {a : Nat} (h : S.K a = 2) : wPF cyI S a = .inr (2, [.int (S.O_Reaching.f_gain a), .int (S.O_Reaching.f_loss a), .int (S.O_Reaching.f_gap a), .int (S.O_Reaching.f_limit a), va_rf (S.O_Reaching.f_twoBefore a), va_rf (S.O_Reaching.f_oneBefore a), va_rf (S.O_Reaching.f_current a), .int (S.O_Reaching.f_endScore a), .int (S.O_Reaching.f_endP a), .int (S.O_Reaching.f_endQ a), .int (S.O_Reaching.f_aliveCells a), .int (S.O_Reaching.f_lastSlope a)]) := by simp [wPF, h]
theorem wGt_O_Reaching (cyI : ClassId) (X : va_W) (S : wPS) {a : Nat} (hL : a ∈ S.L) (h : S.K a = 2) : ∃ k : Nat, (X ++ va_pl S.L (wPF cyI S))[k]? = some (a, wPF cyI S a) ∧ (X ++ va_pl S.L (wPF cyI S))[k]? = some (a, .inr (2, [.int (S.O_Reaching.f_gain a), .int (S.O_Reaching.f_loss a), .int (S.O_Reaching.f_gap a), .int (S.O_Reaching.f_limit a), va_rf (S.O_Reaching.f_twoBefore a), va_rf (S.O_Reaching.f_oneBefore a), va_rf (S.O_Reaching.f_current a), .int (S.O_Reaching.f_endScore a), .int (S.O_Reaching.f_endP a), .int (S.O_Reaching.f_endQ a), .int (S.O_Reaching.f_aliveCells a), .int (S.O_Reaching.f_lastSlope a)])) := by
  obtain ⟨k, hk⟩ := va_pl_get (X := X) (f := wPF cyI S) hL
  exact ⟨k, hk, hk.trans (congrArg (fun e => some (a, e)) (wAt_O_Reaching cyI S h))⟩
theorem wSt_O_Reaching_f_gain (cyI : ClassId) (S : wPS) {a : Nat} (h : S.K a = 2) (v : Int32) (b : Nat) : va_up (wPF cyI S) a (.inr (2, [.int v, .int (S.O_Reaching.f_loss a), .int (S.O_Reaching.f_gap a), .int (S.O_Reaching.f_limit a), va_rf (S.O_Reaching.f_twoBefore a), va_rf (S.O_Reaching.f_oneBefore a), va_rf (S.O_Reaching.f_current a), .int (S.O_Reaching.f_endScore a), .int (S.O_Reaching.f_endP a), .int (S.O_Reaching.f_endQ a), .int (S.O_Reaching.f_aliveCells a), .int (S.O_Reaching.f_lastSlope a)])) b = wPF cyI { S with O_Reaching := { S.O_Reaching with f_gain := va_up S.O_Reaching.f_gain a v } } b := by by_cases hb : b = a <;> first | (simp only [wPF, va_up_ne _ _ hb]; done) | (simp only [wPF, va_up, if_neg hb]; done) | simp [wPF, va_re, va_up, va_rf, hb, h]
theorem wPu_O_Reaching_f_gain (cyI : ClassId) (X : va_W) (S : wPS) {A : Nat → Prop} {a k : Nat} (hD : va_D A (X ++ va_pl S.L (wPF cyI S))) (hL : a ∈ S.L) (h : S.K a = 2) (hk : (X ++ va_pl S.L (wPF cyI S))[k]? = some (a, wPF cyI S a)) (v : Int32) : (X ++ va_pl S.L (wPF cyI S)).set k (a, .inr (2, [.int v, .int (S.O_Reaching.f_loss a), .int (S.O_Reaching.f_gap a), .int (S.O_Reaching.f_limit a), va_rf (S.O_Reaching.f_twoBefore a), va_rf (S.O_Reaching.f_oneBefore a), va_rf (S.O_Reaching.f_current a), .int (S.O_Reaching.f_endScore a), .int (S.O_Reaching.f_endP a), .int (S.O_Reaching.f_endQ a), .int (S.O_Reaching.f_aliveCells a), .int (S.O_Reaching.f_lastSlope a)])) = X ++ va_pl S.L (wPF cyI { S with O_Reaching := { S.O_Reaching with f_gain := va_up S.O_Reaching.f_gain a v } }) := by
  rw [va_pl_set hD hL hk]
  exact congrArg (fun l => X ++ l) (va_pl_congr (wSt_O_Reaching_f_gain cyI S h v))
theorem wSt_O_Reaching_f_loss (cyI : ClassId) (S : wPS) {a : Nat} (h : S.K a = 2) (v : Int32) (b : Nat) : va_up (wPF cyI S) a (.inr (2, [.int (S.O_Reaching.f_gain a), .int v, .int (S.O_Reaching.f_gap a), .int (S.O_Reaching.f_limit a), va_rf (S.O_Reaching.f_twoBefore a), va_rf (S.O_Reaching.f_oneBefore a), va_rf (S.O_Reaching.f_current a), .int (S.O_Reaching.f_endScore a), .int (S.O_Reaching.f_endP a), .int (S.O_Reaching.f_endQ a), .int (S.O_Reaching.f_aliveCells a), .int (S.O_Reaching.f_lastSlope a)])) b = wPF cyI { S with O_Reaching := { S.O_Reaching with f_loss := va_up S.O_Reaching.f_loss a v } } b := by by_cases hb : b = a <;> first | (simp only [wPF, va_up_ne _ _ hb]; done) | (simp only [wPF, va_up, if_neg hb]; done) | simp [wPF, va_re, va_up, va_rf, hb, h]
theorem wPu_O_Reaching_f_loss (cyI : ClassId) (X : va_W) (S : wPS) {A : Nat → Prop} {a k : Nat} (hD : va_D A (X ++ va_pl S.L (wPF cyI S))) (hL : a ∈ S.L) (h : S.K a = 2) (hk : (X ++ va_pl S.L (wPF cyI S))[k]? = some (a, wPF cyI S a)) (v : Int32) : (X ++ va_pl S.L (wPF cyI S)).set k (a, .inr (2, [.int (S.O_Reaching.f_gain a), .int v, .int (S.O_Reaching.f_gap a), .int (S.O_Reaching.f_limit a), va_rf (S.O_Reaching.f_twoBefore a), va_rf (S.O_Reaching.f_oneBefore a), va_rf (S.O_Reaching.f_current a), .int (S.O_Reaching.f_endScore a), .int (S.O_Reaching.f_endP a), .int (S.O_Reaching.f_endQ a), .int (S.O_Reaching.f_aliveCells a), .int (S.O_Reaching.f_lastSlope a)])) = X ++ va_pl S.L (wPF cyI { S with O_Reaching := { S.O_Reaching with f_loss := va_up S.O_Reaching.f_loss a v } }) := by
  rw [va_pl_set hD hL hk]
  exact congrArg (fun l => X ++ l) (va_pl_congr (wSt_O_Reaching_f_loss cyI S h v))
theorem wSt_O_Reaching_f_gap (cyI : ClassId) (S : wPS) {a : Nat} (h : S.K a = 2) (v : Int32) (b : Nat) : va_up (wPF cyI S) a (.inr (2, [.int (S.O_Reaching.f_gain a), .int (S.O_Reaching.f_loss a), .int v, .int (S.O_Reaching.f_limit a), va_rf (S.O_Reaching.f_twoBefore a), va_rf (S.O_Reaching.f_oneBefore a), va_rf (S.O_Reaching.f_current a), .int (S.O_Reaching.f_endScore a), .int (S.O_Reaching.f_endP a), .int (S.O_Reaching.f_endQ a), .int (S.O_Reaching.f_aliveCells a), .int (S.O_Reaching.f_lastSlope a)])) b = wPF cyI { S with O_Reaching := { S.O_Reaching with f_gap := va_up S.O_Reaching.f_gap a v } } b := by by_cases hb : b = a <;> first | (simp only [wPF, va_up_ne _ _ hb]; done) | (simp only [wPF, va_up, if_neg hb]; done) | simp [wPF, va_re, va_up, va_rf, hb, h]
theorem wPu_O_Reaching_f_gap (cyI : ClassId) (X : va_W) (S : wPS) {A : Nat → Prop} {a k : Nat} (hD : va_D A (X ++ va_pl S.L (wPF cyI S))) (hL : a ∈ S.L) (h : S.K a = 2) (hk : (X ++ va_pl S.L (wPF cyI S))[k]? = some (a, wPF cyI S a)) (v : Int32) : (X ++ va_pl S.L (wPF cyI S)).set k (a, .inr (2, [.int (S.O_Reaching.f_gain a), .int (S.O_Reaching.f_loss a), .int v, .int (S.O_Reaching.f_limit a), va_rf (S.O_Reaching.f_twoBefore a), va_rf (S.O_Reaching.f_oneBefore a), va_rf (S.O_Reaching.f_current a), .int (S.O_Reaching.f_endScore a), .int (S.O_Reaching.f_endP a), .int (S.O_Reaching.f_endQ a), .int (S.O_Reaching.f_aliveCells a), .int (S.O_Reaching.f_lastSlope a)])) = X ++ va_pl S.L (wPF cyI { S with O_Reaching := { S.O_Reaching with f_gap := va_up S.O_Reaching.f_gap a v } }) := by
  rw [va_pl_set hD hL hk]
  exact congrArg (fun l => X ++ l) (va_pl_congr (wSt_O_Reaching_f_gap cyI S h v))
theorem wSt_O_Reaching_f_limit (cyI : ClassId) (S : wPS) {a : Nat} (h : S.K a = 2) (v : Int32) (b : Nat) : va_up (wPF cyI S) a (.inr (2, [.int (S.O_Reaching.f_gain a), .int (S.O_Reaching.f_loss a), .int (S.O_Reaching.f_gap a), .int v, va_rf (S.O_Reaching.f_twoBefore a), va_rf (S.O_Reaching.f_oneBefore a), va_rf (S.O_Reaching.f_current a), .int (S.O_Reaching.f_endScore a), .int (S.O_Reaching.f_endP a), .int (S.O_Reaching.f_endQ a), .int (S.O_Reaching.f_aliveCells a), .int (S.O_Reaching.f_lastSlope a)])) b = wPF cyI { S with O_Reaching := { S.O_Reaching with f_limit := va_up S.O_Reaching.f_limit a v } } b := by by_cases hb : b = a <;> first | (simp only [wPF, va_up_ne _ _ hb]; done) | (simp only [wPF, va_up, if_neg hb]; done) | simp [wPF, va_re, va_up, va_rf, hb, h]
theorem wPu_O_Reaching_f_limit (cyI : ClassId) (X : va_W) (S : wPS) {A : Nat → Prop} {a k : Nat} (hD : va_D A (X ++ va_pl S.L (wPF cyI S))) (hL : a ∈ S.L) (h : S.K a = 2) (hk : (X ++ va_pl S.L (wPF cyI S))[k]? = some (a, wPF cyI S a)) (v : Int32) : (X ++ va_pl S.L (wPF cyI S)).set k (a, .inr (2, [.int (S.O_Reaching.f_gain a), .int (S.O_Reaching.f_loss a), .int (S.O_Reaching.f_gap a), .int v, va_rf (S.O_Reaching.f_twoBefore a), va_rf (S.O_Reaching.f_oneBefore a), va_rf (S.O_Reaching.f_current a), .int (S.O_Reaching.f_endScore a), .int (S.O_Reaching.f_endP a), .int (S.O_Reaching.f_endQ a), .int (S.O_Reaching.f_aliveCells a), .int (S.O_Reaching.f_lastSlope a)])) = X ++ va_pl S.L (wPF cyI { S with O_Reaching := { S.O_Reaching with f_limit := va_up S.O_Reaching.f_limit a v } }) := by
  rw [va_pl_set hD hL hk]
  exact congrArg (fun l => X ++ l) (va_pl_congr (wSt_O_Reaching_f_limit cyI S h v))
theorem wSt_O_Reaching_f_twoBefore (cyI : ClassId) (S : wPS) {a : Nat} (h : S.K a = 2) (v : Option Nat) (b : Nat) : va_up (wPF cyI S) a (.inr (2, [.int (S.O_Reaching.f_gain a), .int (S.O_Reaching.f_loss a), .int (S.O_Reaching.f_gap a), .int (S.O_Reaching.f_limit a), va_rf v, va_rf (S.O_Reaching.f_oneBefore a), va_rf (S.O_Reaching.f_current a), .int (S.O_Reaching.f_endScore a), .int (S.O_Reaching.f_endP a), .int (S.O_Reaching.f_endQ a), .int (S.O_Reaching.f_aliveCells a), .int (S.O_Reaching.f_lastSlope a)])) b = wPF cyI { S with O_Reaching := { S.O_Reaching with f_twoBefore := va_up S.O_Reaching.f_twoBefore a v } } b := by by_cases hb : b = a <;> first | (simp only [wPF, va_up_ne _ _ hb]; done) | (simp only [wPF, va_up, if_neg hb]; done) | simp [wPF, va_re, va_up, va_rf, hb, h]
theorem wPu_O_Reaching_f_twoBefore (cyI : ClassId) (X : va_W) (S : wPS) {A : Nat → Prop} {a k : Nat} (hD : va_D A (X ++ va_pl S.L (wPF cyI S))) (hL : a ∈ S.L) (h : S.K a = 2) (hk : (X ++ va_pl S.L (wPF cyI S))[k]? = some (a, wPF cyI S a)) (v : Option Nat) : (X ++ va_pl S.L (wPF cyI S)).set k (a, .inr (2, [.int (S.O_Reaching.f_gain a), .int (S.O_Reaching.f_loss a), .int (S.O_Reaching.f_gap a), .int (S.O_Reaching.f_limit a), va_rf v, va_rf (S.O_Reaching.f_oneBefore a), va_rf (S.O_Reaching.f_current a), .int (S.O_Reaching.f_endScore a), .int (S.O_Reaching.f_endP a), .int (S.O_Reaching.f_endQ a), .int (S.O_Reaching.f_aliveCells a), .int (S.O_Reaching.f_lastSlope a)])) = X ++ va_pl S.L (wPF cyI { S with O_Reaching := { S.O_Reaching with f_twoBefore := va_up S.O_Reaching.f_twoBefore a v } }) := by
  rw [va_pl_set hD hL hk]
  exact congrArg (fun l => X ++ l) (va_pl_congr (wSt_O_Reaching_f_twoBefore cyI S h v))
theorem wSt_O_Reaching_f_oneBefore (cyI : ClassId) (S : wPS) {a : Nat} (h : S.K a = 2) (v : Option Nat) (b : Nat) : va_up (wPF cyI S) a (.inr (2, [.int (S.O_Reaching.f_gain a), .int (S.O_Reaching.f_loss a), .int (S.O_Reaching.f_gap a), .int (S.O_Reaching.f_limit a), va_rf (S.O_Reaching.f_twoBefore a), va_rf v, va_rf (S.O_Reaching.f_current a), .int (S.O_Reaching.f_endScore a), .int (S.O_Reaching.f_endP a), .int (S.O_Reaching.f_endQ a), .int (S.O_Reaching.f_aliveCells a), .int (S.O_Reaching.f_lastSlope a)])) b = wPF cyI { S with O_Reaching := { S.O_Reaching with f_oneBefore := va_up S.O_Reaching.f_oneBefore a v } } b := by by_cases hb : b = a <;> first | (simp only [wPF, va_up_ne _ _ hb]; done) | (simp only [wPF, va_up, if_neg hb]; done) | simp [wPF, va_re, va_up, va_rf, hb, h]
theorem wPu_O_Reaching_f_oneBefore (cyI : ClassId) (X : va_W) (S : wPS) {A : Nat → Prop} {a k : Nat} (hD : va_D A (X ++ va_pl S.L (wPF cyI S))) (hL : a ∈ S.L) (h : S.K a = 2) (hk : (X ++ va_pl S.L (wPF cyI S))[k]? = some (a, wPF cyI S a)) (v : Option Nat) : (X ++ va_pl S.L (wPF cyI S)).set k (a, .inr (2, [.int (S.O_Reaching.f_gain a), .int (S.O_Reaching.f_loss a), .int (S.O_Reaching.f_gap a), .int (S.O_Reaching.f_limit a), va_rf (S.O_Reaching.f_twoBefore a), va_rf v, va_rf (S.O_Reaching.f_current a), .int (S.O_Reaching.f_endScore a), .int (S.O_Reaching.f_endP a), .int (S.O_Reaching.f_endQ a), .int (S.O_Reaching.f_aliveCells a), .int (S.O_Reaching.f_lastSlope a)])) = X ++ va_pl S.L (wPF cyI { S with O_Reaching := { S.O_Reaching with f_oneBefore := va_up S.O_Reaching.f_oneBefore a v } }) := by
  rw [va_pl_set hD hL hk]
  exact congrArg (fun l => X ++ l) (va_pl_congr (wSt_O_Reaching_f_oneBefore cyI S h v))
theorem wSt_O_Reaching_f_current (cyI : ClassId) (S : wPS) {a : Nat} (h : S.K a = 2) (v : Option Nat) (b : Nat) : va_up (wPF cyI S) a (.inr (2, [.int (S.O_Reaching.f_gain a), .int (S.O_Reaching.f_loss a), .int (S.O_Reaching.f_gap a), .int (S.O_Reaching.f_limit a), va_rf (S.O_Reaching.f_twoBefore a), va_rf (S.O_Reaching.f_oneBefore a), va_rf v, .int (S.O_Reaching.f_endScore a), .int (S.O_Reaching.f_endP a), .int (S.O_Reaching.f_endQ a), .int (S.O_Reaching.f_aliveCells a), .int (S.O_Reaching.f_lastSlope a)])) b = wPF cyI { S with O_Reaching := { S.O_Reaching with f_current := va_up S.O_Reaching.f_current a v } } b := by by_cases hb : b = a <;> first | (simp only [wPF, va_up_ne _ _ hb]; done) | (simp only [wPF, va_up, if_neg hb]; done) | simp [wPF, va_re, va_up, va_rf, hb, h]
theorem wPu_O_Reaching_f_current (cyI : ClassId) (X : va_W) (S : wPS) {A : Nat → Prop} {a k : Nat} (hD : va_D A (X ++ va_pl S.L (wPF cyI S))) (hL : a ∈ S.L) (h : S.K a = 2) (hk : (X ++ va_pl S.L (wPF cyI S))[k]? = some (a, wPF cyI S a)) (v : Option Nat) : (X ++ va_pl S.L (wPF cyI S)).set k (a, .inr (2, [.int (S.O_Reaching.f_gain a), .int (S.O_Reaching.f_loss a), .int (S.O_Reaching.f_gap a), .int (S.O_Reaching.f_limit a), va_rf (S.O_Reaching.f_twoBefore a), va_rf (S.O_Reaching.f_oneBefore a), va_rf v, .int (S.O_Reaching.f_endScore a), .int (S.O_Reaching.f_endP a), .int (S.O_Reaching.f_endQ a), .int (S.O_Reaching.f_aliveCells a), .int (S.O_Reaching.f_lastSlope a)])) = X ++ va_pl S.L (wPF cyI { S with O_Reaching := { S.O_Reaching with f_current := va_up S.O_Reaching.f_current a v } }) := by
  rw [va_pl_set hD hL hk]
  exact congrArg (fun l => X ++ l) (va_pl_congr (wSt_O_Reaching_f_current cyI S h v))
theorem wSt_O_Reaching_f_endScore (cyI : ClassId) (S : wPS) {a : Nat} (h : S.K a = 2) (v : Int32) (b : Nat) : va_up (wPF cyI S) a (.inr (2, [.int (S.O_Reaching.f_gain a), .int (S.O_Reaching.f_loss a), .int (S.O_Reaching.f_gap a), .int (S.O_Reaching.f_limit a), va_rf (S.O_Reaching.f_twoBefore a), va_rf (S.O_Reaching.f_oneBefore a), va_rf (S.O_Reaching.f_current a), .int v, .int (S.O_Reaching.f_endP a), .int (S.O_Reaching.f_endQ a), .int (S.O_Reaching.f_aliveCells a), .int (S.O_Reaching.f_lastSlope a)])) b = wPF cyI { S with O_Reaching := { S.O_Reaching with f_endScore := va_up S.O_Reaching.f_endScore a v } } b := by by_cases hb : b = a <;> first | (simp only [wPF, va_up_ne _ _ hb]; done) | (simp only [wPF, va_up, if_neg hb]; done) | simp [wPF, va_re, va_up, va_rf, hb, h]
theorem wPu_O_Reaching_f_endScore (cyI : ClassId) (X : va_W) (S : wPS) {A : Nat → Prop} {a k : Nat} (hD : va_D A (X ++ va_pl S.L (wPF cyI S))) (hL : a ∈ S.L) (h : S.K a = 2) (hk : (X ++ va_pl S.L (wPF cyI S))[k]? = some (a, wPF cyI S a)) (v : Int32) : (X ++ va_pl S.L (wPF cyI S)).set k (a, .inr (2, [.int (S.O_Reaching.f_gain a), .int (S.O_Reaching.f_loss a), .int (S.O_Reaching.f_gap a), .int (S.O_Reaching.f_limit a), va_rf (S.O_Reaching.f_twoBefore a), va_rf (S.O_Reaching.f_oneBefore a), va_rf (S.O_Reaching.f_current a), .int v, .int (S.O_Reaching.f_endP a), .int (S.O_Reaching.f_endQ a), .int (S.O_Reaching.f_aliveCells a), .int (S.O_Reaching.f_lastSlope a)])) = X ++ va_pl S.L (wPF cyI { S with O_Reaching := { S.O_Reaching with f_endScore := va_up S.O_Reaching.f_endScore a v } }) := by
  rw [va_pl_set hD hL hk]
  exact congrArg (fun l => X ++ l) (va_pl_congr (wSt_O_Reaching_f_endScore cyI S h v))
theorem wSt_O_Reaching_f_endP (cyI : ClassId) (S : wPS) {a : Nat} (h : S.K a = 2) (v : Int32) (b : Nat) : va_up (wPF cyI S) a (.inr (2, [.int (S.O_Reaching.f_gain a), .int (S.O_Reaching.f_loss a), .int (S.O_Reaching.f_gap a), .int (S.O_Reaching.f_limit a), va_rf (S.O_Reaching.f_twoBefore a), va_rf (S.O_Reaching.f_oneBefore a), va_rf (S.O_Reaching.f_current a), .int (S.O_Reaching.f_endScore a), .int v, .int (S.O_Reaching.f_endQ a), .int (S.O_Reaching.f_aliveCells a), .int (S.O_Reaching.f_lastSlope a)])) b = wPF cyI { S with O_Reaching := { S.O_Reaching with f_endP := va_up S.O_Reaching.f_endP a v } } b := by by_cases hb : b = a <;> first | (simp only [wPF, va_up_ne _ _ hb]; done) | (simp only [wPF, va_up, if_neg hb]; done) | simp [wPF, va_re, va_up, va_rf, hb, h]
theorem wPu_O_Reaching_f_endP (cyI : ClassId) (X : va_W) (S : wPS) {A : Nat → Prop} {a k : Nat} (hD : va_D A (X ++ va_pl S.L (wPF cyI S))) (hL : a ∈ S.L) (h : S.K a = 2) (hk : (X ++ va_pl S.L (wPF cyI S))[k]? = some (a, wPF cyI S a)) (v : Int32) : (X ++ va_pl S.L (wPF cyI S)).set k (a, .inr (2, [.int (S.O_Reaching.f_gain a), .int (S.O_Reaching.f_loss a), .int (S.O_Reaching.f_gap a), .int (S.O_Reaching.f_limit a), va_rf (S.O_Reaching.f_twoBefore a), va_rf (S.O_Reaching.f_oneBefore a), va_rf (S.O_Reaching.f_current a), .int (S.O_Reaching.f_endScore a), .int v, .int (S.O_Reaching.f_endQ a), .int (S.O_Reaching.f_aliveCells a), .int (S.O_Reaching.f_lastSlope a)])) = X ++ va_pl S.L (wPF cyI { S with O_Reaching := { S.O_Reaching with f_endP := va_up S.O_Reaching.f_endP a v } }) := by
  rw [va_pl_set hD hL hk]
  exact congrArg (fun l => X ++ l) (va_pl_congr (wSt_O_Reaching_f_endP cyI S h v))
theorem wSt_O_Reaching_f_endQ (cyI : ClassId) (S : wPS) {a : Nat} (h : S.K a = 2) (v : Int32) (b : Nat) : va_up (wPF cyI S) a (.inr (2, [.int (S.O_Reaching.f_gain a), .int (S.O_Reaching.f_loss a), .int (S.O_Reaching.f_gap a), .int (S.O_Reaching.f_limit a), va_rf (S.O_Reaching.f_twoBefore a), va_rf (S.O_Reaching.f_oneBefore a), va_rf (S.O_Reaching.f_current a), .int (S.O_Reaching.f_endScore a), .int (S.O_Reaching.f_endP a), .int v, .int (S.O_Reaching.f_aliveCells a), .int (S.O_Reaching.f_lastSlope a)])) b = wPF cyI { S with O_Reaching := { S.O_Reaching with f_endQ := va_up S.O_Reaching.f_endQ a v } } b := by by_cases hb : b = a <;> first | (simp only [wPF, va_up_ne _ _ hb]; done) | (simp only [wPF, va_up, if_neg hb]; done) | simp [wPF, va_re, va_up, va_rf, hb, h]
theorem wPu_O_Reaching_f_endQ (cyI : ClassId) (X : va_W) (S : wPS) {A : Nat → Prop} {a k : Nat} (hD : va_D A (X ++ va_pl S.L (wPF cyI S))) (hL : a ∈ S.L) (h : S.K a = 2) (hk : (X ++ va_pl S.L (wPF cyI S))[k]? = some (a, wPF cyI S a)) (v : Int32) : (X ++ va_pl S.L (wPF cyI S)).set k (a, .inr (2, [.int (S.O_Reaching.f_gain a), .int (S.O_Reaching.f_loss a), .int (S.O_Reaching.f_gap a), .int (S.O_Reaching.f_limit a), va_rf (S.O_Reaching.f_twoBefore a), va_rf (S.O_Reaching.f_oneBefore a), va_rf (S.O_Reaching.f_current a), .int (S.O_Reaching.f_endScore a), .int (S.O_Reaching.f_endP a), .int v, .int (S.O_Reaching.f_aliveCells a), .int (S.O_Reaching.f_lastSlope a)])) = X ++ va_pl S.L (wPF cyI { S with O_Reaching := { S.O_Reaching with f_endQ := va_up S.O_Reaching.f_endQ a v } }) := by
  rw [va_pl_set hD hL hk]
  exact congrArg (fun l => X ++ l) (va_pl_congr (wSt_O_Reaching_f_endQ cyI S h v))
theorem wSt_O_Reaching_f_aliveCells (cyI : ClassId) (S : wPS) {a : Nat} (h : S.K a = 2) (v : Int32) (b : Nat) : va_up (wPF cyI S) a (.inr (2, [.int (S.O_Reaching.f_gain a), .int (S.O_Reaching.f_loss a), .int (S.O_Reaching.f_gap a), .int (S.O_Reaching.f_limit a), va_rf (S.O_Reaching.f_twoBefore a), va_rf (S.O_Reaching.f_oneBefore a), va_rf (S.O_Reaching.f_current a), .int (S.O_Reaching.f_endScore a), .int (S.O_Reaching.f_endP a), .int (S.O_Reaching.f_endQ a), .int v, .int (S.O_Reaching.f_lastSlope a)])) b = wPF cyI { S with O_Reaching := { S.O_Reaching with f_aliveCells := va_up S.O_Reaching.f_aliveCells a v } } b := by by_cases hb : b = a <;> first | (simp only [wPF, va_up_ne _ _ hb]; done) | (simp only [wPF, va_up, if_neg hb]; done) | simp [wPF, va_re, va_up, va_rf, hb, h]
theorem wPu_O_Reaching_f_aliveCells (cyI : ClassId) (X : va_W) (S : wPS) {A : Nat → Prop} {a k : Nat} (hD : va_D A (X ++ va_pl S.L (wPF cyI S))) (hL : a ∈ S.L) (h : S.K a = 2) (hk : (X ++ va_pl S.L (wPF cyI S))[k]? = some (a, wPF cyI S a)) (v : Int32) : (X ++ va_pl S.L (wPF cyI S)).set k (a, .inr (2, [.int (S.O_Reaching.f_gain a), .int (S.O_Reaching.f_loss a), .int (S.O_Reaching.f_gap a), .int (S.O_Reaching.f_limit a), va_rf (S.O_Reaching.f_twoBefore a), va_rf (S.O_Reaching.f_oneBefore a), va_rf (S.O_Reaching.f_current a), .int (S.O_Reaching.f_endScore a), .int (S.O_Reaching.f_endP a), .int (S.O_Reaching.f_endQ a), .int v, .int (S.O_Reaching.f_lastSlope a)])) = X ++ va_pl S.L (wPF cyI { S with O_Reaching := { S.O_Reaching with f_aliveCells := va_up S.O_Reaching.f_aliveCells a v } }) := by
  rw [va_pl_set hD hL hk]
  exact congrArg (fun l => X ++ l) (va_pl_congr (wSt_O_Reaching_f_aliveCells cyI S h v))
theorem wSt_O_Reaching_f_lastSlope (cyI : ClassId) (S : wPS) {a : Nat} (h : S.K a = 2) (v : Int32) (b : Nat) : va_up (wPF cyI S) a (.inr (2, [.int (S.O_Reaching.f_gain a), .int (S.O_Reaching.f_loss a), .int (S.O_Reaching.f_gap a), .int (S.O_Reaching.f_limit a), va_rf (S.O_Reaching.f_twoBefore a), va_rf (S.O_Reaching.f_oneBefore a), va_rf (S.O_Reaching.f_current a), .int (S.O_Reaching.f_endScore a), .int (S.O_Reaching.f_endP a), .int (S.O_Reaching.f_endQ a), .int (S.O_Reaching.f_aliveCells a), .int v])) b = wPF cyI { S with O_Reaching := { S.O_Reaching with f_lastSlope := va_up S.O_Reaching.f_lastSlope a v } } b := by by_cases hb : b = a <;> first | (simp only [wPF, va_up_ne _ _ hb]; done) | (simp only [wPF, va_up, if_neg hb]; done) | simp [wPF, va_re, va_up, va_rf, hb, h]
theorem wPu_O_Reaching_f_lastSlope (cyI : ClassId) (X : va_W) (S : wPS) {A : Nat → Prop} {a k : Nat} (hD : va_D A (X ++ va_pl S.L (wPF cyI S))) (hL : a ∈ S.L) (h : S.K a = 2) (hk : (X ++ va_pl S.L (wPF cyI S))[k]? = some (a, wPF cyI S a)) (v : Int32) : (X ++ va_pl S.L (wPF cyI S)).set k (a, .inr (2, [.int (S.O_Reaching.f_gain a), .int (S.O_Reaching.f_loss a), .int (S.O_Reaching.f_gap a), .int (S.O_Reaching.f_limit a), va_rf (S.O_Reaching.f_twoBefore a), va_rf (S.O_Reaching.f_oneBefore a), va_rf (S.O_Reaching.f_current a), .int (S.O_Reaching.f_endScore a), .int (S.O_Reaching.f_endP a), .int (S.O_Reaching.f_endQ a), .int (S.O_Reaching.f_aliveCells a), .int v])) = X ++ va_pl S.L (wPF cyI { S with O_Reaching := { S.O_Reaching with f_lastSlope := va_up S.O_Reaching.f_lastSlope a v } }) := by
  rw [va_pl_set hD hL hk]
  exact congrArg (fun l => X ++ l) (va_pl_congr (wSt_O_Reaching_f_lastSlope cyI S h v))
theorem wNw_O_Reaching (cyI : ClassId) (S : wPS) (a b : Nat) : va_up (wPF cyI S) a (.inr (2, [.int 0, .int 0, .int 0, .int 0, .null, .null, .null, .int 0, .int 0, .int 0, .int 0, .int 0])) b = wPF cyI { S with L := S.L ++ [a], K := va_up S.K a 2, O_Reaching := { f_gain := va_up S.O_Reaching.f_gain a 0, f_loss := va_up S.O_Reaching.f_loss a 0, f_gap := va_up S.O_Reaching.f_gap a 0, f_limit := va_up S.O_Reaching.f_limit a 0, f_twoBefore := va_up S.O_Reaching.f_twoBefore a none, f_oneBefore := va_up S.O_Reaching.f_oneBefore a none, f_current := va_up S.O_Reaching.f_current a none, f_endScore := va_up S.O_Reaching.f_endScore a 0, f_endP := va_up S.O_Reaching.f_endP a 0, f_endQ := va_up S.O_Reaching.f_endQ a 0, f_aliveCells := va_up S.O_Reaching.f_aliveCells a 0, f_lastSlope := va_up S.O_Reaching.f_lastSlope a 0 } } b := by by_cases hb : b = a <;> first | (simp only [wPF, va_up_ne _ _ hb]; done) | (simp only [wPF, va_up, if_neg hb]; done) | simp [wPF, va_re, va_up, va_rf, hb]
theorem wPn_O_Reaching (cyI : ClassId) (X : va_W) (S : wPS) {a : Nat} (ha : a ∉ S.L) : (X ++ va_pl S.L (wPF cyI S)) ++ [(a, .inr (2, [.int 0, .int 0, .int 0, .int 0, .null, .null, .null, .int 0, .int 0, .int 0, .int 0, .int 0]))] = X ++ va_pl (S.L ++ [a]) (wPF cyI { S with L := S.L ++ [a], K := va_up S.K a 2, O_Reaching := { f_gain := va_up S.O_Reaching.f_gain a 0, f_loss := va_up S.O_Reaching.f_loss a 0, f_gap := va_up S.O_Reaching.f_gap a 0, f_limit := va_up S.O_Reaching.f_limit a 0, f_twoBefore := va_up S.O_Reaching.f_twoBefore a none, f_oneBefore := va_up S.O_Reaching.f_oneBefore a none, f_current := va_up S.O_Reaching.f_current a none, f_endScore := va_up S.O_Reaching.f_endScore a 0, f_endP := va_up S.O_Reaching.f_endP a 0, f_endQ := va_up S.O_Reaching.f_endQ a 0, f_aliveCells := va_up S.O_Reaching.f_aliveCells a 0, f_lastSlope := va_up S.O_Reaching.f_lastSlope a 0 } }) := by
  rw [List.append_assoc, va_pl_push ha]
  exact congrArg (fun l => X ++ l) (va_pl_congr (wNw_O_Reaching cyI S a))
theorem wAt_O_Seeds (cyI : ClassId) (S : wPS) {a : Nat} (h : S.K a = 3) : wPF cyI S a = .inr (3, [va_rf (S.O_Seeds.f_first a), va_rf (S.O_Seeds.f_second a), .int (S.O_Seeds.f_length a)]) := by simp [wPF, h]
theorem wGt_O_Seeds (cyI : ClassId) (X : va_W) (S : wPS) {a : Nat} (hL : a ∈ S.L) (h : S.K a = 3) : ∃ k : Nat, (X ++ va_pl S.L (wPF cyI S))[k]? = some (a, wPF cyI S a) ∧ (X ++ va_pl S.L (wPF cyI S))[k]? = some (a, .inr (3, [va_rf (S.O_Seeds.f_first a), va_rf (S.O_Seeds.f_second a), .int (S.O_Seeds.f_length a)])) := by
  obtain ⟨k, hk⟩ := va_pl_get (X := X) (f := wPF cyI S) hL
  exact ⟨k, hk, hk.trans (congrArg (fun e => some (a, e)) (wAt_O_Seeds cyI S h))⟩
theorem wSt_O_Seeds_f_first (cyI : ClassId) (S : wPS) {a : Nat} (h : S.K a = 3) (v : Option Nat) (b : Nat) : va_up (wPF cyI S) a (.inr (3, [va_rf v, va_rf (S.O_Seeds.f_second a), .int (S.O_Seeds.f_length a)])) b = wPF cyI { S with O_Seeds := { S.O_Seeds with f_first := va_up S.O_Seeds.f_first a v } } b := by by_cases hb : b = a <;> first | (simp only [wPF, va_up_ne _ _ hb]; done) | (simp only [wPF, va_up, if_neg hb]; done) | simp [wPF, va_re, va_up, va_rf, hb, h]
theorem wPu_O_Seeds_f_first (cyI : ClassId) (X : va_W) (S : wPS) {A : Nat → Prop} {a k : Nat} (hD : va_D A (X ++ va_pl S.L (wPF cyI S))) (hL : a ∈ S.L) (h : S.K a = 3) (hk : (X ++ va_pl S.L (wPF cyI S))[k]? = some (a, wPF cyI S a)) (v : Option Nat) : (X ++ va_pl S.L (wPF cyI S)).set k (a, .inr (3, [va_rf v, va_rf (S.O_Seeds.f_second a), .int (S.O_Seeds.f_length a)])) = X ++ va_pl S.L (wPF cyI { S with O_Seeds := { S.O_Seeds with f_first := va_up S.O_Seeds.f_first a v } }) := by
  rw [va_pl_set hD hL hk]
  exact congrArg (fun l => X ++ l) (va_pl_congr (wSt_O_Seeds_f_first cyI S h v))
theorem wSt_O_Seeds_f_second (cyI : ClassId) (S : wPS) {a : Nat} (h : S.K a = 3) (v : Option Nat) (b : Nat) : va_up (wPF cyI S) a (.inr (3, [va_rf (S.O_Seeds.f_first a), va_rf v, .int (S.O_Seeds.f_length a)])) b = wPF cyI { S with O_Seeds := { S.O_Seeds with f_second := va_up S.O_Seeds.f_second a v } } b := by by_cases hb : b = a <;> first | (simp only [wPF, va_up_ne _ _ hb]; done) | (simp only [wPF, va_up, if_neg hb]; done) | simp [wPF, va_re, va_up, va_rf, hb, h]
theorem wPu_O_Seeds_f_second (cyI : ClassId) (X : va_W) (S : wPS) {A : Nat → Prop} {a k : Nat} (hD : va_D A (X ++ va_pl S.L (wPF cyI S))) (hL : a ∈ S.L) (h : S.K a = 3) (hk : (X ++ va_pl S.L (wPF cyI S))[k]? = some (a, wPF cyI S a)) (v : Option Nat) : (X ++ va_pl S.L (wPF cyI S)).set k (a, .inr (3, [va_rf (S.O_Seeds.f_first a), va_rf v, .int (S.O_Seeds.f_length a)])) = X ++ va_pl S.L (wPF cyI { S with O_Seeds := { S.O_Seeds with f_second := va_up S.O_Seeds.f_second a v } }) := by
  rw [va_pl_set hD hL hk]
  exact congrArg (fun l => X ++ l) (va_pl_congr (wSt_O_Seeds_f_second cyI S h v))
theorem wSt_O_Seeds_f_length (cyI : ClassId) (S : wPS) {a : Nat} (h : S.K a = 3) (v : Int32) (b : Nat) : va_up (wPF cyI S) a (.inr (3, [va_rf (S.O_Seeds.f_first a), va_rf (S.O_Seeds.f_second a), .int v])) b = wPF cyI { S with O_Seeds := { S.O_Seeds with f_length := va_up S.O_Seeds.f_length a v } } b := by by_cases hb : b = a <;> first | (simp only [wPF, va_up_ne _ _ hb]; done) | (simp only [wPF, va_up, if_neg hb]; done) | simp [wPF, va_re, va_up, va_rf, hb, h]
theorem wPu_O_Seeds_f_length (cyI : ClassId) (X : va_W) (S : wPS) {A : Nat → Prop} {a k : Nat} (hD : va_D A (X ++ va_pl S.L (wPF cyI S))) (hL : a ∈ S.L) (h : S.K a = 3) (hk : (X ++ va_pl S.L (wPF cyI S))[k]? = some (a, wPF cyI S a)) (v : Int32) : (X ++ va_pl S.L (wPF cyI S)).set k (a, .inr (3, [va_rf (S.O_Seeds.f_first a), va_rf (S.O_Seeds.f_second a), .int v])) = X ++ va_pl S.L (wPF cyI { S with O_Seeds := { S.O_Seeds with f_length := va_up S.O_Seeds.f_length a v } }) := by
  rw [va_pl_set hD hL hk]
  exact congrArg (fun l => X ++ l) (va_pl_congr (wSt_O_Seeds_f_length cyI S h v))
theorem wNw_O_Seeds (cyI : ClassId) (S : wPS) (a b : Nat) : va_up (wPF cyI S) a (.inr (3, [.null, .null, .int 0])) b = wPF cyI { S with L := S.L ++ [a], K := va_up S.K a 3, O_Seeds := { f_first := va_up S.O_Seeds.f_first a none, f_second := va_up S.O_Seeds.f_second a none, f_length := va_up S.O_Seeds.f_length a 0 } } b := by by_cases hb : b = a <;> first | (simp only [wPF, va_up_ne _ _ hb]; done) | (simp only [wPF, va_up, if_neg hb]; done) | simp [wPF, va_re, va_up, va_rf, hb]
theorem wPn_O_Seeds (cyI : ClassId) (X : va_W) (S : wPS) {a : Nat} (ha : a ∉ S.L) : (X ++ va_pl S.L (wPF cyI S)) ++ [(a, .inr (3, [.null, .null, .int 0]))] = X ++ va_pl (S.L ++ [a]) (wPF cyI { S with L := S.L ++ [a], K := va_up S.K a 3, O_Seeds := { f_first := va_up S.O_Seeds.f_first a none, f_second := va_up S.O_Seeds.f_second a none, f_length := va_up S.O_Seeds.f_length a 0 } }) := by
  rw [List.append_assoc, va_pl_push ha]
  exact congrArg (fun l => X ++ l) (va_pl_congr (wNw_O_Seeds cyI S a))
theorem wAt_O_SeedChainer (cyI : ClassId) (S : wPS) {a : Nat} (h : S.K a = 4) : wPF cyI S a = .inr (4, [va_rf (S.O_SeedChainer.f_row0 a), va_rf (S.O_SeedChainer.f_row1 a), va_rf (S.O_SeedChainer.f_seedPairs a), va_rf (S.O_SeedChainer.f_best a), va_rf (S.O_SeedChainer.f_reaching a), .int (S.O_SeedChainer.f_gapPenalty a), .int (S.O_SeedChainer.f_bestIsFresh a)]) := by simp [wPF, h]
theorem wGt_O_SeedChainer (cyI : ClassId) (X : va_W) (S : wPS) {a : Nat} (hL : a ∈ S.L) (h : S.K a = 4) : ∃ k : Nat, (X ++ va_pl S.L (wPF cyI S))[k]? = some (a, wPF cyI S a) ∧ (X ++ va_pl S.L (wPF cyI S))[k]? = some (a, .inr (4, [va_rf (S.O_SeedChainer.f_row0 a), va_rf (S.O_SeedChainer.f_row1 a), va_rf (S.O_SeedChainer.f_seedPairs a), va_rf (S.O_SeedChainer.f_best a), va_rf (S.O_SeedChainer.f_reaching a), .int (S.O_SeedChainer.f_gapPenalty a), .int (S.O_SeedChainer.f_bestIsFresh a)])) := by
  obtain ⟨k, hk⟩ := va_pl_get (X := X) (f := wPF cyI S) hL
  exact ⟨k, hk, hk.trans (congrArg (fun e => some (a, e)) (wAt_O_SeedChainer cyI S h))⟩
theorem wSt_O_SeedChainer_f_row0 (cyI : ClassId) (S : wPS) {a : Nat} (h : S.K a = 4) (v : Option Nat) (b : Nat) : va_up (wPF cyI S) a (.inr (4, [va_rf v, va_rf (S.O_SeedChainer.f_row1 a), va_rf (S.O_SeedChainer.f_seedPairs a), va_rf (S.O_SeedChainer.f_best a), va_rf (S.O_SeedChainer.f_reaching a), .int (S.O_SeedChainer.f_gapPenalty a), .int (S.O_SeedChainer.f_bestIsFresh a)])) b = wPF cyI { S with O_SeedChainer := { S.O_SeedChainer with f_row0 := va_up S.O_SeedChainer.f_row0 a v } } b := by by_cases hb : b = a <;> first | (simp only [wPF, va_up_ne _ _ hb]; done) | (simp only [wPF, va_up, if_neg hb]; done) | simp [wPF, va_re, va_up, va_rf, hb, h]
theorem wPu_O_SeedChainer_f_row0 (cyI : ClassId) (X : va_W) (S : wPS) {A : Nat → Prop} {a k : Nat} (hD : va_D A (X ++ va_pl S.L (wPF cyI S))) (hL : a ∈ S.L) (h : S.K a = 4) (hk : (X ++ va_pl S.L (wPF cyI S))[k]? = some (a, wPF cyI S a)) (v : Option Nat) : (X ++ va_pl S.L (wPF cyI S)).set k (a, .inr (4, [va_rf v, va_rf (S.O_SeedChainer.f_row1 a), va_rf (S.O_SeedChainer.f_seedPairs a), va_rf (S.O_SeedChainer.f_best a), va_rf (S.O_SeedChainer.f_reaching a), .int (S.O_SeedChainer.f_gapPenalty a), .int (S.O_SeedChainer.f_bestIsFresh a)])) = X ++ va_pl S.L (wPF cyI { S with O_SeedChainer := { S.O_SeedChainer with f_row0 := va_up S.O_SeedChainer.f_row0 a v } }) := by
  rw [va_pl_set hD hL hk]
  exact congrArg (fun l => X ++ l) (va_pl_congr (wSt_O_SeedChainer_f_row0 cyI S h v))
theorem wSt_O_SeedChainer_f_row1 (cyI : ClassId) (S : wPS) {a : Nat} (h : S.K a = 4) (v : Option Nat) (b : Nat) : va_up (wPF cyI S) a (.inr (4, [va_rf (S.O_SeedChainer.f_row0 a), va_rf v, va_rf (S.O_SeedChainer.f_seedPairs a), va_rf (S.O_SeedChainer.f_best a), va_rf (S.O_SeedChainer.f_reaching a), .int (S.O_SeedChainer.f_gapPenalty a), .int (S.O_SeedChainer.f_bestIsFresh a)])) b = wPF cyI { S with O_SeedChainer := { S.O_SeedChainer with f_row1 := va_up S.O_SeedChainer.f_row1 a v } } b := by by_cases hb : b = a <;> first | (simp only [wPF, va_up_ne _ _ hb]; done) | (simp only [wPF, va_up, if_neg hb]; done) | simp [wPF, va_re, va_up, va_rf, hb, h]
theorem wPu_O_SeedChainer_f_row1 (cyI : ClassId) (X : va_W) (S : wPS) {A : Nat → Prop} {a k : Nat} (hD : va_D A (X ++ va_pl S.L (wPF cyI S))) (hL : a ∈ S.L) (h : S.K a = 4) (hk : (X ++ va_pl S.L (wPF cyI S))[k]? = some (a, wPF cyI S a)) (v : Option Nat) : (X ++ va_pl S.L (wPF cyI S)).set k (a, .inr (4, [va_rf (S.O_SeedChainer.f_row0 a), va_rf v, va_rf (S.O_SeedChainer.f_seedPairs a), va_rf (S.O_SeedChainer.f_best a), va_rf (S.O_SeedChainer.f_reaching a), .int (S.O_SeedChainer.f_gapPenalty a), .int (S.O_SeedChainer.f_bestIsFresh a)])) = X ++ va_pl S.L (wPF cyI { S with O_SeedChainer := { S.O_SeedChainer with f_row1 := va_up S.O_SeedChainer.f_row1 a v } }) := by
  rw [va_pl_set hD hL hk]
  exact congrArg (fun l => X ++ l) (va_pl_congr (wSt_O_SeedChainer_f_row1 cyI S h v))
theorem wSt_O_SeedChainer_f_seedPairs (cyI : ClassId) (S : wPS) {a : Nat} (h : S.K a = 4) (v : Option Nat) (b : Nat) : va_up (wPF cyI S) a (.inr (4, [va_rf (S.O_SeedChainer.f_row0 a), va_rf (S.O_SeedChainer.f_row1 a), va_rf v, va_rf (S.O_SeedChainer.f_best a), va_rf (S.O_SeedChainer.f_reaching a), .int (S.O_SeedChainer.f_gapPenalty a), .int (S.O_SeedChainer.f_bestIsFresh a)])) b = wPF cyI { S with O_SeedChainer := { S.O_SeedChainer with f_seedPairs := va_up S.O_SeedChainer.f_seedPairs a v } } b := by by_cases hb : b = a <;> first | (simp only [wPF, va_up_ne _ _ hb]; done) | (simp only [wPF, va_up, if_neg hb]; done) | simp [wPF, va_re, va_up, va_rf, hb, h]
theorem wPu_O_SeedChainer_f_seedPairs (cyI : ClassId) (X : va_W) (S : wPS) {A : Nat → Prop} {a k : Nat} (hD : va_D A (X ++ va_pl S.L (wPF cyI S))) (hL : a ∈ S.L) (h : S.K a = 4) (hk : (X ++ va_pl S.L (wPF cyI S))[k]? = some (a, wPF cyI S a)) (v : Option Nat) : (X ++ va_pl S.L (wPF cyI S)).set k (a, .inr (4, [va_rf (S.O_SeedChainer.f_row0 a), va_rf (S.O_SeedChainer.f_row1 a), va_rf v, va_rf (S.O_SeedChainer.f_best a), va_rf (S.O_SeedChainer.f_reaching a), .int (S.O_SeedChainer.f_gapPenalty a), .int (S.O_SeedChainer.f_bestIsFresh a)])) = X ++ va_pl S.L (wPF cyI { S with O_SeedChainer := { S.O_SeedChainer with f_seedPairs := va_up S.O_SeedChainer.f_seedPairs a v } }) := by
  rw [va_pl_set hD hL hk]
  exact congrArg (fun l => X ++ l) (va_pl_congr (wSt_O_SeedChainer_f_seedPairs cyI S h v))
theorem wSt_O_SeedChainer_f_best (cyI : ClassId) (S : wPS) {a : Nat} (h : S.K a = 4) (v : Option Nat) (b : Nat) : va_up (wPF cyI S) a (.inr (4, [va_rf (S.O_SeedChainer.f_row0 a), va_rf (S.O_SeedChainer.f_row1 a), va_rf (S.O_SeedChainer.f_seedPairs a), va_rf v, va_rf (S.O_SeedChainer.f_reaching a), .int (S.O_SeedChainer.f_gapPenalty a), .int (S.O_SeedChainer.f_bestIsFresh a)])) b = wPF cyI { S with O_SeedChainer := { S.O_SeedChainer with f_best := va_up S.O_SeedChainer.f_best a v } } b := by by_cases hb : b = a <;> first | (simp only [wPF, va_up_ne _ _ hb]; done) | (simp only [wPF, va_up, if_neg hb]; done) | simp [wPF, va_re, va_up, va_rf, hb, h]
theorem wPu_O_SeedChainer_f_best (cyI : ClassId) (X : va_W) (S : wPS) {A : Nat → Prop} {a k : Nat} (hD : va_D A (X ++ va_pl S.L (wPF cyI S))) (hL : a ∈ S.L) (h : S.K a = 4) (hk : (X ++ va_pl S.L (wPF cyI S))[k]? = some (a, wPF cyI S a)) (v : Option Nat) : (X ++ va_pl S.L (wPF cyI S)).set k (a, .inr (4, [va_rf (S.O_SeedChainer.f_row0 a), va_rf (S.O_SeedChainer.f_row1 a), va_rf (S.O_SeedChainer.f_seedPairs a), va_rf v, va_rf (S.O_SeedChainer.f_reaching a), .int (S.O_SeedChainer.f_gapPenalty a), .int (S.O_SeedChainer.f_bestIsFresh a)])) = X ++ va_pl S.L (wPF cyI { S with O_SeedChainer := { S.O_SeedChainer with f_best := va_up S.O_SeedChainer.f_best a v } }) := by
  rw [va_pl_set hD hL hk]
  exact congrArg (fun l => X ++ l) (va_pl_congr (wSt_O_SeedChainer_f_best cyI S h v))
theorem wSt_O_SeedChainer_f_reaching (cyI : ClassId) (S : wPS) {a : Nat} (h : S.K a = 4) (v : Option Nat) (b : Nat) : va_up (wPF cyI S) a (.inr (4, [va_rf (S.O_SeedChainer.f_row0 a), va_rf (S.O_SeedChainer.f_row1 a), va_rf (S.O_SeedChainer.f_seedPairs a), va_rf (S.O_SeedChainer.f_best a), va_rf v, .int (S.O_SeedChainer.f_gapPenalty a), .int (S.O_SeedChainer.f_bestIsFresh a)])) b = wPF cyI { S with O_SeedChainer := { S.O_SeedChainer with f_reaching := va_up S.O_SeedChainer.f_reaching a v } } b := by by_cases hb : b = a <;> first | (simp only [wPF, va_up_ne _ _ hb]; done) | (simp only [wPF, va_up, if_neg hb]; done) | simp [wPF, va_re, va_up, va_rf, hb, h]
theorem wPu_O_SeedChainer_f_reaching (cyI : ClassId) (X : va_W) (S : wPS) {A : Nat → Prop} {a k : Nat} (hD : va_D A (X ++ va_pl S.L (wPF cyI S))) (hL : a ∈ S.L) (h : S.K a = 4) (hk : (X ++ va_pl S.L (wPF cyI S))[k]? = some (a, wPF cyI S a)) (v : Option Nat) : (X ++ va_pl S.L (wPF cyI S)).set k (a, .inr (4, [va_rf (S.O_SeedChainer.f_row0 a), va_rf (S.O_SeedChainer.f_row1 a), va_rf (S.O_SeedChainer.f_seedPairs a), va_rf (S.O_SeedChainer.f_best a), va_rf v, .int (S.O_SeedChainer.f_gapPenalty a), .int (S.O_SeedChainer.f_bestIsFresh a)])) = X ++ va_pl S.L (wPF cyI { S with O_SeedChainer := { S.O_SeedChainer with f_reaching := va_up S.O_SeedChainer.f_reaching a v } }) := by
  rw [va_pl_set hD hL hk]
  exact congrArg (fun l => X ++ l) (va_pl_congr (wSt_O_SeedChainer_f_reaching cyI S h v))
theorem wSt_O_SeedChainer_f_gapPenalty (cyI : ClassId) (S : wPS) {a : Nat} (h : S.K a = 4) (v : Int32) (b : Nat) : va_up (wPF cyI S) a (.inr (4, [va_rf (S.O_SeedChainer.f_row0 a), va_rf (S.O_SeedChainer.f_row1 a), va_rf (S.O_SeedChainer.f_seedPairs a), va_rf (S.O_SeedChainer.f_best a), va_rf (S.O_SeedChainer.f_reaching a), .int v, .int (S.O_SeedChainer.f_bestIsFresh a)])) b = wPF cyI { S with O_SeedChainer := { S.O_SeedChainer with f_gapPenalty := va_up S.O_SeedChainer.f_gapPenalty a v } } b := by by_cases hb : b = a <;> first | (simp only [wPF, va_up_ne _ _ hb]; done) | (simp only [wPF, va_up, if_neg hb]; done) | simp [wPF, va_re, va_up, va_rf, hb, h]
theorem wPu_O_SeedChainer_f_gapPenalty (cyI : ClassId) (X : va_W) (S : wPS) {A : Nat → Prop} {a k : Nat} (hD : va_D A (X ++ va_pl S.L (wPF cyI S))) (hL : a ∈ S.L) (h : S.K a = 4) (hk : (X ++ va_pl S.L (wPF cyI S))[k]? = some (a, wPF cyI S a)) (v : Int32) : (X ++ va_pl S.L (wPF cyI S)).set k (a, .inr (4, [va_rf (S.O_SeedChainer.f_row0 a), va_rf (S.O_SeedChainer.f_row1 a), va_rf (S.O_SeedChainer.f_seedPairs a), va_rf (S.O_SeedChainer.f_best a), va_rf (S.O_SeedChainer.f_reaching a), .int v, .int (S.O_SeedChainer.f_bestIsFresh a)])) = X ++ va_pl S.L (wPF cyI { S with O_SeedChainer := { S.O_SeedChainer with f_gapPenalty := va_up S.O_SeedChainer.f_gapPenalty a v } }) := by
  rw [va_pl_set hD hL hk]
  exact congrArg (fun l => X ++ l) (va_pl_congr (wSt_O_SeedChainer_f_gapPenalty cyI S h v))
theorem wSt_O_SeedChainer_f_bestIsFresh (cyI : ClassId) (S : wPS) {a : Nat} (h : S.K a = 4) (v : Int32) (b : Nat) : va_up (wPF cyI S) a (.inr (4, [va_rf (S.O_SeedChainer.f_row0 a), va_rf (S.O_SeedChainer.f_row1 a), va_rf (S.O_SeedChainer.f_seedPairs a), va_rf (S.O_SeedChainer.f_best a), va_rf (S.O_SeedChainer.f_reaching a), .int (S.O_SeedChainer.f_gapPenalty a), .int v])) b = wPF cyI { S with O_SeedChainer := { S.O_SeedChainer with f_bestIsFresh := va_up S.O_SeedChainer.f_bestIsFresh a v } } b := by by_cases hb : b = a <;> first | (simp only [wPF, va_up_ne _ _ hb]; done) | (simp only [wPF, va_up, if_neg hb]; done) | simp [wPF, va_re, va_up, va_rf, hb, h]
theorem wPu_O_SeedChainer_f_bestIsFresh (cyI : ClassId) (X : va_W) (S : wPS) {A : Nat → Prop} {a k : Nat} (hD : va_D A (X ++ va_pl S.L (wPF cyI S))) (hL : a ∈ S.L) (h : S.K a = 4) (hk : (X ++ va_pl S.L (wPF cyI S))[k]? = some (a, wPF cyI S a)) (v : Int32) : (X ++ va_pl S.L (wPF cyI S)).set k (a, .inr (4, [va_rf (S.O_SeedChainer.f_row0 a), va_rf (S.O_SeedChainer.f_row1 a), va_rf (S.O_SeedChainer.f_seedPairs a), va_rf (S.O_SeedChainer.f_best a), va_rf (S.O_SeedChainer.f_reaching a), .int (S.O_SeedChainer.f_gapPenalty a), .int v])) = X ++ va_pl S.L (wPF cyI { S with O_SeedChainer := { S.O_SeedChainer with f_bestIsFresh := va_up S.O_SeedChainer.f_bestIsFresh a v } }) := by
  rw [va_pl_set hD hL hk]
  exact congrArg (fun l => X ++ l) (va_pl_congr (wSt_O_SeedChainer_f_bestIsFresh cyI S h v))
theorem wNw_O_SeedChainer (cyI : ClassId) (S : wPS) (a b : Nat) : va_up (wPF cyI S) a (.inr (4, [.null, .null, .null, .null, .null, .int 0, .int 0])) b = wPF cyI { S with L := S.L ++ [a], K := va_up S.K a 4, O_SeedChainer := { f_row0 := va_up S.O_SeedChainer.f_row0 a none, f_row1 := va_up S.O_SeedChainer.f_row1 a none, f_seedPairs := va_up S.O_SeedChainer.f_seedPairs a none, f_best := va_up S.O_SeedChainer.f_best a none, f_reaching := va_up S.O_SeedChainer.f_reaching a none, f_gapPenalty := va_up S.O_SeedChainer.f_gapPenalty a 0, f_bestIsFresh := va_up S.O_SeedChainer.f_bestIsFresh a 0 } } b := by by_cases hb : b = a <;> first | (simp only [wPF, va_up_ne _ _ hb]; done) | (simp only [wPF, va_up, if_neg hb]; done) | simp [wPF, va_re, va_up, va_rf, hb]
theorem wPn_O_SeedChainer (cyI : ClassId) (X : va_W) (S : wPS) {a : Nat} (ha : a ∉ S.L) : (X ++ va_pl S.L (wPF cyI S)) ++ [(a, .inr (4, [.null, .null, .null, .null, .null, .int 0, .int 0]))] = X ++ va_pl (S.L ++ [a]) (wPF cyI { S with L := S.L ++ [a], K := va_up S.K a 4, O_SeedChainer := { f_row0 := va_up S.O_SeedChainer.f_row0 a none, f_row1 := va_up S.O_SeedChainer.f_row1 a none, f_seedPairs := va_up S.O_SeedChainer.f_seedPairs a none, f_best := va_up S.O_SeedChainer.f_best a none, f_reaching := va_up S.O_SeedChainer.f_reaching a none, f_gapPenalty := va_up S.O_SeedChainer.f_gapPenalty a 0, f_bestIsFresh := va_up S.O_SeedChainer.f_bestIsFresh a 0 } }) := by
  rw [List.append_assoc, va_pl_push ha]
  exact congrArg (fun l => X ++ l) (va_pl_congr (wNw_O_SeedChainer cyI S a))
theorem wAt_R_I (cyI : ClassId) (S : wPS) {a : Nat} (h : S.K a = 5) : wPF cyI S a = .inl (cyI, S.R_I.len a, .inl (S.R_I.row a)) := by simp [wPF, h]
theorem wGt_R_I (cyI : ClassId) (X : va_W) (S : wPS) {a : Nat} (hL : a ∈ S.L) (h : S.K a = 5) : ∃ k : Nat, (X ++ va_pl S.L (wPF cyI S))[k]? = some (a, wPF cyI S a) ∧ (X ++ va_pl S.L (wPF cyI S))[k]? = some (a, .inl (cyI, S.R_I.len a, .inl (S.R_I.row a))) := by
  obtain ⟨k, hk⟩ := va_pl_get (X := X) (f := wPF cyI S) hL
  exact ⟨k, hk, hk.trans (congrArg (fun e => some (a, e)) (wAt_R_I cyI S h))⟩
theorem wSt_R_I_row (cyI : ClassId) (S : wPS) {a : Nat} (h : S.K a = 5) (v : Nat → Int32) (b : Nat) : va_up (wPF cyI S) a (.inl (cyI, S.R_I.len a, .inl v)) b = wPF cyI { S with R_I := { S.R_I with row := va_up S.R_I.row a v } } b := by by_cases hb : b = a <;> first | (simp only [wPF, va_up_ne _ _ hb]; done) | (simp only [wPF, va_up, if_neg hb]; done) | simp [wPF, va_re, va_up, va_rf, hb, h]
theorem wPu_R_I_row (cyI : ClassId) (X : va_W) (S : wPS) {A : Nat → Prop} {a k : Nat} (hD : va_D A (X ++ va_pl S.L (wPF cyI S))) (hL : a ∈ S.L) (h : S.K a = 5) (hk : (X ++ va_pl S.L (wPF cyI S))[k]? = some (a, wPF cyI S a)) (v : Nat → Int32) : (X ++ va_pl S.L (wPF cyI S)).set k (a, .inl (cyI, S.R_I.len a, .inl v)) = X ++ va_pl S.L (wPF cyI { S with R_I := { S.R_I with row := va_up S.R_I.row a v } }) := by
  rw [va_pl_set hD hL hk]
  exact congrArg (fun l => X ++ l) (va_pl_congr (wSt_R_I_row cyI S h v))
theorem wNw_R_I (cyI : ClassId) (S : wPS) (a : Nat) (z : Nat) (f : Nat → Int32) (b : Nat) : va_up (wPF cyI S) a (.inl (cyI, z, .inl f)) b = wPF cyI { S with L := S.L ++ [a], K := va_up S.K a 5, R_I := { len := va_up S.R_I.len a z, row := va_up S.R_I.row a f } } b := by by_cases hb : b = a <;> first | (simp only [wPF, va_up_ne _ _ hb]; done) | (simp only [wPF, va_up, if_neg hb]; done) | simp [wPF, va_re, va_up, va_rf, hb]
/-! ===== END printed: names ===== -/
