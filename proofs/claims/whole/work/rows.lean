section
/-! ===== BEGIN words of one list among another's, by their places ===== -/
theorem goodIn_r {big : List Cond} (ws : List Cond) (ps : List Nat) (hp : ws = ps.filterMap (fun i => big[i]?)) (h : ws.all goodWord = true) : GoodIn big ws := by
  intro w hw
  have h1 := List.all_eq_true.mp h w hw
  rw [hp] at hw
  obtain ⟨i, -, hi⟩ := List.mem_filterMap.mp hw
  have hm : w ∈ big := by first | exact List.mem_of_getElem? hi | exact List.getElem?_mem hi
  exact ⟨hm, good_of_word h1⟩
theorem goodIn_app {big a b : List Cond} (ha : GoodIn big a) (hb : GoodIn big b) : GoodIn big (a ++ b) := fun w h => (List.mem_append.mp h).elim (ha w) (hb w)
theorem goodIn_ca {big a b : List Cond} {c : Cond} (ha : GoodIn big (c :: a)) (hb : GoodIn big b) : GoodIn big (c :: (a ++ b)) := fun w h => (List.mem_cons.mp h).elim (fun e => ha w (List.mem_cons.mpr (Or.inl e))) (fun h => (List.mem_append.mp h).elim (fun h => ha w (List.mem_cons.mpr (Or.inr h))) (hb w))
theorem goodIn_sub {big ws : List Cond} (hm : ∀ w ∈ ws, w ∈ big) (h : ws.all goodWord = true) : GoodIn big ws := fun w hw => ⟨hm w hw, good_of_word (List.all_eq_true.mp h w hw)⟩
/-! ===== END ===== -/
def RX0 : String := "LevelScores$Page"
def TX0 : u_T := fun k => match k with
  | 0 => ("LevelScores$Page", "bytes", "[B", true)
  | 1 => ("LevelScores$Page", "length", "I", false)
  | _ => ("LevelScores$Page", "digits", "[B", true)
def tyX0 : Nat → FieldType := fun k => match k with
  | 0 => .array .byte
  | 1 => .int
  | _ => .array .byte
abbrev wsX00 : List Cond := u_ws RX0 TX0 3
theorem nmX0 : ∀ a, a < 3 → ∀ b, b < 3 → a ≠ b → (TX0 a).2.1 ≠ (TX0 b).2.1 := by decide +kernel
theorem tyX0_ok : ∀ k, k < 3 → parseFieldDescriptor (TX0 k).2.2.1 = some (tyX0 k) := by decide +kernel
abbrev cX0_init : ByteArray := prog_2_method_1_code
def yX0_init : MethodName := ⟨RX0, "<init>", "()V"⟩
abbrev cX0_write : ByteArray := prog_2_method_2_code
def yX0_write : MethodName := ⟨RX0, "write", "(LLevelScores$Score;)V"⟩
abbrev cX0_writePlain : ByteArray := prog_2_method_3_code
def yX0_writePlain : MethodName := ⟨RX0, "writePlain", "(LLevelScores$Score;)V"⟩
abbrev cX0_writeBent : ByteArray := prog_2_method_4_code
def yX0_writeBent : MethodName := ⟨RX0, "writeBent", "(LLevelScores$Score;)V"⟩
abbrev cX0_writeList : ByteArray := prog_2_method_5_code
def yX0_writeList : MethodName := ⟨RX0, "writeList", "(LLevelScores$Score;II)V"⟩
abbrev cX0_writeNumber : ByteArray := prog_2_method_6_code
def yX0_writeNumber : MethodName := ⟨RX0, "writeNumber", "(J)V"⟩
abbrev cX0_writeWord : ByteArray := prog_2_method_7_code
def yX0_writeWord : MethodName := ⟨RX0, "writeWord", "(Ljava/lang/String;)V"⟩
abbrev cX0_append : ByteArray := prog_2_method_8_code
def yX0_append : MethodName := ⟨RX0, "append", "(I)V"⟩
def RX1 : String := "LevelScores$Plan"
def TX1 : u_T := fun k => match k with
  | 0 => ("LevelScores$Plan", "pattern", "LLevelScores$Score;", true)
  | 1 => ("LevelScores$Plan", "weights", "[LLevelScores$Score;", true)
  | 2 => ("LevelScores$Plan", "counts", "[I", true)
  | 3 => ("LevelScores$Plan", "rules", "I", false)
  | 4 => ("LevelScores$Plan", "best", "[LLevelScores$Score;", true)
  | 5 => ("LevelScores$Plan", "held", "I", false)
  | 6 => ("LevelScores$Plan", "spare", "LLevelScores$Score;", false)
  | 7 => ("LevelScores$Plan", "sum", "LLevelScores$Wide;", true)
  | _ => ("LevelScores$Plan", "part", "LLevelScores$Wide;", true)
def tyX1 : Nat → FieldType := fun k => match k with
  | 0 => .object "LevelScores$Score"
  | 1 => .array (.object "LevelScores$Score")
  | 2 => .array .int
  | 3 => .int
  | 4 => .array (.object "LevelScores$Score")
  | 5 => .int
  | 6 => .object "LevelScores$Score"
  | 7 => .object "LevelScores$Wide"
  | _ => .object "LevelScores$Wide"
abbrev wsX10 : List Cond := u_ws RX1 TX1 9
theorem nmX1 : ∀ a, a < 9 → ∀ b, b < 9 → a ≠ b → (TX1 a).2.1 ≠ (TX1 b).2.1 := by decide +kernel
theorem tyX1_ok : ∀ k, k < 9 → parseFieldDescriptor (TX1 k).2.2.1 = some (tyX1 k) := by decide +kernel
abbrev cX1_init : ByteArray := prog_3_method_1_code
def yX1_init : MethodName := ⟨RX1, "<init>", "()V"⟩
abbrev cX1_begin : ByteArray := prog_3_method_2_code
def yX1_begin : MethodName := ⟨RX1, "begin", "(LLevelScores$Score;)V"⟩
abbrev cX1_hasRule : ByteArray := prog_3_method_3_code
def yX1_hasRule : MethodName := ⟨RX1, "hasRule", "(I)Z"⟩
abbrev cX1_addRule : ByteArray := prog_3_method_4_code
def yX1_addRule : MethodName := ⟨RX1, "addRule", "(LLevelScores$Score;)I"⟩
abbrev cX1_changeCount : ByteArray := prog_3_method_5_code
def yX1_changeCount : MethodName := ⟨RX1, "changeCount", "(II)Z"⟩
abbrev cX1_changeWeight : ByteArray := prog_3_method_6_code
def yX1_changeWeight : MethodName := ⟨RX1, "changeWeight", "(ILLevelScores$Score;)Z"⟩
abbrev cX1_tradeSpare : ByteArray := prog_3_method_7_code
def yX1_tradeSpare : MethodName := ⟨RX1, "tradeSpare", "(I)V"⟩
abbrev cX1_allFit : ByteArray := prog_3_method_8_code
def yX1_allFit : MethodName := ⟨RX1, "allFit", "()Z"⟩
abbrev cX1_fitsAt : ByteArray := prog_3_method_9_code
def yX1_fitsAt : MethodName := ⟨RX1, "fitsAt", "(I)Z"⟩
abbrev cX1_pricePart : ByteArray := prog_3_method_10_code
def yX1_pricePart : MethodName := ⟨RX1, "pricePart", "(II)V"⟩
abbrev cX1_priceSum : ByteArray := prog_3_method_11_code
def yX1_priceSum : MethodName := ⟨RX1, "priceSum", "(I)V"⟩
abbrev cX1_sumInto : ByteArray := prog_3_method_12_code
def yX1_sumInto : MethodName := ⟨RX1, "sumInto", "(LLevelScores$Score;)V"⟩
abbrev cX1_partInto : ByteArray := prog_3_method_13_code
def yX1_partInto : MethodName := ⟨RX1, "partInto", "(ILLevelScores$Score;)V"⟩
abbrev cX1_bears : ByteArray := prog_3_method_14_code
def yX1_bears : MethodName := ⟨RX1, "bears", "(I)Z"⟩
abbrev cX1_bearsAt : ByteArray := prog_3_method_15_code
def yX1_bearsAt : MethodName := ⟨RX1, "bearsAt", "(IIZ)Z"⟩
abbrev cX1_admit : ByteArray := prog_3_method_16_code
def yX1_admit : MethodName := ⟨RX1, "admit", "(LLevelScores$Score;)I"⟩
def RX2 : String := "LevelScores$Score"
def TX2 : u_T := fun k => match k with
  | 0 => ("LevelScores$Score", "shape", "I", false)
  | 1 => ("LevelScores$Score", "hard", "I", false)
  | 2 => ("LevelScores$Score", "size", "I", false)
  | _ => ("LevelScores$Score", "levels", "[J", true)
def tyX2 : Nat → FieldType := fun k => match k with
  | 0 => .int
  | 1 => .int
  | 2 => .int
  | _ => .array .long
abbrev wsX20 : List Cond := u_ws RX2 TX2 4
theorem nmX2 : ∀ a, a < 4 → ∀ b, b < 4 → a ≠ b → (TX2 a).2.1 ≠ (TX2 b).2.1 := by decide +kernel
theorem tyX2_ok : ∀ k, k < 4 → parseFieldDescriptor (TX2 k).2.2.1 = some (tyX2 k) := by decide +kernel
abbrev cX2_init : ByteArray := prog_4_method_1_code
def yX2_init : MethodName := ⟨RX2, "<init>", "()V"⟩
abbrev cX2_form : ByteArray := prog_4_method_2_code
def yX2_form : MethodName := ⟨RX2, "form", "(III)V"⟩
abbrev cX2_formLike : ByteArray := prog_4_method_3_code
def yX2_formLike : MethodName := ⟨RX2, "formLike", "(LLevelScores$Score;)V"⟩
abbrev cX2_clear : ByteArray := prog_4_method_4_code
def yX2_clear : MethodName := ⟨RX2, "clear", "()V"⟩
abbrev cX2_copy : ByteArray := prog_4_method_5_code
def yX2_copy : MethodName := ⟨RX2, "copy", "(LLevelScores$Score;)V"⟩
abbrev cX2_isNothing : ByteArray := prog_4_method_6_code
def yX2_isNothing : MethodName := ⟨RX2, "isNothing", "()Z"⟩
abbrev cX2_isLike : ByteArray := prog_4_method_7_code
def yX2_isLike : MethodName := ⟨RX2, "isLike", "(LLevelScores$Score;)Z"⟩
abbrev cX2_hasLevel : ByteArray := prog_4_method_8_code
def yX2_hasLevel : MethodName := ⟨RX2, "hasLevel", "(I)Z"⟩
abbrev cX2_isFeasible : ByteArray := prog_4_method_9_code
def yX2_isFeasible : MethodName := ⟨RX2, "isFeasible", "()Z"⟩
abbrev cX2_compareWith : ByteArray := prog_4_method_10_code
def yX2_compareWith : MethodName := ⟨RX2, "compareWith", "(LLevelScores$Score;)I"⟩
abbrev cX2_becomeSum : ByteArray := prog_4_method_11_code
def yX2_becomeSum : MethodName := ⟨RX2, "becomeSum", "(LLevelScores$Score;LLevelScores$Score;)Z"⟩
abbrev cX2_becomeDifference : ByteArray := prog_4_method_12_code
def yX2_becomeDifference : MethodName := ⟨RX2, "becomeDifference", "(LLevelScores$Score;LLevelScores$Score;)Z"⟩
abbrev cX2_becomeGreaterLevels : ByteArray := prog_4_method_13_code
def yX2_becomeGreaterLevels : MethodName := ⟨RX2, "becomeGreaterLevels", "(LLevelScores$Score;LLevelScores$Score;)V"⟩
abbrev cX2_becomeLesserLevels : ByteArray := prog_4_method_14_code
def yX2_becomeLesserLevels : MethodName := ⟨RX2, "becomeLesserLevels", "(LLevelScores$Score;LLevelScores$Score;)V"⟩
def RX3 : String := "LevelScores$Tape"
def TX3 : u_T := fun k => match k with
  | 0 => ("LevelScores$Tape", "bytes", "[B", true)
  | 1 => ("LevelScores$Tape", "length", "I", false)
  | _ => ("LevelScores$Tape", "place", "I", false)
def tyX3 : Nat → FieldType := fun k => match k with
  | 0 => .array .byte
  | 1 => .int
  | _ => .int
abbrev wsX30 : List Cond := u_ws RX3 TX3 3
theorem nmX3 : ∀ a, a < 3 → ∀ b, b < 3 → a ≠ b → (TX3 a).2.1 ≠ (TX3 b).2.1 := by decide +kernel
theorem tyX3_ok : ∀ k, k < 3 → parseFieldDescriptor (TX3 k).2.2.1 = some (tyX3 k) := by decide +kernel
abbrev cX3_init : ByteArray := prog_5_method_1_code
def yX3_init : MethodName := ⟨RX3, "<init>", "()V"⟩
abbrev cX3_append : ByteArray := prog_5_method_2_code
def yX3_append : MethodName := ⟨RX3, "append", "(I)V"⟩
abbrev cX3_parse : ByteArray := prog_5_method_3_code
def yX3_parse : MethodName := ⟨RX3, "parse", "(LLevelScores$Score;)Z"⟩
abbrev cX3_parsePlain : ByteArray := prog_5_method_4_code
def yX3_parsePlain : MethodName := ⟨RX3, "parsePlain", "(LLevelScores$Score;)Z"⟩
abbrev cX3_parseBent : ByteArray := prog_5_method_5_code
def yX3_parseBent : MethodName := ⟨RX3, "parseBent", "(LLevelScores$Score;)Z"⟩
abbrev cX3_parseList : ByteArray := prog_5_method_6_code
def yX3_parseList : MethodName := ⟨RX3, "parseList", "(LLevelScores$Score;I)I"⟩
abbrev cX3_parseNumber : ByteArray := prog_5_method_7_code
def yX3_parseNumber : MethodName := ⟨RX3, "parseNumber", "(LLevelScores$Score;I)Z"⟩
abbrev cX3_parseWord : ByteArray := prog_5_method_8_code
def yX3_parseWord : MethodName := ⟨RX3, "parseWord", "(Ljava/lang/String;)Z"⟩
abbrev cX3_isNext : ByteArray := prog_5_method_9_code
def yX3_isNext : MethodName := ⟨RX3, "isNext", "(C)Z"⟩
abbrev cX3_nextDigit : ByteArray := prog_5_method_10_code
def yX3_nextDigit : MethodName := ⟨RX3, "nextDigit", "()I"⟩
def RX4 : String := "LevelScores$Wide"
def TX4 : u_T := fun k => match k with
  | 0 => ("LevelScores$Wide", "high", "J", false)
  | _ => ("LevelScores$Wide", "low", "J", false)
def tyX4 : Nat → FieldType := fun k => match k with
  | 0 => .long
  | _ => .long
abbrev wsX40 : List Cond := u_ws RX4 TX4 2
theorem nmX4 : ∀ a, a < 2 → ∀ b, b < 2 → a ≠ b → (TX4 a).2.1 ≠ (TX4 b).2.1 := by decide +kernel
theorem tyX4_ok : ∀ k, k < 2 → parseFieldDescriptor (TX4 k).2.2.1 = some (tyX4 k) := by decide +kernel
abbrev cX4_init : ByteArray := prog_6_method_1_code
def yX4_init : MethodName := ⟨RX4, "<init>", "()V"⟩
abbrev cX4_clear : ByteArray := prog_6_method_2_code
def yX4_clear : MethodName := ⟨RX4, "clear", "()V"⟩
abbrev cX4_addProduct : ByteArray := prog_6_method_3_code
def yX4_addProduct : MethodName := ⟨RX4, "addProduct", "(JJ)V"⟩
abbrev cX4_divideDown : ByteArray := prog_6_method_4_code
def yX4_divideDown : MethodName := ⟨RX4, "divideDown", "(J)V"⟩
abbrev cX4_fits : ByteArray := prog_6_method_5_code
def yX4_fits : MethodName := ⟨RX4, "fits", "()Z"⟩
abbrev cX4_value : ByteArray := prog_6_method_6_code
def yX4_value : MethodName := ⟨RX4, "value", "()J"⟩
def RX5 : String := "LevelScores"
def TX5 : u_T := fun k => match k with
  | 0 => ("LevelScores", "scores", "[LLevelScores$Score;", true)
  | 1 => ("LevelScores", "numbers", "I", false)
  | 2 => ("LevelScores", "tape", "LLevelScores$Tape;", true)
  | 3 => ("LevelScores", "page", "LLevelScores$Page;", true)
  | 4 => ("LevelScores", "thePlan", "LLevelScores$Plan;", true)
  | _ => ("LevelScores", "wide", "LLevelScores$Wide;", true)
def tyX5 : Nat → FieldType := fun k => match k with
  | 0 => .array (.object "LevelScores$Score")
  | 1 => .int
  | 2 => .object "LevelScores$Tape"
  | 3 => .object "LevelScores$Page"
  | 4 => .object "LevelScores$Plan"
  | _ => .object "LevelScores$Wide"
abbrev wsX50 : List Cond := u_ws RX5 TX5 6
theorem nmX5 : ∀ a, a < 6 → ∀ b, b < 6 → a ≠ b → (TX5 a).2.1 ≠ (TX5 b).2.1 := by decide +kernel
theorem tyX5_ok : ∀ k, k < 6 → parseFieldDescriptor (TX5 k).2.2.1 = some (tyX5 k) := by decide +kernel
abbrev cX5_init : ByteArray := prog_1_method_1_code
def yX5_init : MethodName := ⟨RX5, "<init>", "()V"⟩
abbrev cX5_make : ByteArray := prog_1_method_2_code
def yX5_make : MethodName := ⟨RX5, "make", "(III)I"⟩
abbrev cX5_nothing : ByteArray := prog_1_method_3_code
def yX5_nothing : MethodName := ⟨RX5, "nothing", "()I"⟩
abbrev cX5_set : ByteArray := prog_1_method_4_code
def yX5_set : MethodName := ⟨RX5, "set", "(IIJ)I"⟩
abbrev cX5_at : ByteArray := prog_1_method_5_code
def yX5_at : MethodName := ⟨RX5, "at", "(II)J"⟩
abbrev cX5_told : ByteArray := prog_1_method_6_code
def yX5_told : MethodName := ⟨RX5, "told", "(II)I"⟩
abbrev cX5_act : ByteArray := prog_1_method_7_code
def yX5_act : MethodName := ⟨RX5, "act", "(III)I"⟩
abbrev cX5_times : ByteArray := prog_1_method_8_code
def yX5_times : MethodName := ⟨RX5, "times", "(III)I"⟩
abbrev cX5_order : ByteArray := prog_1_method_9_code
def yX5_order : MethodName := ⟨RX5, "order", "(II)I"⟩
abbrev cX5_put : ByteArray := prog_1_method_10_code
def yX5_put : MethodName := ⟨RX5, "put", "(I)I"⟩
abbrev cX5_read : ByteArray := prog_1_method_11_code
def yX5_read : MethodName := ⟨RX5, "read", "()I"⟩
abbrev cX5_print : ByteArray := prog_1_method_12_code
def yX5_print : MethodName := ⟨RX5, "print", "(I)I"⟩
abbrev cX5_out : ByteArray := prog_1_method_13_code
def yX5_out : MethodName := ⟨RX5, "out", "(I)I"⟩
abbrev cX5_plan : ByteArray := prog_1_method_14_code
def yX5_plan : MethodName := ⟨RX5, "plan", "(I)I"⟩
abbrev cX5_rule : ByteArray := prog_1_method_15_code
def yX5_rule : MethodName := ⟨RX5, "rule", "(I)I"⟩
abbrev cX5_count : ByteArray := prog_1_method_16_code
def yX5_count : MethodName := ⟨RX5, "count", "(II)I"⟩
abbrev cX5_weight : ByteArray := prog_1_method_17_code
def yX5_weight : MethodName := ⟨RX5, "weight", "(II)I"⟩
abbrev cX5_total : ByteArray := prog_1_method_18_code
def yX5_total : MethodName := ⟨RX5, "total", "(I)I"⟩
abbrev cX5_safe : ByteArray := prog_1_method_19_code
def yX5_safe : MethodName := ⟨RX5, "safe", "(I)I"⟩
abbrev cX5_keep : ByteArray := prog_1_method_20_code
def yX5_keep : MethodName := ⟨RX5, "keep", "(I)I"⟩
abbrev cX5_kept : ByteArray := prog_1_method_21_code
def yX5_kept : MethodName := ⟨RX5, "kept", "(I)I"⟩
abbrev cX5_many : ByteArray := prog_1_method_22_code
def yX5_many : MethodName := ⟨RX5, "many", "(I)I"⟩
abbrev cX5_drop : ByteArray := prog_1_method_23_code
def yX5_drop : MethodName := ⟨RX5, "drop", "()I"⟩
abbrev cX5_isNumber : ByteArray := prog_1_method_24_code
def yX5_isNumber : MethodName := ⟨RX5, "isNumber", "(I)Z"⟩
abbrev cX5_isFull : ByteArray := prog_1_method_25_code
def yX5_isFull : MethodName := ⟨RX5, "isFull", "()Z"⟩
abbrev cX5_isCount : ByteArray := prog_1_method_26_code
def yX5_isCount : MethodName := ⟨RX5, "isCount", "(I)Z"⟩
abbrev cX5_takeNumber : ByteArray := prog_1_method_27_code
def yX5_takeNumber : MethodName := ⟨RX5, "takeNumber", "()I"⟩
abbrev cX5_failureOfPair : ByteArray := prog_1_method_28_code
def yX5_failureOfPair : MethodName := ⟨RX5, "failureOfPair", "(LLevelScores$Score;LLevelScores$Score;)I"⟩
abbrev cX5_combine : ByteArray := prog_1_method_29_code
def yX5_combine : MethodName := ⟨RX5, "combine", "(ILLevelScores$Score;LLevelScores$Score;LLevelScores$Score;)Z"⟩
abbrev cX5_scale : ByteArray := prog_1_method_30_code
def yX5_scale : MethodName := ⟨RX5, "scale", "(LLevelScores$Score;IILLevelScores$Score;)Z"⟩
def RX6 : String := "LevelScoresModel"
def TX6 : u_T := fun k => match k with
  | 0 => ("LevelScoresModel", "scores", "I", false)
  | 1 => ("LevelScoresModel", "shapes", "[I", true)
  | 2 => ("LevelScoresModel", "hards", "[I", true)
  | 3 => ("LevelScoresModel", "sizes", "[I", true)
  | 4 => ("LevelScoresModel", "levels", "[J", true)
  | 5 => ("LevelScoresModel", "planShape", "I", false)
  | 6 => ("LevelScoresModel", "planHard", "I", false)
  | 7 => ("LevelScoresModel", "planSize", "I", false)
  | 8 => ("LevelScoresModel", "rules", "I", false)
  | 9 => ("LevelScoresModel", "weights", "[J", true)
  | 10 => ("LevelScoresModel", "counts", "[I", true)
  | 11 => ("LevelScoresModel", "kept", "I", false)
  | 12 => ("LevelScoresModel", "keeps", "[J", true)
  | 13 => ("LevelScoresModel", "tapeSize", "I", false)
  | 14 => ("LevelScoresModel", "tape", "[I", true)
  | 15 => ("LevelScoresModel", "outSize", "I", false)
  | 16 => ("LevelScoresModel", "out", "[I", true)
  | 17 => ("LevelScoresModel", "thrown", "I", false)
  | 18 => ("LevelScoresModel", "high", "J", false)
  | 19 => ("LevelScoresModel", "low", "J", false)
  | 20 => ("LevelScoresModel", "place", "I", false)
  | 21 => ("LevelScoresModel", "stuck", "Z", false)
  | 22 => ("LevelScoresModel", "read", "J", false)
  | _ => ("LevelScoresModel", "had", "[J", true)
def tyX6 : Nat → FieldType := fun k => match k with
  | 0 => .int
  | 1 => .array .int
  | 2 => .array .int
  | 3 => .array .int
  | 4 => .array .long
  | 5 => .int
  | 6 => .int
  | 7 => .int
  | 8 => .int
  | 9 => .array .long
  | 10 => .array .int
  | 11 => .int
  | 12 => .array .long
  | 13 => .int
  | 14 => .array .int
  | 15 => .int
  | 16 => .array .int
  | 17 => .int
  | 18 => .long
  | 19 => .long
  | 20 => .int
  | 21 => .boolean
  | 22 => .long
  | _ => .array .long
abbrev wsX60 : List Cond := u_ws RX6 TX6 24
theorem nmX6 : ∀ a, a < 24 → ∀ b, b < 24 → a ≠ b → (TX6 a).2.1 ≠ (TX6 b).2.1 := by decide +kernel
theorem tyX6_ok : ∀ k, k < 24 → parseFieldDescriptor (TX6 k).2.2.1 = some (tyX6 k) := by decide +kernel
abbrev cX6_init : ByteArray := prog_8_method_1_code
def yX6_init : MethodName := ⟨RX6, "<init>", "()V"⟩
abbrev cX6_in : ByteArray := prog_8_method_2_code
def yX6_in : MethodName := ⟨RX6, "in", "(JJJ)Z"⟩
abbrev cX6_isNumber : ByteArray := prog_8_method_3_code
def yX6_isNumber : MethodName := ⟨RX6, "isNumber", "(I)Z"⟩
abbrev cX6_isNothing : ByteArray := prog_8_method_4_code
def yX6_isNothing : MethodName := ⟨RX6, "isNothing", "(I)Z"⟩
abbrev cX6_areLike : ByteArray := prog_8_method_5_code
def yX6_areLike : MethodName := ⟨RX6, "areLike", "(II)Z"⟩
abbrev cX6_isLikePlan : ByteArray := prog_8_method_6_code
def yX6_isLikePlan : MethodName := ⟨RX6, "isLikePlan", "(I)Z"⟩
abbrev cX6_lay : ByteArray := prog_8_method_7_code
def yX6_lay : MethodName := ⟨RX6, "lay", "(III)V"⟩
abbrev cX6_keepScore : ByteArray := prog_8_method_8_code
def yX6_keepScore : MethodName := ⟨RX6, "keepScore", "()I"⟩
abbrev cX6_make : ByteArray := prog_8_method_9_code
def yX6_make : MethodName := ⟨RX6, "make", "(III)I"⟩
abbrev cX6_nothing : ByteArray := prog_8_method_10_code
def yX6_nothing : MethodName := ⟨RX6, "nothing", "()I"⟩
abbrev cX6_set : ByteArray := prog_8_method_11_code
def yX6_set : MethodName := ⟨RX6, "set", "(IIJ)I"⟩
abbrev cX6_thrown : ByteArray := prog_8_method_12_code
def yX6_thrown : MethodName := ⟨RX6, "thrown", "()I"⟩
abbrev cX6_at : ByteArray := prog_8_method_13_code
def yX6_at : MethodName := ⟨RX6, "at", "(II)J"⟩
abbrev cX6_told : ByteArray := prog_8_method_14_code
def yX6_told : MethodName := ⟨RX6, "told", "(II)I"⟩
abbrev cX6_zero : ByteArray := prog_8_method_15_code
def yX6_zero : MethodName := ⟨RX6, "zero", "()V"⟩
abbrev cX6_add : ByteArray := prog_8_method_16_code
def yX6_add : MethodName := ⟨RX6, "add", "(JJ)V"⟩
abbrev cX6_fits : ByteArray := prog_8_method_17_code
def yX6_fits : MethodName := ⟨RX6, "fits", "()Z"⟩
abbrev cX6_number : ByteArray := prog_8_method_18_code
def yX6_number : MethodName := ⟨RX6, "number", "()J"⟩
abbrev cX6_compare : ByteArray := prog_8_method_19_code
def yX6_compare : MethodName := ⟨RX6, "compare", "([JI[JII)I"⟩
abbrev cX6_refusal : ByteArray := prog_8_method_20_code
def yX6_refusal : MethodName := ⟨RX6, "refusal", "(II)I"⟩
abbrev cX6_act : ByteArray := prog_8_method_21_code
def yX6_act : MethodName := ⟨RX6, "act", "(III)I"⟩
abbrev cX6_times : ByteArray := prog_8_method_22_code
def yX6_times : MethodName := ⟨RX6, "times", "(III)I"⟩
abbrev cX6_order : ByteArray := prog_8_method_23_code
def yX6_order : MethodName := ⟨RX6, "order", "(II)I"⟩
abbrev cX6_put : ByteArray := prog_8_method_24_code
def yX6_put : MethodName := ⟨RX6, "put", "(I)I"⟩
abbrev cX6_here : ByteArray := prog_8_method_25_code
def yX6_here : MethodName := ⟨RX6, "here", "()I"⟩
abbrev cX6_isFigure : ByteArray := prog_8_method_26_code
def yX6_isFigure : MethodName := ⟨RX6, "isFigure", "()Z"⟩
abbrev cX6_take : ByteArray := prog_8_method_27_code
def yX6_take : MethodName := ⟨RX6, "take", "(I)V"⟩
abbrev cX6_word : ByteArray := prog_8_method_28_code
def yX6_word : MethodName := ⟨RX6, "word", "(I)V"⟩
abbrev cX6_letter : ByteArray := prog_8_method_29_code
def yX6_letter : MethodName := ⟨RX6, "letter", "(II)J"⟩
abbrev cX6_figure : ByteArray := prog_8_method_30_code
def yX6_figure : MethodName := ⟨RX6, "figure", "()V"⟩
abbrev cX6_level : ByteArray := prog_8_method_31_code
def yX6_level : MethodName := ⟨RX6, "level", "(I)V"⟩
abbrev cX6_row : ByteArray := prog_8_method_32_code
def yX6_row : MethodName := ⟨RX6, "row", "(I)I"⟩
abbrev cX6_bent : ByteArray := prog_8_method_33_code
def yX6_bent : MethodName := ⟨RX6, "bent", "()V"⟩
abbrev cX6_plain : ByteArray := prog_8_method_34_code
def yX6_plain : MethodName := ⟨RX6, "plain", "()V"⟩
abbrev cX6_read : ByteArray := prog_8_method_35_code
def yX6_read : MethodName := ⟨RX6, "read", "()I"⟩
abbrev cX6_write : ByteArray := prog_8_method_36_code
def yX6_write : MethodName := ⟨RX6, "write", "(I)V"⟩
abbrev cX6_writeNumber : ByteArray := prog_8_method_37_code
def yX6_writeNumber : MethodName := ⟨RX6, "writeNumber", "(J)V"⟩
abbrev cX6_writeWord : ByteArray := prog_8_method_38_code
def yX6_writeWord : MethodName := ⟨RX6, "writeWord", "(I)V"⟩
abbrev cX6_writeRow : ByteArray := prog_8_method_39_code
def yX6_writeRow : MethodName := ⟨RX6, "writeRow", "(III)V"⟩
abbrev cX6_print : ByteArray := prog_8_method_40_code
def yX6_print : MethodName := ⟨RX6, "print", "(I)I"⟩
abbrev cX6_out : ByteArray := prog_8_method_41_code
def yX6_out : MethodName := ⟨RX6, "out", "(I)I"⟩
abbrev cX6_plan : ByteArray := prog_8_method_42_code
def yX6_plan : MethodName := ⟨RX6, "plan", "(I)I"⟩
abbrev cX6_rule : ByteArray := prog_8_method_43_code
def yX6_rule : MethodName := ⟨RX6, "rule", "(I)I"⟩
abbrev cX6_layPart : ByteArray := prog_8_method_44_code
def yX6_layPart : MethodName := ⟨RX6, "layPart", "(II)V"⟩
abbrev cX6_hasRoom : ByteArray := prog_8_method_45_code
def yX6_hasRoom : MethodName := ⟨RX6, "hasRoom", "()Z"⟩
abbrev cX6_count : ByteArray := prog_8_method_46_code
def yX6_count : MethodName := ⟨RX6, "count", "(II)I"⟩
abbrev cX6_weight : ByteArray := prog_8_method_47_code
def yX6_weight : MethodName := ⟨RX6, "weight", "(II)I"⟩
abbrev cX6_total : ByteArray := prog_8_method_48_code
def yX6_total : MethodName := ⟨RX6, "total", "(I)I"⟩
abbrev cX6_safe : ByteArray := prog_8_method_49_code
def yX6_safe : MethodName := ⟨RX6, "safe", "(I)I"⟩
abbrev cX6_keep : ByteArray := prog_8_method_50_code
def yX6_keep : MethodName := ⟨RX6, "keep", "(I)I"⟩
abbrev cX6_kept : ByteArray := prog_8_method_51_code
def yX6_kept : MethodName := ⟨RX6, "kept", "(I)I"⟩
abbrev cX6_many : ByteArray := prog_8_method_52_code
def yX6_many : MethodName := ⟨RX6, "many", "(I)I"⟩
abbrev cX6_drop : ByteArray := prog_8_method_53_code
def yX6_drop : MethodName := ⟨RX6, "drop", "()I"⟩
def RJ9 : String := "java/lang/Math"
def TJ9 : u_T := fun k => match k with
  | _ => ("", "", "", false)
def tyJ9 : Nat → FieldType := fun k => match k with
  | _ => .int
abbrev wsJ90 : List Cond := u_ws RJ9 TJ9 0
theorem nmJ9 : ∀ a, a < 0 → ∀ b, b < 0 → a ≠ b → (TJ9 a).2.1 ≠ (TJ9 b).2.1 := by decide +kernel
theorem tyJ9_ok : ∀ k, k < 0 → parseFieldDescriptor (TJ9 k).2.2.1 = some (tyJ9 k) := by decide +kernel
abbrev cJ9_floorDiv_f86c9 : ByteArray := prog_11_method_49_code
def yJ9_floorDiv_f86c9 : MethodName := ⟨RJ9, "floorDiv", "(JJ)J"⟩
abbrev cJ9_floorMod_f86c9 : ByteArray := prog_11_method_52_code
def yJ9_floorMod_f86c9 : MethodName := ⟨RJ9, "floorMod", "(JJ)J"⟩
abbrev cJ9_max_f86c9 : ByteArray := prog_11_method_66_code
def yJ9_max_f86c9 : MethodName := ⟨RJ9, "max", "(JJ)J"⟩
abbrev cJ9_min_f86c9 : ByteArray := prog_11_method_70_code
def yJ9_min_f86c9 : MethodName := ⟨RJ9, "min", "(JJ)J"⟩
def RJ0 : String := "java/lang/String"
def TJ0 : u_T := fun k => match k with
  | _ => ("", "", "", false)
def tyJ0 : Nat → FieldType := fun k => match k with
  | _ => .int
abbrev wsJ00 : List Cond := u_ws RJ0 TJ0 0
theorem nmJ0 : ∀ a, a < 0 → ∀ b, b < 0 → a ≠ b → (TJ0 a).2.1 ≠ (TJ0 b).2.1 := by decide +kernel
theorem tyJ0_ok : ∀ k, k < 0 → parseFieldDescriptor (TJ0 k).2.2.1 = some (tyJ0 k) := by decide +kernel
abbrev cJ0_length_8abf5 : ByteArray := prog_13_method_54_code
def yJ0_length_8abf5 : MethodName := ⟨RJ0, "length", "()I"⟩
abbrev cJ0_charAt_5068e : ByteArray := prog_13_method_56_code
def yJ0_charAt_5068e : MethodName := ⟨RJ0, "charAt", "(I)C"⟩
abbrev cJ0_coder_7d493 : ByteArray := prog_13_method_152_code
def yJ0_coder_7d493 : MethodName := ⟨RJ0, "coder", "()B"⟩
abbrev cJ0_isLatin1_aae02 : ByteArray := prog_13_method_154_code
def yJ0_isLatin1_aae02 : MethodName := ⟨RJ0, "isLatin1", "()Z"⟩
abbrev cJ0_checkIndex_df160 : ByteArray := prog_13_method_155_code
def yJ0_checkIndex_df160 : MethodName := ⟨RJ0, "checkIndex", "(II)V"⟩
def RJ1 : String := "java/lang/StringLatin1"
def TJ1 : u_T := fun k => match k with
  | _ => ("", "", "", false)
def tyJ1 : Nat → FieldType := fun k => match k with
  | _ => .int
abbrev wsJ10 : List Cond := u_ws RJ1 TJ1 0
theorem nmJ1 : ∀ a, a < 0 → ∀ b, b < 0 → a ≠ b → (TJ1 a).2.1 ≠ (TJ1 b).2.1 := by decide +kernel
theorem tyJ1_ok : ∀ k, k < 0 → parseFieldDescriptor (TJ1 k).2.2.1 = some (tyJ1 k) := by decide +kernel
abbrev cJ1_charAt_3b067 : ByteArray := prog_14_method_2_code
def yJ1_charAt_3b067 : MethodName := ⟨RJ1, "charAt", "([BI)C"⟩
def RJ2 : String := "java/lang/StringUTF16"
def TJ2 : u_T := fun k => match k with
  | _ => ("", "", "", false)
def tyJ2 : Nat → FieldType := fun k => match k with
  | _ => .int
abbrev wsJ20 : List Cond := u_ws RJ2 TJ2 0
theorem nmJ2 : ∀ a, a < 0 → ∀ b, b < 0 → a ≠ b → (TJ2 a).2.1 ≠ (TJ2 b).2.1 := by decide +kernel
theorem tyJ2_ok : ∀ k, k < 0 → parseFieldDescriptor (TJ2 k).2.2.1 = some (tyJ2 k) := by decide +kernel
abbrev cJ2_getChar_3b067 : ByteArray := prog_15_method_5_code
def yJ2_getChar_3b067 : MethodName := ⟨RJ2, "getChar", "([BI)C"⟩
abbrev cJ2_length_9d52b : ByteArray := prog_15_method_6_code
def yJ2_length_9d52b : MethodName := ⟨RJ2, "length", "([B)I"⟩
abbrev cJ2_charAt_3b067 : ByteArray := prog_15_method_83_code
def yJ2_charAt_3b067 : MethodName := ⟨RJ2, "charAt", "([BI)C"⟩
abbrev cJ2_checkIndex_2214a : ByteArray := prog_15_method_91_code
def yJ2_checkIndex_2214a : MethodName := ⟨RJ2, "checkIndex", "(I[B)V"⟩
def RJ3 : String := "jdk/internal/util/Preconditions"
def TJ3 : u_T := fun k => match k with
  | _ => ("", "", "", false)
def tyJ3 : Nat → FieldType := fun k => match k with
  | _ => .int
abbrev wsJ30 : List Cond := u_ws RJ3 TJ3 0
theorem nmJ3 : ∀ a, a < 0 → ∀ b, b < 0 → a ≠ b → (TJ3 a).2.1 ≠ (TJ3 b).2.1 := by decide +kernel
theorem tyJ3_ok : ∀ k, k < 0 → parseFieldDescriptor (TJ3 k).2.2.1 = some (tyJ3 k) := by decide +kernel
abbrev cJ3_checkIndex_8e157 : ByteArray := prog_18_method_11_code
def yJ3_checkIndex_8e157 : MethodName := ⟨RJ3, "checkIndex", "(IILjava/util/function/BiFunction;)I"⟩
def RL : String := "LevelScoresLaw"
abbrev cL_at : ByteArray := method_3_code
def yL_at : MethodName := ⟨RL, "at", "(LLevelScores;II[J)I"⟩
abbrev cL_law : ByteArray := code
def yL_law : MethodName := ⟨RL, "law", "([I)Z"⟩
def wsX0_init : List Cond := .code yX0_init cX0_init 1 none :: ([.methodLink RX0 3 objectInit, .instanceMethod objectInit, .code objectInit ⟨#[0xb1]⟩ 1 none, .arrayClass .byte, .fieldLink RX0 9 "LevelScores$Page" "bytes" "[B", .fieldLink RX0 15 "LevelScores$Page" "digits" "[B"] ++ wsX00)
def wsJ0_coder_7d493 : List Cond := .code yJ0_coder_7d493 cJ0_coder_7d493 1 (some .byte) :: ([.fieldLink RJ0 38 "java/lang/String" "COMPACT_STRINGS" "Z", .fieldLink RJ0 15 "java/lang/String" "coder" "B"])
def wsJ0_length_8abf5 : List Cond := .code yJ0_length_8abf5 cJ0_length_8abf5 1 (some .int) :: ([.fieldLink RJ0 9 "java/lang/String" "value" "[B", .methodLink RJ0 335 yJ0_coder_7d493, .instanceMethod yJ0_coder_7d493, .selects RJ0 yJ0_coder_7d493 yJ0_coder_7d493, .initialized RJ0, .code yJ0_coder_7d493 cJ0_coder_7d493 1 (some .byte), .fieldLink RJ0 38 "java/lang/String" "COMPACT_STRINGS" "Z", .fieldLink RJ0 15 "java/lang/String" "coder" "B"])
def wsJ0_isLatin1_aae02 : List Cond := .code yJ0_isLatin1_aae02 cJ0_isLatin1_aae02 1 (some .boolean) :: ([.fieldLink RJ0 38 "java/lang/String" "COMPACT_STRINGS" "Z", .fieldLink RJ0 15 "java/lang/String" "coder" "B"])
def wsJ3_checkIndex_8e157 : List Cond := .code yJ3_checkIndex_8e157 cJ3_checkIndex_8e157 3 (some .int) :: ([])
def wsJ0_checkIndex_df160 : List Cond := .code yJ0_checkIndex_df160 cJ0_checkIndex_df160 2 none :: ([.fieldLink RJ0 1053 "jdk/internal/util/Preconditions" "SIOOBE_FORMATTER" "Ljava/util/function/BiFunction;", .methodLink RJ0 1059 yJ3_checkIndex_8e157, .static yJ3_checkIndex_8e157, .initialized RJ3, .code yJ3_checkIndex_8e157 cJ3_checkIndex_8e157 3 (some .int)])
def wsJ1_charAt_3b067 : List Cond := .code yJ1_charAt_3b067 cJ1_charAt_3b067 2 (some .char) :: ([.methodLink RJ1 9 yJ0_checkIndex_df160, .static yJ0_checkIndex_df160, .initialized RJ0, .code yJ0_checkIndex_df160 cJ0_checkIndex_df160 2 none, .fieldLink RJ0 1053 "jdk/internal/util/Preconditions" "SIOOBE_FORMATTER" "Ljava/util/function/BiFunction;", .methodLink RJ0 1059 yJ3_checkIndex_8e157, .static yJ3_checkIndex_8e157, .initialized RJ3, .code yJ3_checkIndex_8e157 cJ3_checkIndex_8e157 3 (some .int)])
def wsJ2_length_9d52b : List Cond := .code yJ2_length_9d52b cJ2_length_9d52b 1 (some .int) :: ([])
def wsJ2_checkIndex_2214a : List Cond := .code yJ2_checkIndex_2214a cJ2_checkIndex_2214a 2 none :: ([.methodLink RJ2 48 yJ2_length_9d52b, .static yJ2_length_9d52b, .initialized RJ2, .code yJ2_length_9d52b cJ2_length_9d52b 1 (some .int), .methodLink RJ2 414 yJ0_checkIndex_df160, .static yJ0_checkIndex_df160, .initialized RJ0, .code yJ0_checkIndex_df160 cJ0_checkIndex_df160 2 none, .fieldLink RJ0 1053 "jdk/internal/util/Preconditions" "SIOOBE_FORMATTER" "Ljava/util/function/BiFunction;", .methodLink RJ0 1059 yJ3_checkIndex_8e157, .static yJ3_checkIndex_8e157, .initialized RJ3, .code yJ3_checkIndex_8e157 cJ3_checkIndex_8e157 3 (some .int)])
def wsJ2_getChar_3b067 : List Cond := .code yJ2_getChar_3b067 cJ2_getChar_3b067 2 (some .char) :: ([.fieldLink RJ2 44 "java/lang/StringUTF16" "$assertionsDisabled" "Z", .fieldLink RJ2 59 "java/lang/StringUTF16" "HI_BYTE_SHIFT" "I", .fieldLink RJ2 63 "java/lang/StringUTF16" "LO_BYTE_SHIFT" "I", .methodLink RJ2 48 yJ2_length_9d52b, .static yJ2_length_9d52b, .initialized RJ2, .code yJ2_length_9d52b cJ2_length_9d52b 1 (some .int)])
def wsJ2_charAt_3b067 : List Cond := .code yJ2_charAt_3b067 cJ2_charAt_3b067 2 (some .char) :: ([.methodLink RJ2 67 yJ2_checkIndex_2214a, .static yJ2_checkIndex_2214a, .initialized RJ2, .code yJ2_checkIndex_2214a cJ2_checkIndex_2214a 2 none, .methodLink RJ2 48 yJ2_length_9d52b, .static yJ2_length_9d52b, .code yJ2_length_9d52b cJ2_length_9d52b 1 (some .int), .methodLink RJ2 414 yJ0_checkIndex_df160, .static yJ0_checkIndex_df160, .initialized RJ0, .code yJ0_checkIndex_df160 cJ0_checkIndex_df160 2 none, .fieldLink RJ0 1053 "jdk/internal/util/Preconditions" "SIOOBE_FORMATTER" "Ljava/util/function/BiFunction;", .methodLink RJ0 1059 yJ3_checkIndex_8e157, .static yJ3_checkIndex_8e157, .initialized RJ3, .code yJ3_checkIndex_8e157 cJ3_checkIndex_8e157 3 (some .int), .methodLink RJ2 71 yJ2_getChar_3b067, .static yJ2_getChar_3b067, .code yJ2_getChar_3b067 cJ2_getChar_3b067 2 (some .char), .fieldLink RJ2 44 "java/lang/StringUTF16" "$assertionsDisabled" "Z", .fieldLink RJ2 59 "java/lang/StringUTF16" "HI_BYTE_SHIFT" "I", .fieldLink RJ2 63 "java/lang/StringUTF16" "LO_BYTE_SHIFT" "I"])
def wsJ0_charAt_5068e_r1 : List Cond := [Cond.fieldLink RJ0 9 "java/lang/String" "value" "[B", Cond.methodLink RJ0 492 yJ0_isLatin1_aae02, Cond.instanceMethod yJ0_isLatin1_aae02, Cond.selects RJ0 yJ0_isLatin1_aae02 yJ0_isLatin1_aae02, Cond.initialized RJ0, Cond.code yJ0_isLatin1_aae02 cJ0_isLatin1_aae02 1 (some .boolean), Cond.fieldLink RJ0 38 "java/lang/String" "COMPACT_STRINGS" "Z", Cond.fieldLink RJ0 15 "java/lang/String" "coder" "B", Cond.methodLink RJ0 495 yJ1_charAt_3b067, Cond.static yJ1_charAt_3b067, Cond.initialized RJ1, Cond.code yJ1_charAt_3b067 cJ1_charAt_3b067 2 (some .char), Cond.methodLink RJ1 9 yJ0_checkIndex_df160, Cond.static yJ0_checkIndex_df160, Cond.code yJ0_checkIndex_df160 cJ0_checkIndex_df160 2 none, Cond.fieldLink RJ0 1053 "jdk/internal/util/Preconditions" "SIOOBE_FORMATTER" "Ljava/util/function/BiFunction;", Cond.methodLink RJ0 1059 yJ3_checkIndex_8e157, Cond.static yJ3_checkIndex_8e157, Cond.initialized RJ3, Cond.code yJ3_checkIndex_8e157 cJ3_checkIndex_8e157 3 (some .int), Cond.methodLink RJ0 498 yJ2_charAt_3b067, Cond.static yJ2_charAt_3b067, Cond.initialized RJ2, Cond.code yJ2_charAt_3b067 cJ2_charAt_3b067 2 (some .char)]
def wsJ0_charAt_5068e_r2 : List Cond := [Cond.methodLink RJ2 67 yJ2_checkIndex_2214a, Cond.static yJ2_checkIndex_2214a, Cond.code yJ2_checkIndex_2214a cJ2_checkIndex_2214a 2 none, Cond.methodLink RJ2 48 yJ2_length_9d52b, Cond.static yJ2_length_9d52b, Cond.code yJ2_length_9d52b cJ2_length_9d52b 1 (some .int), Cond.methodLink RJ2 414 yJ0_checkIndex_df160, Cond.methodLink RJ2 71 yJ2_getChar_3b067, Cond.static yJ2_getChar_3b067, Cond.code yJ2_getChar_3b067 cJ2_getChar_3b067 2 (some .char), Cond.fieldLink RJ2 44 "java/lang/StringUTF16" "$assertionsDisabled" "Z", Cond.fieldLink RJ2 59 "java/lang/StringUTF16" "HI_BYTE_SHIFT" "I", Cond.fieldLink RJ2 63 "java/lang/StringUTF16" "LO_BYTE_SHIFT" "I"]
def wsJ0_charAt_5068e : List Cond := .code yJ0_charAt_5068e cJ0_charAt_5068e 2 (some .char) :: ((wsJ0_charAt_5068e_r1 ++ wsJ0_charAt_5068e_r2))
def wsX0_append : List Cond := .code yX0_append cX0_append 2 none :: ([.fieldLink RX0 18 "LevelScores$Page" "length" "I", .fieldLink RX0 9 "LevelScores$Page" "bytes" "[B"] ++ wsX00)
def wsX0_writeWord_r1 : List Cond := [Cond.methodLink RX0 76 yJ0_length_8abf5, Cond.instanceMethod yJ0_length_8abf5, Cond.selects RJ0 yJ0_length_8abf5 yJ0_length_8abf5, Cond.initialized RJ0, Cond.code yJ0_length_8abf5 cJ0_length_8abf5 1 (some .int), Cond.fieldLink RJ0 9 "java/lang/String" "value" "[B", Cond.methodLink RJ0 335 yJ0_coder_7d493, Cond.instanceMethod yJ0_coder_7d493, Cond.selects RJ0 yJ0_coder_7d493 yJ0_coder_7d493, Cond.code yJ0_coder_7d493 cJ0_coder_7d493 1 (some .byte), Cond.fieldLink RJ0 38 "java/lang/String" "COMPACT_STRINGS" "Z", Cond.fieldLink RJ0 15 "java/lang/String" "coder" "B", Cond.methodLink RX0 81 yJ0_charAt_5068e, Cond.instanceMethod yJ0_charAt_5068e, Cond.selects RJ0 yJ0_charAt_5068e yJ0_charAt_5068e, Cond.code yJ0_charAt_5068e cJ0_charAt_5068e 2 (some .char), Cond.methodLink RJ0 492 yJ0_isLatin1_aae02, Cond.instanceMethod yJ0_isLatin1_aae02, Cond.selects RJ0 yJ0_isLatin1_aae02 yJ0_isLatin1_aae02, Cond.code yJ0_isLatin1_aae02 cJ0_isLatin1_aae02 1 (some .boolean), Cond.methodLink RJ0 495 yJ1_charAt_3b067, Cond.static yJ1_charAt_3b067, Cond.initialized RJ1, Cond.code yJ1_charAt_3b067 cJ1_charAt_3b067 2 (some .char)]
def wsX0_writeWord_r2 : List Cond := [Cond.methodLink RJ1 9 yJ0_checkIndex_df160, Cond.static yJ0_checkIndex_df160, Cond.code yJ0_checkIndex_df160 cJ0_checkIndex_df160 2 none, Cond.fieldLink RJ0 1053 "jdk/internal/util/Preconditions" "SIOOBE_FORMATTER" "Ljava/util/function/BiFunction;", Cond.methodLink RJ0 1059 yJ3_checkIndex_8e157, Cond.static yJ3_checkIndex_8e157, Cond.initialized RJ3, Cond.code yJ3_checkIndex_8e157 cJ3_checkIndex_8e157 3 (some .int), Cond.methodLink RJ0 498 yJ2_charAt_3b067, Cond.static yJ2_charAt_3b067, Cond.initialized RJ2, Cond.code yJ2_charAt_3b067 cJ2_charAt_3b067 2 (some .char), Cond.methodLink RJ2 67 yJ2_checkIndex_2214a, Cond.static yJ2_checkIndex_2214a, Cond.code yJ2_checkIndex_2214a cJ2_checkIndex_2214a 2 none, Cond.methodLink RJ2 48 yJ2_length_9d52b, Cond.static yJ2_length_9d52b, Cond.code yJ2_length_9d52b cJ2_length_9d52b 1 (some .int), Cond.methodLink RJ2 414 yJ0_checkIndex_df160, Cond.methodLink RJ2 71 yJ2_getChar_3b067, Cond.static yJ2_getChar_3b067, Cond.code yJ2_getChar_3b067 cJ2_getChar_3b067 2 (some .char), Cond.fieldLink RJ2 44 "java/lang/StringUTF16" "$assertionsDisabled" "Z", Cond.fieldLink RJ2 59 "java/lang/StringUTF16" "HI_BYTE_SHIFT" "I"]
def wsX0_writeWord_r3 : List Cond := [Cond.fieldLink RJ2 63 "java/lang/StringUTF16" "LO_BYTE_SHIFT" "I", Cond.methodLink RX0 68 yX0_append, Cond.instanceMethod yX0_append, Cond.selects RX0 yX0_append yX0_append, Cond.initialized RX0, Cond.code yX0_append cX0_append 2 none, Cond.fieldLink RX0 18 "LevelScores$Page" "length" "I", Cond.fieldLink RX0 9 "LevelScores$Page" "bytes" "[B"]
def wsX0_writeWord : List Cond := .code yX0_writeWord cX0_writeWord 3 none :: ((wsX0_writeWord_r1 ++ (wsX0_writeWord_r2 ++ wsX0_writeWord_r3)) ++ wsX00)
def wsX0_writeNumber : List Cond := .code yX0_writeNumber cX0_writeNumber 7 none :: ([.fieldLink RX0 15 "LevelScores$Page" "digits" "[B", .constantLong RX0 72 (48), .constantLong RX0 74 (10), .methodLink RX0 68 yX0_append, .instanceMethod yX0_append, .selects RX0 yX0_append yX0_append, .initialized RX0, .code yX0_append cX0_append 2 none, .fieldLink RX0 18 "LevelScores$Page" "length" "I", .fieldLink RX0 9 "LevelScores$Page" "bytes" "[B"] ++ wsX00)
def wsX0_writeList : List Cond := .code yX0_writeList cX0_writeList 5 none :: ([.fieldLink RX0 34 "LevelScores$Score" "levels" "[J", .methodLink RX0 68 yX0_append, .instanceMethod yX0_append, .selects RX0 yX0_append yX0_append, .initialized RX0, .code yX0_append cX0_append 2 none, .fieldLink RX0 18 "LevelScores$Page" "length" "I", .fieldLink RX0 9 "LevelScores$Page" "bytes" "[B", .methodLink RX0 38 yX0_writeNumber, .instanceMethod yX0_writeNumber, .selects RX0 yX0_writeNumber yX0_writeNumber, .code yX0_writeNumber cX0_writeNumber 7 none, .fieldLink RX0 15 "LevelScores$Page" "digits" "[B", .constantLong RX0 72 (48), .constantLong RX0 74 (10)] ++ wsX20 ++ wsX00)
def wsX0_writeBent_r1 : List Cond := [Cond.fieldLink RX0 54 "LevelScores$Score" "hard" "I", Cond.fieldLink RX0 63 "LevelScores$Score" "size" "I", Cond.methodLink RX0 44 yX0_writeWord, Cond.instanceMethod yX0_writeWord, Cond.selects RX0 yX0_writeWord yX0_writeWord, Cond.initialized RX0, Cond.code yX0_writeWord cX0_writeWord 3 none, Cond.methodLink RX0 76 yJ0_length_8abf5, Cond.instanceMethod yJ0_length_8abf5, Cond.selects RJ0 yJ0_length_8abf5 yJ0_length_8abf5, Cond.initialized RJ0, Cond.code yJ0_length_8abf5 cJ0_length_8abf5 1 (some .int), Cond.fieldLink RJ0 9 "java/lang/String" "value" "[B", Cond.methodLink RJ0 335 yJ0_coder_7d493, Cond.instanceMethod yJ0_coder_7d493, Cond.selects RJ0 yJ0_coder_7d493 yJ0_coder_7d493, Cond.code yJ0_coder_7d493 cJ0_coder_7d493 1 (some .byte), Cond.fieldLink RJ0 38 "java/lang/String" "COMPACT_STRINGS" "Z", Cond.fieldLink RJ0 15 "java/lang/String" "coder" "B", Cond.methodLink RX0 81 yJ0_charAt_5068e, Cond.instanceMethod yJ0_charAt_5068e, Cond.selects RJ0 yJ0_charAt_5068e yJ0_charAt_5068e, Cond.code yJ0_charAt_5068e cJ0_charAt_5068e 2 (some .char), Cond.methodLink RJ0 492 yJ0_isLatin1_aae02]
def wsX0_writeBent_r2 : List Cond := [Cond.instanceMethod yJ0_isLatin1_aae02, Cond.selects RJ0 yJ0_isLatin1_aae02 yJ0_isLatin1_aae02, Cond.code yJ0_isLatin1_aae02 cJ0_isLatin1_aae02 1 (some .boolean), Cond.methodLink RJ0 495 yJ1_charAt_3b067, Cond.static yJ1_charAt_3b067, Cond.initialized RJ1, Cond.code yJ1_charAt_3b067 cJ1_charAt_3b067 2 (some .char), Cond.methodLink RJ1 9 yJ0_checkIndex_df160, Cond.static yJ0_checkIndex_df160, Cond.code yJ0_checkIndex_df160 cJ0_checkIndex_df160 2 none, Cond.fieldLink RJ0 1053 "jdk/internal/util/Preconditions" "SIOOBE_FORMATTER" "Ljava/util/function/BiFunction;", Cond.methodLink RJ0 1059 yJ3_checkIndex_8e157, Cond.static yJ3_checkIndex_8e157, Cond.initialized RJ3, Cond.code yJ3_checkIndex_8e157 cJ3_checkIndex_8e157 3 (some .int), Cond.methodLink RJ0 498 yJ2_charAt_3b067, Cond.static yJ2_charAt_3b067, Cond.initialized RJ2, Cond.code yJ2_charAt_3b067 cJ2_charAt_3b067 2 (some .char), Cond.methodLink RJ2 67 yJ2_checkIndex_2214a, Cond.static yJ2_checkIndex_2214a, Cond.code yJ2_checkIndex_2214a cJ2_checkIndex_2214a 2 none, Cond.methodLink RJ2 48 yJ2_length_9d52b, Cond.static yJ2_length_9d52b]
def wsX0_writeBent_r3 : List Cond := [Cond.code yJ2_length_9d52b cJ2_length_9d52b 1 (some .int), Cond.methodLink RJ2 414 yJ0_checkIndex_df160, Cond.methodLink RJ2 71 yJ2_getChar_3b067, Cond.static yJ2_getChar_3b067, Cond.code yJ2_getChar_3b067 cJ2_getChar_3b067 2 (some .char), Cond.fieldLink RJ2 44 "java/lang/StringUTF16" "$assertionsDisabled" "Z", Cond.fieldLink RJ2 59 "java/lang/StringUTF16" "HI_BYTE_SHIFT" "I", Cond.fieldLink RJ2 63 "java/lang/StringUTF16" "LO_BYTE_SHIFT" "I", Cond.methodLink RX0 68 yX0_append, Cond.instanceMethod yX0_append, Cond.selects RX0 yX0_append yX0_append, Cond.code yX0_append cX0_append 2 none, Cond.fieldLink RX0 18 "LevelScores$Page" "length" "I", Cond.fieldLink RX0 9 "LevelScores$Page" "bytes" "[B", Cond.methodLink RX0 57 yX0_writeList, Cond.instanceMethod yX0_writeList, Cond.selects RX0 yX0_writeList yX0_writeList, Cond.code yX0_writeList cX0_writeList 5 none, Cond.fieldLink RX0 34 "LevelScores$Score" "levels" "[J", Cond.methodLink RX0 38 yX0_writeNumber, Cond.instanceMethod yX0_writeNumber, Cond.selects RX0 yX0_writeNumber yX0_writeNumber, Cond.code yX0_writeNumber cX0_writeNumber 7 none, Cond.fieldLink RX0 15 "LevelScores$Page" "digits" "[B"]
def wsX0_writeBent_r4 : List Cond := [Cond.constantLong RX0 72 (48), Cond.constantLong RX0 74 (10)]
def wsX0_writeBent : List Cond := .code yX0_writeBent cX0_writeBent 2 none :: ((wsX0_writeBent_r1 ++ (wsX0_writeBent_r2 ++ (wsX0_writeBent_r3 ++ wsX0_writeBent_r4))) ++ wsX20 ++ wsX00)
def wsX0_writePlain_r1 : List Cond := [Cond.fieldLink RX0 34 "LevelScores$Score" "levels" "[J", Cond.fieldLink RX0 22 "LevelScores$Score" "shape" "I", Cond.methodLink RX0 38 yX0_writeNumber, Cond.instanceMethod yX0_writeNumber, Cond.selects RX0 yX0_writeNumber yX0_writeNumber, Cond.initialized RX0, Cond.code yX0_writeNumber cX0_writeNumber 7 none, Cond.fieldLink RX0 15 "LevelScores$Page" "digits" "[B", Cond.constantLong RX0 72 (48), Cond.constantLong RX0 74 (10), Cond.methodLink RX0 68 yX0_append, Cond.instanceMethod yX0_append, Cond.selects RX0 yX0_append yX0_append, Cond.code yX0_append cX0_append 2 none, Cond.fieldLink RX0 18 "LevelScores$Page" "length" "I", Cond.fieldLink RX0 9 "LevelScores$Page" "bytes" "[B", Cond.methodLink RX0 44 yX0_writeWord, Cond.instanceMethod yX0_writeWord, Cond.selects RX0 yX0_writeWord yX0_writeWord, Cond.code yX0_writeWord cX0_writeWord 3 none, Cond.methodLink RX0 76 yJ0_length_8abf5, Cond.instanceMethod yJ0_length_8abf5, Cond.selects RJ0 yJ0_length_8abf5 yJ0_length_8abf5, Cond.initialized RJ0]
def wsX0_writePlain_r2 : List Cond := [Cond.code yJ0_length_8abf5 cJ0_length_8abf5 1 (some .int), Cond.fieldLink RJ0 9 "java/lang/String" "value" "[B", Cond.methodLink RJ0 335 yJ0_coder_7d493, Cond.instanceMethod yJ0_coder_7d493, Cond.selects RJ0 yJ0_coder_7d493 yJ0_coder_7d493, Cond.code yJ0_coder_7d493 cJ0_coder_7d493 1 (some .byte), Cond.fieldLink RJ0 38 "java/lang/String" "COMPACT_STRINGS" "Z", Cond.fieldLink RJ0 15 "java/lang/String" "coder" "B", Cond.methodLink RX0 81 yJ0_charAt_5068e, Cond.instanceMethod yJ0_charAt_5068e, Cond.selects RJ0 yJ0_charAt_5068e yJ0_charAt_5068e, Cond.code yJ0_charAt_5068e cJ0_charAt_5068e 2 (some .char), Cond.methodLink RJ0 492 yJ0_isLatin1_aae02, Cond.instanceMethod yJ0_isLatin1_aae02, Cond.selects RJ0 yJ0_isLatin1_aae02 yJ0_isLatin1_aae02, Cond.code yJ0_isLatin1_aae02 cJ0_isLatin1_aae02 1 (some .boolean), Cond.methodLink RJ0 495 yJ1_charAt_3b067, Cond.static yJ1_charAt_3b067, Cond.initialized RJ1, Cond.code yJ1_charAt_3b067 cJ1_charAt_3b067 2 (some .char), Cond.methodLink RJ1 9 yJ0_checkIndex_df160, Cond.static yJ0_checkIndex_df160, Cond.code yJ0_checkIndex_df160 cJ0_checkIndex_df160 2 none, Cond.fieldLink RJ0 1053 "jdk/internal/util/Preconditions" "SIOOBE_FORMATTER" "Ljava/util/function/BiFunction;"]
def wsX0_writePlain_r3 : List Cond := [Cond.methodLink RJ0 1059 yJ3_checkIndex_8e157, Cond.static yJ3_checkIndex_8e157, Cond.initialized RJ3, Cond.code yJ3_checkIndex_8e157 cJ3_checkIndex_8e157 3 (some .int), Cond.methodLink RJ0 498 yJ2_charAt_3b067, Cond.static yJ2_charAt_3b067, Cond.initialized RJ2, Cond.code yJ2_charAt_3b067 cJ2_charAt_3b067 2 (some .char), Cond.methodLink RJ2 67 yJ2_checkIndex_2214a, Cond.static yJ2_checkIndex_2214a, Cond.code yJ2_checkIndex_2214a cJ2_checkIndex_2214a 2 none, Cond.methodLink RJ2 48 yJ2_length_9d52b, Cond.static yJ2_length_9d52b, Cond.code yJ2_length_9d52b cJ2_length_9d52b 1 (some .int), Cond.methodLink RJ2 414 yJ0_checkIndex_df160, Cond.methodLink RJ2 71 yJ2_getChar_3b067, Cond.static yJ2_getChar_3b067, Cond.code yJ2_getChar_3b067 cJ2_getChar_3b067 2 (some .char), Cond.fieldLink RJ2 44 "java/lang/StringUTF16" "$assertionsDisabled" "Z", Cond.fieldLink RJ2 59 "java/lang/StringUTF16" "HI_BYTE_SHIFT" "I", Cond.fieldLink RJ2 63 "java/lang/StringUTF16" "LO_BYTE_SHIFT" "I"]
def wsX0_writePlain : List Cond := .code yX0_writePlain cX0_writePlain 2 none :: ((wsX0_writePlain_r1 ++ (wsX0_writePlain_r2 ++ wsX0_writePlain_r3)) ++ wsX20 ++ wsX00)
def wsX0_write_r1 : List Cond := [Cond.fieldLink RX0 18 "LevelScores$Page" "length" "I", Cond.fieldLink RX0 22 "LevelScores$Score" "shape" "I", Cond.methodLink RX0 27 yX0_writeBent, Cond.instanceMethod yX0_writeBent, Cond.selects RX0 yX0_writeBent yX0_writeBent, Cond.initialized RX0, Cond.code yX0_writeBent cX0_writeBent 2 none, Cond.fieldLink RX0 54 "LevelScores$Score" "hard" "I", Cond.fieldLink RX0 63 "LevelScores$Score" "size" "I", Cond.methodLink RX0 44 yX0_writeWord, Cond.instanceMethod yX0_writeWord, Cond.selects RX0 yX0_writeWord yX0_writeWord, Cond.code yX0_writeWord cX0_writeWord 3 none, Cond.methodLink RX0 76 yJ0_length_8abf5, Cond.instanceMethod yJ0_length_8abf5, Cond.selects RJ0 yJ0_length_8abf5 yJ0_length_8abf5, Cond.initialized RJ0, Cond.code yJ0_length_8abf5 cJ0_length_8abf5 1 (some .int), Cond.fieldLink RJ0 9 "java/lang/String" "value" "[B", Cond.methodLink RJ0 335 yJ0_coder_7d493, Cond.instanceMethod yJ0_coder_7d493, Cond.selects RJ0 yJ0_coder_7d493 yJ0_coder_7d493, Cond.code yJ0_coder_7d493 cJ0_coder_7d493 1 (some .byte), Cond.fieldLink RJ0 38 "java/lang/String" "COMPACT_STRINGS" "Z"]
def wsX0_write_r2 : List Cond := [Cond.fieldLink RJ0 15 "java/lang/String" "coder" "B", Cond.methodLink RX0 81 yJ0_charAt_5068e, Cond.instanceMethod yJ0_charAt_5068e, Cond.selects RJ0 yJ0_charAt_5068e yJ0_charAt_5068e, Cond.code yJ0_charAt_5068e cJ0_charAt_5068e 2 (some .char), Cond.methodLink RJ0 492 yJ0_isLatin1_aae02, Cond.instanceMethod yJ0_isLatin1_aae02, Cond.selects RJ0 yJ0_isLatin1_aae02 yJ0_isLatin1_aae02, Cond.code yJ0_isLatin1_aae02 cJ0_isLatin1_aae02 1 (some .boolean), Cond.methodLink RJ0 495 yJ1_charAt_3b067, Cond.static yJ1_charAt_3b067, Cond.initialized RJ1, Cond.code yJ1_charAt_3b067 cJ1_charAt_3b067 2 (some .char), Cond.methodLink RJ1 9 yJ0_checkIndex_df160, Cond.static yJ0_checkIndex_df160, Cond.code yJ0_checkIndex_df160 cJ0_checkIndex_df160 2 none, Cond.fieldLink RJ0 1053 "jdk/internal/util/Preconditions" "SIOOBE_FORMATTER" "Ljava/util/function/BiFunction;", Cond.methodLink RJ0 1059 yJ3_checkIndex_8e157, Cond.static yJ3_checkIndex_8e157, Cond.initialized RJ3, Cond.code yJ3_checkIndex_8e157 cJ3_checkIndex_8e157 3 (some .int), Cond.methodLink RJ0 498 yJ2_charAt_3b067, Cond.static yJ2_charAt_3b067, Cond.initialized RJ2]
def wsX0_write_r3 : List Cond := [Cond.code yJ2_charAt_3b067 cJ2_charAt_3b067 2 (some .char), Cond.methodLink RJ2 67 yJ2_checkIndex_2214a, Cond.static yJ2_checkIndex_2214a, Cond.code yJ2_checkIndex_2214a cJ2_checkIndex_2214a 2 none, Cond.methodLink RJ2 48 yJ2_length_9d52b, Cond.static yJ2_length_9d52b, Cond.code yJ2_length_9d52b cJ2_length_9d52b 1 (some .int), Cond.methodLink RJ2 414 yJ0_checkIndex_df160, Cond.methodLink RJ2 71 yJ2_getChar_3b067, Cond.static yJ2_getChar_3b067, Cond.code yJ2_getChar_3b067 cJ2_getChar_3b067 2 (some .char), Cond.fieldLink RJ2 44 "java/lang/StringUTF16" "$assertionsDisabled" "Z", Cond.fieldLink RJ2 59 "java/lang/StringUTF16" "HI_BYTE_SHIFT" "I", Cond.fieldLink RJ2 63 "java/lang/StringUTF16" "LO_BYTE_SHIFT" "I", Cond.methodLink RX0 68 yX0_append, Cond.instanceMethod yX0_append, Cond.selects RX0 yX0_append yX0_append, Cond.code yX0_append cX0_append 2 none, Cond.fieldLink RX0 9 "LevelScores$Page" "bytes" "[B", Cond.methodLink RX0 57 yX0_writeList, Cond.instanceMethod yX0_writeList, Cond.selects RX0 yX0_writeList yX0_writeList, Cond.code yX0_writeList cX0_writeList 5 none, Cond.fieldLink RX0 34 "LevelScores$Score" "levels" "[J"]
def wsX0_write_r4 : List Cond := [Cond.methodLink RX0 38 yX0_writeNumber, Cond.instanceMethod yX0_writeNumber, Cond.selects RX0 yX0_writeNumber yX0_writeNumber, Cond.code yX0_writeNumber cX0_writeNumber 7 none, Cond.fieldLink RX0 15 "LevelScores$Page" "digits" "[B", Cond.constantLong RX0 72 (48), Cond.constantLong RX0 74 (10), Cond.methodLink RX0 31 yX0_writePlain, Cond.instanceMethod yX0_writePlain, Cond.selects RX0 yX0_writePlain yX0_writePlain, Cond.code yX0_writePlain cX0_writePlain 2 none]
def wsX0_write : List Cond := .code yX0_write cX0_write 2 none :: ((wsX0_write_r1 ++ (wsX0_write_r2 ++ (wsX0_write_r3 ++ wsX0_write_r4))) ++ wsX00 ++ wsX20)
def wsX2_init : List Cond := .code yX2_init cX2_init 1 none :: ([.methodLink RX2 3 objectInit, .instanceMethod objectInit, .code objectInit ⟨#[0xb1]⟩ 1 none, .fieldLink RX2 9 "LevelScores$Score" "shape" "I", .arrayClass .long, .fieldLink RX2 15 "LevelScores$Score" "levels" "[J"] ++ wsX20)
def wsX4_init : List Cond := .code yX4_init cX4_init 1 none :: ([.methodLink RX4 1 objectInit, .instanceMethod objectInit, .code objectInit ⟨#[0xb1]⟩ 1 none])
def wsX2_form : List Cond := .code yX2_form cX2_form 4 none :: ([.fieldLink RX2 9 "LevelScores$Score" "shape" "I", .fieldLink RX2 19 "LevelScores$Score" "hard" "I", .fieldLink RX2 22 "LevelScores$Score" "size" "I"] ++ wsX20)
def wsX1_init_r1 : List Cond := [Cond.methodLink RX1 3 objectInit, Cond.instanceMethod objectInit, Cond.code objectInit ⟨#[0xb1]⟩ 1 none, Cond.classLink RX1 9 RX2, Cond.instantiable RX2 4, Cond.initialized RX2, Cond.fieldLink RX1 12 "LevelScores$Plan" "pattern" "LLevelScores$Score;", Cond.fieldLink RX1 18 "LevelScores$Plan" "weights" "[LLevelScores$Score;", Cond.arrayClass .int, Cond.fieldLink RX1 22 "LevelScores$Plan" "counts" "[I", Cond.fieldLink RX1 26 "LevelScores$Plan" "best" "[LLevelScores$Score;", Cond.fieldLink RX1 29 "LevelScores$Plan" "spare" "LLevelScores$Score;", Cond.classLink RX1 32 RX4, Cond.instantiable RX4 2, Cond.initialized RX4, Cond.fieldLink RX1 35 "LevelScores$Plan" "sum" "LLevelScores$Wide;", Cond.fieldLink RX1 39 "LevelScores$Plan" "part" "LLevelScores$Wide;", Cond.instanceMethod yX2_init, Cond.code yX2_init cX2_init 1 none, Cond.methodLink RX2 3 objectInit, Cond.fieldLink RX2 9 "LevelScores$Score" "shape" "I", Cond.arrayClass .long, Cond.fieldLink RX2 15 "LevelScores$Score" "levels" "[J", Cond.instanceMethod yX4_init]
def wsX1_init_r2 : List Cond := [Cond.code yX4_init cX4_init 1 none, Cond.methodLink RX4 1 objectInit, Cond.methodLink RX1 42 yX2_form, Cond.instanceMethod yX2_form, Cond.selects RX2 yX2_form yX2_form, Cond.code yX2_form cX2_form 4 none, Cond.fieldLink RX2 19 "LevelScores$Score" "hard" "I", Cond.fieldLink RX2 22 "LevelScores$Score" "size" "I"]
def wsX1_init : List Cond := .code yX1_init cX1_init 2 none :: ((wsX1_init_r1 ++ wsX1_init_r2) ++ wsX20 ++ wsX10 ++ wsX40)
def wsX2_formLike : List Cond := .code yX2_formLike cX2_formLike 2 none :: ([.fieldLink RX2 9 "LevelScores$Score" "shape" "I", .fieldLink RX2 19 "LevelScores$Score" "hard" "I", .fieldLink RX2 22 "LevelScores$Score" "size" "I", .methodLink RX2 25 yX2_form, .instanceMethod yX2_form, .selects RX2 yX2_form yX2_form, .initialized RX2, .code yX2_form cX2_form 4 none] ++ wsX20)
def wsX1_begin : List Cond := .code yX1_begin cX1_begin 2 none :: ([.fieldLink RX1 12 "LevelScores$Plan" "pattern" "LLevelScores$Score;", .fieldLink RX1 50 "LevelScores$Plan" "rules" "I", .fieldLink RX1 54 "LevelScores$Plan" "held" "I", .methodLink RX1 46 yX2_formLike, .instanceMethod yX2_formLike, .selects RX2 yX2_formLike yX2_formLike, .initialized RX2, .code yX2_formLike cX2_formLike 2 none, .fieldLink RX2 9 "LevelScores$Score" "shape" "I", .fieldLink RX2 19 "LevelScores$Score" "hard" "I", .fieldLink RX2 22 "LevelScores$Score" "size" "I", .methodLink RX2 25 yX2_form, .instanceMethod yX2_form, .selects RX2 yX2_form yX2_form, .code yX2_form cX2_form 4 none] ++ wsX10 ++ wsX20)
def wsX1_hasRule : List Cond := .code yX1_hasRule cX1_hasRule 2 (some .boolean) :: ([.fieldLink RX1 50 "LevelScores$Plan" "rules" "I"] ++ wsX10)
def wsX2_copy : List Cond := .code yX2_copy cX2_copy 3 none :: ([.fieldLink RX2 22 "LevelScores$Score" "size" "I", .fieldLink RX2 15 "LevelScores$Score" "levels" "[J", .methodLink RX2 29 yX2_formLike, .instanceMethod yX2_formLike, .selects RX2 yX2_formLike yX2_formLike, .initialized RX2, .code yX2_formLike cX2_formLike 2 none, .fieldLink RX2 9 "LevelScores$Score" "shape" "I", .fieldLink RX2 19 "LevelScores$Score" "hard" "I", .methodLink RX2 25 yX2_form, .instanceMethod yX2_form, .selects RX2 yX2_form yX2_form, .code yX2_form cX2_form 4 none] ++ wsX20)
def wsX1_addRule : List Cond := .code yX1_addRule cX1_addRule 2 (some .int) :: ([.fieldLink RX1 18 "LevelScores$Plan" "weights" "[LLevelScores$Score;", .fieldLink RX1 50 "LevelScores$Plan" "rules" "I", .fieldLink RX1 22 "LevelScores$Plan" "counts" "[I", .methodLink RX1 57 yX2_copy, .instanceMethod yX2_copy, .selects RX2 yX2_copy yX2_copy, .initialized RX2, .code yX2_copy cX2_copy 3 none, .fieldLink RX2 22 "LevelScores$Score" "size" "I", .fieldLink RX2 15 "LevelScores$Score" "levels" "[J", .methodLink RX2 29 yX2_formLike, .instanceMethod yX2_formLike, .selects RX2 yX2_formLike yX2_formLike, .code yX2_formLike cX2_formLike 2 none, .fieldLink RX2 9 "LevelScores$Score" "shape" "I", .fieldLink RX2 19 "LevelScores$Score" "hard" "I", .methodLink RX2 25 yX2_form, .instanceMethod yX2_form, .selects RX2 yX2_form yX2_form, .code yX2_form cX2_form 4 none] ++ wsX10 ++ wsX20)
def wsX4_clear : List Cond := .code yX4_clear cX4_clear 1 none :: ([.fieldLink RX4 7 "LevelScores$Wide" "high" "J", .fieldLink RX4 13 "LevelScores$Wide" "low" "J"] ++ wsX40)
def wsX4_addProduct : List Cond := .code yX4_addProduct cX4_addProduct 9 none :: ([.constantLong RX4 16 (4294967295), .fieldLink RX4 13 "LevelScores$Wide" "low" "J", .fieldLink RX4 7 "LevelScores$Wide" "high" "J"] ++ wsX40)
def wsX1_pricePart : List Cond := .code yX1_pricePart cX1_pricePart 3 none :: ([.fieldLink RX1 39 "LevelScores$Plan" "part" "LLevelScores$Wide;", .fieldLink RX1 18 "LevelScores$Plan" "weights" "[LLevelScores$Score;", .fieldLink RX1 88 "LevelScores$Score" "levels" "[J", .fieldLink RX1 22 "LevelScores$Plan" "counts" "[I", .methodLink RX1 85 yX4_clear, .instanceMethod yX4_clear, .selects RX4 yX4_clear yX4_clear, .initialized RX4, .code yX4_clear cX4_clear 1 none, .fieldLink RX4 7 "LevelScores$Wide" "high" "J", .fieldLink RX4 13 "LevelScores$Wide" "low" "J", .methodLink RX1 92 yX4_addProduct, .instanceMethod yX4_addProduct, .selects RX4 yX4_addProduct yX4_addProduct, .code yX4_addProduct cX4_addProduct 9 none, .constantLong RX4 16 (4294967295)] ++ wsX10 ++ wsX20 ++ wsX40)
def wsX4_fits : List Cond := .code yX4_fits cX4_fits 1 (some .boolean) :: ([.fieldLink RX4 7 "LevelScores$Wide" "high" "J", .constantLong RX4 29 (-2147483648), .constantLong RX4 31 (2147483647)] ++ wsX40)
def wsX1_priceSum : List Cond := .code yX1_priceSum cX1_priceSum 3 none :: ([.fieldLink RX1 35 "LevelScores$Plan" "sum" "LLevelScores$Wide;", .fieldLink RX1 50 "LevelScores$Plan" "rules" "I", .fieldLink RX1 18 "LevelScores$Plan" "weights" "[LLevelScores$Score;", .fieldLink RX1 88 "LevelScores$Score" "levels" "[J", .fieldLink RX1 22 "LevelScores$Plan" "counts" "[I", .methodLink RX1 85 yX4_clear, .instanceMethod yX4_clear, .selects RX4 yX4_clear yX4_clear, .initialized RX4, .code yX4_clear cX4_clear 1 none, .fieldLink RX4 7 "LevelScores$Wide" "high" "J", .fieldLink RX4 13 "LevelScores$Wide" "low" "J", .methodLink RX1 92 yX4_addProduct, .instanceMethod yX4_addProduct, .selects RX4 yX4_addProduct yX4_addProduct, .code yX4_addProduct cX4_addProduct 9 none, .constantLong RX4 16 (4294967295)] ++ wsX10 ++ wsX20 ++ wsX40)
def wsX1_fitsAt_r1 : List Cond := [Cond.fieldLink RX1 50 "LevelScores$Plan" "rules" "I", Cond.fieldLink RX1 39 "LevelScores$Plan" "part" "LLevelScores$Wide;", Cond.fieldLink RX1 35 "LevelScores$Plan" "sum" "LLevelScores$Wide;", Cond.methodLink RX1 75 yX1_pricePart, Cond.instanceMethod yX1_pricePart, Cond.selects RX1 yX1_pricePart yX1_pricePart, Cond.initialized RX1, Cond.code yX1_pricePart cX1_pricePart 3 none, Cond.fieldLink RX1 18 "LevelScores$Plan" "weights" "[LLevelScores$Score;", Cond.fieldLink RX1 88 "LevelScores$Score" "levels" "[J", Cond.fieldLink RX1 22 "LevelScores$Plan" "counts" "[I", Cond.methodLink RX1 85 yX4_clear, Cond.instanceMethod yX4_clear, Cond.selects RX4 yX4_clear yX4_clear, Cond.initialized RX4, Cond.code yX4_clear cX4_clear 1 none, Cond.fieldLink RX4 7 "LevelScores$Wide" "high" "J", Cond.fieldLink RX4 13 "LevelScores$Wide" "low" "J", Cond.methodLink RX1 92 yX4_addProduct, Cond.instanceMethod yX4_addProduct, Cond.selects RX4 yX4_addProduct yX4_addProduct, Cond.code yX4_addProduct cX4_addProduct 9 none, Cond.constantLong RX4 16 (4294967295), Cond.methodLink RX1 79 yX4_fits]
def wsX1_fitsAt_r2 : List Cond := [Cond.instanceMethod yX4_fits, Cond.selects RX4 yX4_fits yX4_fits, Cond.code yX4_fits cX4_fits 1 (some .boolean), Cond.constantLong RX4 29 (-2147483648), Cond.constantLong RX4 31 (2147483647), Cond.methodLink RX1 82 yX1_priceSum, Cond.instanceMethod yX1_priceSum, Cond.selects RX1 yX1_priceSum yX1_priceSum, Cond.code yX1_priceSum cX1_priceSum 3 none]
def wsX1_fitsAt : List Cond := .code yX1_fitsAt cX1_fitsAt 3 (some .boolean) :: ((wsX1_fitsAt_r1 ++ wsX1_fitsAt_r2) ++ wsX10 ++ wsX20 ++ wsX40)
def wsX1_allFit_r1 : List Cond := [Cond.fieldLink RX1 12 "LevelScores$Plan" "pattern" "LLevelScores$Score;", Cond.fieldLink RX1 68 "LevelScores$Score" "size" "I", Cond.methodLink RX1 71 yX1_fitsAt, Cond.instanceMethod yX1_fitsAt, Cond.selects RX1 yX1_fitsAt yX1_fitsAt, Cond.initialized RX1, Cond.code yX1_fitsAt cX1_fitsAt 3 (some .boolean), Cond.fieldLink RX1 50 "LevelScores$Plan" "rules" "I", Cond.fieldLink RX1 39 "LevelScores$Plan" "part" "LLevelScores$Wide;", Cond.fieldLink RX1 35 "LevelScores$Plan" "sum" "LLevelScores$Wide;", Cond.methodLink RX1 75 yX1_pricePart, Cond.instanceMethod yX1_pricePart, Cond.selects RX1 yX1_pricePart yX1_pricePart, Cond.code yX1_pricePart cX1_pricePart 3 none, Cond.fieldLink RX1 18 "LevelScores$Plan" "weights" "[LLevelScores$Score;", Cond.fieldLink RX1 88 "LevelScores$Score" "levels" "[J", Cond.fieldLink RX1 22 "LevelScores$Plan" "counts" "[I", Cond.methodLink RX1 85 yX4_clear, Cond.instanceMethod yX4_clear, Cond.selects RX4 yX4_clear yX4_clear, Cond.initialized RX4, Cond.code yX4_clear cX4_clear 1 none, Cond.fieldLink RX4 7 "LevelScores$Wide" "high" "J", Cond.fieldLink RX4 13 "LevelScores$Wide" "low" "J"]
def wsX1_allFit_r2 : List Cond := [Cond.methodLink RX1 92 yX4_addProduct, Cond.instanceMethod yX4_addProduct, Cond.selects RX4 yX4_addProduct yX4_addProduct, Cond.code yX4_addProduct cX4_addProduct 9 none, Cond.constantLong RX4 16 (4294967295), Cond.methodLink RX1 79 yX4_fits, Cond.instanceMethod yX4_fits, Cond.selects RX4 yX4_fits yX4_fits, Cond.code yX4_fits cX4_fits 1 (some .boolean), Cond.constantLong RX4 29 (-2147483648), Cond.constantLong RX4 31 (2147483647), Cond.methodLink RX1 82 yX1_priceSum, Cond.instanceMethod yX1_priceSum, Cond.selects RX1 yX1_priceSum yX1_priceSum, Cond.code yX1_priceSum cX1_priceSum 3 none]
def wsX1_allFit : List Cond := .code yX1_allFit cX1_allFit 2 (some .boolean) :: ((wsX1_allFit_r1 ++ wsX1_allFit_r2) ++ wsX10 ++ wsX20 ++ wsX40)
def wsX1_changeCount_r1 : List Cond := [Cond.fieldLink RX1 22 "LevelScores$Plan" "counts" "[I", Cond.methodLink RX1 60 yX1_allFit, Cond.instanceMethod yX1_allFit, Cond.selects RX1 yX1_allFit yX1_allFit, Cond.initialized RX1, Cond.code yX1_allFit cX1_allFit 2 (some .boolean), Cond.fieldLink RX1 12 "LevelScores$Plan" "pattern" "LLevelScores$Score;", Cond.fieldLink RX1 68 "LevelScores$Score" "size" "I", Cond.methodLink RX1 71 yX1_fitsAt, Cond.instanceMethod yX1_fitsAt, Cond.selects RX1 yX1_fitsAt yX1_fitsAt, Cond.code yX1_fitsAt cX1_fitsAt 3 (some .boolean), Cond.fieldLink RX1 50 "LevelScores$Plan" "rules" "I", Cond.fieldLink RX1 39 "LevelScores$Plan" "part" "LLevelScores$Wide;", Cond.fieldLink RX1 35 "LevelScores$Plan" "sum" "LLevelScores$Wide;", Cond.methodLink RX1 75 yX1_pricePart, Cond.instanceMethod yX1_pricePart, Cond.selects RX1 yX1_pricePart yX1_pricePart, Cond.code yX1_pricePart cX1_pricePart 3 none, Cond.fieldLink RX1 18 "LevelScores$Plan" "weights" "[LLevelScores$Score;", Cond.fieldLink RX1 88 "LevelScores$Score" "levels" "[J", Cond.methodLink RX1 85 yX4_clear, Cond.instanceMethod yX4_clear, Cond.selects RX4 yX4_clear yX4_clear]
def wsX1_changeCount_r2 : List Cond := [Cond.initialized RX4, Cond.code yX4_clear cX4_clear 1 none, Cond.fieldLink RX4 7 "LevelScores$Wide" "high" "J", Cond.fieldLink RX4 13 "LevelScores$Wide" "low" "J", Cond.methodLink RX1 92 yX4_addProduct, Cond.instanceMethod yX4_addProduct, Cond.selects RX4 yX4_addProduct yX4_addProduct, Cond.code yX4_addProduct cX4_addProduct 9 none, Cond.constantLong RX4 16 (4294967295), Cond.methodLink RX1 79 yX4_fits, Cond.instanceMethod yX4_fits, Cond.selects RX4 yX4_fits yX4_fits, Cond.code yX4_fits cX4_fits 1 (some .boolean), Cond.constantLong RX4 29 (-2147483648), Cond.constantLong RX4 31 (2147483647), Cond.methodLink RX1 82 yX1_priceSum, Cond.instanceMethod yX1_priceSum, Cond.selects RX1 yX1_priceSum yX1_priceSum, Cond.code yX1_priceSum cX1_priceSum 3 none]
def wsX1_changeCount : List Cond := .code yX1_changeCount cX1_changeCount 4 (some .boolean) :: ((wsX1_changeCount_r1 ++ wsX1_changeCount_r2) ++ wsX10 ++ wsX20 ++ wsX40)
def wsX1_tradeSpare : List Cond := .code yX1_tradeSpare cX1_tradeSpare 3 none :: ([.fieldLink RX1 18 "LevelScores$Plan" "weights" "[LLevelScores$Score;", .fieldLink RX1 29 "LevelScores$Plan" "spare" "LLevelScores$Score;"] ++ wsX10)
def wsX1_changeWeight_r1 : List Cond := [Cond.fieldLink RX1 29 "LevelScores$Plan" "spare" "LLevelScores$Score;", Cond.methodLink RX1 57 yX2_copy, Cond.instanceMethod yX2_copy, Cond.selects RX2 yX2_copy yX2_copy, Cond.initialized RX2, Cond.code yX2_copy cX2_copy 3 none, Cond.fieldLink RX2 22 "LevelScores$Score" "size" "I", Cond.fieldLink RX2 15 "LevelScores$Score" "levels" "[J", Cond.methodLink RX2 29 yX2_formLike, Cond.instanceMethod yX2_formLike, Cond.selects RX2 yX2_formLike yX2_formLike, Cond.code yX2_formLike cX2_formLike 2 none, Cond.fieldLink RX2 9 "LevelScores$Score" "shape" "I", Cond.fieldLink RX2 19 "LevelScores$Score" "hard" "I", Cond.methodLink RX2 25 yX2_form, Cond.instanceMethod yX2_form, Cond.selects RX2 yX2_form yX2_form, Cond.code yX2_form cX2_form 4 none, Cond.methodLink RX1 64 yX1_tradeSpare, Cond.instanceMethod yX1_tradeSpare, Cond.selects RX1 yX1_tradeSpare yX1_tradeSpare, Cond.initialized RX1, Cond.code yX1_tradeSpare cX1_tradeSpare 3 none, Cond.fieldLink RX1 18 "LevelScores$Plan" "weights" "[LLevelScores$Score;"]
def wsX1_changeWeight_r2 : List Cond := [Cond.methodLink RX1 60 yX1_allFit, Cond.instanceMethod yX1_allFit, Cond.selects RX1 yX1_allFit yX1_allFit, Cond.code yX1_allFit cX1_allFit 2 (some .boolean), Cond.fieldLink RX1 12 "LevelScores$Plan" "pattern" "LLevelScores$Score;", Cond.fieldLink RX1 68 "LevelScores$Score" "size" "I", Cond.methodLink RX1 71 yX1_fitsAt, Cond.instanceMethod yX1_fitsAt, Cond.selects RX1 yX1_fitsAt yX1_fitsAt, Cond.code yX1_fitsAt cX1_fitsAt 3 (some .boolean), Cond.fieldLink RX1 50 "LevelScores$Plan" "rules" "I", Cond.fieldLink RX1 39 "LevelScores$Plan" "part" "LLevelScores$Wide;", Cond.fieldLink RX1 35 "LevelScores$Plan" "sum" "LLevelScores$Wide;", Cond.methodLink RX1 75 yX1_pricePart, Cond.instanceMethod yX1_pricePart, Cond.selects RX1 yX1_pricePart yX1_pricePart, Cond.code yX1_pricePart cX1_pricePart 3 none, Cond.fieldLink RX1 88 "LevelScores$Score" "levels" "[J", Cond.fieldLink RX1 22 "LevelScores$Plan" "counts" "[I", Cond.methodLink RX1 85 yX4_clear, Cond.instanceMethod yX4_clear, Cond.selects RX4 yX4_clear yX4_clear, Cond.initialized RX4, Cond.code yX4_clear cX4_clear 1 none]
def wsX1_changeWeight_r3 : List Cond := [Cond.fieldLink RX4 7 "LevelScores$Wide" "high" "J", Cond.fieldLink RX4 13 "LevelScores$Wide" "low" "J", Cond.methodLink RX1 92 yX4_addProduct, Cond.instanceMethod yX4_addProduct, Cond.selects RX4 yX4_addProduct yX4_addProduct, Cond.code yX4_addProduct cX4_addProduct 9 none, Cond.constantLong RX4 16 (4294967295), Cond.methodLink RX1 79 yX4_fits, Cond.instanceMethod yX4_fits, Cond.selects RX4 yX4_fits yX4_fits, Cond.code yX4_fits cX4_fits 1 (some .boolean), Cond.constantLong RX4 29 (-2147483648), Cond.constantLong RX4 31 (2147483647), Cond.methodLink RX1 82 yX1_priceSum, Cond.instanceMethod yX1_priceSum, Cond.selects RX1 yX1_priceSum yX1_priceSum, Cond.code yX1_priceSum cX1_priceSum 3 none]
def wsX1_changeWeight : List Cond := .code yX1_changeWeight cX1_changeWeight 3 (some .boolean) :: ((wsX1_changeWeight_r1 ++ (wsX1_changeWeight_r2 ++ wsX1_changeWeight_r3)) ++ wsX10 ++ wsX20 ++ wsX40)
def wsX4_value : List Cond := .code yX4_value cX4_value 1 (some .long) :: ([.fieldLink RX4 7 "LevelScores$Wide" "high" "J", .fieldLink RX4 13 "LevelScores$Wide" "low" "J"] ++ wsX40)
def wsX1_sumInto_r1 : List Cond := [Cond.fieldLink RX1 12 "LevelScores$Plan" "pattern" "LLevelScores$Score;", Cond.fieldLink RX1 68 "LevelScores$Score" "size" "I", Cond.fieldLink RX1 88 "LevelScores$Score" "levels" "[J", Cond.fieldLink RX1 35 "LevelScores$Plan" "sum" "LLevelScores$Wide;", Cond.methodLink RX1 46 yX2_formLike, Cond.instanceMethod yX2_formLike, Cond.selects RX2 yX2_formLike yX2_formLike, Cond.initialized RX2, Cond.code yX2_formLike cX2_formLike 2 none, Cond.fieldLink RX2 9 "LevelScores$Score" "shape" "I", Cond.fieldLink RX2 19 "LevelScores$Score" "hard" "I", Cond.fieldLink RX2 22 "LevelScores$Score" "size" "I", Cond.methodLink RX2 25 yX2_form, Cond.instanceMethod yX2_form, Cond.selects RX2 yX2_form yX2_form, Cond.code yX2_form cX2_form 4 none, Cond.methodLink RX1 82 yX1_priceSum, Cond.instanceMethod yX1_priceSum, Cond.selects RX1 yX1_priceSum yX1_priceSum, Cond.initialized RX1, Cond.code yX1_priceSum cX1_priceSum 3 none, Cond.fieldLink RX1 50 "LevelScores$Plan" "rules" "I", Cond.fieldLink RX1 18 "LevelScores$Plan" "weights" "[LLevelScores$Score;", Cond.fieldLink RX1 22 "LevelScores$Plan" "counts" "[I"]
def wsX1_sumInto_r2 : List Cond := [Cond.methodLink RX1 85 yX4_clear, Cond.instanceMethod yX4_clear, Cond.selects RX4 yX4_clear yX4_clear, Cond.initialized RX4, Cond.code yX4_clear cX4_clear 1 none, Cond.fieldLink RX4 7 "LevelScores$Wide" "high" "J", Cond.fieldLink RX4 13 "LevelScores$Wide" "low" "J", Cond.methodLink RX1 92 yX4_addProduct, Cond.instanceMethod yX4_addProduct, Cond.selects RX4 yX4_addProduct yX4_addProduct, Cond.code yX4_addProduct cX4_addProduct 9 none, Cond.constantLong RX4 16 (4294967295), Cond.methodLink RX1 96 yX4_value, Cond.instanceMethod yX4_value, Cond.selects RX4 yX4_value yX4_value, Cond.code yX4_value cX4_value 1 (some .long)]
def wsX1_sumInto : List Cond := .code yX1_sumInto cX1_sumInto 3 none :: ((wsX1_sumInto_r1 ++ wsX1_sumInto_r2) ++ wsX10 ++ wsX20 ++ wsX40)
def wsX1_partInto_r1 : List Cond := [Cond.fieldLink RX1 12 "LevelScores$Plan" "pattern" "LLevelScores$Score;", Cond.fieldLink RX1 68 "LevelScores$Score" "size" "I", Cond.fieldLink RX1 88 "LevelScores$Score" "levels" "[J", Cond.fieldLink RX1 39 "LevelScores$Plan" "part" "LLevelScores$Wide;", Cond.methodLink RX1 46 yX2_formLike, Cond.instanceMethod yX2_formLike, Cond.selects RX2 yX2_formLike yX2_formLike, Cond.initialized RX2, Cond.code yX2_formLike cX2_formLike 2 none, Cond.fieldLink RX2 9 "LevelScores$Score" "shape" "I", Cond.fieldLink RX2 19 "LevelScores$Score" "hard" "I", Cond.fieldLink RX2 22 "LevelScores$Score" "size" "I", Cond.methodLink RX2 25 yX2_form, Cond.instanceMethod yX2_form, Cond.selects RX2 yX2_form yX2_form, Cond.code yX2_form cX2_form 4 none, Cond.methodLink RX1 75 yX1_pricePart, Cond.instanceMethod yX1_pricePart, Cond.selects RX1 yX1_pricePart yX1_pricePart, Cond.initialized RX1, Cond.code yX1_pricePart cX1_pricePart 3 none, Cond.fieldLink RX1 18 "LevelScores$Plan" "weights" "[LLevelScores$Score;", Cond.fieldLink RX1 22 "LevelScores$Plan" "counts" "[I", Cond.methodLink RX1 85 yX4_clear]
def wsX1_partInto_r2 : List Cond := [Cond.instanceMethod yX4_clear, Cond.selects RX4 yX4_clear yX4_clear, Cond.initialized RX4, Cond.code yX4_clear cX4_clear 1 none, Cond.fieldLink RX4 7 "LevelScores$Wide" "high" "J", Cond.fieldLink RX4 13 "LevelScores$Wide" "low" "J", Cond.methodLink RX1 92 yX4_addProduct, Cond.instanceMethod yX4_addProduct, Cond.selects RX4 yX4_addProduct yX4_addProduct, Cond.code yX4_addProduct cX4_addProduct 9 none, Cond.constantLong RX4 16 (4294967295), Cond.methodLink RX1 96 yX4_value, Cond.instanceMethod yX4_value, Cond.selects RX4 yX4_value yX4_value, Cond.code yX4_value cX4_value 1 (some .long)]
def wsX1_partInto : List Cond := .code yX1_partInto cX1_partInto 4 none :: ((wsX1_partInto_r1 ++ wsX1_partInto_r2) ++ wsX10 ++ wsX20 ++ wsX40)
def wsX1_bearsAt : List Cond := .code yX1_bearsAt cX1_bearsAt 7 (some .boolean) :: ([.fieldLink RX1 35 "LevelScores$Plan" "sum" "LLevelScores$Wide;", .fieldLink RX1 50 "LevelScores$Plan" "rules" "I", .fieldLink RX1 18 "LevelScores$Plan" "weights" "[LLevelScores$Score;", .fieldLink RX1 88 "LevelScores$Score" "levels" "[J", .methodLink RX1 85 yX4_clear, .instanceMethod yX4_clear, .selects RX4 yX4_clear yX4_clear, .initialized RX4, .code yX4_clear cX4_clear 1 none, .fieldLink RX4 7 "LevelScores$Wide" "high" "J", .fieldLink RX4 13 "LevelScores$Wide" "low" "J", .methodLink RX1 92 yX4_addProduct, .instanceMethod yX4_addProduct, .selects RX4 yX4_addProduct yX4_addProduct, .code yX4_addProduct cX4_addProduct 9 none, .constantLong RX4 16 (4294967295), .methodLink RX1 79 yX4_fits, .instanceMethod yX4_fits, .selects RX4 yX4_fits yX4_fits, .code yX4_fits cX4_fits 1 (some .boolean), .constantLong RX4 29 (-2147483648), .constantLong RX4 31 (2147483647)] ++ wsX10 ++ wsX20 ++ wsX40)
def wsX1_bears_r1 : List Cond := [Cond.fieldLink RX1 12 "LevelScores$Plan" "pattern" "LLevelScores$Score;", Cond.fieldLink RX1 68 "LevelScores$Score" "size" "I", Cond.methodLink RX1 100 yX1_bearsAt, Cond.instanceMethod yX1_bearsAt, Cond.selects RX1 yX1_bearsAt yX1_bearsAt, Cond.initialized RX1, Cond.code yX1_bearsAt cX1_bearsAt 7 (some .boolean), Cond.fieldLink RX1 35 "LevelScores$Plan" "sum" "LLevelScores$Wide;", Cond.fieldLink RX1 50 "LevelScores$Plan" "rules" "I", Cond.fieldLink RX1 18 "LevelScores$Plan" "weights" "[LLevelScores$Score;", Cond.fieldLink RX1 88 "LevelScores$Score" "levels" "[J", Cond.methodLink RX1 85 yX4_clear, Cond.instanceMethod yX4_clear, Cond.selects RX4 yX4_clear yX4_clear, Cond.initialized RX4, Cond.code yX4_clear cX4_clear 1 none, Cond.fieldLink RX4 7 "LevelScores$Wide" "high" "J", Cond.fieldLink RX4 13 "LevelScores$Wide" "low" "J", Cond.methodLink RX1 92 yX4_addProduct, Cond.instanceMethod yX4_addProduct, Cond.selects RX4 yX4_addProduct yX4_addProduct, Cond.code yX4_addProduct cX4_addProduct 9 none, Cond.constantLong RX4 16 (4294967295), Cond.methodLink RX1 79 yX4_fits]
def wsX1_bears_r2 : List Cond := [Cond.instanceMethod yX4_fits, Cond.selects RX4 yX4_fits yX4_fits, Cond.code yX4_fits cX4_fits 1 (some .boolean), Cond.constantLong RX4 29 (-2147483648), Cond.constantLong RX4 31 (2147483647)]
def wsX1_bears : List Cond := .code yX1_bears cX1_bears 3 (some .boolean) :: ((wsX1_bears_r1 ++ wsX1_bears_r2) ++ wsX10 ++ wsX20 ++ wsX40)
def wsX2_compareWith : List Cond := .code yX2_compareWith cX2_compareWith 3 (some .int) :: ([.fieldLink RX2 22 "LevelScores$Score" "size" "I", .fieldLink RX2 15 "LevelScores$Score" "levels" "[J"] ++ wsX20)
def wsX1_admit : List Cond := .code yX1_admit cX1_admit 5 (some .int) :: ([.fieldLink RX1 54 "LevelScores$Plan" "held" "I", .fieldLink RX1 26 "LevelScores$Plan" "best" "[LLevelScores$Score;", .methodLink RX1 104 yX2_compareWith, .instanceMethod yX2_compareWith, .selects RX2 yX2_compareWith yX2_compareWith, .initialized RX2, .code yX2_compareWith cX2_compareWith 3 (some .int), .fieldLink RX2 22 "LevelScores$Score" "size" "I", .fieldLink RX2 15 "LevelScores$Score" "levels" "[J", .methodLink RX1 57 yX2_copy, .instanceMethod yX2_copy, .selects RX2 yX2_copy yX2_copy, .code yX2_copy cX2_copy 3 none, .methodLink RX2 29 yX2_formLike, .instanceMethod yX2_formLike, .selects RX2 yX2_formLike yX2_formLike, .code yX2_formLike cX2_formLike 2 none, .fieldLink RX2 9 "LevelScores$Score" "shape" "I", .fieldLink RX2 19 "LevelScores$Score" "hard" "I", .methodLink RX2 25 yX2_form, .instanceMethod yX2_form, .selects RX2 yX2_form yX2_form, .code yX2_form cX2_form 4 none] ++ wsX10 ++ wsX20)
def wsX2_clear : List Cond := .code yX2_clear cX2_clear 2 none :: ([.fieldLink RX2 22 "LevelScores$Score" "size" "I", .fieldLink RX2 15 "LevelScores$Score" "levels" "[J"] ++ wsX20)
def wsX2_isNothing : List Cond := .code yX2_isNothing cX2_isNothing 1 (some .boolean) :: ([.fieldLink RX2 9 "LevelScores$Score" "shape" "I"] ++ wsX20)
def wsX2_isLike : List Cond := .code yX2_isLike cX2_isLike 2 (some .boolean) :: ([.fieldLink RX2 9 "LevelScores$Score" "shape" "I", .fieldLink RX2 19 "LevelScores$Score" "hard" "I", .fieldLink RX2 22 "LevelScores$Score" "size" "I"] ++ wsX20)
def wsX2_hasLevel : List Cond := .code yX2_hasLevel cX2_hasLevel 2 (some .boolean) :: ([.fieldLink RX2 22 "LevelScores$Score" "size" "I"] ++ wsX20)
def wsX2_isFeasible : List Cond := .code yX2_isFeasible cX2_isFeasible 2 (some .boolean) :: ([.fieldLink RX2 19 "LevelScores$Score" "hard" "I", .fieldLink RX2 15 "LevelScores$Score" "levels" "[J"] ++ wsX20)
def wsX2_becomeSum : List Cond := .code yX2_becomeSum cX2_becomeSum 10 (some .boolean) :: ([.fieldLink RX2 22 "LevelScores$Score" "size" "I", .fieldLink RX2 15 "LevelScores$Score" "levels" "[J", .methodLink RX2 29 yX2_formLike, .instanceMethod yX2_formLike, .selects RX2 yX2_formLike yX2_formLike, .initialized RX2, .code yX2_formLike cX2_formLike 2 none, .fieldLink RX2 9 "LevelScores$Score" "shape" "I", .fieldLink RX2 19 "LevelScores$Score" "hard" "I", .methodLink RX2 25 yX2_form, .instanceMethod yX2_form, .selects RX2 yX2_form yX2_form, .code yX2_form cX2_form 4 none] ++ wsX20)
def wsX2_becomeDifference : List Cond := .code yX2_becomeDifference cX2_becomeDifference 10 (some .boolean) :: ([.fieldLink RX2 22 "LevelScores$Score" "size" "I", .fieldLink RX2 15 "LevelScores$Score" "levels" "[J", .methodLink RX2 29 yX2_formLike, .instanceMethod yX2_formLike, .selects RX2 yX2_formLike yX2_formLike, .initialized RX2, .code yX2_formLike cX2_formLike 2 none, .fieldLink RX2 9 "LevelScores$Score" "shape" "I", .fieldLink RX2 19 "LevelScores$Score" "hard" "I", .methodLink RX2 25 yX2_form, .instanceMethod yX2_form, .selects RX2 yX2_form yX2_form, .code yX2_form cX2_form 4 none] ++ wsX20)
def wsX2_becomeGreaterLevels : List Cond := .code yX2_becomeGreaterLevels cX2_becomeGreaterLevels 4 none :: ([.fieldLink RX2 22 "LevelScores$Score" "size" "I", .fieldLink RX2 15 "LevelScores$Score" "levels" "[J", .methodLink RX2 33 Lib.MathLoose.max_long.x, .static Lib.MathLoose.max_long.x, .initialized "java/lang/Math", .code Lib.MathLoose.max_long.x Lib.MathLoose.max_long.code 4 (some .long), .methodLink RX2 29 yX2_formLike, .instanceMethod yX2_formLike, .selects RX2 yX2_formLike yX2_formLike, .initialized RX2, .code yX2_formLike cX2_formLike 2 none, .fieldLink RX2 9 "LevelScores$Score" "shape" "I", .fieldLink RX2 19 "LevelScores$Score" "hard" "I", .methodLink RX2 25 yX2_form, .instanceMethod yX2_form, .selects RX2 yX2_form yX2_form, .code yX2_form cX2_form 4 none] ++ wsX20)
def wsX2_becomeLesserLevels : List Cond := .code yX2_becomeLesserLevels cX2_becomeLesserLevels 4 none :: ([.fieldLink RX2 22 "LevelScores$Score" "size" "I", .fieldLink RX2 15 "LevelScores$Score" "levels" "[J", .methodLink RX2 39 Lib.MathLoose.min_long.x, .static Lib.MathLoose.min_long.x, .initialized "java/lang/Math", .code Lib.MathLoose.min_long.x Lib.MathLoose.min_long.code 4 (some .long), .methodLink RX2 29 yX2_formLike, .instanceMethod yX2_formLike, .selects RX2 yX2_formLike yX2_formLike, .initialized RX2, .code yX2_formLike cX2_formLike 2 none, .fieldLink RX2 9 "LevelScores$Score" "shape" "I", .fieldLink RX2 19 "LevelScores$Score" "hard" "I", .methodLink RX2 25 yX2_form, .instanceMethod yX2_form, .selects RX2 yX2_form yX2_form, .code yX2_form cX2_form 4 none] ++ wsX20)
def wsX3_init : List Cond := .code yX3_init cX3_init 1 none :: ([.methodLink RX3 3 objectInit, .instanceMethod objectInit, .code objectInit ⟨#[0xb1]⟩ 1 none, .arrayClass .byte, .fieldLink RX3 9 "LevelScores$Tape" "bytes" "[B"] ++ wsX30)
def wsX3_append : List Cond := .code yX3_append cX3_append 2 none :: ([.fieldLink RX3 15 "LevelScores$Tape" "length" "I", .fieldLink RX3 9 "LevelScores$Tape" "bytes" "[B"] ++ wsX30)
def wsX3_isNext : List Cond := .code yX3_isNext cX3_isNext 2 (some .boolean) :: ([.fieldLink RX3 19 "LevelScores$Tape" "place" "I", .fieldLink RX3 15 "LevelScores$Tape" "length" "I", .fieldLink RX3 9 "LevelScores$Tape" "bytes" "[B"] ++ wsX30)
def wsX3_nextDigit : List Cond := .code yX3_nextDigit cX3_nextDigit 1 (some .int) :: ([.fieldLink RX3 19 "LevelScores$Tape" "place" "I", .fieldLink RX3 15 "LevelScores$Tape" "length" "I", .fieldLink RX3 9 "LevelScores$Tape" "bytes" "[B"] ++ wsX30)
def wsX3_parseNumber : List Cond := .code yX3_parseNumber cX3_parseNumber 11 (some .boolean) :: ([.fieldLink RX3 19 "LevelScores$Tape" "place" "I", .constantLong RX3 67 (-9223372036854775808), .constantLong RX3 69 (-9223372036854775807), .constantLong RX3 71 (10), .fieldLink RX3 73 "LevelScores$Score" "levels" "[J", .methodLink RX3 22 yX3_isNext, .instanceMethod yX3_isNext, .selects RX3 yX3_isNext yX3_isNext, .initialized RX3, .code yX3_isNext cX3_isNext 2 (some .boolean), .fieldLink RX3 15 "LevelScores$Tape" "length" "I", .fieldLink RX3 9 "LevelScores$Tape" "bytes" "[B", .methodLink RX3 61 yX3_nextDigit, .instanceMethod yX3_nextDigit, .selects RX3 yX3_nextDigit yX3_nextDigit, .code yX3_nextDigit cX3_nextDigit 1 (some .int)] ++ wsX30 ++ wsX20)
def wsX3_parseList : List Cond := .code yX3_parseList cX3_parseList 5 (some .int) :: ([.fieldLink RX3 19 "LevelScores$Tape" "place" "I", .methodLink RX3 22 yX3_isNext, .instanceMethod yX3_isNext, .selects RX3 yX3_isNext yX3_isNext, .initialized RX3, .code yX3_isNext cX3_isNext 2 (some .boolean), .fieldLink RX3 15 "LevelScores$Tape" "length" "I", .fieldLink RX3 9 "LevelScores$Tape" "bytes" "[B", .methodLink RX3 33 yX3_parseNumber, .instanceMethod yX3_parseNumber, .selects RX3 yX3_parseNumber yX3_parseNumber, .code yX3_parseNumber cX3_parseNumber 11 (some .boolean), .constantLong RX3 67 (-9223372036854775808), .constantLong RX3 69 (-9223372036854775807), .constantLong RX3 71 (10), .fieldLink RX3 73 "LevelScores$Score" "levels" "[J", .methodLink RX3 61 yX3_nextDigit, .instanceMethod yX3_nextDigit, .selects RX3 yX3_nextDigit yX3_nextDigit, .code yX3_nextDigit cX3_nextDigit 1 (some .int)] ++ wsX30 ++ wsX20)
def wsX3_parseWord_r1 : List Cond := [Cond.fieldLink RX3 19 "LevelScores$Tape" "place" "I", Cond.methodLink RX3 77 yJ0_length_8abf5, Cond.instanceMethod yJ0_length_8abf5, Cond.selects RJ0 yJ0_length_8abf5 yJ0_length_8abf5, Cond.initialized RJ0, Cond.code yJ0_length_8abf5 cJ0_length_8abf5 1 (some .int), Cond.fieldLink RJ0 9 "java/lang/String" "value" "[B", Cond.methodLink RJ0 335 yJ0_coder_7d493, Cond.instanceMethod yJ0_coder_7d493, Cond.selects RJ0 yJ0_coder_7d493 yJ0_coder_7d493, Cond.code yJ0_coder_7d493 cJ0_coder_7d493 1 (some .byte), Cond.fieldLink RJ0 38 "java/lang/String" "COMPACT_STRINGS" "Z", Cond.fieldLink RJ0 15 "java/lang/String" "coder" "B", Cond.methodLink RX3 81 yJ0_charAt_5068e, Cond.instanceMethod yJ0_charAt_5068e, Cond.selects RJ0 yJ0_charAt_5068e yJ0_charAt_5068e, Cond.code yJ0_charAt_5068e cJ0_charAt_5068e 2 (some .char), Cond.methodLink RJ0 492 yJ0_isLatin1_aae02, Cond.instanceMethod yJ0_isLatin1_aae02, Cond.selects RJ0 yJ0_isLatin1_aae02 yJ0_isLatin1_aae02, Cond.code yJ0_isLatin1_aae02 cJ0_isLatin1_aae02 1 (some .boolean), Cond.methodLink RJ0 495 yJ1_charAt_3b067, Cond.static yJ1_charAt_3b067, Cond.initialized RJ1]
def wsX3_parseWord_r2 : List Cond := [Cond.code yJ1_charAt_3b067 cJ1_charAt_3b067 2 (some .char), Cond.methodLink RJ1 9 yJ0_checkIndex_df160, Cond.static yJ0_checkIndex_df160, Cond.code yJ0_checkIndex_df160 cJ0_checkIndex_df160 2 none, Cond.fieldLink RJ0 1053 "jdk/internal/util/Preconditions" "SIOOBE_FORMATTER" "Ljava/util/function/BiFunction;", Cond.methodLink RJ0 1059 yJ3_checkIndex_8e157, Cond.static yJ3_checkIndex_8e157, Cond.initialized RJ3, Cond.code yJ3_checkIndex_8e157 cJ3_checkIndex_8e157 3 (some .int), Cond.methodLink RJ0 498 yJ2_charAt_3b067, Cond.static yJ2_charAt_3b067, Cond.initialized RJ2, Cond.code yJ2_charAt_3b067 cJ2_charAt_3b067 2 (some .char), Cond.methodLink RJ2 67 yJ2_checkIndex_2214a, Cond.static yJ2_checkIndex_2214a, Cond.code yJ2_checkIndex_2214a cJ2_checkIndex_2214a 2 none, Cond.methodLink RJ2 48 yJ2_length_9d52b, Cond.static yJ2_length_9d52b, Cond.code yJ2_length_9d52b cJ2_length_9d52b 1 (some .int), Cond.methodLink RJ2 414 yJ0_checkIndex_df160, Cond.methodLink RJ2 71 yJ2_getChar_3b067, Cond.static yJ2_getChar_3b067, Cond.code yJ2_getChar_3b067 cJ2_getChar_3b067 2 (some .char), Cond.fieldLink RJ2 44 "java/lang/StringUTF16" "$assertionsDisabled" "Z"]
def wsX3_parseWord_r3 : List Cond := [Cond.fieldLink RJ2 59 "java/lang/StringUTF16" "HI_BYTE_SHIFT" "I", Cond.fieldLink RJ2 63 "java/lang/StringUTF16" "LO_BYTE_SHIFT" "I", Cond.methodLink RX3 22 yX3_isNext, Cond.instanceMethod yX3_isNext, Cond.selects RX3 yX3_isNext yX3_isNext, Cond.initialized RX3, Cond.code yX3_isNext cX3_isNext 2 (some .boolean), Cond.fieldLink RX3 15 "LevelScores$Tape" "length" "I", Cond.fieldLink RX3 9 "LevelScores$Tape" "bytes" "[B"]
def wsX3_parseWord : List Cond := .code yX3_parseWord cX3_parseWord 3 (some .boolean) :: ((wsX3_parseWord_r1 ++ (wsX3_parseWord_r2 ++ wsX3_parseWord_r3)) ++ wsX30)
def wsX3_parseBent_r1 : List Cond := [Cond.fieldLink RX3 19 "LevelScores$Tape" "place" "I", Cond.methodLink RX3 53 yX3_parseList, Cond.instanceMethod yX3_parseList, Cond.selects RX3 yX3_parseList yX3_parseList, Cond.initialized RX3, Cond.code yX3_parseList cX3_parseList 5 (some .int), Cond.methodLink RX3 22 yX3_isNext, Cond.instanceMethod yX3_isNext, Cond.selects RX3 yX3_isNext yX3_isNext, Cond.code yX3_isNext cX3_isNext 2 (some .boolean), Cond.fieldLink RX3 15 "LevelScores$Tape" "length" "I", Cond.fieldLink RX3 9 "LevelScores$Tape" "bytes" "[B", Cond.methodLink RX3 33 yX3_parseNumber, Cond.instanceMethod yX3_parseNumber, Cond.selects RX3 yX3_parseNumber yX3_parseNumber, Cond.code yX3_parseNumber cX3_parseNumber 11 (some .boolean), Cond.constantLong RX3 67 (-9223372036854775808), Cond.constantLong RX3 69 (-9223372036854775807), Cond.constantLong RX3 71 (10), Cond.fieldLink RX3 73 "LevelScores$Score" "levels" "[J", Cond.methodLink RX3 61 yX3_nextDigit, Cond.instanceMethod yX3_nextDigit, Cond.selects RX3 yX3_nextDigit yX3_nextDigit, Cond.code yX3_nextDigit cX3_nextDigit 1 (some .int)]
def wsX3_parseBent_r2 : List Cond := [Cond.methodLink RX3 45 yX3_parseWord, Cond.instanceMethod yX3_parseWord, Cond.selects RX3 yX3_parseWord yX3_parseWord, Cond.code yX3_parseWord cX3_parseWord 3 (some .boolean), Cond.methodLink RX3 77 yJ0_length_8abf5, Cond.instanceMethod yJ0_length_8abf5, Cond.selects RJ0 yJ0_length_8abf5 yJ0_length_8abf5, Cond.initialized RJ0, Cond.code yJ0_length_8abf5 cJ0_length_8abf5 1 (some .int), Cond.fieldLink RJ0 9 "java/lang/String" "value" "[B", Cond.methodLink RJ0 335 yJ0_coder_7d493, Cond.instanceMethod yJ0_coder_7d493, Cond.selects RJ0 yJ0_coder_7d493 yJ0_coder_7d493, Cond.code yJ0_coder_7d493 cJ0_coder_7d493 1 (some .byte), Cond.fieldLink RJ0 38 "java/lang/String" "COMPACT_STRINGS" "Z", Cond.fieldLink RJ0 15 "java/lang/String" "coder" "B", Cond.methodLink RX3 81 yJ0_charAt_5068e, Cond.instanceMethod yJ0_charAt_5068e, Cond.selects RJ0 yJ0_charAt_5068e yJ0_charAt_5068e, Cond.code yJ0_charAt_5068e cJ0_charAt_5068e 2 (some .char), Cond.methodLink RJ0 492 yJ0_isLatin1_aae02, Cond.instanceMethod yJ0_isLatin1_aae02, Cond.selects RJ0 yJ0_isLatin1_aae02 yJ0_isLatin1_aae02, Cond.code yJ0_isLatin1_aae02 cJ0_isLatin1_aae02 1 (some .boolean)]
def wsX3_parseBent_r3 : List Cond := [Cond.methodLink RJ0 495 yJ1_charAt_3b067, Cond.static yJ1_charAt_3b067, Cond.initialized RJ1, Cond.code yJ1_charAt_3b067 cJ1_charAt_3b067 2 (some .char), Cond.methodLink RJ1 9 yJ0_checkIndex_df160, Cond.static yJ0_checkIndex_df160, Cond.code yJ0_checkIndex_df160 cJ0_checkIndex_df160 2 none, Cond.fieldLink RJ0 1053 "jdk/internal/util/Preconditions" "SIOOBE_FORMATTER" "Ljava/util/function/BiFunction;", Cond.methodLink RJ0 1059 yJ3_checkIndex_8e157, Cond.static yJ3_checkIndex_8e157, Cond.initialized RJ3, Cond.code yJ3_checkIndex_8e157 cJ3_checkIndex_8e157 3 (some .int), Cond.methodLink RJ0 498 yJ2_charAt_3b067, Cond.static yJ2_charAt_3b067, Cond.initialized RJ2, Cond.code yJ2_charAt_3b067 cJ2_charAt_3b067 2 (some .char), Cond.methodLink RJ2 67 yJ2_checkIndex_2214a, Cond.static yJ2_checkIndex_2214a, Cond.code yJ2_checkIndex_2214a cJ2_checkIndex_2214a 2 none, Cond.methodLink RJ2 48 yJ2_length_9d52b, Cond.static yJ2_length_9d52b, Cond.code yJ2_length_9d52b cJ2_length_9d52b 1 (some .int), Cond.methodLink RJ2 414 yJ0_checkIndex_df160, Cond.methodLink RJ2 71 yJ2_getChar_3b067]
def wsX3_parseBent_r4 : List Cond := [Cond.static yJ2_getChar_3b067, Cond.code yJ2_getChar_3b067 cJ2_getChar_3b067 2 (some .char), Cond.fieldLink RJ2 44 "java/lang/StringUTF16" "$assertionsDisabled" "Z", Cond.fieldLink RJ2 59 "java/lang/StringUTF16" "HI_BYTE_SHIFT" "I", Cond.fieldLink RJ2 63 "java/lang/StringUTF16" "LO_BYTE_SHIFT" "I", Cond.methodLink RX3 37 yX2_form, Cond.instanceMethod yX2_form, Cond.selects RX2 yX2_form yX2_form, Cond.initialized RX2, Cond.code yX2_form cX2_form 4 none, Cond.fieldLink RX2 9 "LevelScores$Score" "shape" "I", Cond.fieldLink RX2 19 "LevelScores$Score" "hard" "I", Cond.fieldLink RX2 22 "LevelScores$Score" "size" "I"]
def wsX3_parseBent : List Cond := .code yX3_parseBent cX3_parseBent 4 (some .boolean) :: ((wsX3_parseBent_r1 ++ (wsX3_parseBent_r2 ++ (wsX3_parseBent_r3 ++ wsX3_parseBent_r4))) ++ wsX30 ++ wsX20)
def wsX3_parsePlain_r1 : List Cond := [Cond.fieldLink RX3 19 "LevelScores$Tape" "place" "I", Cond.fieldLink RX3 15 "LevelScores$Tape" "length" "I", Cond.methodLink RX3 33 yX3_parseNumber, Cond.instanceMethod yX3_parseNumber, Cond.selects RX3 yX3_parseNumber yX3_parseNumber, Cond.initialized RX3, Cond.code yX3_parseNumber cX3_parseNumber 11 (some .boolean), Cond.constantLong RX3 67 (-9223372036854775808), Cond.constantLong RX3 69 (-9223372036854775807), Cond.constantLong RX3 71 (10), Cond.fieldLink RX3 73 "LevelScores$Score" "levels" "[J", Cond.methodLink RX3 22 yX3_isNext, Cond.instanceMethod yX3_isNext, Cond.selects RX3 yX3_isNext yX3_isNext, Cond.code yX3_isNext cX3_isNext 2 (some .boolean), Cond.fieldLink RX3 9 "LevelScores$Tape" "bytes" "[B", Cond.methodLink RX3 61 yX3_nextDigit, Cond.instanceMethod yX3_nextDigit, Cond.selects RX3 yX3_nextDigit yX3_nextDigit, Cond.code yX3_nextDigit cX3_nextDigit 1 (some .int), Cond.methodLink RX3 37 yX2_form, Cond.instanceMethod yX2_form, Cond.selects RX2 yX2_form yX2_form, Cond.initialized RX2]
def wsX3_parsePlain_r2 : List Cond := [Cond.code yX2_form cX2_form 4 none, Cond.fieldLink RX2 9 "LevelScores$Score" "shape" "I", Cond.fieldLink RX2 19 "LevelScores$Score" "hard" "I", Cond.fieldLink RX2 22 "LevelScores$Score" "size" "I", Cond.methodLink RX3 45 yX3_parseWord, Cond.instanceMethod yX3_parseWord, Cond.selects RX3 yX3_parseWord yX3_parseWord, Cond.code yX3_parseWord cX3_parseWord 3 (some .boolean), Cond.methodLink RX3 77 yJ0_length_8abf5, Cond.instanceMethod yJ0_length_8abf5, Cond.selects RJ0 yJ0_length_8abf5 yJ0_length_8abf5, Cond.initialized RJ0, Cond.code yJ0_length_8abf5 cJ0_length_8abf5 1 (some .int), Cond.fieldLink RJ0 9 "java/lang/String" "value" "[B", Cond.methodLink RJ0 335 yJ0_coder_7d493, Cond.instanceMethod yJ0_coder_7d493, Cond.selects RJ0 yJ0_coder_7d493 yJ0_coder_7d493, Cond.code yJ0_coder_7d493 cJ0_coder_7d493 1 (some .byte), Cond.fieldLink RJ0 38 "java/lang/String" "COMPACT_STRINGS" "Z", Cond.fieldLink RJ0 15 "java/lang/String" "coder" "B", Cond.methodLink RX3 81 yJ0_charAt_5068e, Cond.instanceMethod yJ0_charAt_5068e, Cond.selects RJ0 yJ0_charAt_5068e yJ0_charAt_5068e, Cond.code yJ0_charAt_5068e cJ0_charAt_5068e 2 (some .char)]
def wsX3_parsePlain_r3 : List Cond := [Cond.methodLink RJ0 492 yJ0_isLatin1_aae02, Cond.instanceMethod yJ0_isLatin1_aae02, Cond.selects RJ0 yJ0_isLatin1_aae02 yJ0_isLatin1_aae02, Cond.code yJ0_isLatin1_aae02 cJ0_isLatin1_aae02 1 (some .boolean), Cond.methodLink RJ0 495 yJ1_charAt_3b067, Cond.static yJ1_charAt_3b067, Cond.initialized RJ1, Cond.code yJ1_charAt_3b067 cJ1_charAt_3b067 2 (some .char), Cond.methodLink RJ1 9 yJ0_checkIndex_df160, Cond.static yJ0_checkIndex_df160, Cond.code yJ0_checkIndex_df160 cJ0_checkIndex_df160 2 none, Cond.fieldLink RJ0 1053 "jdk/internal/util/Preconditions" "SIOOBE_FORMATTER" "Ljava/util/function/BiFunction;", Cond.methodLink RJ0 1059 yJ3_checkIndex_8e157, Cond.static yJ3_checkIndex_8e157, Cond.initialized RJ3, Cond.code yJ3_checkIndex_8e157 cJ3_checkIndex_8e157 3 (some .int), Cond.methodLink RJ0 498 yJ2_charAt_3b067, Cond.static yJ2_charAt_3b067, Cond.initialized RJ2, Cond.code yJ2_charAt_3b067 cJ2_charAt_3b067 2 (some .char), Cond.methodLink RJ2 67 yJ2_checkIndex_2214a, Cond.static yJ2_checkIndex_2214a, Cond.code yJ2_checkIndex_2214a cJ2_checkIndex_2214a 2 none, Cond.methodLink RJ2 48 yJ2_length_9d52b]
def wsX3_parsePlain_r4 : List Cond := [Cond.static yJ2_length_9d52b, Cond.code yJ2_length_9d52b cJ2_length_9d52b 1 (some .int), Cond.methodLink RJ2 414 yJ0_checkIndex_df160, Cond.methodLink RJ2 71 yJ2_getChar_3b067, Cond.static yJ2_getChar_3b067, Cond.code yJ2_getChar_3b067 cJ2_getChar_3b067 2 (some .char), Cond.fieldLink RJ2 44 "java/lang/StringUTF16" "$assertionsDisabled" "Z", Cond.fieldLink RJ2 59 "java/lang/StringUTF16" "HI_BYTE_SHIFT" "I", Cond.fieldLink RJ2 63 "java/lang/StringUTF16" "LO_BYTE_SHIFT" "I"]
def wsX3_parsePlain : List Cond := .code yX3_parsePlain cX3_parsePlain 2 (some .boolean) :: ((wsX3_parsePlain_r1 ++ (wsX3_parsePlain_r2 ++ (wsX3_parsePlain_r3 ++ wsX3_parsePlain_r4))) ++ wsX30 ++ wsX20)
def wsX3_parse_r1 : List Cond := [Cond.fieldLink RX3 19 "LevelScores$Tape" "place" "I", Cond.fieldLink RX3 15 "LevelScores$Tape" "length" "I", Cond.methodLink RX3 22 yX3_isNext, Cond.instanceMethod yX3_isNext, Cond.selects RX3 yX3_isNext yX3_isNext, Cond.initialized RX3, Cond.code yX3_isNext cX3_isNext 2 (some .boolean), Cond.fieldLink RX3 9 "LevelScores$Tape" "bytes" "[B", Cond.methodLink RX3 26 yX3_parseBent, Cond.instanceMethod yX3_parseBent, Cond.selects RX3 yX3_parseBent yX3_parseBent, Cond.code yX3_parseBent cX3_parseBent 4 (some .boolean), Cond.methodLink RX3 53 yX3_parseList, Cond.instanceMethod yX3_parseList, Cond.selects RX3 yX3_parseList yX3_parseList, Cond.code yX3_parseList cX3_parseList 5 (some .int), Cond.methodLink RX3 33 yX3_parseNumber, Cond.instanceMethod yX3_parseNumber, Cond.selects RX3 yX3_parseNumber yX3_parseNumber, Cond.code yX3_parseNumber cX3_parseNumber 11 (some .boolean), Cond.constantLong RX3 67 (-9223372036854775808), Cond.constantLong RX3 69 (-9223372036854775807), Cond.constantLong RX3 71 (10), Cond.fieldLink RX3 73 "LevelScores$Score" "levels" "[J"]
def wsX3_parse_r2 : List Cond := [Cond.methodLink RX3 61 yX3_nextDigit, Cond.instanceMethod yX3_nextDigit, Cond.selects RX3 yX3_nextDigit yX3_nextDigit, Cond.code yX3_nextDigit cX3_nextDigit 1 (some .int), Cond.methodLink RX3 45 yX3_parseWord, Cond.instanceMethod yX3_parseWord, Cond.selects RX3 yX3_parseWord yX3_parseWord, Cond.code yX3_parseWord cX3_parseWord 3 (some .boolean), Cond.methodLink RX3 77 yJ0_length_8abf5, Cond.instanceMethod yJ0_length_8abf5, Cond.selects RJ0 yJ0_length_8abf5 yJ0_length_8abf5, Cond.initialized RJ0, Cond.code yJ0_length_8abf5 cJ0_length_8abf5 1 (some .int), Cond.fieldLink RJ0 9 "java/lang/String" "value" "[B", Cond.methodLink RJ0 335 yJ0_coder_7d493, Cond.instanceMethod yJ0_coder_7d493, Cond.selects RJ0 yJ0_coder_7d493 yJ0_coder_7d493, Cond.code yJ0_coder_7d493 cJ0_coder_7d493 1 (some .byte), Cond.fieldLink RJ0 38 "java/lang/String" "COMPACT_STRINGS" "Z", Cond.fieldLink RJ0 15 "java/lang/String" "coder" "B", Cond.methodLink RX3 81 yJ0_charAt_5068e, Cond.instanceMethod yJ0_charAt_5068e, Cond.selects RJ0 yJ0_charAt_5068e yJ0_charAt_5068e, Cond.code yJ0_charAt_5068e cJ0_charAt_5068e 2 (some .char)]
def wsX3_parse_r3 : List Cond := [Cond.methodLink RJ0 492 yJ0_isLatin1_aae02, Cond.instanceMethod yJ0_isLatin1_aae02, Cond.selects RJ0 yJ0_isLatin1_aae02 yJ0_isLatin1_aae02, Cond.code yJ0_isLatin1_aae02 cJ0_isLatin1_aae02 1 (some .boolean), Cond.methodLink RJ0 495 yJ1_charAt_3b067, Cond.static yJ1_charAt_3b067, Cond.initialized RJ1, Cond.code yJ1_charAt_3b067 cJ1_charAt_3b067 2 (some .char), Cond.methodLink RJ1 9 yJ0_checkIndex_df160, Cond.static yJ0_checkIndex_df160, Cond.code yJ0_checkIndex_df160 cJ0_checkIndex_df160 2 none, Cond.fieldLink RJ0 1053 "jdk/internal/util/Preconditions" "SIOOBE_FORMATTER" "Ljava/util/function/BiFunction;", Cond.methodLink RJ0 1059 yJ3_checkIndex_8e157, Cond.static yJ3_checkIndex_8e157, Cond.initialized RJ3, Cond.code yJ3_checkIndex_8e157 cJ3_checkIndex_8e157 3 (some .int), Cond.methodLink RJ0 498 yJ2_charAt_3b067, Cond.static yJ2_charAt_3b067, Cond.initialized RJ2, Cond.code yJ2_charAt_3b067 cJ2_charAt_3b067 2 (some .char), Cond.methodLink RJ2 67 yJ2_checkIndex_2214a, Cond.static yJ2_checkIndex_2214a, Cond.code yJ2_checkIndex_2214a cJ2_checkIndex_2214a 2 none, Cond.methodLink RJ2 48 yJ2_length_9d52b]
def wsX3_parse_r4 : List Cond := [Cond.static yJ2_length_9d52b, Cond.code yJ2_length_9d52b cJ2_length_9d52b 1 (some .int), Cond.methodLink RJ2 414 yJ0_checkIndex_df160, Cond.methodLink RJ2 71 yJ2_getChar_3b067, Cond.static yJ2_getChar_3b067, Cond.code yJ2_getChar_3b067 cJ2_getChar_3b067 2 (some .char), Cond.fieldLink RJ2 44 "java/lang/StringUTF16" "$assertionsDisabled" "Z", Cond.fieldLink RJ2 59 "java/lang/StringUTF16" "HI_BYTE_SHIFT" "I", Cond.fieldLink RJ2 63 "java/lang/StringUTF16" "LO_BYTE_SHIFT" "I", Cond.methodLink RX3 37 yX2_form, Cond.instanceMethod yX2_form, Cond.selects RX2 yX2_form yX2_form, Cond.initialized RX2, Cond.code yX2_form cX2_form 4 none, Cond.fieldLink RX2 9 "LevelScores$Score" "shape" "I", Cond.fieldLink RX2 19 "LevelScores$Score" "hard" "I", Cond.fieldLink RX2 22 "LevelScores$Score" "size" "I", Cond.methodLink RX3 30 yX3_parsePlain, Cond.instanceMethod yX3_parsePlain, Cond.selects RX3 yX3_parsePlain yX3_parsePlain, Cond.code yX3_parsePlain cX3_parsePlain 2 (some .boolean)]
def wsX3_parse : List Cond := .code yX3_parse cX3_parse 3 (some .boolean) :: ((wsX3_parse_r1 ++ (wsX3_parse_r2 ++ (wsX3_parse_r3 ++ wsX3_parse_r4))) ++ wsX30 ++ wsX20)
def wsJ9_floorMod_f86c9 : List Cond := .code yJ9_floorMod_f86c9 cJ9_floorMod_f86c9 6 (some .long) :: ([])
def wsJ9_floorDiv_f86c9 : List Cond := .code yJ9_floorDiv_f86c9 cJ9_floorDiv_f86c9 6 (some .long) :: ([])
def wsX4_divideDown : List Cond := .code yX4_divideDown cX4_divideDown 5 none :: ([.fieldLink RX4 7 "LevelScores$Wide" "high" "J", .fieldLink RX4 13 "LevelScores$Wide" "low" "J", .methodLink RX4 18 yJ9_floorMod_f86c9, .static yJ9_floorMod_f86c9, .initialized RJ9, .code yJ9_floorMod_f86c9 cJ9_floorMod_f86c9 6 (some .long), .methodLink RX4 24 yJ9_floorDiv_f86c9, .static yJ9_floorDiv_f86c9, .code yJ9_floorDiv_f86c9 cJ9_floorDiv_f86c9 6 (some .long)] ++ wsX40)
def wsX5_init_r1 : List Cond := [Cond.methodLink RX5 1 objectInit, Cond.instanceMethod objectInit, Cond.code objectInit ⟨#[0xb1]⟩ 1 none, Cond.classLink RX5 9 RX2, Cond.fieldLink RX5 11 "LevelScores" "scores" "[LLevelScores$Score;", Cond.instantiable RX2 4, Cond.initialized RX2, Cond.classLink RX5 16 RX3, Cond.instantiable RX3 3, Cond.initialized RX3, Cond.fieldLink RX5 19 "LevelScores" "tape" "LLevelScores$Tape;", Cond.classLink RX5 23 RX0, Cond.instantiable RX0 3, Cond.initialized RX0, Cond.fieldLink RX5 26 "LevelScores" "page" "LLevelScores$Page;", Cond.classLink RX5 30 RX1, Cond.instantiable RX1 9, Cond.initialized RX1, Cond.fieldLink RX5 33 "LevelScores" "thePlan" "LLevelScores$Plan;", Cond.classLink RX5 37 RX4, Cond.instantiable RX4 2, Cond.initialized RX4, Cond.fieldLink RX5 40 "LevelScores" "wide" "LLevelScores$Wide;", Cond.instanceMethod yX2_init]
def wsX5_init_r2 : List Cond := [Cond.code yX2_init cX2_init 1 none, Cond.methodLink RX2 3 objectInit, Cond.fieldLink RX2 9 "LevelScores$Score" "shape" "I", Cond.arrayClass .long, Cond.fieldLink RX2 15 "LevelScores$Score" "levels" "[J", Cond.instanceMethod yX3_init, Cond.code yX3_init cX3_init 1 none, Cond.methodLink RX3 3 objectInit, Cond.arrayClass .byte, Cond.fieldLink RX3 9 "LevelScores$Tape" "bytes" "[B", Cond.instanceMethod yX0_init, Cond.code yX0_init cX0_init 1 none, Cond.methodLink RX0 3 objectInit, Cond.fieldLink RX0 9 "LevelScores$Page" "bytes" "[B", Cond.fieldLink RX0 15 "LevelScores$Page" "digits" "[B", Cond.methodLink RX5 32 yX1_init, Cond.instanceMethod yX1_init, Cond.code yX1_init cX1_init 2 none, Cond.methodLink RX1 3 objectInit, Cond.classLink RX1 9 RX2, Cond.fieldLink RX1 12 "LevelScores$Plan" "pattern" "LLevelScores$Score;", Cond.fieldLink RX1 18 "LevelScores$Plan" "weights" "[LLevelScores$Score;", Cond.arrayClass .int, Cond.fieldLink RX1 22 "LevelScores$Plan" "counts" "[I"]
def wsX5_init_r3 : List Cond := [Cond.fieldLink RX1 26 "LevelScores$Plan" "best" "[LLevelScores$Score;", Cond.fieldLink RX1 29 "LevelScores$Plan" "spare" "LLevelScores$Score;", Cond.classLink RX1 32 RX4, Cond.fieldLink RX1 35 "LevelScores$Plan" "sum" "LLevelScores$Wide;", Cond.fieldLink RX1 39 "LevelScores$Plan" "part" "LLevelScores$Wide;", Cond.instanceMethod yX4_init, Cond.code yX4_init cX4_init 1 none, Cond.methodLink RX4 1 objectInit, Cond.methodLink RX1 42 yX2_form, Cond.instanceMethod yX2_form, Cond.selects RX2 yX2_form yX2_form, Cond.code yX2_form cX2_form 4 none, Cond.fieldLink RX2 19 "LevelScores$Score" "hard" "I", Cond.fieldLink RX2 22 "LevelScores$Score" "size" "I"]
def wsX5_init : List Cond := .code yX5_init cX5_init 2 none :: ((wsX5_init_r1 ++ (wsX5_init_r2 ++ wsX5_init_r3)) ++ wsX50 ++ wsX20 ++ wsX30 ++ wsX00 ++ wsX10 ++ wsX40)
def wsX5_isFull : List Cond := .code yX5_isFull cX5_isFull 1 (some .boolean) :: ([.fieldLink RX5 48 "LevelScores" "numbers" "I"] ++ wsX50)
def wsX5_takeNumber : List Cond := .code yX5_takeNumber cX5_takeNumber 1 (some .int) :: ([.fieldLink RX5 48 "LevelScores" "numbers" "I"] ++ wsX50)
def wsX5_make : List Cond := .code yX5_make cX5_make 5 (some .int) :: ([.fieldLink RX5 11 "LevelScores" "scores" "[LLevelScores$Score;", .fieldLink RX5 48 "LevelScores" "numbers" "I", .methodLink RX5 44 yX5_isFull, .instanceMethod yX5_isFull, .selects RX5 yX5_isFull yX5_isFull, .initialized RX5, .code yX5_isFull cX5_isFull 1 (some .boolean), .methodLink RX5 52 yX2_form, .instanceMethod yX2_form, .selects RX2 yX2_form yX2_form, .initialized RX2, .code yX2_form cX2_form 4 none, .fieldLink RX2 9 "LevelScores$Score" "shape" "I", .fieldLink RX2 19 "LevelScores$Score" "hard" "I", .fieldLink RX2 22 "LevelScores$Score" "size" "I", .methodLink RX5 56 yX2_clear, .instanceMethod yX2_clear, .selects RX2 yX2_clear yX2_clear, .code yX2_clear cX2_clear 2 none, .fieldLink RX2 15 "LevelScores$Score" "levels" "[J", .methodLink RX5 59 yX5_takeNumber, .instanceMethod yX5_takeNumber, .selects RX5 yX5_takeNumber yX5_takeNumber, .code yX5_takeNumber cX5_takeNumber 1 (some .int)] ++ wsX50 ++ wsX20)
def wsX5_nothing : List Cond := .code yX5_nothing cX5_nothing 1 (some .int) :: ([.fieldLink RX5 11 "LevelScores" "scores" "[LLevelScores$Score;", .fieldLink RX5 48 "LevelScores" "numbers" "I", .methodLink RX5 44 yX5_isFull, .instanceMethod yX5_isFull, .selects RX5 yX5_isFull yX5_isFull, .initialized RX5, .code yX5_isFull cX5_isFull 1 (some .boolean), .methodLink RX5 52 yX2_form, .instanceMethod yX2_form, .selects RX2 yX2_form yX2_form, .initialized RX2, .code yX2_form cX2_form 4 none, .fieldLink RX2 9 "LevelScores$Score" "shape" "I", .fieldLink RX2 19 "LevelScores$Score" "hard" "I", .fieldLink RX2 22 "LevelScores$Score" "size" "I", .methodLink RX5 59 yX5_takeNumber, .instanceMethod yX5_takeNumber, .selects RX5 yX5_takeNumber yX5_takeNumber, .code yX5_takeNumber cX5_takeNumber 1 (some .int)] ++ wsX50 ++ wsX20)
def wsX5_isNumber : List Cond := .code yX5_isNumber cX5_isNumber 2 (some .boolean) :: ([.fieldLink RX5 48 "LevelScores" "numbers" "I"] ++ wsX50)
def wsX5_set : List Cond := .code yX5_set cX5_set 5 (some .int) :: ([.fieldLink RX5 11 "LevelScores" "scores" "[LLevelScores$Score;", .fieldLink RX5 73 "LevelScores$Score" "levels" "[J", .methodLink RX5 63 yX5_isNumber, .instanceMethod yX5_isNumber, .selects RX5 yX5_isNumber yX5_isNumber, .initialized RX5, .code yX5_isNumber cX5_isNumber 2 (some .boolean), .fieldLink RX5 48 "LevelScores" "numbers" "I", .methodLink RX5 67 yX2_isNothing, .instanceMethod yX2_isNothing, .selects RX2 yX2_isNothing yX2_isNothing, .initialized RX2, .code yX2_isNothing cX2_isNothing 1 (some .boolean), .fieldLink RX2 9 "LevelScores$Score" "shape" "I", .methodLink RX5 70 yX2_hasLevel, .instanceMethod yX2_hasLevel, .selects RX2 yX2_hasLevel yX2_hasLevel, .code yX2_hasLevel cX2_hasLevel 2 (some .boolean), .fieldLink RX2 22 "LevelScores$Score" "size" "I"] ++ wsX50 ++ wsX20)
def wsX5_told : List Cond := .code yX5_told cX5_told 4 (some .int) :: ([.fieldLink RX5 11 "LevelScores" "scores" "[LLevelScores$Score;", .fieldLink RX5 91 "LevelScores$Score" "shape" "I", .fieldLink RX5 94 "LevelScores$Score" "hard" "I", .fieldLink RX5 97 "LevelScores$Score" "size" "I", .methodLink RX5 63 yX5_isNumber, .instanceMethod yX5_isNumber, .selects RX5 yX5_isNumber yX5_isNumber, .initialized RX5, .code yX5_isNumber cX5_isNumber 2 (some .boolean), .fieldLink RX5 48 "LevelScores" "numbers" "I", .methodLink RX5 67 yX2_isNothing, .instanceMethod yX2_isNothing, .selects RX2 yX2_isNothing yX2_isNothing, .initialized RX2, .code yX2_isNothing cX2_isNothing 1 (some .boolean), .fieldLink RX2 9 "LevelScores$Score" "shape" "I", .methodLink RX5 100 yX2_isFeasible, .instanceMethod yX2_isFeasible, .selects RX2 yX2_isFeasible yX2_isFeasible, .code yX2_isFeasible cX2_isFeasible 2 (some .boolean), .fieldLink RX2 19 "LevelScores$Score" "hard" "I", .fieldLink RX2 15 "LevelScores$Score" "levels" "[J"] ++ wsX50 ++ wsX20)
def wsX5_failureOfPair : List Cond := .code yX5_failureOfPair cX5_failureOfPair 2 (some .int) :: ([.methodLink RX5 67 yX2_isNothing, .instanceMethod yX2_isNothing, .selects RX2 yX2_isNothing yX2_isNothing, .initialized RX2, .code yX2_isNothing cX2_isNothing 1 (some .boolean), .fieldLink RX2 9 "LevelScores$Score" "shape" "I", .methodLink RX5 196 yX2_isLike, .instanceMethod yX2_isLike, .selects RX2 yX2_isLike yX2_isLike, .code yX2_isLike cX2_isLike 2 (some .boolean), .fieldLink RX2 19 "LevelScores$Score" "hard" "I", .fieldLink RX2 22 "LevelScores$Score" "size" "I"] ++ wsX20)
def wsX5_combine_r1 : List Cond := [Cond.methodLink RX5 199 yX2_becomeSum, Cond.instanceMethod yX2_becomeSum, Cond.selects RX2 yX2_becomeSum yX2_becomeSum, Cond.initialized RX2, Cond.code yX2_becomeSum cX2_becomeSum 10 (some .boolean), Cond.fieldLink RX2 22 "LevelScores$Score" "size" "I", Cond.fieldLink RX2 15 "LevelScores$Score" "levels" "[J", Cond.methodLink RX2 29 yX2_formLike, Cond.instanceMethod yX2_formLike, Cond.selects RX2 yX2_formLike yX2_formLike, Cond.code yX2_formLike cX2_formLike 2 none, Cond.fieldLink RX2 9 "LevelScores$Score" "shape" "I", Cond.fieldLink RX2 19 "LevelScores$Score" "hard" "I", Cond.methodLink RX2 25 yX2_form, Cond.instanceMethod yX2_form, Cond.selects RX2 yX2_form yX2_form, Cond.code yX2_form cX2_form 4 none, Cond.methodLink RX5 203 yX2_becomeDifference, Cond.instanceMethod yX2_becomeDifference, Cond.selects RX2 yX2_becomeDifference yX2_becomeDifference, Cond.code yX2_becomeDifference cX2_becomeDifference 10 (some .boolean), Cond.methodLink RX5 115 yX2_compareWith, Cond.instanceMethod yX2_compareWith, Cond.selects RX2 yX2_compareWith yX2_compareWith]
def wsX5_combine_r2 : List Cond := [Cond.code yX2_compareWith cX2_compareWith 3 (some .int), Cond.methodLink RX5 192 yX2_copy, Cond.instanceMethod yX2_copy, Cond.selects RX2 yX2_copy yX2_copy, Cond.code yX2_copy cX2_copy 3 none, Cond.methodLink RX5 206 yX2_becomeGreaterLevels, Cond.instanceMethod yX2_becomeGreaterLevels, Cond.selects RX2 yX2_becomeGreaterLevels yX2_becomeGreaterLevels, Cond.code yX2_becomeGreaterLevels cX2_becomeGreaterLevels 4 none, Cond.methodLink RX2 33 Lib.MathLoose.max_long.x, Cond.static Lib.MathLoose.max_long.x, Cond.initialized "java/lang/Math", Cond.code Lib.MathLoose.max_long.x Lib.MathLoose.max_long.code 4 (some .long), Cond.methodLink RX5 210 yX2_becomeLesserLevels, Cond.instanceMethod yX2_becomeLesserLevels, Cond.selects RX2 yX2_becomeLesserLevels yX2_becomeLesserLevels, Cond.code yX2_becomeLesserLevels cX2_becomeLesserLevels 4 none, Cond.methodLink RX2 39 Lib.MathLoose.min_long.x, Cond.static Lib.MathLoose.min_long.x, Cond.code Lib.MathLoose.min_long.x Lib.MathLoose.min_long.code 4 (some .long)]
def wsX5_combine : List Cond := .code yX5_combine cX5_combine 4 (some .boolean) :: ((wsX5_combine_r1 ++ wsX5_combine_r2) ++ wsX20)
def wsX5_act_r1 : List Cond := [Cond.fieldLink RX5 11 "LevelScores" "scores" "[LLevelScores$Score;", Cond.fieldLink RX5 48 "LevelScores" "numbers" "I", Cond.methodLink RX5 63 yX5_isNumber, Cond.instanceMethod yX5_isNumber, Cond.selects RX5 yX5_isNumber yX5_isNumber, Cond.initialized RX5, Cond.code yX5_isNumber cX5_isNumber 2 (some .boolean), Cond.methodLink RX5 44 yX5_isFull, Cond.instanceMethod yX5_isFull, Cond.selects RX5 yX5_isFull yX5_isFull, Cond.code yX5_isFull cX5_isFull 1 (some .boolean), Cond.methodLink RX5 103 yX5_failureOfPair, Cond.static yX5_failureOfPair, Cond.code yX5_failureOfPair cX5_failureOfPair 2 (some .int), Cond.methodLink RX5 67 yX2_isNothing, Cond.instanceMethod yX2_isNothing, Cond.selects RX2 yX2_isNothing yX2_isNothing, Cond.initialized RX2, Cond.code yX2_isNothing cX2_isNothing 1 (some .boolean), Cond.fieldLink RX2 9 "LevelScores$Score" "shape" "I", Cond.methodLink RX5 196 yX2_isLike, Cond.instanceMethod yX2_isLike, Cond.selects RX2 yX2_isLike yX2_isLike, Cond.code yX2_isLike cX2_isLike 2 (some .boolean)]
def wsX5_act_r2 : List Cond := [Cond.fieldLink RX2 19 "LevelScores$Score" "hard" "I", Cond.fieldLink RX2 22 "LevelScores$Score" "size" "I", Cond.methodLink RX5 107 yX5_combine, Cond.static yX5_combine, Cond.code yX5_combine cX5_combine 4 (some .boolean), Cond.methodLink RX5 199 yX2_becomeSum, Cond.instanceMethod yX2_becomeSum, Cond.selects RX2 yX2_becomeSum yX2_becomeSum, Cond.code yX2_becomeSum cX2_becomeSum 10 (some .boolean), Cond.fieldLink RX2 15 "LevelScores$Score" "levels" "[J", Cond.methodLink RX2 29 yX2_formLike, Cond.instanceMethod yX2_formLike, Cond.selects RX2 yX2_formLike yX2_formLike, Cond.code yX2_formLike cX2_formLike 2 none, Cond.methodLink RX2 25 yX2_form, Cond.instanceMethod yX2_form, Cond.selects RX2 yX2_form yX2_form, Cond.code yX2_form cX2_form 4 none, Cond.methodLink RX5 203 yX2_becomeDifference, Cond.instanceMethod yX2_becomeDifference, Cond.selects RX2 yX2_becomeDifference yX2_becomeDifference, Cond.code yX2_becomeDifference cX2_becomeDifference 10 (some .boolean), Cond.methodLink RX5 115 yX2_compareWith, Cond.instanceMethod yX2_compareWith]
def wsX5_act_r3 : List Cond := [Cond.selects RX2 yX2_compareWith yX2_compareWith, Cond.code yX2_compareWith cX2_compareWith 3 (some .int), Cond.methodLink RX5 192 yX2_copy, Cond.instanceMethod yX2_copy, Cond.selects RX2 yX2_copy yX2_copy, Cond.code yX2_copy cX2_copy 3 none, Cond.methodLink RX5 206 yX2_becomeGreaterLevels, Cond.instanceMethod yX2_becomeGreaterLevels, Cond.selects RX2 yX2_becomeGreaterLevels yX2_becomeGreaterLevels, Cond.code yX2_becomeGreaterLevels cX2_becomeGreaterLevels 4 none, Cond.methodLink RX2 33 Lib.MathLoose.max_long.x, Cond.static Lib.MathLoose.max_long.x, Cond.initialized "java/lang/Math", Cond.code Lib.MathLoose.max_long.x Lib.MathLoose.max_long.code 4 (some .long), Cond.methodLink RX5 210 yX2_becomeLesserLevels, Cond.instanceMethod yX2_becomeLesserLevels, Cond.selects RX2 yX2_becomeLesserLevels yX2_becomeLesserLevels, Cond.code yX2_becomeLesserLevels cX2_becomeLesserLevels 4 none, Cond.methodLink RX2 39 Lib.MathLoose.min_long.x, Cond.static Lib.MathLoose.min_long.x, Cond.code Lib.MathLoose.min_long.x Lib.MathLoose.min_long.code 4 (some .long), Cond.methodLink RX5 59 yX5_takeNumber, Cond.instanceMethod yX5_takeNumber, Cond.selects RX5 yX5_takeNumber yX5_takeNumber]
def wsX5_act_r4 : List Cond := [Cond.code yX5_takeNumber cX5_takeNumber 1 (some .int)]
def wsX5_act : List Cond := .code yX5_act cX5_act 5 (some .int) :: ((wsX5_act_r1 ++ (wsX5_act_r2 ++ (wsX5_act_r3 ++ wsX5_act_r4))) ++ wsX50 ++ wsX20)
def wsX5_scale_r1 : List Cond := [Cond.fieldLink RX5 97 "LevelScores$Score" "size" "I", Cond.fieldLink RX5 40 "LevelScores" "wide" "LLevelScores$Wide;", Cond.fieldLink RX5 73 "LevelScores$Score" "levels" "[J", Cond.methodLink RX5 213 yX2_formLike, Cond.instanceMethod yX2_formLike, Cond.selects RX2 yX2_formLike yX2_formLike, Cond.initialized RX2, Cond.code yX2_formLike cX2_formLike 2 none, Cond.fieldLink RX2 9 "LevelScores$Score" "shape" "I", Cond.fieldLink RX2 19 "LevelScores$Score" "hard" "I", Cond.fieldLink RX2 22 "LevelScores$Score" "size" "I", Cond.methodLink RX2 25 yX2_form, Cond.instanceMethod yX2_form, Cond.selects RX2 yX2_form yX2_form, Cond.code yX2_form cX2_form 4 none, Cond.methodLink RX5 216 yX4_clear, Cond.instanceMethod yX4_clear, Cond.selects RX4 yX4_clear yX4_clear, Cond.initialized RX4, Cond.code yX4_clear cX4_clear 1 none, Cond.fieldLink RX4 7 "LevelScores$Wide" "high" "J", Cond.fieldLink RX4 13 "LevelScores$Wide" "low" "J", Cond.methodLink RX5 217 yX4_addProduct, Cond.instanceMethod yX4_addProduct]
def wsX5_scale_r2 : List Cond := [Cond.selects RX4 yX4_addProduct yX4_addProduct, Cond.code yX4_addProduct cX4_addProduct 9 none, Cond.constantLong RX4 16 (4294967295), Cond.methodLink RX5 221 yX4_divideDown, Cond.instanceMethod yX4_divideDown, Cond.selects RX4 yX4_divideDown yX4_divideDown, Cond.code yX4_divideDown cX4_divideDown 5 none, Cond.methodLink RX4 18 yJ9_floorMod_f86c9, Cond.static yJ9_floorMod_f86c9, Cond.initialized RJ9, Cond.code yJ9_floorMod_f86c9 cJ9_floorMod_f86c9 6 (some .long), Cond.methodLink RX4 24 yJ9_floorDiv_f86c9, Cond.static yJ9_floorDiv_f86c9, Cond.code yJ9_floorDiv_f86c9 cJ9_floorDiv_f86c9 6 (some .long), Cond.methodLink RX5 225 yX4_fits, Cond.instanceMethod yX4_fits, Cond.selects RX4 yX4_fits yX4_fits, Cond.code yX4_fits cX4_fits 1 (some .boolean), Cond.constantLong RX4 29 (-2147483648), Cond.constantLong RX4 31 (2147483647), Cond.methodLink RX5 228 yX4_value, Cond.instanceMethod yX4_value, Cond.selects RX4 yX4_value yX4_value, Cond.code yX4_value cX4_value 1 (some .long)]
def wsX5_scale : List Cond := .code yX5_scale cX5_scale 10 (some .boolean) :: ((wsX5_scale_r1 ++ wsX5_scale_r2) ++ wsX20 ++ wsX50 ++ wsX40)
def wsX5_times_r1 : List Cond := [Cond.fieldLink RX5 11 "LevelScores" "scores" "[LLevelScores$Score;", Cond.fieldLink RX5 48 "LevelScores" "numbers" "I", Cond.methodLink RX5 63 yX5_isNumber, Cond.instanceMethod yX5_isNumber, Cond.selects RX5 yX5_isNumber yX5_isNumber, Cond.initialized RX5, Cond.code yX5_isNumber cX5_isNumber 2 (some .boolean), Cond.methodLink RX5 44 yX5_isFull, Cond.instanceMethod yX5_isFull, Cond.selects RX5 yX5_isFull yX5_isFull, Cond.code yX5_isFull cX5_isFull 1 (some .boolean), Cond.methodLink RX5 67 yX2_isNothing, Cond.instanceMethod yX2_isNothing, Cond.selects RX2 yX2_isNothing yX2_isNothing, Cond.initialized RX2, Cond.code yX2_isNothing cX2_isNothing 1 (some .boolean), Cond.fieldLink RX2 9 "LevelScores$Score" "shape" "I", Cond.methodLink RX5 111 yX5_scale, Cond.instanceMethod yX5_scale, Cond.selects RX5 yX5_scale yX5_scale, Cond.code yX5_scale cX5_scale 10 (some .boolean), Cond.fieldLink RX5 97 "LevelScores$Score" "size" "I", Cond.fieldLink RX5 40 "LevelScores" "wide" "LLevelScores$Wide;", Cond.fieldLink RX5 73 "LevelScores$Score" "levels" "[J"]
def wsX5_times_r2 : List Cond := [Cond.methodLink RX5 213 yX2_formLike, Cond.instanceMethod yX2_formLike, Cond.selects RX2 yX2_formLike yX2_formLike, Cond.code yX2_formLike cX2_formLike 2 none, Cond.fieldLink RX2 19 "LevelScores$Score" "hard" "I", Cond.fieldLink RX2 22 "LevelScores$Score" "size" "I", Cond.methodLink RX2 25 yX2_form, Cond.instanceMethod yX2_form, Cond.selects RX2 yX2_form yX2_form, Cond.code yX2_form cX2_form 4 none, Cond.methodLink RX5 216 yX4_clear, Cond.instanceMethod yX4_clear, Cond.selects RX4 yX4_clear yX4_clear, Cond.initialized RX4, Cond.code yX4_clear cX4_clear 1 none, Cond.fieldLink RX4 7 "LevelScores$Wide" "high" "J", Cond.fieldLink RX4 13 "LevelScores$Wide" "low" "J", Cond.methodLink RX5 217 yX4_addProduct, Cond.instanceMethod yX4_addProduct, Cond.selects RX4 yX4_addProduct yX4_addProduct, Cond.code yX4_addProduct cX4_addProduct 9 none, Cond.constantLong RX4 16 (4294967295), Cond.methodLink RX5 221 yX4_divideDown, Cond.instanceMethod yX4_divideDown]
def wsX5_times_r3 : List Cond := [Cond.selects RX4 yX4_divideDown yX4_divideDown, Cond.code yX4_divideDown cX4_divideDown 5 none, Cond.methodLink RX4 18 yJ9_floorMod_f86c9, Cond.static yJ9_floorMod_f86c9, Cond.initialized RJ9, Cond.code yJ9_floorMod_f86c9 cJ9_floorMod_f86c9 6 (some .long), Cond.methodLink RX4 24 yJ9_floorDiv_f86c9, Cond.static yJ9_floorDiv_f86c9, Cond.code yJ9_floorDiv_f86c9 cJ9_floorDiv_f86c9 6 (some .long), Cond.methodLink RX5 225 yX4_fits, Cond.instanceMethod yX4_fits, Cond.selects RX4 yX4_fits yX4_fits, Cond.code yX4_fits cX4_fits 1 (some .boolean), Cond.constantLong RX4 29 (-2147483648), Cond.constantLong RX4 31 (2147483647), Cond.methodLink RX5 228 yX4_value, Cond.instanceMethod yX4_value, Cond.selects RX4 yX4_value yX4_value, Cond.code yX4_value cX4_value 1 (some .long), Cond.methodLink RX5 59 yX5_takeNumber, Cond.instanceMethod yX5_takeNumber, Cond.selects RX5 yX5_takeNumber yX5_takeNumber, Cond.code yX5_takeNumber cX5_takeNumber 1 (some .int)]
def wsX5_times : List Cond := .code yX5_times cX5_times 4 (some .int) :: ((wsX5_times_r1 ++ (wsX5_times_r2 ++ wsX5_times_r3)) ++ wsX50 ++ wsX20 ++ wsX40)
def wsX5_order_r1 : List Cond := [Cond.fieldLink RX5 11 "LevelScores" "scores" "[LLevelScores$Score;", Cond.methodLink RX5 63 yX5_isNumber, Cond.instanceMethod yX5_isNumber, Cond.selects RX5 yX5_isNumber yX5_isNumber, Cond.initialized RX5, Cond.code yX5_isNumber cX5_isNumber 2 (some .boolean), Cond.fieldLink RX5 48 "LevelScores" "numbers" "I", Cond.methodLink RX5 103 yX5_failureOfPair, Cond.static yX5_failureOfPair, Cond.code yX5_failureOfPair cX5_failureOfPair 2 (some .int), Cond.methodLink RX5 67 yX2_isNothing, Cond.instanceMethod yX2_isNothing, Cond.selects RX2 yX2_isNothing yX2_isNothing, Cond.initialized RX2, Cond.code yX2_isNothing cX2_isNothing 1 (some .boolean), Cond.fieldLink RX2 9 "LevelScores$Score" "shape" "I", Cond.methodLink RX5 196 yX2_isLike, Cond.instanceMethod yX2_isLike, Cond.selects RX2 yX2_isLike yX2_isLike, Cond.code yX2_isLike cX2_isLike 2 (some .boolean), Cond.fieldLink RX2 19 "LevelScores$Score" "hard" "I", Cond.fieldLink RX2 22 "LevelScores$Score" "size" "I", Cond.methodLink RX5 115 yX2_compareWith, Cond.instanceMethod yX2_compareWith]
def wsX5_order_r2 : List Cond := [Cond.selects RX2 yX2_compareWith yX2_compareWith, Cond.code yX2_compareWith cX2_compareWith 3 (some .int), Cond.fieldLink RX2 15 "LevelScores$Score" "levels" "[J"]
def wsX5_order : List Cond := .code yX5_order cX5_order 4 (some .int) :: ((wsX5_order_r1 ++ wsX5_order_r2) ++ wsX50 ++ wsX20)
def wsX5_put : List Cond := .code yX5_put cX5_put 2 (some .int) :: ([.fieldLink RX5 19 "LevelScores" "tape" "LLevelScores$Tape;", .fieldLink RX5 119 "LevelScores$Tape" "length" "I", .methodLink RX5 122 yX3_append, .instanceMethod yX3_append, .selects RX3 yX3_append yX3_append, .initialized RX3, .code yX3_append cX3_append 2 none, .fieldLink RX3 15 "LevelScores$Tape" "length" "I", .fieldLink RX3 9 "LevelScores$Tape" "bytes" "[B"] ++ wsX50 ++ wsX30)
def wsX5_read_r1 : List Cond := [Cond.fieldLink RX5 19 "LevelScores" "tape" "LLevelScores$Tape;", Cond.fieldLink RX5 119 "LevelScores$Tape" "length" "I", Cond.fieldLink RX5 11 "LevelScores" "scores" "[LLevelScores$Score;", Cond.fieldLink RX5 48 "LevelScores" "numbers" "I", Cond.fieldLink RX5 130 "LevelScores$Tape" "place" "I", Cond.methodLink RX5 44 yX5_isFull, Cond.instanceMethod yX5_isFull, Cond.selects RX5 yX5_isFull yX5_isFull, Cond.initialized RX5, Cond.code yX5_isFull cX5_isFull 1 (some .boolean), Cond.methodLink RX5 126 yX3_parse, Cond.instanceMethod yX3_parse, Cond.selects RX3 yX3_parse yX3_parse, Cond.initialized RX3, Cond.code yX3_parse cX3_parse 3 (some .boolean), Cond.fieldLink RX3 19 "LevelScores$Tape" "place" "I", Cond.fieldLink RX3 15 "LevelScores$Tape" "length" "I", Cond.methodLink RX3 22 yX3_isNext, Cond.instanceMethod yX3_isNext, Cond.selects RX3 yX3_isNext yX3_isNext, Cond.code yX3_isNext cX3_isNext 2 (some .boolean), Cond.fieldLink RX3 9 "LevelScores$Tape" "bytes" "[B", Cond.methodLink RX3 26 yX3_parseBent, Cond.instanceMethod yX3_parseBent]
def wsX5_read_r2 : List Cond := [Cond.selects RX3 yX3_parseBent yX3_parseBent, Cond.code yX3_parseBent cX3_parseBent 4 (some .boolean), Cond.methodLink RX3 53 yX3_parseList, Cond.instanceMethod yX3_parseList, Cond.selects RX3 yX3_parseList yX3_parseList, Cond.code yX3_parseList cX3_parseList 5 (some .int), Cond.methodLink RX3 33 yX3_parseNumber, Cond.instanceMethod yX3_parseNumber, Cond.selects RX3 yX3_parseNumber yX3_parseNumber, Cond.code yX3_parseNumber cX3_parseNumber 11 (some .boolean), Cond.constantLong RX3 67 (-9223372036854775808), Cond.constantLong RX3 69 (-9223372036854775807), Cond.constantLong RX3 71 (10), Cond.fieldLink RX3 73 "LevelScores$Score" "levels" "[J", Cond.methodLink RX3 61 yX3_nextDigit, Cond.instanceMethod yX3_nextDigit, Cond.selects RX3 yX3_nextDigit yX3_nextDigit, Cond.code yX3_nextDigit cX3_nextDigit 1 (some .int), Cond.methodLink RX3 45 yX3_parseWord, Cond.instanceMethod yX3_parseWord, Cond.selects RX3 yX3_parseWord yX3_parseWord, Cond.code yX3_parseWord cX3_parseWord 3 (some .boolean), Cond.methodLink RX3 77 yJ0_length_8abf5, Cond.instanceMethod yJ0_length_8abf5]
def wsX5_read_r3 : List Cond := [Cond.selects RJ0 yJ0_length_8abf5 yJ0_length_8abf5, Cond.initialized RJ0, Cond.code yJ0_length_8abf5 cJ0_length_8abf5 1 (some .int), Cond.fieldLink RJ0 9 "java/lang/String" "value" "[B", Cond.methodLink RJ0 335 yJ0_coder_7d493, Cond.instanceMethod yJ0_coder_7d493, Cond.selects RJ0 yJ0_coder_7d493 yJ0_coder_7d493, Cond.code yJ0_coder_7d493 cJ0_coder_7d493 1 (some .byte), Cond.fieldLink RJ0 38 "java/lang/String" "COMPACT_STRINGS" "Z", Cond.fieldLink RJ0 15 "java/lang/String" "coder" "B", Cond.methodLink RX3 81 yJ0_charAt_5068e, Cond.instanceMethod yJ0_charAt_5068e, Cond.selects RJ0 yJ0_charAt_5068e yJ0_charAt_5068e, Cond.code yJ0_charAt_5068e cJ0_charAt_5068e 2 (some .char), Cond.methodLink RJ0 492 yJ0_isLatin1_aae02, Cond.instanceMethod yJ0_isLatin1_aae02, Cond.selects RJ0 yJ0_isLatin1_aae02 yJ0_isLatin1_aae02, Cond.code yJ0_isLatin1_aae02 cJ0_isLatin1_aae02 1 (some .boolean), Cond.methodLink RJ0 495 yJ1_charAt_3b067, Cond.static yJ1_charAt_3b067, Cond.initialized RJ1, Cond.code yJ1_charAt_3b067 cJ1_charAt_3b067 2 (some .char), Cond.methodLink RJ1 9 yJ0_checkIndex_df160, Cond.static yJ0_checkIndex_df160]
def wsX5_read_r4 : List Cond := [Cond.code yJ0_checkIndex_df160 cJ0_checkIndex_df160 2 none, Cond.fieldLink RJ0 1053 "jdk/internal/util/Preconditions" "SIOOBE_FORMATTER" "Ljava/util/function/BiFunction;", Cond.methodLink RJ0 1059 yJ3_checkIndex_8e157, Cond.static yJ3_checkIndex_8e157, Cond.initialized RJ3, Cond.code yJ3_checkIndex_8e157 cJ3_checkIndex_8e157 3 (some .int), Cond.methodLink RJ0 498 yJ2_charAt_3b067, Cond.static yJ2_charAt_3b067, Cond.initialized RJ2, Cond.code yJ2_charAt_3b067 cJ2_charAt_3b067 2 (some .char), Cond.methodLink RJ2 67 yJ2_checkIndex_2214a, Cond.static yJ2_checkIndex_2214a, Cond.code yJ2_checkIndex_2214a cJ2_checkIndex_2214a 2 none, Cond.methodLink RJ2 48 yJ2_length_9d52b, Cond.static yJ2_length_9d52b, Cond.code yJ2_length_9d52b cJ2_length_9d52b 1 (some .int), Cond.methodLink RJ2 414 yJ0_checkIndex_df160, Cond.methodLink RJ2 71 yJ2_getChar_3b067, Cond.static yJ2_getChar_3b067, Cond.code yJ2_getChar_3b067 cJ2_getChar_3b067 2 (some .char), Cond.fieldLink RJ2 44 "java/lang/StringUTF16" "$assertionsDisabled" "Z", Cond.fieldLink RJ2 59 "java/lang/StringUTF16" "HI_BYTE_SHIFT" "I", Cond.fieldLink RJ2 63 "java/lang/StringUTF16" "LO_BYTE_SHIFT" "I", Cond.methodLink RX3 37 yX2_form]
def wsX5_read_r5 : List Cond := [Cond.instanceMethod yX2_form, Cond.selects RX2 yX2_form yX2_form, Cond.initialized RX2, Cond.code yX2_form cX2_form 4 none, Cond.fieldLink RX2 9 "LevelScores$Score" "shape" "I", Cond.fieldLink RX2 19 "LevelScores$Score" "hard" "I", Cond.fieldLink RX2 22 "LevelScores$Score" "size" "I", Cond.methodLink RX3 30 yX3_parsePlain, Cond.instanceMethod yX3_parsePlain, Cond.selects RX3 yX3_parsePlain yX3_parsePlain, Cond.code yX3_parsePlain cX3_parsePlain 2 (some .boolean), Cond.methodLink RX5 59 yX5_takeNumber, Cond.instanceMethod yX5_takeNumber, Cond.selects RX5 yX5_takeNumber yX5_takeNumber, Cond.code yX5_takeNumber cX5_takeNumber 1 (some .int)]
def wsX5_read : List Cond := .code yX5_read cX5_read 2 (some .int) :: ((wsX5_read_r1 ++ (wsX5_read_r2 ++ (wsX5_read_r3 ++ (wsX5_read_r4 ++ wsX5_read_r5)))) ++ wsX50 ++ wsX30 ++ wsX20)
def wsX5_print_r1 : List Cond := [Cond.fieldLink RX5 11 "LevelScores" "scores" "[LLevelScores$Score;", Cond.fieldLink RX5 26 "LevelScores" "page" "LLevelScores$Page;", Cond.fieldLink RX5 137 "LevelScores$Page" "length" "I", Cond.methodLink RX5 63 yX5_isNumber, Cond.instanceMethod yX5_isNumber, Cond.selects RX5 yX5_isNumber yX5_isNumber, Cond.initialized RX5, Cond.code yX5_isNumber cX5_isNumber 2 (some .boolean), Cond.fieldLink RX5 48 "LevelScores" "numbers" "I", Cond.methodLink RX5 67 yX2_isNothing, Cond.instanceMethod yX2_isNothing, Cond.selects RX2 yX2_isNothing yX2_isNothing, Cond.initialized RX2, Cond.code yX2_isNothing cX2_isNothing 1 (some .boolean), Cond.fieldLink RX2 9 "LevelScores$Score" "shape" "I", Cond.methodLink RX5 133 yX0_write, Cond.instanceMethod yX0_write, Cond.selects RX0 yX0_write yX0_write, Cond.initialized RX0, Cond.code yX0_write cX0_write 2 none, Cond.fieldLink RX0 18 "LevelScores$Page" "length" "I", Cond.fieldLink RX0 22 "LevelScores$Score" "shape" "I", Cond.methodLink RX0 27 yX0_writeBent, Cond.instanceMethod yX0_writeBent]
def wsX5_print_r2 : List Cond := [Cond.selects RX0 yX0_writeBent yX0_writeBent, Cond.code yX0_writeBent cX0_writeBent 2 none, Cond.fieldLink RX0 54 "LevelScores$Score" "hard" "I", Cond.fieldLink RX0 63 "LevelScores$Score" "size" "I", Cond.methodLink RX0 44 yX0_writeWord, Cond.instanceMethod yX0_writeWord, Cond.selects RX0 yX0_writeWord yX0_writeWord, Cond.code yX0_writeWord cX0_writeWord 3 none, Cond.methodLink RX0 76 yJ0_length_8abf5, Cond.instanceMethod yJ0_length_8abf5, Cond.selects RJ0 yJ0_length_8abf5 yJ0_length_8abf5, Cond.initialized RJ0, Cond.code yJ0_length_8abf5 cJ0_length_8abf5 1 (some .int), Cond.fieldLink RJ0 9 "java/lang/String" "value" "[B", Cond.methodLink RJ0 335 yJ0_coder_7d493, Cond.instanceMethod yJ0_coder_7d493, Cond.selects RJ0 yJ0_coder_7d493 yJ0_coder_7d493, Cond.code yJ0_coder_7d493 cJ0_coder_7d493 1 (some .byte), Cond.fieldLink RJ0 38 "java/lang/String" "COMPACT_STRINGS" "Z", Cond.fieldLink RJ0 15 "java/lang/String" "coder" "B", Cond.methodLink RX0 81 yJ0_charAt_5068e, Cond.instanceMethod yJ0_charAt_5068e, Cond.selects RJ0 yJ0_charAt_5068e yJ0_charAt_5068e, Cond.code yJ0_charAt_5068e cJ0_charAt_5068e 2 (some .char)]
def wsX5_print_r3 : List Cond := [Cond.methodLink RJ0 492 yJ0_isLatin1_aae02, Cond.instanceMethod yJ0_isLatin1_aae02, Cond.selects RJ0 yJ0_isLatin1_aae02 yJ0_isLatin1_aae02, Cond.code yJ0_isLatin1_aae02 cJ0_isLatin1_aae02 1 (some .boolean), Cond.methodLink RJ0 495 yJ1_charAt_3b067, Cond.static yJ1_charAt_3b067, Cond.initialized RJ1, Cond.code yJ1_charAt_3b067 cJ1_charAt_3b067 2 (some .char), Cond.methodLink RJ1 9 yJ0_checkIndex_df160, Cond.static yJ0_checkIndex_df160, Cond.code yJ0_checkIndex_df160 cJ0_checkIndex_df160 2 none, Cond.fieldLink RJ0 1053 "jdk/internal/util/Preconditions" "SIOOBE_FORMATTER" "Ljava/util/function/BiFunction;", Cond.methodLink RJ0 1059 yJ3_checkIndex_8e157, Cond.static yJ3_checkIndex_8e157, Cond.initialized RJ3, Cond.code yJ3_checkIndex_8e157 cJ3_checkIndex_8e157 3 (some .int), Cond.methodLink RJ0 498 yJ2_charAt_3b067, Cond.static yJ2_charAt_3b067, Cond.initialized RJ2, Cond.code yJ2_charAt_3b067 cJ2_charAt_3b067 2 (some .char), Cond.methodLink RJ2 67 yJ2_checkIndex_2214a, Cond.static yJ2_checkIndex_2214a, Cond.code yJ2_checkIndex_2214a cJ2_checkIndex_2214a 2 none, Cond.methodLink RJ2 48 yJ2_length_9d52b]
def wsX5_print_r4 : List Cond := [Cond.static yJ2_length_9d52b, Cond.code yJ2_length_9d52b cJ2_length_9d52b 1 (some .int), Cond.methodLink RJ2 414 yJ0_checkIndex_df160, Cond.methodLink RJ2 71 yJ2_getChar_3b067, Cond.static yJ2_getChar_3b067, Cond.code yJ2_getChar_3b067 cJ2_getChar_3b067 2 (some .char), Cond.fieldLink RJ2 44 "java/lang/StringUTF16" "$assertionsDisabled" "Z", Cond.fieldLink RJ2 59 "java/lang/StringUTF16" "HI_BYTE_SHIFT" "I", Cond.fieldLink RJ2 63 "java/lang/StringUTF16" "LO_BYTE_SHIFT" "I", Cond.methodLink RX0 68 yX0_append, Cond.instanceMethod yX0_append, Cond.selects RX0 yX0_append yX0_append, Cond.code yX0_append cX0_append 2 none, Cond.fieldLink RX0 9 "LevelScores$Page" "bytes" "[B", Cond.methodLink RX0 57 yX0_writeList, Cond.instanceMethod yX0_writeList, Cond.selects RX0 yX0_writeList yX0_writeList, Cond.code yX0_writeList cX0_writeList 5 none, Cond.fieldLink RX0 34 "LevelScores$Score" "levels" "[J", Cond.methodLink RX0 38 yX0_writeNumber, Cond.instanceMethod yX0_writeNumber, Cond.selects RX0 yX0_writeNumber yX0_writeNumber, Cond.code yX0_writeNumber cX0_writeNumber 7 none, Cond.fieldLink RX0 15 "LevelScores$Page" "digits" "[B"]
def wsX5_print_r5 : List Cond := [Cond.constantLong RX0 72 (48), Cond.constantLong RX0 74 (10), Cond.methodLink RX0 31 yX0_writePlain, Cond.instanceMethod yX0_writePlain, Cond.selects RX0 yX0_writePlain yX0_writePlain, Cond.code yX0_writePlain cX0_writePlain 2 none]
def wsX5_print : List Cond := .code yX5_print cX5_print 2 (some .int) :: ((wsX5_print_r1 ++ (wsX5_print_r2 ++ (wsX5_print_r3 ++ (wsX5_print_r4 ++ wsX5_print_r5)))) ++ wsX50 ++ wsX00 ++ wsX20)
def wsX5_out : List Cond := .code yX5_out cX5_out 2 (some .int) :: ([.fieldLink RX5 26 "LevelScores" "page" "LLevelScores$Page;", .fieldLink RX5 137 "LevelScores$Page" "length" "I", .fieldLink RX5 138 "LevelScores$Page" "bytes" "[B"] ++ wsX50 ++ wsX00)
def wsX5_plan_r1 : List Cond := [Cond.fieldLink RX5 11 "LevelScores" "scores" "[LLevelScores$Score;", Cond.fieldLink RX5 33 "LevelScores" "thePlan" "LLevelScores$Plan;", Cond.fieldLink RX5 142 "LevelScores$Plan" "rules" "I", Cond.methodLink RX5 63 yX5_isNumber, Cond.instanceMethod yX5_isNumber, Cond.selects RX5 yX5_isNumber yX5_isNumber, Cond.initialized RX5, Cond.code yX5_isNumber cX5_isNumber 2 (some .boolean), Cond.fieldLink RX5 48 "LevelScores" "numbers" "I", Cond.methodLink RX5 67 yX2_isNothing, Cond.instanceMethod yX2_isNothing, Cond.selects RX2 yX2_isNothing yX2_isNothing, Cond.initialized RX2, Cond.code yX2_isNothing cX2_isNothing 1 (some .boolean), Cond.fieldLink RX2 9 "LevelScores$Score" "shape" "I", Cond.methodLink RX5 145 yX1_begin, Cond.instanceMethod yX1_begin, Cond.selects RX1 yX1_begin yX1_begin, Cond.initialized RX1, Cond.code yX1_begin cX1_begin 2 none, Cond.fieldLink RX1 12 "LevelScores$Plan" "pattern" "LLevelScores$Score;", Cond.fieldLink RX1 50 "LevelScores$Plan" "rules" "I", Cond.fieldLink RX1 54 "LevelScores$Plan" "held" "I", Cond.methodLink RX1 46 yX2_formLike]
def wsX5_plan_r2 : List Cond := [Cond.instanceMethod yX2_formLike, Cond.selects RX2 yX2_formLike yX2_formLike, Cond.code yX2_formLike cX2_formLike 2 none, Cond.fieldLink RX2 19 "LevelScores$Score" "hard" "I", Cond.fieldLink RX2 22 "LevelScores$Score" "size" "I", Cond.methodLink RX2 25 yX2_form, Cond.instanceMethod yX2_form, Cond.selects RX2 yX2_form yX2_form, Cond.code yX2_form cX2_form 4 none]
def wsX5_plan : List Cond := .code yX5_plan cX5_plan 3 (some .int) :: ((wsX5_plan_r1 ++ wsX5_plan_r2) ++ wsX50 ++ wsX10 ++ wsX20)
def wsX5_rule_r1 : List Cond := [Cond.fieldLink RX5 33 "LevelScores" "thePlan" "LLevelScores$Plan;", Cond.fieldLink RX5 142 "LevelScores$Plan" "rules" "I", Cond.fieldLink RX5 11 "LevelScores" "scores" "[LLevelScores$Score;", Cond.fieldLink RX5 148 "LevelScores$Plan" "pattern" "LLevelScores$Score;", Cond.methodLink RX5 63 yX5_isNumber, Cond.instanceMethod yX5_isNumber, Cond.selects RX5 yX5_isNumber yX5_isNumber, Cond.initialized RX5, Cond.code yX5_isNumber cX5_isNumber 2 (some .boolean), Cond.fieldLink RX5 48 "LevelScores" "numbers" "I", Cond.methodLink RX5 103 yX5_failureOfPair, Cond.static yX5_failureOfPair, Cond.code yX5_failureOfPair cX5_failureOfPair 2 (some .int), Cond.methodLink RX5 67 yX2_isNothing, Cond.instanceMethod yX2_isNothing, Cond.selects RX2 yX2_isNothing yX2_isNothing, Cond.initialized RX2, Cond.code yX2_isNothing cX2_isNothing 1 (some .boolean), Cond.fieldLink RX2 9 "LevelScores$Score" "shape" "I", Cond.methodLink RX5 196 yX2_isLike, Cond.instanceMethod yX2_isLike, Cond.selects RX2 yX2_isLike yX2_isLike, Cond.code yX2_isLike cX2_isLike 2 (some .boolean), Cond.fieldLink RX2 19 "LevelScores$Score" "hard" "I"]
def wsX5_rule_r2 : List Cond := [Cond.fieldLink RX2 22 "LevelScores$Score" "size" "I", Cond.methodLink RX5 152 yX1_addRule, Cond.instanceMethod yX1_addRule, Cond.selects RX1 yX1_addRule yX1_addRule, Cond.initialized RX1, Cond.code yX1_addRule cX1_addRule 2 (some .int), Cond.fieldLink RX1 18 "LevelScores$Plan" "weights" "[LLevelScores$Score;", Cond.fieldLink RX1 50 "LevelScores$Plan" "rules" "I", Cond.fieldLink RX1 22 "LevelScores$Plan" "counts" "[I", Cond.methodLink RX1 57 yX2_copy, Cond.instanceMethod yX2_copy, Cond.selects RX2 yX2_copy yX2_copy, Cond.code yX2_copy cX2_copy 3 none, Cond.fieldLink RX2 15 "LevelScores$Score" "levels" "[J", Cond.methodLink RX2 29 yX2_formLike, Cond.instanceMethod yX2_formLike, Cond.selects RX2 yX2_formLike yX2_formLike, Cond.code yX2_formLike cX2_formLike 2 none, Cond.methodLink RX2 25 yX2_form, Cond.instanceMethod yX2_form, Cond.selects RX2 yX2_form yX2_form, Cond.code yX2_form cX2_form 4 none]
def wsX5_rule : List Cond := .code yX5_rule cX5_rule 3 (some .int) :: ((wsX5_rule_r1 ++ wsX5_rule_r2) ++ wsX50 ++ wsX10 ++ wsX20)
def wsX5_isCount : List Cond := .code yX5_isCount cX5_isCount 1 (some .boolean) :: ([.constant RX5 195 (1000000)])
def wsX5_count_r1 : List Cond := [Cond.fieldLink RX5 33 "LevelScores" "thePlan" "LLevelScores$Plan;", Cond.fieldLink RX5 161 "LevelScores$Plan" "counts" "[I", Cond.methodLink RX5 155 yX1_hasRule, Cond.instanceMethod yX1_hasRule, Cond.selects RX1 yX1_hasRule yX1_hasRule, Cond.initialized RX1, Cond.code yX1_hasRule cX1_hasRule 2 (some .boolean), Cond.fieldLink RX1 50 "LevelScores$Plan" "rules" "I", Cond.methodLink RX5 158 yX5_isCount, Cond.static yX5_isCount, Cond.initialized RX5, Cond.code yX5_isCount cX5_isCount 1 (some .boolean), Cond.constant RX5 195 (1000000), Cond.methodLink RX5 165 yX1_changeCount, Cond.instanceMethod yX1_changeCount, Cond.selects RX1 yX1_changeCount yX1_changeCount, Cond.code yX1_changeCount cX1_changeCount 4 (some .boolean), Cond.fieldLink RX1 22 "LevelScores$Plan" "counts" "[I", Cond.methodLink RX1 60 yX1_allFit, Cond.instanceMethod yX1_allFit, Cond.selects RX1 yX1_allFit yX1_allFit, Cond.code yX1_allFit cX1_allFit 2 (some .boolean), Cond.fieldLink RX1 12 "LevelScores$Plan" "pattern" "LLevelScores$Score;", Cond.fieldLink RX1 68 "LevelScores$Score" "size" "I"]
def wsX5_count_r2 : List Cond := [Cond.methodLink RX1 71 yX1_fitsAt, Cond.instanceMethod yX1_fitsAt, Cond.selects RX1 yX1_fitsAt yX1_fitsAt, Cond.code yX1_fitsAt cX1_fitsAt 3 (some .boolean), Cond.fieldLink RX1 39 "LevelScores$Plan" "part" "LLevelScores$Wide;", Cond.fieldLink RX1 35 "LevelScores$Plan" "sum" "LLevelScores$Wide;", Cond.methodLink RX1 75 yX1_pricePart, Cond.instanceMethod yX1_pricePart, Cond.selects RX1 yX1_pricePart yX1_pricePart, Cond.code yX1_pricePart cX1_pricePart 3 none, Cond.fieldLink RX1 18 "LevelScores$Plan" "weights" "[LLevelScores$Score;", Cond.fieldLink RX1 88 "LevelScores$Score" "levels" "[J", Cond.methodLink RX1 85 yX4_clear, Cond.instanceMethod yX4_clear, Cond.selects RX4 yX4_clear yX4_clear, Cond.initialized RX4, Cond.code yX4_clear cX4_clear 1 none, Cond.fieldLink RX4 7 "LevelScores$Wide" "high" "J", Cond.fieldLink RX4 13 "LevelScores$Wide" "low" "J", Cond.methodLink RX1 92 yX4_addProduct, Cond.instanceMethod yX4_addProduct, Cond.selects RX4 yX4_addProduct yX4_addProduct, Cond.code yX4_addProduct cX4_addProduct 9 none, Cond.constantLong RX4 16 (4294967295)]
def wsX5_count_r3 : List Cond := [Cond.methodLink RX1 79 yX4_fits, Cond.instanceMethod yX4_fits, Cond.selects RX4 yX4_fits yX4_fits, Cond.code yX4_fits cX4_fits 1 (some .boolean), Cond.constantLong RX4 29 (-2147483648), Cond.constantLong RX4 31 (2147483647), Cond.methodLink RX1 82 yX1_priceSum, Cond.instanceMethod yX1_priceSum, Cond.selects RX1 yX1_priceSum yX1_priceSum, Cond.code yX1_priceSum cX1_priceSum 3 none]
def wsX5_count : List Cond := .code yX5_count cX5_count 4 (some .int) :: ((wsX5_count_r1 ++ (wsX5_count_r2 ++ wsX5_count_r3)) ++ wsX50 ++ wsX10 ++ wsX20 ++ wsX40)
def wsX5_weight_r1 : List Cond := [Cond.fieldLink RX5 33 "LevelScores" "thePlan" "LLevelScores$Plan;", Cond.fieldLink RX5 11 "LevelScores" "scores" "[LLevelScores$Score;", Cond.fieldLink RX5 148 "LevelScores$Plan" "pattern" "LLevelScores$Score;", Cond.methodLink RX5 155 yX1_hasRule, Cond.instanceMethod yX1_hasRule, Cond.selects RX1 yX1_hasRule yX1_hasRule, Cond.initialized RX1, Cond.code yX1_hasRule cX1_hasRule 2 (some .boolean), Cond.fieldLink RX1 50 "LevelScores$Plan" "rules" "I", Cond.methodLink RX5 63 yX5_isNumber, Cond.instanceMethod yX5_isNumber, Cond.selects RX5 yX5_isNumber yX5_isNumber, Cond.initialized RX5, Cond.code yX5_isNumber cX5_isNumber 2 (some .boolean), Cond.fieldLink RX5 48 "LevelScores" "numbers" "I", Cond.methodLink RX5 103 yX5_failureOfPair, Cond.static yX5_failureOfPair, Cond.code yX5_failureOfPair cX5_failureOfPair 2 (some .int), Cond.methodLink RX5 67 yX2_isNothing, Cond.instanceMethod yX2_isNothing, Cond.selects RX2 yX2_isNothing yX2_isNothing, Cond.initialized RX2, Cond.code yX2_isNothing cX2_isNothing 1 (some .boolean), Cond.fieldLink RX2 9 "LevelScores$Score" "shape" "I"]
def wsX5_weight_r2 : List Cond := [Cond.methodLink RX5 196 yX2_isLike, Cond.instanceMethod yX2_isLike, Cond.selects RX2 yX2_isLike yX2_isLike, Cond.code yX2_isLike cX2_isLike 2 (some .boolean), Cond.fieldLink RX2 19 "LevelScores$Score" "hard" "I", Cond.fieldLink RX2 22 "LevelScores$Score" "size" "I", Cond.methodLink RX5 169 yX1_changeWeight, Cond.instanceMethod yX1_changeWeight, Cond.selects RX1 yX1_changeWeight yX1_changeWeight, Cond.code yX1_changeWeight cX1_changeWeight 3 (some .boolean), Cond.fieldLink RX1 29 "LevelScores$Plan" "spare" "LLevelScores$Score;", Cond.methodLink RX1 57 yX2_copy, Cond.instanceMethod yX2_copy, Cond.selects RX2 yX2_copy yX2_copy, Cond.code yX2_copy cX2_copy 3 none, Cond.fieldLink RX2 15 "LevelScores$Score" "levels" "[J", Cond.methodLink RX2 29 yX2_formLike, Cond.instanceMethod yX2_formLike, Cond.selects RX2 yX2_formLike yX2_formLike, Cond.code yX2_formLike cX2_formLike 2 none, Cond.methodLink RX2 25 yX2_form, Cond.instanceMethod yX2_form, Cond.selects RX2 yX2_form yX2_form, Cond.code yX2_form cX2_form 4 none]
def wsX5_weight_r3 : List Cond := [Cond.methodLink RX1 64 yX1_tradeSpare, Cond.instanceMethod yX1_tradeSpare, Cond.selects RX1 yX1_tradeSpare yX1_tradeSpare, Cond.code yX1_tradeSpare cX1_tradeSpare 3 none, Cond.fieldLink RX1 18 "LevelScores$Plan" "weights" "[LLevelScores$Score;", Cond.methodLink RX1 60 yX1_allFit, Cond.instanceMethod yX1_allFit, Cond.selects RX1 yX1_allFit yX1_allFit, Cond.code yX1_allFit cX1_allFit 2 (some .boolean), Cond.fieldLink RX1 12 "LevelScores$Plan" "pattern" "LLevelScores$Score;", Cond.fieldLink RX1 68 "LevelScores$Score" "size" "I", Cond.methodLink RX1 71 yX1_fitsAt, Cond.instanceMethod yX1_fitsAt, Cond.selects RX1 yX1_fitsAt yX1_fitsAt, Cond.code yX1_fitsAt cX1_fitsAt 3 (some .boolean), Cond.fieldLink RX1 39 "LevelScores$Plan" "part" "LLevelScores$Wide;", Cond.fieldLink RX1 35 "LevelScores$Plan" "sum" "LLevelScores$Wide;", Cond.methodLink RX1 75 yX1_pricePart, Cond.instanceMethod yX1_pricePart, Cond.selects RX1 yX1_pricePart yX1_pricePart, Cond.code yX1_pricePart cX1_pricePart 3 none, Cond.fieldLink RX1 88 "LevelScores$Score" "levels" "[J", Cond.fieldLink RX1 22 "LevelScores$Plan" "counts" "[I", Cond.methodLink RX1 85 yX4_clear]
def wsX5_weight_r4 : List Cond := [Cond.instanceMethod yX4_clear, Cond.selects RX4 yX4_clear yX4_clear, Cond.initialized RX4, Cond.code yX4_clear cX4_clear 1 none, Cond.fieldLink RX4 7 "LevelScores$Wide" "high" "J", Cond.fieldLink RX4 13 "LevelScores$Wide" "low" "J", Cond.methodLink RX1 92 yX4_addProduct, Cond.instanceMethod yX4_addProduct, Cond.selects RX4 yX4_addProduct yX4_addProduct, Cond.code yX4_addProduct cX4_addProduct 9 none, Cond.constantLong RX4 16 (4294967295), Cond.methodLink RX1 79 yX4_fits, Cond.instanceMethod yX4_fits, Cond.selects RX4 yX4_fits yX4_fits, Cond.code yX4_fits cX4_fits 1 (some .boolean), Cond.constantLong RX4 29 (-2147483648), Cond.constantLong RX4 31 (2147483647), Cond.methodLink RX1 82 yX1_priceSum, Cond.instanceMethod yX1_priceSum, Cond.selects RX1 yX1_priceSum yX1_priceSum, Cond.code yX1_priceSum cX1_priceSum 3 none]
def wsX5_weight : List Cond := .code yX5_weight cX5_weight 4 (some .int) :: ((wsX5_weight_r1 ++ (wsX5_weight_r2 ++ (wsX5_weight_r3 ++ wsX5_weight_r4))) ++ wsX50 ++ wsX10 ++ wsX20 ++ wsX40)
def wsX5_total_r1 : List Cond := [Cond.fieldLink RX5 33 "LevelScores" "thePlan" "LLevelScores$Plan;", Cond.fieldLink RX5 11 "LevelScores" "scores" "[LLevelScores$Score;", Cond.fieldLink RX5 48 "LevelScores" "numbers" "I", Cond.methodLink RX5 155 yX1_hasRule, Cond.instanceMethod yX1_hasRule, Cond.selects RX1 yX1_hasRule yX1_hasRule, Cond.initialized RX1, Cond.code yX1_hasRule cX1_hasRule 2 (some .boolean), Cond.fieldLink RX1 50 "LevelScores$Plan" "rules" "I", Cond.methodLink RX5 44 yX5_isFull, Cond.instanceMethod yX5_isFull, Cond.selects RX5 yX5_isFull yX5_isFull, Cond.initialized RX5, Cond.code yX5_isFull cX5_isFull 1 (some .boolean), Cond.methodLink RX5 173 yX1_sumInto, Cond.instanceMethod yX1_sumInto, Cond.selects RX1 yX1_sumInto yX1_sumInto, Cond.code yX1_sumInto cX1_sumInto 3 none, Cond.fieldLink RX1 12 "LevelScores$Plan" "pattern" "LLevelScores$Score;", Cond.fieldLink RX1 68 "LevelScores$Score" "size" "I", Cond.fieldLink RX1 88 "LevelScores$Score" "levels" "[J", Cond.fieldLink RX1 35 "LevelScores$Plan" "sum" "LLevelScores$Wide;", Cond.methodLink RX1 46 yX2_formLike, Cond.instanceMethod yX2_formLike]
def wsX5_total_r2 : List Cond := [Cond.selects RX2 yX2_formLike yX2_formLike, Cond.initialized RX2, Cond.code yX2_formLike cX2_formLike 2 none, Cond.fieldLink RX2 9 "LevelScores$Score" "shape" "I", Cond.fieldLink RX2 19 "LevelScores$Score" "hard" "I", Cond.fieldLink RX2 22 "LevelScores$Score" "size" "I", Cond.methodLink RX2 25 yX2_form, Cond.instanceMethod yX2_form, Cond.selects RX2 yX2_form yX2_form, Cond.code yX2_form cX2_form 4 none, Cond.methodLink RX1 82 yX1_priceSum, Cond.instanceMethod yX1_priceSum, Cond.selects RX1 yX1_priceSum yX1_priceSum, Cond.code yX1_priceSum cX1_priceSum 3 none, Cond.fieldLink RX1 18 "LevelScores$Plan" "weights" "[LLevelScores$Score;", Cond.fieldLink RX1 22 "LevelScores$Plan" "counts" "[I", Cond.methodLink RX1 85 yX4_clear, Cond.instanceMethod yX4_clear, Cond.selects RX4 yX4_clear yX4_clear, Cond.initialized RX4, Cond.code yX4_clear cX4_clear 1 none, Cond.fieldLink RX4 7 "LevelScores$Wide" "high" "J", Cond.fieldLink RX4 13 "LevelScores$Wide" "low" "J", Cond.methodLink RX1 92 yX4_addProduct]
def wsX5_total_r3 : List Cond := [Cond.instanceMethod yX4_addProduct, Cond.selects RX4 yX4_addProduct yX4_addProduct, Cond.code yX4_addProduct cX4_addProduct 9 none, Cond.constantLong RX4 16 (4294967295), Cond.methodLink RX1 96 yX4_value, Cond.instanceMethod yX4_value, Cond.selects RX4 yX4_value yX4_value, Cond.code yX4_value cX4_value 1 (some .long), Cond.methodLink RX5 176 yX1_partInto, Cond.instanceMethod yX1_partInto, Cond.selects RX1 yX1_partInto yX1_partInto, Cond.code yX1_partInto cX1_partInto 4 none, Cond.fieldLink RX1 39 "LevelScores$Plan" "part" "LLevelScores$Wide;", Cond.methodLink RX1 75 yX1_pricePart, Cond.instanceMethod yX1_pricePart, Cond.selects RX1 yX1_pricePart yX1_pricePart, Cond.code yX1_pricePart cX1_pricePart 3 none, Cond.methodLink RX5 59 yX5_takeNumber, Cond.instanceMethod yX5_takeNumber, Cond.selects RX5 yX5_takeNumber yX5_takeNumber, Cond.code yX5_takeNumber cX5_takeNumber 1 (some .int)]
def wsX5_total : List Cond := .code yX5_total cX5_total 2 (some .int) :: ((wsX5_total_r1 ++ (wsX5_total_r2 ++ wsX5_total_r3)) ++ wsX50 ++ wsX10 ++ wsX20 ++ wsX40)
def wsX5_safe_r1 : List Cond := [Cond.fieldLink RX5 33 "LevelScores" "thePlan" "LLevelScores$Plan;", Cond.methodLink RX5 158 yX5_isCount, Cond.static yX5_isCount, Cond.initialized RX5, Cond.code yX5_isCount cX5_isCount 1 (some .boolean), Cond.constant RX5 195 (1000000), Cond.methodLink RX5 180 yX1_bears, Cond.instanceMethod yX1_bears, Cond.selects RX1 yX1_bears yX1_bears, Cond.initialized RX1, Cond.code yX1_bears cX1_bears 3 (some .boolean), Cond.fieldLink RX1 12 "LevelScores$Plan" "pattern" "LLevelScores$Score;", Cond.fieldLink RX1 68 "LevelScores$Score" "size" "I", Cond.methodLink RX1 100 yX1_bearsAt, Cond.instanceMethod yX1_bearsAt, Cond.selects RX1 yX1_bearsAt yX1_bearsAt, Cond.code yX1_bearsAt cX1_bearsAt 7 (some .boolean), Cond.fieldLink RX1 35 "LevelScores$Plan" "sum" "LLevelScores$Wide;", Cond.fieldLink RX1 50 "LevelScores$Plan" "rules" "I", Cond.fieldLink RX1 18 "LevelScores$Plan" "weights" "[LLevelScores$Score;", Cond.fieldLink RX1 88 "LevelScores$Score" "levels" "[J", Cond.methodLink RX1 85 yX4_clear, Cond.instanceMethod yX4_clear, Cond.selects RX4 yX4_clear yX4_clear]
def wsX5_safe_r2 : List Cond := [Cond.initialized RX4, Cond.code yX4_clear cX4_clear 1 none, Cond.fieldLink RX4 7 "LevelScores$Wide" "high" "J", Cond.fieldLink RX4 13 "LevelScores$Wide" "low" "J", Cond.methodLink RX1 92 yX4_addProduct, Cond.instanceMethod yX4_addProduct, Cond.selects RX4 yX4_addProduct yX4_addProduct, Cond.code yX4_addProduct cX4_addProduct 9 none, Cond.constantLong RX4 16 (4294967295), Cond.methodLink RX1 79 yX4_fits, Cond.instanceMethod yX4_fits, Cond.selects RX4 yX4_fits yX4_fits, Cond.code yX4_fits cX4_fits 1 (some .boolean), Cond.constantLong RX4 29 (-2147483648), Cond.constantLong RX4 31 (2147483647)]
def wsX5_safe : List Cond := .code yX5_safe cX5_safe 2 (some .int) :: ((wsX5_safe_r1 ++ wsX5_safe_r2) ++ wsX50 ++ wsX10 ++ wsX20 ++ wsX40)
def wsX5_keep_r1 : List Cond := [Cond.fieldLink RX5 11 "LevelScores" "scores" "[LLevelScores$Score;", Cond.fieldLink RX5 33 "LevelScores" "thePlan" "LLevelScores$Plan;", Cond.fieldLink RX5 148 "LevelScores$Plan" "pattern" "LLevelScores$Score;", Cond.methodLink RX5 63 yX5_isNumber, Cond.instanceMethod yX5_isNumber, Cond.selects RX5 yX5_isNumber yX5_isNumber, Cond.initialized RX5, Cond.code yX5_isNumber cX5_isNumber 2 (some .boolean), Cond.fieldLink RX5 48 "LevelScores" "numbers" "I", Cond.methodLink RX5 103 yX5_failureOfPair, Cond.static yX5_failureOfPair, Cond.code yX5_failureOfPair cX5_failureOfPair 2 (some .int), Cond.methodLink RX5 67 yX2_isNothing, Cond.instanceMethod yX2_isNothing, Cond.selects RX2 yX2_isNothing yX2_isNothing, Cond.initialized RX2, Cond.code yX2_isNothing cX2_isNothing 1 (some .boolean), Cond.fieldLink RX2 9 "LevelScores$Score" "shape" "I", Cond.methodLink RX5 196 yX2_isLike, Cond.instanceMethod yX2_isLike, Cond.selects RX2 yX2_isLike yX2_isLike, Cond.code yX2_isLike cX2_isLike 2 (some .boolean), Cond.fieldLink RX2 19 "LevelScores$Score" "hard" "I", Cond.fieldLink RX2 22 "LevelScores$Score" "size" "I"]
def wsX5_keep_r2 : List Cond := [Cond.methodLink RX5 183 yX1_admit, Cond.instanceMethod yX1_admit, Cond.selects RX1 yX1_admit yX1_admit, Cond.initialized RX1, Cond.code yX1_admit cX1_admit 5 (some .int), Cond.fieldLink RX1 54 "LevelScores$Plan" "held" "I", Cond.fieldLink RX1 26 "LevelScores$Plan" "best" "[LLevelScores$Score;", Cond.methodLink RX1 104 yX2_compareWith, Cond.instanceMethod yX2_compareWith, Cond.selects RX2 yX2_compareWith yX2_compareWith, Cond.code yX2_compareWith cX2_compareWith 3 (some .int), Cond.fieldLink RX2 15 "LevelScores$Score" "levels" "[J", Cond.methodLink RX1 57 yX2_copy, Cond.instanceMethod yX2_copy, Cond.selects RX2 yX2_copy yX2_copy, Cond.code yX2_copy cX2_copy 3 none, Cond.methodLink RX2 29 yX2_formLike, Cond.instanceMethod yX2_formLike, Cond.selects RX2 yX2_formLike yX2_formLike, Cond.code yX2_formLike cX2_formLike 2 none, Cond.methodLink RX2 25 yX2_form, Cond.instanceMethod yX2_form, Cond.selects RX2 yX2_form yX2_form, Cond.code yX2_form cX2_form 4 none]
def wsX5_keep : List Cond := .code yX5_keep cX5_keep 3 (some .int) :: ((wsX5_keep_r1 ++ wsX5_keep_r2) ++ wsX50 ++ wsX10 ++ wsX20)
def wsX5_kept_r1 : List Cond := [Cond.fieldLink RX5 33 "LevelScores" "thePlan" "LLevelScores$Plan;", Cond.fieldLink RX5 186 "LevelScores$Plan" "held" "I", Cond.fieldLink RX5 11 "LevelScores" "scores" "[LLevelScores$Score;", Cond.fieldLink RX5 48 "LevelScores" "numbers" "I", Cond.fieldLink RX5 189 "LevelScores$Plan" "best" "[LLevelScores$Score;", Cond.methodLink RX5 44 yX5_isFull, Cond.instanceMethod yX5_isFull, Cond.selects RX5 yX5_isFull yX5_isFull, Cond.initialized RX5, Cond.code yX5_isFull cX5_isFull 1 (some .boolean), Cond.methodLink RX5 192 yX2_copy, Cond.instanceMethod yX2_copy, Cond.selects RX2 yX2_copy yX2_copy, Cond.initialized RX2, Cond.code yX2_copy cX2_copy 3 none, Cond.fieldLink RX2 22 "LevelScores$Score" "size" "I", Cond.fieldLink RX2 15 "LevelScores$Score" "levels" "[J", Cond.methodLink RX2 29 yX2_formLike, Cond.instanceMethod yX2_formLike, Cond.selects RX2 yX2_formLike yX2_formLike, Cond.code yX2_formLike cX2_formLike 2 none, Cond.fieldLink RX2 9 "LevelScores$Score" "shape" "I", Cond.fieldLink RX2 19 "LevelScores$Score" "hard" "I", Cond.methodLink RX2 25 yX2_form]
def wsX5_kept_r2 : List Cond := [Cond.instanceMethod yX2_form, Cond.selects RX2 yX2_form yX2_form, Cond.code yX2_form cX2_form 4 none, Cond.methodLink RX5 59 yX5_takeNumber, Cond.instanceMethod yX5_takeNumber, Cond.selects RX5 yX5_takeNumber yX5_takeNumber, Cond.code yX5_takeNumber cX5_takeNumber 1 (some .int)]
def wsX5_kept : List Cond := .code yX5_kept cX5_kept 2 (some .int) :: ((wsX5_kept_r1 ++ wsX5_kept_r2) ++ wsX50 ++ wsX10 ++ wsX20)
def wsX5_many : List Cond := .code yX5_many cX5_many 2 (some .int) :: ([.fieldLink RX5 48 "LevelScores" "numbers" "I", .fieldLink RX5 33 "LevelScores" "thePlan" "LLevelScores$Plan;", .fieldLink RX5 142 "LevelScores$Plan" "rules" "I", .fieldLink RX5 186 "LevelScores$Plan" "held" "I", .fieldLink RX5 19 "LevelScores" "tape" "LLevelScores$Tape;", .fieldLink RX5 119 "LevelScores$Tape" "length" "I", .fieldLink RX5 26 "LevelScores" "page" "LLevelScores$Page;", .fieldLink RX5 137 "LevelScores$Page" "length" "I"] ++ wsX50 ++ wsX10 ++ wsX30 ++ wsX00)
def wsX5_drop : List Cond := .code yX5_drop cX5_drop 1 (some .int) :: ([.fieldLink RX5 48 "LevelScores" "numbers" "I"] ++ wsX50)
def wsX6_init : List Cond := .code yX6_init cX6_init 1 none :: ([.methodLink RX6 1 objectInit, .instanceMethod objectInit, .code objectInit ⟨#[0xb1]⟩ 1 none, .arrayClass .int, .fieldLink RX6 7 "LevelScoresModel" "shapes" "[I", .fieldLink RX6 13 "LevelScoresModel" "hards" "[I", .fieldLink RX6 16 "LevelScoresModel" "sizes" "[I", .arrayClass .long, .fieldLink RX6 19 "LevelScoresModel" "levels" "[J", .fieldLink RX6 23 "LevelScoresModel" "planSize" "I", .fieldLink RX6 27 "LevelScoresModel" "weights" "[J", .fieldLink RX6 30 "LevelScoresModel" "counts" "[I", .fieldLink RX6 33 "LevelScoresModel" "keeps" "[J", .fieldLink RX6 36 "LevelScoresModel" "tape" "[I", .fieldLink RX6 39 "LevelScoresModel" "out" "[I", .fieldLink RX6 42 "LevelScoresModel" "had" "[J"] ++ wsX60)
def wsX6_in : List Cond := .code yX6_in cX6_in 6 (some .boolean) :: ([])
def wsX6_isNumber : List Cond := .code yX6_isNumber cX6_isNumber 2 (some .boolean) :: ([.fieldLink RX6 45 "LevelScoresModel" "scores" "I", .methodLink RX6 48 yX6_in, .static yX6_in, .initialized RX6, .code yX6_in cX6_in 6 (some .boolean)] ++ wsX60)
def wsX6_isNothing : List Cond := .code yX6_isNothing cX6_isNothing 2 (some .boolean) :: ([.fieldLink RX6 7 "LevelScoresModel" "shapes" "[I"] ++ wsX60)
def wsX6_areLike : List Cond := .code yX6_areLike cX6_areLike 3 (some .boolean) :: ([.fieldLink RX6 7 "LevelScoresModel" "shapes" "[I", .fieldLink RX6 13 "LevelScoresModel" "hards" "[I", .fieldLink RX6 16 "LevelScoresModel" "sizes" "[I"] ++ wsX60)
def wsX6_isLikePlan : List Cond := .code yX6_isLikePlan cX6_isLikePlan 2 (some .boolean) :: ([.fieldLink RX6 7 "LevelScoresModel" "shapes" "[I", .fieldLink RX6 52 "LevelScoresModel" "planShape" "I", .fieldLink RX6 13 "LevelScoresModel" "hards" "[I", .fieldLink RX6 55 "LevelScoresModel" "planHard" "I", .fieldLink RX6 16 "LevelScoresModel" "sizes" "[I", .fieldLink RX6 23 "LevelScoresModel" "planSize" "I"] ++ wsX60)
def wsX6_lay : List Cond := .code yX6_lay cX6_lay 5 none :: ([.fieldLink RX6 7 "LevelScoresModel" "shapes" "[I", .fieldLink RX6 45 "LevelScoresModel" "scores" "I", .fieldLink RX6 13 "LevelScoresModel" "hards" "[I", .fieldLink RX6 16 "LevelScoresModel" "sizes" "[I", .fieldLink RX6 19 "LevelScoresModel" "levels" "[J"] ++ wsX60)
def wsX6_keepScore : List Cond := .code yX6_keepScore cX6_keepScore 1 (some .int) :: ([.fieldLink RX6 45 "LevelScoresModel" "scores" "I"] ++ wsX60)
def wsX6_make : List Cond := .code yX6_make cX6_make 4 (some .int) :: ([.constantLong RX6 58 (3), .fieldLink RX6 45 "LevelScoresModel" "scores" "I", .methodLink RX6 48 yX6_in, .static yX6_in, .initialized RX6, .code yX6_in cX6_in 6 (some .boolean), .methodLink RX6 60 yX6_lay, .instanceMethod yX6_lay, .selects RX6 yX6_lay yX6_lay, .code yX6_lay cX6_lay 5 none, .fieldLink RX6 7 "LevelScoresModel" "shapes" "[I", .fieldLink RX6 13 "LevelScoresModel" "hards" "[I", .fieldLink RX6 16 "LevelScoresModel" "sizes" "[I", .fieldLink RX6 19 "LevelScoresModel" "levels" "[J", .methodLink RX6 64 yX6_keepScore, .instanceMethod yX6_keepScore, .selects RX6 yX6_keepScore yX6_keepScore, .code yX6_keepScore cX6_keepScore 1 (some .int)] ++ wsX60)
def wsX6_nothing : List Cond := .code yX6_nothing cX6_nothing 1 (some .int) :: ([.fieldLink RX6 45 "LevelScoresModel" "scores" "I", .methodLink RX6 60 yX6_lay, .instanceMethod yX6_lay, .selects RX6 yX6_lay yX6_lay, .initialized RX6, .code yX6_lay cX6_lay 5 none, .fieldLink RX6 7 "LevelScoresModel" "shapes" "[I", .fieldLink RX6 13 "LevelScoresModel" "hards" "[I", .fieldLink RX6 16 "LevelScoresModel" "sizes" "[I", .fieldLink RX6 19 "LevelScoresModel" "levels" "[J", .methodLink RX6 64 yX6_keepScore, .instanceMethod yX6_keepScore, .selects RX6 yX6_keepScore yX6_keepScore, .code yX6_keepScore cX6_keepScore 1 (some .int)] ++ wsX60)
def wsX6_set : List Cond := .code yX6_set cX6_set 5 (some .int) :: ([.fieldLink RX6 16 "LevelScoresModel" "sizes" "[I", .fieldLink RX6 19 "LevelScoresModel" "levels" "[J", .methodLink RX6 68 yX6_isNumber, .instanceMethod yX6_isNumber, .selects RX6 yX6_isNumber yX6_isNumber, .initialized RX6, .code yX6_isNumber cX6_isNumber 2 (some .boolean), .fieldLink RX6 45 "LevelScoresModel" "scores" "I", .methodLink RX6 48 yX6_in, .static yX6_in, .code yX6_in cX6_in 6 (some .boolean), .methodLink RX6 72 yX6_isNothing, .instanceMethod yX6_isNothing, .selects RX6 yX6_isNothing yX6_isNothing, .code yX6_isNothing cX6_isNothing 2 (some .boolean), .fieldLink RX6 7 "LevelScoresModel" "shapes" "[I"] ++ wsX60)
def wsX6_thrown : List Cond := .code yX6_thrown cX6_thrown 1 (some .int) :: ([.fieldLink RX6 75 "LevelScoresModel" "thrown" "I"] ++ wsX60)
def wsX6_at : List Cond := .code yX6_at cX6_at 3 (some .long) :: ([.fieldLink RX6 16 "LevelScoresModel" "sizes" "[I", .fieldLink RX6 75 "LevelScoresModel" "thrown" "I", .fieldLink RX6 19 "LevelScoresModel" "levels" "[J", .methodLink RX6 68 yX6_isNumber, .instanceMethod yX6_isNumber, .selects RX6 yX6_isNumber yX6_isNumber, .initialized RX6, .code yX6_isNumber cX6_isNumber 2 (some .boolean), .fieldLink RX6 45 "LevelScoresModel" "scores" "I", .methodLink RX6 48 yX6_in, .static yX6_in, .code yX6_in cX6_in 6 (some .boolean), .methodLink RX6 72 yX6_isNothing, .instanceMethod yX6_isNothing, .selects RX6 yX6_isNothing yX6_isNothing, .code yX6_isNothing cX6_isNothing 2 (some .boolean), .fieldLink RX6 7 "LevelScoresModel" "shapes" "[I"] ++ wsX60)
def wsX6_told : List Cond := .code yX6_told cX6_told 5 (some .int) :: ([.constantLong RX6 58 (3), .fieldLink RX6 13 "LevelScoresModel" "hards" "[I", .fieldLink RX6 19 "LevelScoresModel" "levels" "[J", .fieldLink RX6 7 "LevelScoresModel" "shapes" "[I", .fieldLink RX6 16 "LevelScoresModel" "sizes" "[I", .methodLink RX6 68 yX6_isNumber, .instanceMethod yX6_isNumber, .selects RX6 yX6_isNumber yX6_isNumber, .initialized RX6, .code yX6_isNumber cX6_isNumber 2 (some .boolean), .fieldLink RX6 45 "LevelScoresModel" "scores" "I", .methodLink RX6 48 yX6_in, .static yX6_in, .code yX6_in cX6_in 6 (some .boolean), .methodLink RX6 72 yX6_isNothing, .instanceMethod yX6_isNothing, .selects RX6 yX6_isNothing yX6_isNothing, .code yX6_isNothing cX6_isNothing 2 (some .boolean)] ++ wsX60)
def wsX6_zero : List Cond := .code yX6_zero cX6_zero 1 none :: ([.fieldLink RX6 78 "LevelScoresModel" "high" "J", .fieldLink RX6 82 "LevelScoresModel" "low" "J"] ++ wsX60)
def wsX6_add : List Cond := .code yX6_add cX6_add 5 none :: ([.fieldLink RX6 78 "LevelScoresModel" "high" "J", .fieldLink RX6 82 "LevelScoresModel" "low" "J", .constantLong RX6 85 (4294967295)] ++ wsX60)
def wsX6_fits : List Cond := .code yX6_fits cX6_fits 1 (some .boolean) :: ([.fieldLink RX6 78 "LevelScoresModel" "high" "J", .constantLong RX6 87 (-2147483648), .constantLong RX6 89 (2147483647), .methodLink RX6 48 yX6_in, .static yX6_in, .initialized RX6, .code yX6_in cX6_in 6 (some .boolean)] ++ wsX60)
def wsX6_number : List Cond := .code yX6_number cX6_number 1 (some .long) :: ([.fieldLink RX6 78 "LevelScoresModel" "high" "J", .fieldLink RX6 82 "LevelScoresModel" "low" "J"] ++ wsX60)
def wsX6_compare : List Cond := .code yX6_compare cX6_compare 7 (some .int) :: ([])
def wsX6_refusal : List Cond := .code yX6_refusal cX6_refusal 3 (some .int) :: ([.methodLink RX6 72 yX6_isNothing, .instanceMethod yX6_isNothing, .selects RX6 yX6_isNothing yX6_isNothing, .initialized RX6, .code yX6_isNothing cX6_isNothing 2 (some .boolean), .fieldLink RX6 7 "LevelScoresModel" "shapes" "[I", .methodLink RX6 91 yX6_areLike, .instanceMethod yX6_areLike, .selects RX6 yX6_areLike yX6_areLike, .code yX6_areLike cX6_areLike 3 (some .boolean), .fieldLink RX6 13 "LevelScoresModel" "hards" "[I", .fieldLink RX6 16 "LevelScoresModel" "sizes" "[I"] ++ wsX60)
def wsX6_act_r1 : List Cond := [Cond.constantLong RX6 95 (5), Cond.fieldLink RX6 45 "LevelScoresModel" "scores" "I", Cond.fieldLink RX6 7 "LevelScoresModel" "shapes" "[I", Cond.fieldLink RX6 13 "LevelScoresModel" "hards" "[I", Cond.fieldLink RX6 16 "LevelScoresModel" "sizes" "[I", Cond.fieldLink RX6 19 "LevelScoresModel" "levels" "[J", Cond.constantLong RX6 112 (-1), Cond.methodLink RX6 68 yX6_isNumber, Cond.instanceMethod yX6_isNumber, Cond.selects RX6 yX6_isNumber yX6_isNumber, Cond.initialized RX6, Cond.code yX6_isNumber cX6_isNumber 2 (some .boolean), Cond.methodLink RX6 48 yX6_in, Cond.static yX6_in, Cond.code yX6_in cX6_in 6 (some .boolean), Cond.methodLink RX6 97 yX6_refusal, Cond.instanceMethod yX6_refusal, Cond.selects RX6 yX6_refusal yX6_refusal, Cond.code yX6_refusal cX6_refusal 3 (some .int), Cond.methodLink RX6 72 yX6_isNothing, Cond.instanceMethod yX6_isNothing, Cond.selects RX6 yX6_isNothing yX6_isNothing, Cond.code yX6_isNothing cX6_isNothing 2 (some .boolean), Cond.methodLink RX6 91 yX6_areLike]
def wsX6_act_r2 : List Cond := [Cond.instanceMethod yX6_areLike, Cond.selects RX6 yX6_areLike yX6_areLike, Cond.code yX6_areLike cX6_areLike 3 (some .boolean), Cond.methodLink RX6 60 yX6_lay, Cond.instanceMethod yX6_lay, Cond.selects RX6 yX6_lay yX6_lay, Cond.code yX6_lay cX6_lay 5 none, Cond.methodLink RX6 101 yX6_compare, Cond.instanceMethod yX6_compare, Cond.selects RX6 yX6_compare yX6_compare, Cond.code yX6_compare cX6_compare 7 (some .int), Cond.methodLink RX6 105 yX6_zero, Cond.instanceMethod yX6_zero, Cond.selects RX6 yX6_zero yX6_zero, Cond.code yX6_zero cX6_zero 1 none, Cond.fieldLink RX6 78 "LevelScoresModel" "high" "J", Cond.fieldLink RX6 82 "LevelScoresModel" "low" "J", Cond.methodLink RX6 108 yX6_add, Cond.instanceMethod yX6_add, Cond.selects RX6 yX6_add yX6_add, Cond.code yX6_add cX6_add 5 none, Cond.constantLong RX6 85 (4294967295), Cond.methodLink RX6 114 yX6_fits, Cond.instanceMethod yX6_fits]
def wsX6_act_r3 : List Cond := [Cond.selects RX6 yX6_fits yX6_fits, Cond.code yX6_fits cX6_fits 1 (some .boolean), Cond.constantLong RX6 87 (-2147483648), Cond.constantLong RX6 89 (2147483647), Cond.methodLink RX6 118 yX6_number, Cond.instanceMethod yX6_number, Cond.selects RX6 yX6_number yX6_number, Cond.code yX6_number cX6_number 1 (some .long), Cond.methodLink RX6 64 yX6_keepScore, Cond.instanceMethod yX6_keepScore, Cond.selects RX6 yX6_keepScore yX6_keepScore, Cond.code yX6_keepScore cX6_keepScore 1 (some .int)]
def wsX6_act : List Cond := .code yX6_act cX6_act 14 (some .int) :: ((wsX6_act_r1 ++ (wsX6_act_r2 ++ wsX6_act_r3)) ++ wsX60)
def wsX6_times_r1 : List Cond := [Cond.fieldLink RX6 45 "LevelScoresModel" "scores" "I", Cond.fieldLink RX6 7 "LevelScoresModel" "shapes" "[I", Cond.fieldLink RX6 13 "LevelScoresModel" "hards" "[I", Cond.fieldLink RX6 16 "LevelScoresModel" "sizes" "[I", Cond.fieldLink RX6 19 "LevelScoresModel" "levels" "[J", Cond.methodLink RX6 68 yX6_isNumber, Cond.instanceMethod yX6_isNumber, Cond.selects RX6 yX6_isNumber yX6_isNumber, Cond.initialized RX6, Cond.code yX6_isNumber cX6_isNumber 2 (some .boolean), Cond.methodLink RX6 48 yX6_in, Cond.static yX6_in, Cond.code yX6_in cX6_in 6 (some .boolean), Cond.methodLink RX6 72 yX6_isNothing, Cond.instanceMethod yX6_isNothing, Cond.selects RX6 yX6_isNothing yX6_isNothing, Cond.code yX6_isNothing cX6_isNothing 2 (some .boolean), Cond.methodLink RX6 60 yX6_lay, Cond.instanceMethod yX6_lay, Cond.selects RX6 yX6_lay yX6_lay, Cond.code yX6_lay cX6_lay 5 none, Cond.methodLink RX6 105 yX6_zero, Cond.instanceMethod yX6_zero, Cond.selects RX6 yX6_zero yX6_zero]
def wsX6_times_r2 : List Cond := [Cond.code yX6_zero cX6_zero 1 none, Cond.fieldLink RX6 78 "LevelScoresModel" "high" "J", Cond.fieldLink RX6 82 "LevelScoresModel" "low" "J", Cond.methodLink RX6 108 yX6_add, Cond.instanceMethod yX6_add, Cond.selects RX6 yX6_add yX6_add, Cond.code yX6_add cX6_add 5 none, Cond.constantLong RX6 85 (4294967295), Cond.methodLink RX6 114 yX6_fits, Cond.instanceMethod yX6_fits, Cond.selects RX6 yX6_fits yX6_fits, Cond.code yX6_fits cX6_fits 1 (some .boolean), Cond.constantLong RX6 87 (-2147483648), Cond.constantLong RX6 89 (2147483647), Cond.methodLink RX6 118 yX6_number, Cond.instanceMethod yX6_number, Cond.selects RX6 yX6_number yX6_number, Cond.code yX6_number cX6_number 1 (some .long), Cond.methodLink RX6 64 yX6_keepScore, Cond.instanceMethod yX6_keepScore, Cond.selects RX6 yX6_keepScore yX6_keepScore, Cond.code yX6_keepScore cX6_keepScore 1 (some .int)]
def wsX6_times : List Cond := .code yX6_times cX6_times 19 (some .int) :: ((wsX6_times_r1 ++ wsX6_times_r2) ++ wsX60)
def wsX6_order_r1 : List Cond := [Cond.fieldLink RX6 19 "LevelScoresModel" "levels" "[J", Cond.fieldLink RX6 16 "LevelScoresModel" "sizes" "[I", Cond.methodLink RX6 68 yX6_isNumber, Cond.instanceMethod yX6_isNumber, Cond.selects RX6 yX6_isNumber yX6_isNumber, Cond.initialized RX6, Cond.code yX6_isNumber cX6_isNumber 2 (some .boolean), Cond.fieldLink RX6 45 "LevelScoresModel" "scores" "I", Cond.methodLink RX6 48 yX6_in, Cond.static yX6_in, Cond.code yX6_in cX6_in 6 (some .boolean), Cond.methodLink RX6 97 yX6_refusal, Cond.instanceMethod yX6_refusal, Cond.selects RX6 yX6_refusal yX6_refusal, Cond.code yX6_refusal cX6_refusal 3 (some .int), Cond.methodLink RX6 72 yX6_isNothing, Cond.instanceMethod yX6_isNothing, Cond.selects RX6 yX6_isNothing yX6_isNothing, Cond.code yX6_isNothing cX6_isNothing 2 (some .boolean), Cond.fieldLink RX6 7 "LevelScoresModel" "shapes" "[I", Cond.methodLink RX6 91 yX6_areLike, Cond.instanceMethod yX6_areLike, Cond.selects RX6 yX6_areLike yX6_areLike, Cond.code yX6_areLike cX6_areLike 3 (some .boolean)]
def wsX6_order_r2 : List Cond := [Cond.fieldLink RX6 13 "LevelScoresModel" "hards" "[I", Cond.methodLink RX6 101 yX6_compare, Cond.instanceMethod yX6_compare, Cond.selects RX6 yX6_compare yX6_compare, Cond.code yX6_compare cX6_compare 7 (some .int)]
def wsX6_order : List Cond := .code yX6_order cX6_order 4 (some .int) :: ((wsX6_order_r1 ++ wsX6_order_r2) ++ wsX60)
def wsX6_put : List Cond := .code yX6_put cX6_put 2 (some .int) :: ([.constantLong RX6 122 (127), .fieldLink RX6 124 "LevelScoresModel" "tapeSize" "I", .fieldLink RX6 36 "LevelScoresModel" "tape" "[I", .methodLink RX6 48 yX6_in, .static yX6_in, .initialized RX6, .code yX6_in cX6_in 6 (some .boolean)] ++ wsX60)
def wsX6_here : List Cond := .code yX6_here cX6_here 1 (some .int) :: ([.fieldLink RX6 127 "LevelScoresModel" "place" "I", .fieldLink RX6 124 "LevelScoresModel" "tapeSize" "I", .fieldLink RX6 36 "LevelScoresModel" "tape" "[I"] ++ wsX60)
def wsX6_isFigure : List Cond := .code yX6_isFigure cX6_isFigure 1 (some .boolean) :: ([.constantLong RX6 133 (48), .constantLong RX6 135 (57), .methodLink RX6 130 yX6_here, .instanceMethod yX6_here, .selects RX6 yX6_here yX6_here, .initialized RX6, .code yX6_here cX6_here 1 (some .int), .fieldLink RX6 127 "LevelScoresModel" "place" "I", .fieldLink RX6 124 "LevelScoresModel" "tapeSize" "I", .fieldLink RX6 36 "LevelScoresModel" "tape" "[I", .methodLink RX6 48 yX6_in, .static yX6_in, .code yX6_in cX6_in 6 (some .boolean)] ++ wsX60)
def wsX6_take : List Cond := .code yX6_take cX6_take 2 none :: ([.fieldLink RX6 137 "LevelScoresModel" "stuck" "Z", .fieldLink RX6 127 "LevelScoresModel" "place" "I", .methodLink RX6 130 yX6_here, .instanceMethod yX6_here, .selects RX6 yX6_here yX6_here, .initialized RX6, .code yX6_here cX6_here 1 (some .int), .fieldLink RX6 124 "LevelScoresModel" "tapeSize" "I", .fieldLink RX6 36 "LevelScoresModel" "tape" "[I"] ++ wsX60)
def wsX6_letter : List Cond := .code yX6_letter cX6_letter 2 (some .long) :: ([])
def wsX6_word : List Cond := .code yX6_word cX6_word 6 none :: ([.constantLong RX6 122 (127), .methodLink RX6 141 yX6_letter, .static yX6_letter, .initialized RX6, .code yX6_letter cX6_letter 2 (some .long), .methodLink RX6 145 yX6_take, .instanceMethod yX6_take, .selects RX6 yX6_take yX6_take, .code yX6_take cX6_take 2 none, .fieldLink RX6 137 "LevelScoresModel" "stuck" "Z", .fieldLink RX6 127 "LevelScoresModel" "place" "I", .methodLink RX6 130 yX6_here, .instanceMethod yX6_here, .selects RX6 yX6_here yX6_here, .code yX6_here cX6_here 1 (some .int), .fieldLink RX6 124 "LevelScoresModel" "tapeSize" "I", .fieldLink RX6 36 "LevelScoresModel" "tape" "[I"] ++ wsX60)
def wsX6_figure : List Cond := .code yX6_figure cX6_figure 7 none :: ([.fieldLink RX6 137 "LevelScoresModel" "stuck" "Z", .fieldLink RX6 127 "LevelScoresModel" "place" "I", .constantLong RX6 152 (-922337203685477580), .constantLong RX6 154 (10), .fieldLink RX6 156 "LevelScoresModel" "read" "J", .methodLink RX6 130 yX6_here, .instanceMethod yX6_here, .selects RX6 yX6_here yX6_here, .initialized RX6, .code yX6_here cX6_here 1 (some .int), .fieldLink RX6 124 "LevelScoresModel" "tapeSize" "I", .fieldLink RX6 36 "LevelScoresModel" "tape" "[I", .methodLink RX6 149 yX6_isFigure, .instanceMethod yX6_isFigure, .selects RX6 yX6_isFigure yX6_isFigure, .code yX6_isFigure cX6_isFigure 1 (some .boolean), .constantLong RX6 133 (48), .constantLong RX6 135 (57), .methodLink RX6 48 yX6_in, .static yX6_in, .code yX6_in cX6_in 6 (some .boolean)] ++ wsX60)
def wsX6_level : List Cond := .code yX6_level cX6_level 2 none :: ([.fieldLink RX6 137 "LevelScoresModel" "stuck" "Z", .fieldLink RX6 19 "LevelScoresModel" "levels" "[J", .fieldLink RX6 45 "LevelScoresModel" "scores" "I", .fieldLink RX6 156 "LevelScoresModel" "read" "J"] ++ wsX60)
def wsX6_row_r1 : List Cond := [Cond.fieldLink RX6 137 "LevelScoresModel" "stuck" "Z", Cond.fieldLink RX6 127 "LevelScoresModel" "place" "I", Cond.methodLink RX6 130 yX6_here, Cond.instanceMethod yX6_here, Cond.selects RX6 yX6_here yX6_here, Cond.initialized RX6, Cond.code yX6_here cX6_here 1 (some .int), Cond.fieldLink RX6 124 "LevelScoresModel" "tapeSize" "I", Cond.fieldLink RX6 36 "LevelScoresModel" "tape" "[I", Cond.methodLink RX6 159 yX6_figure, Cond.instanceMethod yX6_figure, Cond.selects RX6 yX6_figure yX6_figure, Cond.code yX6_figure cX6_figure 7 none, Cond.constantLong RX6 152 (-922337203685477580), Cond.constantLong RX6 154 (10), Cond.fieldLink RX6 156 "LevelScoresModel" "read" "J", Cond.methodLink RX6 149 yX6_isFigure, Cond.instanceMethod yX6_isFigure, Cond.selects RX6 yX6_isFigure yX6_isFigure, Cond.code yX6_isFigure cX6_isFigure 1 (some .boolean), Cond.constantLong RX6 133 (48), Cond.constantLong RX6 135 (57), Cond.methodLink RX6 48 yX6_in, Cond.static yX6_in]
def wsX6_row_r2 : List Cond := [Cond.code yX6_in cX6_in 6 (some .boolean), Cond.methodLink RX6 162 yX6_level, Cond.instanceMethod yX6_level, Cond.selects RX6 yX6_level yX6_level, Cond.code yX6_level cX6_level 2 none, Cond.fieldLink RX6 19 "LevelScoresModel" "levels" "[J", Cond.fieldLink RX6 45 "LevelScoresModel" "scores" "I"]
def wsX6_row : List Cond := .code yX6_row cX6_row 3 (some .int) :: ((wsX6_row_r1 ++ wsX6_row_r2) ++ wsX60)
def wsX6_bent_r1 : List Cond := [Cond.fieldLink RX6 137 "LevelScoresModel" "stuck" "Z", Cond.fieldLink RX6 7 "LevelScoresModel" "shapes" "[I", Cond.fieldLink RX6 45 "LevelScoresModel" "scores" "I", Cond.fieldLink RX6 13 "LevelScoresModel" "hards" "[I", Cond.fieldLink RX6 16 "LevelScoresModel" "sizes" "[I", Cond.methodLink RX6 145 yX6_take, Cond.instanceMethod yX6_take, Cond.selects RX6 yX6_take yX6_take, Cond.initialized RX6, Cond.code yX6_take cX6_take 2 none, Cond.fieldLink RX6 127 "LevelScoresModel" "place" "I", Cond.methodLink RX6 130 yX6_here, Cond.instanceMethod yX6_here, Cond.selects RX6 yX6_here yX6_here, Cond.code yX6_here cX6_here 1 (some .int), Cond.fieldLink RX6 124 "LevelScoresModel" "tapeSize" "I", Cond.fieldLink RX6 36 "LevelScoresModel" "tape" "[I", Cond.methodLink RX6 165 yX6_row, Cond.instanceMethod yX6_row, Cond.selects RX6 yX6_row yX6_row, Cond.code yX6_row cX6_row 3 (some .int), Cond.methodLink RX6 159 yX6_figure, Cond.instanceMethod yX6_figure, Cond.selects RX6 yX6_figure yX6_figure]
def wsX6_bent_r2 : List Cond := [Cond.code yX6_figure cX6_figure 7 none, Cond.constantLong RX6 152 (-922337203685477580), Cond.constantLong RX6 154 (10), Cond.fieldLink RX6 156 "LevelScoresModel" "read" "J", Cond.methodLink RX6 149 yX6_isFigure, Cond.instanceMethod yX6_isFigure, Cond.selects RX6 yX6_isFigure yX6_isFigure, Cond.code yX6_isFigure cX6_isFigure 1 (some .boolean), Cond.constantLong RX6 133 (48), Cond.constantLong RX6 135 (57), Cond.methodLink RX6 48 yX6_in, Cond.static yX6_in, Cond.code yX6_in cX6_in 6 (some .boolean), Cond.methodLink RX6 162 yX6_level, Cond.instanceMethod yX6_level, Cond.selects RX6 yX6_level yX6_level, Cond.code yX6_level cX6_level 2 none, Cond.fieldLink RX6 19 "LevelScoresModel" "levels" "[J", Cond.methodLink RX6 169 yX6_word, Cond.instanceMethod yX6_word, Cond.selects RX6 yX6_word yX6_word, Cond.code yX6_word cX6_word 6 none, Cond.constantLong RX6 122 (127), Cond.methodLink RX6 141 yX6_letter]
def wsX6_bent_r3 : List Cond := [Cond.static yX6_letter, Cond.code yX6_letter cX6_letter 2 (some .long)]
def wsX6_bent : List Cond := .code yX6_bent cX6_bent 3 none :: ((wsX6_bent_r1 ++ (wsX6_bent_r2 ++ wsX6_bent_r3)) ++ wsX60)
def wsX6_plain_r1 : List Cond := [Cond.fieldLink RX6 137 "LevelScoresModel" "stuck" "Z", Cond.fieldLink RX6 127 "LevelScoresModel" "place" "I", Cond.fieldLink RX6 124 "LevelScoresModel" "tapeSize" "I", Cond.fieldLink RX6 7 "LevelScoresModel" "shapes" "[I", Cond.fieldLink RX6 45 "LevelScoresModel" "scores" "I", Cond.fieldLink RX6 13 "LevelScoresModel" "hards" "[I", Cond.fieldLink RX6 16 "LevelScoresModel" "sizes" "[I", Cond.methodLink RX6 159 yX6_figure, Cond.instanceMethod yX6_figure, Cond.selects RX6 yX6_figure yX6_figure, Cond.initialized RX6, Cond.code yX6_figure cX6_figure 7 none, Cond.constantLong RX6 152 (-922337203685477580), Cond.constantLong RX6 154 (10), Cond.fieldLink RX6 156 "LevelScoresModel" "read" "J", Cond.methodLink RX6 130 yX6_here, Cond.instanceMethod yX6_here, Cond.selects RX6 yX6_here yX6_here, Cond.code yX6_here cX6_here 1 (some .int), Cond.fieldLink RX6 36 "LevelScoresModel" "tape" "[I", Cond.methodLink RX6 149 yX6_isFigure, Cond.instanceMethod yX6_isFigure, Cond.selects RX6 yX6_isFigure yX6_isFigure, Cond.code yX6_isFigure cX6_isFigure 1 (some .boolean)]
def wsX6_plain_r2 : List Cond := [Cond.constantLong RX6 133 (48), Cond.constantLong RX6 135 (57), Cond.methodLink RX6 48 yX6_in, Cond.static yX6_in, Cond.code yX6_in cX6_in 6 (some .boolean), Cond.methodLink RX6 162 yX6_level, Cond.instanceMethod yX6_level, Cond.selects RX6 yX6_level yX6_level, Cond.code yX6_level cX6_level 2 none, Cond.fieldLink RX6 19 "LevelScoresModel" "levels" "[J", Cond.methodLink RX6 169 yX6_word, Cond.instanceMethod yX6_word, Cond.selects RX6 yX6_word yX6_word, Cond.code yX6_word cX6_word 6 none, Cond.constantLong RX6 122 (127), Cond.methodLink RX6 141 yX6_letter, Cond.static yX6_letter, Cond.code yX6_letter cX6_letter 2 (some .long), Cond.methodLink RX6 145 yX6_take, Cond.instanceMethod yX6_take, Cond.selects RX6 yX6_take yX6_take, Cond.code yX6_take cX6_take 2 none]
def wsX6_plain : List Cond := .code yX6_plain cX6_plain 2 none :: ((wsX6_plain_r1 ++ wsX6_plain_r2) ++ wsX60)
def wsX6_read_r1 : List Cond := [Cond.fieldLink RX6 45 "LevelScoresModel" "scores" "I", Cond.fieldLink RX6 124 "LevelScoresModel" "tapeSize" "I", Cond.fieldLink RX6 127 "LevelScoresModel" "place" "I", Cond.fieldLink RX6 137 "LevelScoresModel" "stuck" "Z", Cond.fieldLink RX6 16 "LevelScoresModel" "sizes" "[I", Cond.methodLink RX6 60 yX6_lay, Cond.instanceMethod yX6_lay, Cond.selects RX6 yX6_lay yX6_lay, Cond.initialized RX6, Cond.code yX6_lay cX6_lay 5 none, Cond.fieldLink RX6 7 "LevelScoresModel" "shapes" "[I", Cond.fieldLink RX6 13 "LevelScoresModel" "hards" "[I", Cond.fieldLink RX6 19 "LevelScoresModel" "levels" "[J", Cond.methodLink RX6 130 yX6_here, Cond.instanceMethod yX6_here, Cond.selects RX6 yX6_here yX6_here, Cond.code yX6_here cX6_here 1 (some .int), Cond.fieldLink RX6 36 "LevelScoresModel" "tape" "[I", Cond.methodLink RX6 172 yX6_bent, Cond.instanceMethod yX6_bent, Cond.selects RX6 yX6_bent yX6_bent, Cond.code yX6_bent cX6_bent 3 none, Cond.methodLink RX6 145 yX6_take, Cond.instanceMethod yX6_take]
def wsX6_read_r2 : List Cond := [Cond.selects RX6 yX6_take yX6_take, Cond.code yX6_take cX6_take 2 none, Cond.methodLink RX6 165 yX6_row, Cond.instanceMethod yX6_row, Cond.selects RX6 yX6_row yX6_row, Cond.code yX6_row cX6_row 3 (some .int), Cond.methodLink RX6 159 yX6_figure, Cond.instanceMethod yX6_figure, Cond.selects RX6 yX6_figure yX6_figure, Cond.code yX6_figure cX6_figure 7 none, Cond.constantLong RX6 152 (-922337203685477580), Cond.constantLong RX6 154 (10), Cond.fieldLink RX6 156 "LevelScoresModel" "read" "J", Cond.methodLink RX6 149 yX6_isFigure, Cond.instanceMethod yX6_isFigure, Cond.selects RX6 yX6_isFigure yX6_isFigure, Cond.code yX6_isFigure cX6_isFigure 1 (some .boolean), Cond.constantLong RX6 133 (48), Cond.constantLong RX6 135 (57), Cond.methodLink RX6 48 yX6_in, Cond.static yX6_in, Cond.code yX6_in cX6_in 6 (some .boolean), Cond.methodLink RX6 162 yX6_level, Cond.instanceMethod yX6_level]
def wsX6_read_r3 : List Cond := [Cond.selects RX6 yX6_level yX6_level, Cond.code yX6_level cX6_level 2 none, Cond.methodLink RX6 169 yX6_word, Cond.instanceMethod yX6_word, Cond.selects RX6 yX6_word yX6_word, Cond.code yX6_word cX6_word 6 none, Cond.constantLong RX6 122 (127), Cond.methodLink RX6 141 yX6_letter, Cond.static yX6_letter, Cond.code yX6_letter cX6_letter 2 (some .long), Cond.methodLink RX6 175 yX6_plain, Cond.instanceMethod yX6_plain, Cond.selects RX6 yX6_plain yX6_plain, Cond.code yX6_plain cX6_plain 2 none, Cond.methodLink RX6 64 yX6_keepScore, Cond.instanceMethod yX6_keepScore, Cond.selects RX6 yX6_keepScore yX6_keepScore, Cond.code yX6_keepScore cX6_keepScore 1 (some .int)]
def wsX6_read : List Cond := .code yX6_read cX6_read 3 (some .int) :: ((wsX6_read_r1 ++ (wsX6_read_r2 ++ wsX6_read_r3)) ++ wsX60)
def wsX6_write : List Cond := .code yX6_write cX6_write 2 none :: ([.fieldLink RX6 39 "LevelScoresModel" "out" "[I", .fieldLink RX6 178 "LevelScoresModel" "outSize" "I"] ++ wsX60)
def wsX6_writeNumber : List Cond := .code yX6_writeNumber cX6_writeNumber 9 none :: ([.constantLong RX6 184 (9), .constantLong RX6 186 (-9), .constantLong RX6 154 (10), .methodLink RX6 181 yX6_write, .instanceMethod yX6_write, .selects RX6 yX6_write yX6_write, .initialized RX6, .code yX6_write cX6_write 2 none, .fieldLink RX6 39 "LevelScoresModel" "out" "[I", .fieldLink RX6 178 "LevelScoresModel" "outSize" "I"] ++ wsX60)
def wsX6_writeWord : List Cond := .code yX6_writeWord cX6_writeWord 6 none :: ([.constantLong RX6 122 (127), .methodLink RX6 141 yX6_letter, .static yX6_letter, .initialized RX6, .code yX6_letter cX6_letter 2 (some .long), .methodLink RX6 181 yX6_write, .instanceMethod yX6_write, .selects RX6 yX6_write yX6_write, .code yX6_write cX6_write 2 none, .fieldLink RX6 39 "LevelScoresModel" "out" "[I", .fieldLink RX6 178 "LevelScoresModel" "outSize" "I"] ++ wsX60)
def wsX6_writeRow : List Cond := .code yX6_writeRow cX6_writeRow 5 none :: ([.fieldLink RX6 19 "LevelScoresModel" "levels" "[J", .methodLink RX6 181 yX6_write, .instanceMethod yX6_write, .selects RX6 yX6_write yX6_write, .initialized RX6, .code yX6_write cX6_write 2 none, .fieldLink RX6 39 "LevelScoresModel" "out" "[I", .fieldLink RX6 178 "LevelScoresModel" "outSize" "I", .methodLink RX6 188 yX6_writeNumber, .instanceMethod yX6_writeNumber, .selects RX6 yX6_writeNumber yX6_writeNumber, .code yX6_writeNumber cX6_writeNumber 9 none, .constantLong RX6 184 (9), .constantLong RX6 186 (-9), .constantLong RX6 154 (10)] ++ wsX60)
def wsX6_print_r1 : List Cond := [Cond.fieldLink RX6 178 "LevelScoresModel" "outSize" "I", Cond.fieldLink RX6 7 "LevelScoresModel" "shapes" "[I", Cond.fieldLink RX6 13 "LevelScoresModel" "hards" "[I", Cond.fieldLink RX6 16 "LevelScoresModel" "sizes" "[I", Cond.fieldLink RX6 19 "LevelScoresModel" "levels" "[J", Cond.methodLink RX6 68 yX6_isNumber, Cond.instanceMethod yX6_isNumber, Cond.selects RX6 yX6_isNumber yX6_isNumber, Cond.initialized RX6, Cond.code yX6_isNumber cX6_isNumber 2 (some .boolean), Cond.fieldLink RX6 45 "LevelScoresModel" "scores" "I", Cond.methodLink RX6 48 yX6_in, Cond.static yX6_in, Cond.code yX6_in cX6_in 6 (some .boolean), Cond.methodLink RX6 72 yX6_isNothing, Cond.instanceMethod yX6_isNothing, Cond.selects RX6 yX6_isNothing yX6_isNothing, Cond.code yX6_isNothing cX6_isNothing 2 (some .boolean), Cond.methodLink RX6 192 yX6_writeRow, Cond.instanceMethod yX6_writeRow, Cond.selects RX6 yX6_writeRow yX6_writeRow, Cond.code yX6_writeRow cX6_writeRow 5 none, Cond.methodLink RX6 181 yX6_write, Cond.instanceMethod yX6_write]
def wsX6_print_r2 : List Cond := [Cond.selects RX6 yX6_write yX6_write, Cond.code yX6_write cX6_write 2 none, Cond.fieldLink RX6 39 "LevelScoresModel" "out" "[I", Cond.methodLink RX6 188 yX6_writeNumber, Cond.instanceMethod yX6_writeNumber, Cond.selects RX6 yX6_writeNumber yX6_writeNumber, Cond.code yX6_writeNumber cX6_writeNumber 9 none, Cond.constantLong RX6 184 (9), Cond.constantLong RX6 186 (-9), Cond.constantLong RX6 154 (10), Cond.methodLink RX6 195 yX6_writeWord, Cond.instanceMethod yX6_writeWord, Cond.selects RX6 yX6_writeWord yX6_writeWord, Cond.code yX6_writeWord cX6_writeWord 6 none, Cond.constantLong RX6 122 (127), Cond.methodLink RX6 141 yX6_letter, Cond.static yX6_letter, Cond.code yX6_letter cX6_letter 2 (some .long)]
def wsX6_print : List Cond := .code yX6_print cX6_print 2 (some .int) :: ((wsX6_print_r1 ++ wsX6_print_r2) ++ wsX60)
def wsX6_out : List Cond := .code yX6_out cX6_out 2 (some .int) :: ([.fieldLink RX6 178 "LevelScoresModel" "outSize" "I", .fieldLink RX6 39 "LevelScoresModel" "out" "[I", .methodLink RX6 48 yX6_in, .static yX6_in, .initialized RX6, .code yX6_in cX6_in 6 (some .boolean)] ++ wsX60)
def wsX6_plan : List Cond := .code yX6_plan cX6_plan 3 (some .int) :: ([.fieldLink RX6 198 "LevelScoresModel" "rules" "I", .fieldLink RX6 7 "LevelScoresModel" "shapes" "[I", .fieldLink RX6 52 "LevelScoresModel" "planShape" "I", .fieldLink RX6 13 "LevelScoresModel" "hards" "[I", .fieldLink RX6 55 "LevelScoresModel" "planHard" "I", .fieldLink RX6 16 "LevelScoresModel" "sizes" "[I", .fieldLink RX6 23 "LevelScoresModel" "planSize" "I", .fieldLink RX6 201 "LevelScoresModel" "kept" "I", .methodLink RX6 68 yX6_isNumber, .instanceMethod yX6_isNumber, .selects RX6 yX6_isNumber yX6_isNumber, .initialized RX6, .code yX6_isNumber cX6_isNumber 2 (some .boolean), .fieldLink RX6 45 "LevelScoresModel" "scores" "I", .methodLink RX6 48 yX6_in, .static yX6_in, .code yX6_in cX6_in 6 (some .boolean), .methodLink RX6 72 yX6_isNothing, .instanceMethod yX6_isNothing, .selects RX6 yX6_isNothing yX6_isNothing, .code yX6_isNothing cX6_isNothing 2 (some .boolean)] ++ wsX60)
def wsX6_rule_r1 : List Cond := [Cond.fieldLink RX6 198 "LevelScoresModel" "rules" "I", Cond.fieldLink RX6 27 "LevelScoresModel" "weights" "[J", Cond.fieldLink RX6 19 "LevelScoresModel" "levels" "[J", Cond.fieldLink RX6 30 "LevelScoresModel" "counts" "[I", Cond.methodLink RX6 68 yX6_isNumber, Cond.instanceMethod yX6_isNumber, Cond.selects RX6 yX6_isNumber yX6_isNumber, Cond.initialized RX6, Cond.code yX6_isNumber cX6_isNumber 2 (some .boolean), Cond.fieldLink RX6 45 "LevelScoresModel" "scores" "I", Cond.methodLink RX6 48 yX6_in, Cond.static yX6_in, Cond.code yX6_in cX6_in 6 (some .boolean), Cond.methodLink RX6 72 yX6_isNothing, Cond.instanceMethod yX6_isNothing, Cond.selects RX6 yX6_isNothing yX6_isNothing, Cond.code yX6_isNothing cX6_isNothing 2 (some .boolean), Cond.fieldLink RX6 7 "LevelScoresModel" "shapes" "[I", Cond.methodLink RX6 204 yX6_isLikePlan, Cond.instanceMethod yX6_isLikePlan, Cond.selects RX6 yX6_isLikePlan yX6_isLikePlan, Cond.code yX6_isLikePlan cX6_isLikePlan 2 (some .boolean), Cond.fieldLink RX6 52 "LevelScoresModel" "planShape" "I", Cond.fieldLink RX6 13 "LevelScoresModel" "hards" "[I"]
def wsX6_rule_r2 : List Cond := [Cond.fieldLink RX6 55 "LevelScoresModel" "planHard" "I", Cond.fieldLink RX6 16 "LevelScoresModel" "sizes" "[I", Cond.fieldLink RX6 23 "LevelScoresModel" "planSize" "I"]
def wsX6_rule : List Cond := .code yX6_rule cX6_rule 3 (some .int) :: ((wsX6_rule_r1 ++ wsX6_rule_r2) ++ wsX60)
def wsX6_layPart : List Cond := .code yX6_layPart cX6_layPart 3 none :: ([.fieldLink RX6 27 "LevelScoresModel" "weights" "[J", .fieldLink RX6 30 "LevelScoresModel" "counts" "[I", .methodLink RX6 105 yX6_zero, .instanceMethod yX6_zero, .selects RX6 yX6_zero yX6_zero, .initialized RX6, .code yX6_zero cX6_zero 1 none, .fieldLink RX6 78 "LevelScoresModel" "high" "J", .fieldLink RX6 82 "LevelScoresModel" "low" "J", .methodLink RX6 108 yX6_add, .instanceMethod yX6_add, .selects RX6 yX6_add yX6_add, .code yX6_add cX6_add 5 none, .constantLong RX6 85 (4294967295)] ++ wsX60)
def wsX6_hasRoom_r1 : List Cond := [Cond.fieldLink RX6 23 "LevelScoresModel" "planSize" "I", Cond.fieldLink RX6 198 "LevelScoresModel" "rules" "I", Cond.fieldLink RX6 27 "LevelScoresModel" "weights" "[J", Cond.fieldLink RX6 30 "LevelScoresModel" "counts" "[I", Cond.methodLink RX6 207 yX6_layPart, Cond.instanceMethod yX6_layPart, Cond.selects RX6 yX6_layPart yX6_layPart, Cond.initialized RX6, Cond.code yX6_layPart cX6_layPart 3 none, Cond.methodLink RX6 105 yX6_zero, Cond.instanceMethod yX6_zero, Cond.selects RX6 yX6_zero yX6_zero, Cond.code yX6_zero cX6_zero 1 none, Cond.fieldLink RX6 78 "LevelScoresModel" "high" "J", Cond.fieldLink RX6 82 "LevelScoresModel" "low" "J", Cond.methodLink RX6 108 yX6_add, Cond.instanceMethod yX6_add, Cond.selects RX6 yX6_add yX6_add, Cond.code yX6_add cX6_add 5 none, Cond.constantLong RX6 85 (4294967295), Cond.methodLink RX6 114 yX6_fits, Cond.instanceMethod yX6_fits, Cond.selects RX6 yX6_fits yX6_fits, Cond.code yX6_fits cX6_fits 1 (some .boolean)]
def wsX6_hasRoom_r2 : List Cond := [Cond.constantLong RX6 87 (-2147483648), Cond.constantLong RX6 89 (2147483647), Cond.methodLink RX6 48 yX6_in, Cond.static yX6_in, Cond.code yX6_in cX6_in 6 (some .boolean)]
def wsX6_hasRoom : List Cond := .code yX6_hasRoom cX6_hasRoom 4 (some .boolean) :: ((wsX6_hasRoom_r1 ++ wsX6_hasRoom_r2) ++ wsX60)
def wsX6_count_r1 : List Cond := [Cond.fieldLink RX6 198 "LevelScoresModel" "rules" "I", Cond.constantLong RX6 211 (1000000), Cond.fieldLink RX6 30 "LevelScoresModel" "counts" "[I", Cond.methodLink RX6 48 yX6_in, Cond.static yX6_in, Cond.initialized RX6, Cond.code yX6_in cX6_in 6 (some .boolean), Cond.methodLink RX6 213 yX6_hasRoom, Cond.instanceMethod yX6_hasRoom, Cond.selects RX6 yX6_hasRoom yX6_hasRoom, Cond.code yX6_hasRoom cX6_hasRoom 4 (some .boolean), Cond.fieldLink RX6 23 "LevelScoresModel" "planSize" "I", Cond.fieldLink RX6 27 "LevelScoresModel" "weights" "[J", Cond.methodLink RX6 207 yX6_layPart, Cond.instanceMethod yX6_layPart, Cond.selects RX6 yX6_layPart yX6_layPart, Cond.code yX6_layPart cX6_layPart 3 none, Cond.methodLink RX6 105 yX6_zero, Cond.instanceMethod yX6_zero, Cond.selects RX6 yX6_zero yX6_zero, Cond.code yX6_zero cX6_zero 1 none, Cond.fieldLink RX6 78 "LevelScoresModel" "high" "J", Cond.fieldLink RX6 82 "LevelScoresModel" "low" "J", Cond.methodLink RX6 108 yX6_add]
def wsX6_count_r2 : List Cond := [Cond.instanceMethod yX6_add, Cond.selects RX6 yX6_add yX6_add, Cond.code yX6_add cX6_add 5 none, Cond.constantLong RX6 85 (4294967295), Cond.methodLink RX6 114 yX6_fits, Cond.instanceMethod yX6_fits, Cond.selects RX6 yX6_fits yX6_fits, Cond.code yX6_fits cX6_fits 1 (some .boolean), Cond.constantLong RX6 87 (-2147483648), Cond.constantLong RX6 89 (2147483647)]
def wsX6_count : List Cond := .code yX6_count cX6_count 4 (some .int) :: ((wsX6_count_r1 ++ wsX6_count_r2) ++ wsX60)
def wsX6_weight_r1 : List Cond := [Cond.fieldLink RX6 198 "LevelScoresModel" "rules" "I", Cond.fieldLink RX6 42 "LevelScoresModel" "had" "[J", Cond.fieldLink RX6 27 "LevelScoresModel" "weights" "[J", Cond.fieldLink RX6 19 "LevelScoresModel" "levels" "[J", Cond.methodLink RX6 48 yX6_in, Cond.static yX6_in, Cond.initialized RX6, Cond.code yX6_in cX6_in 6 (some .boolean), Cond.methodLink RX6 68 yX6_isNumber, Cond.instanceMethod yX6_isNumber, Cond.selects RX6 yX6_isNumber yX6_isNumber, Cond.code yX6_isNumber cX6_isNumber 2 (some .boolean), Cond.fieldLink RX6 45 "LevelScoresModel" "scores" "I", Cond.methodLink RX6 72 yX6_isNothing, Cond.instanceMethod yX6_isNothing, Cond.selects RX6 yX6_isNothing yX6_isNothing, Cond.code yX6_isNothing cX6_isNothing 2 (some .boolean), Cond.fieldLink RX6 7 "LevelScoresModel" "shapes" "[I", Cond.methodLink RX6 204 yX6_isLikePlan, Cond.instanceMethod yX6_isLikePlan, Cond.selects RX6 yX6_isLikePlan yX6_isLikePlan, Cond.code yX6_isLikePlan cX6_isLikePlan 2 (some .boolean), Cond.fieldLink RX6 52 "LevelScoresModel" "planShape" "I", Cond.fieldLink RX6 13 "LevelScoresModel" "hards" "[I"]
def wsX6_weight_r2 : List Cond := [Cond.fieldLink RX6 55 "LevelScoresModel" "planHard" "I", Cond.fieldLink RX6 16 "LevelScoresModel" "sizes" "[I", Cond.fieldLink RX6 23 "LevelScoresModel" "planSize" "I", Cond.methodLink RX6 213 yX6_hasRoom, Cond.instanceMethod yX6_hasRoom, Cond.selects RX6 yX6_hasRoom yX6_hasRoom, Cond.code yX6_hasRoom cX6_hasRoom 4 (some .boolean), Cond.fieldLink RX6 30 "LevelScoresModel" "counts" "[I", Cond.methodLink RX6 207 yX6_layPart, Cond.instanceMethod yX6_layPart, Cond.selects RX6 yX6_layPart yX6_layPart, Cond.code yX6_layPart cX6_layPart 3 none, Cond.methodLink RX6 105 yX6_zero, Cond.instanceMethod yX6_zero, Cond.selects RX6 yX6_zero yX6_zero, Cond.code yX6_zero cX6_zero 1 none, Cond.fieldLink RX6 78 "LevelScoresModel" "high" "J", Cond.fieldLink RX6 82 "LevelScoresModel" "low" "J", Cond.methodLink RX6 108 yX6_add, Cond.instanceMethod yX6_add, Cond.selects RX6 yX6_add yX6_add, Cond.code yX6_add cX6_add 5 none, Cond.constantLong RX6 85 (4294967295), Cond.methodLink RX6 114 yX6_fits]
def wsX6_weight_r3 : List Cond := [Cond.instanceMethod yX6_fits, Cond.selects RX6 yX6_fits yX6_fits, Cond.code yX6_fits cX6_fits 1 (some .boolean), Cond.constantLong RX6 87 (-2147483648), Cond.constantLong RX6 89 (2147483647)]
def wsX6_weight : List Cond := .code yX6_weight cX6_weight 4 (some .int) :: ((wsX6_weight_r1 ++ (wsX6_weight_r2 ++ wsX6_weight_r3)) ++ wsX60)
def wsX6_total_r1 : List Cond := [Cond.constantLong RX6 112 (-1), Cond.fieldLink RX6 198 "LevelScoresModel" "rules" "I", Cond.fieldLink RX6 45 "LevelScoresModel" "scores" "I", Cond.fieldLink RX6 52 "LevelScoresModel" "planShape" "I", Cond.fieldLink RX6 55 "LevelScoresModel" "planHard" "I", Cond.fieldLink RX6 23 "LevelScoresModel" "planSize" "I", Cond.fieldLink RX6 27 "LevelScoresModel" "weights" "[J", Cond.fieldLink RX6 30 "LevelScoresModel" "counts" "[I", Cond.fieldLink RX6 19 "LevelScoresModel" "levels" "[J", Cond.methodLink RX6 48 yX6_in, Cond.static yX6_in, Cond.initialized RX6, Cond.code yX6_in cX6_in 6 (some .boolean), Cond.methodLink RX6 60 yX6_lay, Cond.instanceMethod yX6_lay, Cond.selects RX6 yX6_lay yX6_lay, Cond.code yX6_lay cX6_lay 5 none, Cond.fieldLink RX6 7 "LevelScoresModel" "shapes" "[I", Cond.fieldLink RX6 13 "LevelScoresModel" "hards" "[I", Cond.fieldLink RX6 16 "LevelScoresModel" "sizes" "[I", Cond.methodLink RX6 105 yX6_zero, Cond.instanceMethod yX6_zero, Cond.selects RX6 yX6_zero yX6_zero, Cond.code yX6_zero cX6_zero 1 none]
def wsX6_total_r2 : List Cond := [Cond.fieldLink RX6 78 "LevelScoresModel" "high" "J", Cond.fieldLink RX6 82 "LevelScoresModel" "low" "J", Cond.methodLink RX6 108 yX6_add, Cond.instanceMethod yX6_add, Cond.selects RX6 yX6_add yX6_add, Cond.code yX6_add cX6_add 5 none, Cond.constantLong RX6 85 (4294967295), Cond.methodLink RX6 118 yX6_number, Cond.instanceMethod yX6_number, Cond.selects RX6 yX6_number yX6_number, Cond.code yX6_number cX6_number 1 (some .long), Cond.methodLink RX6 64 yX6_keepScore, Cond.instanceMethod yX6_keepScore, Cond.selects RX6 yX6_keepScore yX6_keepScore, Cond.code yX6_keepScore cX6_keepScore 1 (some .int)]
def wsX6_total : List Cond := .code yX6_total cX6_total 4 (some .int) :: ((wsX6_total_r1 ++ wsX6_total_r2) ++ wsX60)
def wsX6_safe_r1 : List Cond := [Cond.constantLong RX6 211 (1000000), Cond.fieldLink RX6 23 "LevelScoresModel" "planSize" "I", Cond.fieldLink RX6 198 "LevelScoresModel" "rules" "I", Cond.fieldLink RX6 27 "LevelScoresModel" "weights" "[J", Cond.methodLink RX6 48 yX6_in, Cond.static yX6_in, Cond.initialized RX6, Cond.code yX6_in cX6_in 6 (some .boolean), Cond.methodLink RX6 105 yX6_zero, Cond.instanceMethod yX6_zero, Cond.selects RX6 yX6_zero yX6_zero, Cond.code yX6_zero cX6_zero 1 none, Cond.fieldLink RX6 78 "LevelScoresModel" "high" "J", Cond.fieldLink RX6 82 "LevelScoresModel" "low" "J", Cond.methodLink RX6 108 yX6_add, Cond.instanceMethod yX6_add, Cond.selects RX6 yX6_add yX6_add, Cond.code yX6_add cX6_add 5 none, Cond.constantLong RX6 85 (4294967295), Cond.methodLink RX6 114 yX6_fits, Cond.instanceMethod yX6_fits, Cond.selects RX6 yX6_fits yX6_fits, Cond.code yX6_fits cX6_fits 1 (some .boolean), Cond.constantLong RX6 87 (-2147483648)]
def wsX6_safe_r2 : List Cond := [Cond.constantLong RX6 89 (2147483647)]
def wsX6_safe : List Cond := .code yX6_safe cX6_safe 8 (some .int) :: ((wsX6_safe_r1 ++ wsX6_safe_r2) ++ wsX60)
def wsX6_keep_r1 : List Cond := [Cond.fieldLink RX6 201 "LevelScoresModel" "kept" "I", Cond.fieldLink RX6 33 "LevelScoresModel" "keeps" "[J", Cond.fieldLink RX6 19 "LevelScoresModel" "levels" "[J", Cond.fieldLink RX6 23 "LevelScoresModel" "planSize" "I", Cond.methodLink RX6 68 yX6_isNumber, Cond.instanceMethod yX6_isNumber, Cond.selects RX6 yX6_isNumber yX6_isNumber, Cond.initialized RX6, Cond.code yX6_isNumber cX6_isNumber 2 (some .boolean), Cond.fieldLink RX6 45 "LevelScoresModel" "scores" "I", Cond.methodLink RX6 48 yX6_in, Cond.static yX6_in, Cond.code yX6_in cX6_in 6 (some .boolean), Cond.methodLink RX6 72 yX6_isNothing, Cond.instanceMethod yX6_isNothing, Cond.selects RX6 yX6_isNothing yX6_isNothing, Cond.code yX6_isNothing cX6_isNothing 2 (some .boolean), Cond.fieldLink RX6 7 "LevelScoresModel" "shapes" "[I", Cond.methodLink RX6 204 yX6_isLikePlan, Cond.instanceMethod yX6_isLikePlan, Cond.selects RX6 yX6_isLikePlan yX6_isLikePlan, Cond.code yX6_isLikePlan cX6_isLikePlan 2 (some .boolean), Cond.fieldLink RX6 52 "LevelScoresModel" "planShape" "I", Cond.fieldLink RX6 13 "LevelScoresModel" "hards" "[I"]
def wsX6_keep_r2 : List Cond := [Cond.fieldLink RX6 55 "LevelScoresModel" "planHard" "I", Cond.fieldLink RX6 16 "LevelScoresModel" "sizes" "[I", Cond.methodLink RX6 101 yX6_compare, Cond.instanceMethod yX6_compare, Cond.selects RX6 yX6_compare yX6_compare, Cond.code yX6_compare cX6_compare 7 (some .int)]
def wsX6_keep : List Cond := .code yX6_keep cX6_keep 4 (some .int) :: ((wsX6_keep_r1 ++ wsX6_keep_r2) ++ wsX60)
def wsX6_kept : List Cond := .code yX6_kept cX6_kept 3 (some .int) :: ([.fieldLink RX6 201 "LevelScoresModel" "kept" "I", .fieldLink RX6 45 "LevelScoresModel" "scores" "I", .fieldLink RX6 52 "LevelScoresModel" "planShape" "I", .fieldLink RX6 55 "LevelScoresModel" "planHard" "I", .fieldLink RX6 23 "LevelScoresModel" "planSize" "I", .fieldLink RX6 19 "LevelScoresModel" "levels" "[J", .fieldLink RX6 33 "LevelScoresModel" "keeps" "[J", .methodLink RX6 48 yX6_in, .static yX6_in, .initialized RX6, .code yX6_in cX6_in 6 (some .boolean), .methodLink RX6 60 yX6_lay, .instanceMethod yX6_lay, .selects RX6 yX6_lay yX6_lay, .code yX6_lay cX6_lay 5 none, .fieldLink RX6 7 "LevelScoresModel" "shapes" "[I", .fieldLink RX6 13 "LevelScoresModel" "hards" "[I", .fieldLink RX6 16 "LevelScoresModel" "sizes" "[I", .methodLink RX6 64 yX6_keepScore, .instanceMethod yX6_keepScore, .selects RX6 yX6_keepScore yX6_keepScore, .code yX6_keepScore cX6_keepScore 1 (some .int)] ++ wsX60)
def wsX6_many : List Cond := .code yX6_many cX6_many 2 (some .int) :: ([.fieldLink RX6 45 "LevelScoresModel" "scores" "I", .fieldLink RX6 198 "LevelScoresModel" "rules" "I", .fieldLink RX6 201 "LevelScoresModel" "kept" "I", .fieldLink RX6 124 "LevelScoresModel" "tapeSize" "I", .fieldLink RX6 178 "LevelScoresModel" "outSize" "I"] ++ wsX60)
def wsX6_drop : List Cond := .code yX6_drop cX6_drop 1 (some .int) :: ([.fieldLink RX6 45 "LevelScoresModel" "scores" "I"] ++ wsX60)
def wsJ9_max_f86c9 : List Cond := .code yJ9_max_f86c9 cJ9_max_f86c9 4 (some .long) :: ([])
def wsJ9_min_f86c9 : List Cond := .code yJ9_min_f86c9 cJ9_min_f86c9 4 (some .long) :: ([])
abbrev vwCl : List vw_C := [(RX0, TX0, 3), (RX1, TX1, 9), (RX2, TX2, 4), (RX3, TX3, 3), (RX4, TX4, 2), (RX5, TX5, 6), (RX6, TX6, 24)]
end
section
theorem dX2_init_0 : decode cX2_init 0 = .ok (.aload_n 0, 1) := by decide +kernel
theorem dX2_init_1 : decode cX2_init 1 = .ok (.invokespecial 3, 3) := by decide +kernel
theorem dX2_init_4 : decode cX2_init 4 = .ok (.aload_n 0, 1) := by decide +kernel
theorem dX2_init_5 : decode cX2_init 5 = .ok (.iconst (-1), 1) := by decide +kernel
theorem dX2_init_6 : decode cX2_init 6 = .ok (.putfield 9, 3) := by decide +kernel
theorem dX2_init_9 : decode cX2_init 9 = .ok (.aload_n 0, 1) := by decide +kernel
theorem dX2_init_10 : decode cX2_init 10 = .ok (.bipush 12, 2) := by decide +kernel
theorem dX2_init_12 : decode cX2_init 12 = .ok (.newarray .long, 2) := by decide +kernel
theorem dX2_init_14 : decode cX2_init 14 = .ok (.putfield 15, 3) := by decide +kernel
theorem dX2_init_17 : decode cX2_init 17 = .ok (.return_, 1) := by decide +kernel
theorem dX2_form_0 : decode cX2_form 0 = .ok (.aload_n 0, 1) := by decide +kernel
theorem dX2_form_1 : decode cX2_form 1 = .ok (.iload_n 1, 1) := by decide +kernel
theorem dX2_form_2 : decode cX2_form 2 = .ok (.putfield 9, 3) := by decide +kernel
theorem dX2_form_5 : decode cX2_form 5 = .ok (.aload_n 0, 1) := by decide +kernel
theorem dX2_form_6 : decode cX2_form 6 = .ok (.iload_n 2, 1) := by decide +kernel
theorem dX2_form_7 : decode cX2_form 7 = .ok (.putfield 19, 3) := by decide +kernel
theorem dX2_form_10 : decode cX2_form 10 = .ok (.aload_n 0, 1) := by decide +kernel
theorem dX2_form_11 : decode cX2_form 11 = .ok (.iload_n 3, 1) := by decide +kernel
theorem dX2_form_12 : decode cX2_form 12 = .ok (.putfield 22, 3) := by decide +kernel
theorem dX2_form_15 : decode cX2_form 15 = .ok (.return_, 1) := by decide +kernel
set_option maxRecDepth 20000 in
theorem ggX2_formLike_X2_form : GoodIn wsX2_formLike wsX2_form := goodIn_r _ [8, 1, 2, 3, 9, 10, 11, 12] (by decide +kernel) (by decide +kernel)
set_option maxRecDepth 20000 in
theorem gX2_formLike_X2_form : GoodIn wsX2_formLike (wsV RX2 25 RX2 yX2_form wsX2_form) := goodIn_app (goodIn_of _ (by decide +kernel)) ggX2_formLike_X2_form
theorem dX2_formLike_0 : decode cX2_formLike 0 = .ok (.aload_n 0, 1) := by decide +kernel
theorem dX2_formLike_1 : decode cX2_formLike 1 = .ok (.aload_n 1, 1) := by decide +kernel
theorem dX2_formLike_2 : decode cX2_formLike 2 = .ok (.getfield 9, 3) := by decide +kernel
theorem dX2_formLike_5 : decode cX2_formLike 5 = .ok (.aload_n 1, 1) := by decide +kernel
theorem dX2_formLike_6 : decode cX2_formLike 6 = .ok (.getfield 19, 3) := by decide +kernel
theorem dX2_formLike_9 : decode cX2_formLike 9 = .ok (.aload_n 1, 1) := by decide +kernel
theorem dX2_formLike_10 : decode cX2_formLike 10 = .ok (.getfield 22, 3) := by decide +kernel
theorem dX2_formLike_13 : decode cX2_formLike 13 = .ok (.invokevirtual 25, 3) := by decide +kernel
theorem dX2_formLike_16 : decode cX2_formLike 16 = .ok (.return_, 1) := by decide +kernel
theorem dX2_clear_0 : decode cX2_clear 0 = .ok (.iconst 0, 1) := by decide +kernel
theorem dX2_clear_1 : decode cX2_clear 1 = .ok (.istore_n 1, 1) := by decide +kernel
theorem dX2_clear_2 : decode cX2_clear 2 = .ok (.iload_n 1, 1) := by decide +kernel
theorem dX2_clear_3 : decode cX2_clear 3 = .ok (.aload_n 0, 1) := by decide +kernel
theorem dX2_clear_4 : decode cX2_clear 4 = .ok (.getfield 22, 3) := by decide +kernel
theorem dX2_clear_7 : decode cX2_clear 7 = .ok (.if_icmp .ge 16, 3) := by decide +kernel
theorem dX2_clear_10 : decode cX2_clear 10 = .ok (.aload_n 0, 1) := by decide +kernel
theorem dX2_clear_11 : decode cX2_clear 11 = .ok (.getfield 15, 3) := by decide +kernel
theorem dX2_clear_14 : decode cX2_clear 14 = .ok (.iload_n 1, 1) := by decide +kernel
theorem dX2_clear_15 : decode cX2_clear 15 = .ok (.lconst 0, 1) := by decide +kernel
theorem dX2_clear_16 : decode cX2_clear 16 = .ok (.lastore, 1) := by decide +kernel
theorem dX2_clear_17 : decode cX2_clear 17 = .ok (.iinc 1 1, 3) := by decide +kernel
theorem dX2_clear_20 : decode cX2_clear 20 = .ok (.goto (-18), 3) := by decide +kernel
theorem dX2_clear_23 : decode cX2_clear 23 = .ok (.return_, 1) := by decide +kernel
set_option maxRecDepth 20000 in
theorem ggX2_copy_X2_formLike : GoodIn wsX2_copy wsX2_formLike := goodIn_r _ [7, 8, 9, 1, 10, 11, 12, 6, 13, 14, 15, 16, 17] (by decide +kernel) (by decide +kernel)
set_option maxRecDepth 20000 in
theorem gX2_copy_X2_formLike : GoodIn wsX2_copy (wsV RX2 29 RX2 yX2_formLike wsX2_formLike) := goodIn_app (goodIn_of _ (by decide +kernel)) ggX2_copy_X2_formLike
theorem dX2_copy_0 : decode cX2_copy 0 = .ok (.aload_n 0, 1) := by decide +kernel
theorem dX2_copy_1 : decode cX2_copy 1 = .ok (.aload_n 1, 1) := by decide +kernel
theorem dX2_copy_2 : decode cX2_copy 2 = .ok (.invokevirtual 29, 3) := by decide +kernel
theorem dX2_copy_5 : decode cX2_copy 5 = .ok (.iconst 0, 1) := by decide +kernel
theorem dX2_copy_6 : decode cX2_copy 6 = .ok (.istore_n 2, 1) := by decide +kernel
theorem dX2_copy_7 : decode cX2_copy 7 = .ok (.iload_n 2, 1) := by decide +kernel
theorem dX2_copy_8 : decode cX2_copy 8 = .ok (.aload_n 0, 1) := by decide +kernel
theorem dX2_copy_9 : decode cX2_copy 9 = .ok (.getfield 22, 3) := by decide +kernel
theorem dX2_copy_12 : decode cX2_copy 12 = .ok (.if_icmp .ge 21, 3) := by decide +kernel
theorem dX2_copy_15 : decode cX2_copy 15 = .ok (.aload_n 0, 1) := by decide +kernel
theorem dX2_copy_16 : decode cX2_copy 16 = .ok (.getfield 15, 3) := by decide +kernel
theorem dX2_copy_19 : decode cX2_copy 19 = .ok (.iload_n 2, 1) := by decide +kernel
theorem dX2_copy_20 : decode cX2_copy 20 = .ok (.aload_n 1, 1) := by decide +kernel
theorem dX2_copy_21 : decode cX2_copy 21 = .ok (.getfield 15, 3) := by decide +kernel
theorem dX2_copy_24 : decode cX2_copy 24 = .ok (.iload_n 2, 1) := by decide +kernel
theorem dX2_copy_25 : decode cX2_copy 25 = .ok (.laload, 1) := by decide +kernel
theorem dX2_copy_26 : decode cX2_copy 26 = .ok (.lastore, 1) := by decide +kernel
theorem dX2_copy_27 : decode cX2_copy 27 = .ok (.iinc 2 1, 3) := by decide +kernel
theorem dX2_copy_30 : decode cX2_copy 30 = .ok (.goto (-23), 3) := by decide +kernel
theorem dX2_copy_33 : decode cX2_copy 33 = .ok (.return_, 1) := by decide +kernel
theorem dX2_isNothing_0 : decode cX2_isNothing 0 = .ok (.aload_n 0, 1) := by decide +kernel
theorem dX2_isNothing_1 : decode cX2_isNothing 1 = .ok (.getfield 9, 3) := by decide +kernel
theorem dX2_isNothing_4 : decode cX2_isNothing 4 = .ok (.iconst (-1), 1) := by decide +kernel
theorem dX2_isNothing_5 : decode cX2_isNothing 5 = .ok (.if_icmp .ne 7, 3) := by decide +kernel
theorem dX2_isNothing_8 : decode cX2_isNothing 8 = .ok (.iconst 1, 1) := by decide +kernel
theorem dX2_isNothing_9 : decode cX2_isNothing 9 = .ok (.goto 4, 3) := by decide +kernel
theorem dX2_isNothing_12 : decode cX2_isNothing 12 = .ok (.iconst 0, 1) := by decide +kernel
theorem dX2_isNothing_13 : decode cX2_isNothing 13 = .ok (.ireturn, 1) := by decide +kernel
theorem dX2_isLike_0 : decode cX2_isLike 0 = .ok (.aload_n 0, 1) := by decide +kernel
theorem dX2_isLike_1 : decode cX2_isLike 1 = .ok (.getfield 9, 3) := by decide +kernel
theorem dX2_isLike_4 : decode cX2_isLike 4 = .ok (.aload_n 1, 1) := by decide +kernel
theorem dX2_isLike_5 : decode cX2_isLike 5 = .ok (.getfield 9, 3) := by decide +kernel
theorem dX2_isLike_8 : decode cX2_isLike 8 = .ok (.if_icmp .ne 29, 3) := by decide +kernel
theorem dX2_isLike_11 : decode cX2_isLike 11 = .ok (.aload_n 0, 1) := by decide +kernel
theorem dX2_isLike_12 : decode cX2_isLike 12 = .ok (.getfield 19, 3) := by decide +kernel
theorem dX2_isLike_15 : decode cX2_isLike 15 = .ok (.aload_n 1, 1) := by decide +kernel
theorem dX2_isLike_16 : decode cX2_isLike 16 = .ok (.getfield 19, 3) := by decide +kernel
theorem dX2_isLike_19 : decode cX2_isLike 19 = .ok (.if_icmp .ne 18, 3) := by decide +kernel
theorem dX2_isLike_22 : decode cX2_isLike 22 = .ok (.aload_n 0, 1) := by decide +kernel
theorem dX2_isLike_23 : decode cX2_isLike 23 = .ok (.getfield 22, 3) := by decide +kernel
theorem dX2_isLike_26 : decode cX2_isLike 26 = .ok (.aload_n 1, 1) := by decide +kernel
theorem dX2_isLike_27 : decode cX2_isLike 27 = .ok (.getfield 22, 3) := by decide +kernel
theorem dX2_isLike_30 : decode cX2_isLike 30 = .ok (.if_icmp .ne 7, 3) := by decide +kernel
theorem dX2_isLike_33 : decode cX2_isLike 33 = .ok (.iconst 1, 1) := by decide +kernel
theorem dX2_isLike_34 : decode cX2_isLike 34 = .ok (.goto 4, 3) := by decide +kernel
theorem dX2_isLike_37 : decode cX2_isLike 37 = .ok (.iconst 0, 1) := by decide +kernel
theorem dX2_isLike_38 : decode cX2_isLike 38 = .ok (.ireturn, 1) := by decide +kernel
theorem dX2_hasLevel_0 : decode cX2_hasLevel 0 = .ok (.iload_n 1, 1) := by decide +kernel
theorem dX2_hasLevel_1 : decode cX2_hasLevel 1 = .ok (.ifCond .lt 15, 3) := by decide +kernel
theorem dX2_hasLevel_4 : decode cX2_hasLevel 4 = .ok (.iload_n 1, 1) := by decide +kernel
theorem dX2_hasLevel_5 : decode cX2_hasLevel 5 = .ok (.aload_n 0, 1) := by decide +kernel
theorem dX2_hasLevel_6 : decode cX2_hasLevel 6 = .ok (.getfield 22, 3) := by decide +kernel
theorem dX2_hasLevel_9 : decode cX2_hasLevel 9 = .ok (.if_icmp .ge 7, 3) := by decide +kernel
theorem dX2_hasLevel_12 : decode cX2_hasLevel 12 = .ok (.iconst 1, 1) := by decide +kernel
theorem dX2_hasLevel_13 : decode cX2_hasLevel 13 = .ok (.goto 4, 3) := by decide +kernel
theorem dX2_hasLevel_16 : decode cX2_hasLevel 16 = .ok (.iconst 0, 1) := by decide +kernel
theorem dX2_hasLevel_17 : decode cX2_hasLevel 17 = .ok (.ireturn, 1) := by decide +kernel
theorem dX2_isFeasible_0 : decode cX2_isFeasible 0 = .ok (.iconst 0, 1) := by decide +kernel
theorem dX2_isFeasible_1 : decode cX2_isFeasible 1 = .ok (.istore_n 1, 1) := by decide +kernel
theorem dX2_isFeasible_2 : decode cX2_isFeasible 2 = .ok (.iload_n 1, 1) := by decide +kernel
theorem dX2_isFeasible_3 : decode cX2_isFeasible 3 = .ok (.aload_n 0, 1) := by decide +kernel
theorem dX2_isFeasible_4 : decode cX2_isFeasible 4 = .ok (.getfield 19, 3) := by decide +kernel
theorem dX2_isFeasible_7 : decode cX2_isFeasible 7 = .ok (.if_icmp .ge 22, 3) := by decide +kernel
theorem dX2_isFeasible_10 : decode cX2_isFeasible 10 = .ok (.aload_n 0, 1) := by decide +kernel
theorem dX2_isFeasible_11 : decode cX2_isFeasible 11 = .ok (.getfield 15, 3) := by decide +kernel
theorem dX2_isFeasible_14 : decode cX2_isFeasible 14 = .ok (.iload_n 1, 1) := by decide +kernel
theorem dX2_isFeasible_15 : decode cX2_isFeasible 15 = .ok (.laload, 1) := by decide +kernel
theorem dX2_isFeasible_16 : decode cX2_isFeasible 16 = .ok (.lconst 0, 1) := by decide +kernel
theorem dX2_isFeasible_17 : decode cX2_isFeasible 17 = .ok (.lcmp, 1) := by decide +kernel
theorem dX2_isFeasible_18 : decode cX2_isFeasible 18 = .ok (.ifCond .ge 5, 3) := by decide +kernel
theorem dX2_isFeasible_21 : decode cX2_isFeasible 21 = .ok (.iconst 0, 1) := by decide +kernel
theorem dX2_isFeasible_22 : decode cX2_isFeasible 22 = .ok (.ireturn, 1) := by decide +kernel
theorem dX2_isFeasible_23 : decode cX2_isFeasible 23 = .ok (.iinc 1 1, 3) := by decide +kernel
theorem dX2_isFeasible_26 : decode cX2_isFeasible 26 = .ok (.goto (-24), 3) := by decide +kernel
theorem dX2_isFeasible_29 : decode cX2_isFeasible 29 = .ok (.iconst 1, 1) := by decide +kernel
theorem dX2_isFeasible_30 : decode cX2_isFeasible 30 = .ok (.ireturn, 1) := by decide +kernel
theorem dX2_compareWith_0 : decode cX2_compareWith 0 = .ok (.iconst 0, 1) := by decide +kernel
theorem dX2_compareWith_1 : decode cX2_compareWith 1 = .ok (.istore_n 2, 1) := by decide +kernel
theorem dX2_compareWith_2 : decode cX2_compareWith 2 = .ok (.iload_n 2, 1) := by decide +kernel
theorem dX2_compareWith_3 : decode cX2_compareWith 3 = .ok (.aload_n 0, 1) := by decide +kernel
theorem dX2_compareWith_4 : decode cX2_compareWith 4 = .ok (.getfield 22, 3) := by decide +kernel
theorem dX2_compareWith_7 : decode cX2_compareWith 7 = .ok (.if_icmp .ge 47, 3) := by decide +kernel
theorem dX2_compareWith_10 : decode cX2_compareWith 10 = .ok (.aload_n 0, 1) := by decide +kernel
theorem dX2_compareWith_11 : decode cX2_compareWith 11 = .ok (.getfield 15, 3) := by decide +kernel
theorem dX2_compareWith_14 : decode cX2_compareWith 14 = .ok (.iload_n 2, 1) := by decide +kernel
theorem dX2_compareWith_15 : decode cX2_compareWith 15 = .ok (.laload, 1) := by decide +kernel
theorem dX2_compareWith_16 : decode cX2_compareWith 16 = .ok (.aload_n 1, 1) := by decide +kernel
theorem dX2_compareWith_17 : decode cX2_compareWith 17 = .ok (.getfield 15, 3) := by decide +kernel
theorem dX2_compareWith_20 : decode cX2_compareWith 20 = .ok (.iload_n 2, 1) := by decide +kernel
theorem dX2_compareWith_21 : decode cX2_compareWith 21 = .ok (.laload, 1) := by decide +kernel
theorem dX2_compareWith_22 : decode cX2_compareWith 22 = .ok (.lcmp, 1) := by decide +kernel
theorem dX2_compareWith_23 : decode cX2_compareWith 23 = .ok (.ifCond .eq 25, 3) := by decide +kernel
theorem dX2_compareWith_26 : decode cX2_compareWith 26 = .ok (.aload_n 0, 1) := by decide +kernel
theorem dX2_compareWith_27 : decode cX2_compareWith 27 = .ok (.getfield 15, 3) := by decide +kernel
theorem dX2_compareWith_30 : decode cX2_compareWith 30 = .ok (.iload_n 2, 1) := by decide +kernel
theorem dX2_compareWith_31 : decode cX2_compareWith 31 = .ok (.laload, 1) := by decide +kernel
theorem dX2_compareWith_32 : decode cX2_compareWith 32 = .ok (.aload_n 1, 1) := by decide +kernel
theorem dX2_compareWith_33 : decode cX2_compareWith 33 = .ok (.getfield 15, 3) := by decide +kernel
theorem dX2_compareWith_36 : decode cX2_compareWith 36 = .ok (.iload_n 2, 1) := by decide +kernel
theorem dX2_compareWith_37 : decode cX2_compareWith 37 = .ok (.laload, 1) := by decide +kernel
theorem dX2_compareWith_38 : decode cX2_compareWith 38 = .ok (.lcmp, 1) := by decide +kernel
theorem dX2_compareWith_39 : decode cX2_compareWith 39 = .ok (.ifCond .ge 7, 3) := by decide +kernel
theorem dX2_compareWith_42 : decode cX2_compareWith 42 = .ok (.iconst (-1), 1) := by decide +kernel
theorem dX2_compareWith_43 : decode cX2_compareWith 43 = .ok (.goto 4, 3) := by decide +kernel
theorem dX2_compareWith_46 : decode cX2_compareWith 46 = .ok (.iconst 1, 1) := by decide +kernel
theorem dX2_compareWith_47 : decode cX2_compareWith 47 = .ok (.ireturn, 1) := by decide +kernel
theorem dX2_compareWith_48 : decode cX2_compareWith 48 = .ok (.iinc 2 1, 3) := by decide +kernel
theorem dX2_compareWith_51 : decode cX2_compareWith 51 = .ok (.goto (-49), 3) := by decide +kernel
theorem dX2_compareWith_54 : decode cX2_compareWith 54 = .ok (.iconst 0, 1) := by decide +kernel
theorem dX2_compareWith_55 : decode cX2_compareWith 55 = .ok (.ireturn, 1) := by decide +kernel
set_option maxRecDepth 20000 in
theorem ggX2_becomeSum_X2_formLike : GoodIn wsX2_becomeSum wsX2_formLike := goodIn_r _ [7, 8, 9, 1, 10, 11, 12, 6, 13, 14, 15, 16, 17] (by decide +kernel) (by decide +kernel)
set_option maxRecDepth 20000 in
theorem gX2_becomeSum_X2_formLike : GoodIn wsX2_becomeSum (wsV RX2 29 RX2 yX2_formLike wsX2_formLike) := goodIn_app (goodIn_of _ (by decide +kernel)) ggX2_becomeSum_X2_formLike
theorem dX2_becomeSum_0 : decode cX2_becomeSum 0 = .ok (.aload_n 0, 1) := by decide +kernel
theorem dX2_becomeSum_1 : decode cX2_becomeSum 1 = .ok (.aload_n 1, 1) := by decide +kernel
theorem dX2_becomeSum_2 : decode cX2_becomeSum 2 = .ok (.invokevirtual 29, 3) := by decide +kernel
theorem dX2_becomeSum_5 : decode cX2_becomeSum 5 = .ok (.iconst 0, 1) := by decide +kernel
theorem dX2_becomeSum_6 : decode cX2_becomeSum 6 = .ok (.istore_n 3, 1) := by decide +kernel
theorem dX2_becomeSum_7 : decode cX2_becomeSum 7 = .ok (.iload_n 3, 1) := by decide +kernel
theorem dX2_becomeSum_8 : decode cX2_becomeSum 8 = .ok (.aload_n 0, 1) := by decide +kernel
theorem dX2_becomeSum_9 : decode cX2_becomeSum 9 = .ok (.getfield 22, 3) := by decide +kernel
theorem dX2_becomeSum_12 : decode cX2_becomeSum 12 = .ok (.if_icmp .ge 58, 3) := by decide +kernel
theorem dX2_becomeSum_15 : decode cX2_becomeSum 15 = .ok (.aload_n 1, 1) := by decide +kernel
theorem dX2_becomeSum_16 : decode cX2_becomeSum 16 = .ok (.getfield 15, 3) := by decide +kernel
theorem dX2_becomeSum_19 : decode cX2_becomeSum 19 = .ok (.iload_n 3, 1) := by decide +kernel
theorem dX2_becomeSum_20 : decode cX2_becomeSum 20 = .ok (.laload, 1) := by decide +kernel
theorem dX2_becomeSum_21 : decode cX2_becomeSum 21 = .ok (.lstore 4, 2) := by decide +kernel
theorem dX2_becomeSum_23 : decode cX2_becomeSum 23 = .ok (.aload_n 2, 1) := by decide +kernel
theorem dX2_becomeSum_24 : decode cX2_becomeSum 24 = .ok (.getfield 15, 3) := by decide +kernel
theorem dX2_becomeSum_27 : decode cX2_becomeSum 27 = .ok (.iload_n 3, 1) := by decide +kernel
theorem dX2_becomeSum_28 : decode cX2_becomeSum 28 = .ok (.laload, 1) := by decide +kernel
theorem dX2_becomeSum_29 : decode cX2_becomeSum 29 = .ok (.lstore 6, 2) := by decide +kernel
theorem dX2_becomeSum_31 : decode cX2_becomeSum 31 = .ok (.lload 4, 2) := by decide +kernel
theorem dX2_becomeSum_33 : decode cX2_becomeSum 33 = .ok (.lload 6, 2) := by decide +kernel
theorem dX2_becomeSum_35 : decode cX2_becomeSum 35 = .ok (.ladd, 1) := by decide +kernel
theorem dX2_becomeSum_36 : decode cX2_becomeSum 36 = .ok (.lstore 8, 2) := by decide +kernel
theorem dX2_becomeSum_38 : decode cX2_becomeSum 38 = .ok (.lload 4, 2) := by decide +kernel
theorem dX2_becomeSum_40 : decode cX2_becomeSum 40 = .ok (.lload 8, 2) := by decide +kernel
theorem dX2_becomeSum_42 : decode cX2_becomeSum 42 = .ok (.lxor, 1) := by decide +kernel
theorem dX2_becomeSum_43 : decode cX2_becomeSum 43 = .ok (.lload 6, 2) := by decide +kernel
theorem dX2_becomeSum_45 : decode cX2_becomeSum 45 = .ok (.lload 8, 2) := by decide +kernel
theorem dX2_becomeSum_47 : decode cX2_becomeSum 47 = .ok (.lxor, 1) := by decide +kernel
theorem dX2_becomeSum_48 : decode cX2_becomeSum 48 = .ok (.land, 1) := by decide +kernel
theorem dX2_becomeSum_49 : decode cX2_becomeSum 49 = .ok (.lconst 0, 1) := by decide +kernel
theorem dX2_becomeSum_50 : decode cX2_becomeSum 50 = .ok (.lcmp, 1) := by decide +kernel
theorem dX2_becomeSum_51 : decode cX2_becomeSum 51 = .ok (.ifCond .ge 5, 3) := by decide +kernel
theorem dX2_becomeSum_54 : decode cX2_becomeSum 54 = .ok (.iconst 0, 1) := by decide +kernel
theorem dX2_becomeSum_55 : decode cX2_becomeSum 55 = .ok (.ireturn, 1) := by decide +kernel
theorem dX2_becomeSum_56 : decode cX2_becomeSum 56 = .ok (.aload_n 0, 1) := by decide +kernel
theorem dX2_becomeSum_57 : decode cX2_becomeSum 57 = .ok (.getfield 15, 3) := by decide +kernel
theorem dX2_becomeSum_60 : decode cX2_becomeSum 60 = .ok (.iload_n 3, 1) := by decide +kernel
theorem dX2_becomeSum_61 : decode cX2_becomeSum 61 = .ok (.lload 8, 2) := by decide +kernel
theorem dX2_becomeSum_63 : decode cX2_becomeSum 63 = .ok (.lastore, 1) := by decide +kernel
theorem dX2_becomeSum_64 : decode cX2_becomeSum 64 = .ok (.iinc 3 1, 3) := by decide +kernel
theorem dX2_becomeSum_67 : decode cX2_becomeSum 67 = .ok (.goto (-60), 3) := by decide +kernel
theorem dX2_becomeSum_70 : decode cX2_becomeSum 70 = .ok (.iconst 1, 1) := by decide +kernel
theorem dX2_becomeSum_71 : decode cX2_becomeSum 71 = .ok (.ireturn, 1) := by decide +kernel
set_option maxRecDepth 20000 in
theorem ggX2_becomeDifference_X2_formLike : GoodIn wsX2_becomeDifference wsX2_formLike := goodIn_r _ [7, 8, 9, 1, 10, 11, 12, 6, 13, 14, 15, 16, 17] (by decide +kernel) (by decide +kernel)
set_option maxRecDepth 20000 in
theorem gX2_becomeDifference_X2_formLike : GoodIn wsX2_becomeDifference (wsV RX2 29 RX2 yX2_formLike wsX2_formLike) := goodIn_app (goodIn_of _ (by decide +kernel)) ggX2_becomeDifference_X2_formLike
theorem dX2_becomeDifference_0 : decode cX2_becomeDifference 0 = .ok (.aload_n 0, 1) := by decide +kernel
theorem dX2_becomeDifference_1 : decode cX2_becomeDifference 1 = .ok (.aload_n 1, 1) := by decide +kernel
theorem dX2_becomeDifference_2 : decode cX2_becomeDifference 2 = .ok (.invokevirtual 29, 3) := by decide +kernel
theorem dX2_becomeDifference_5 : decode cX2_becomeDifference 5 = .ok (.iconst 0, 1) := by decide +kernel
theorem dX2_becomeDifference_6 : decode cX2_becomeDifference 6 = .ok (.istore_n 3, 1) := by decide +kernel
theorem dX2_becomeDifference_7 : decode cX2_becomeDifference 7 = .ok (.iload_n 3, 1) := by decide +kernel
theorem dX2_becomeDifference_8 : decode cX2_becomeDifference 8 = .ok (.aload_n 0, 1) := by decide +kernel
theorem dX2_becomeDifference_9 : decode cX2_becomeDifference 9 = .ok (.getfield 22, 3) := by decide +kernel
theorem dX2_becomeDifference_12 : decode cX2_becomeDifference 12 = .ok (.if_icmp .ge 58, 3) := by decide +kernel
theorem dX2_becomeDifference_15 : decode cX2_becomeDifference 15 = .ok (.aload_n 1, 1) := by decide +kernel
theorem dX2_becomeDifference_16 : decode cX2_becomeDifference 16 = .ok (.getfield 15, 3) := by decide +kernel
theorem dX2_becomeDifference_19 : decode cX2_becomeDifference 19 = .ok (.iload_n 3, 1) := by decide +kernel
theorem dX2_becomeDifference_20 : decode cX2_becomeDifference 20 = .ok (.laload, 1) := by decide +kernel
theorem dX2_becomeDifference_21 : decode cX2_becomeDifference 21 = .ok (.lstore 4, 2) := by decide +kernel
theorem dX2_becomeDifference_23 : decode cX2_becomeDifference 23 = .ok (.aload_n 2, 1) := by decide +kernel
theorem dX2_becomeDifference_24 : decode cX2_becomeDifference 24 = .ok (.getfield 15, 3) := by decide +kernel
theorem dX2_becomeDifference_27 : decode cX2_becomeDifference 27 = .ok (.iload_n 3, 1) := by decide +kernel
theorem dX2_becomeDifference_28 : decode cX2_becomeDifference 28 = .ok (.laload, 1) := by decide +kernel
theorem dX2_becomeDifference_29 : decode cX2_becomeDifference 29 = .ok (.lstore 6, 2) := by decide +kernel
theorem dX2_becomeDifference_31 : decode cX2_becomeDifference 31 = .ok (.lload 4, 2) := by decide +kernel
theorem dX2_becomeDifference_33 : decode cX2_becomeDifference 33 = .ok (.lload 6, 2) := by decide +kernel
theorem dX2_becomeDifference_35 : decode cX2_becomeDifference 35 = .ok (.lsub, 1) := by decide +kernel
theorem dX2_becomeDifference_36 : decode cX2_becomeDifference 36 = .ok (.lstore 8, 2) := by decide +kernel
theorem dX2_becomeDifference_38 : decode cX2_becomeDifference 38 = .ok (.lload 4, 2) := by decide +kernel
theorem dX2_becomeDifference_40 : decode cX2_becomeDifference 40 = .ok (.lload 6, 2) := by decide +kernel
theorem dX2_becomeDifference_42 : decode cX2_becomeDifference 42 = .ok (.lxor, 1) := by decide +kernel
theorem dX2_becomeDifference_43 : decode cX2_becomeDifference 43 = .ok (.lload 4, 2) := by decide +kernel
theorem dX2_becomeDifference_45 : decode cX2_becomeDifference 45 = .ok (.lload 8, 2) := by decide +kernel
theorem dX2_becomeDifference_47 : decode cX2_becomeDifference 47 = .ok (.lxor, 1) := by decide +kernel
theorem dX2_becomeDifference_48 : decode cX2_becomeDifference 48 = .ok (.land, 1) := by decide +kernel
theorem dX2_becomeDifference_49 : decode cX2_becomeDifference 49 = .ok (.lconst 0, 1) := by decide +kernel
theorem dX2_becomeDifference_50 : decode cX2_becomeDifference 50 = .ok (.lcmp, 1) := by decide +kernel
theorem dX2_becomeDifference_51 : decode cX2_becomeDifference 51 = .ok (.ifCond .ge 5, 3) := by decide +kernel
theorem dX2_becomeDifference_54 : decode cX2_becomeDifference 54 = .ok (.iconst 0, 1) := by decide +kernel
theorem dX2_becomeDifference_55 : decode cX2_becomeDifference 55 = .ok (.ireturn, 1) := by decide +kernel
theorem dX2_becomeDifference_56 : decode cX2_becomeDifference 56 = .ok (.aload_n 0, 1) := by decide +kernel
theorem dX2_becomeDifference_57 : decode cX2_becomeDifference 57 = .ok (.getfield 15, 3) := by decide +kernel
theorem dX2_becomeDifference_60 : decode cX2_becomeDifference 60 = .ok (.iload_n 3, 1) := by decide +kernel
theorem dX2_becomeDifference_61 : decode cX2_becomeDifference 61 = .ok (.lload 8, 2) := by decide +kernel
theorem dX2_becomeDifference_63 : decode cX2_becomeDifference 63 = .ok (.lastore, 1) := by decide +kernel
theorem dX2_becomeDifference_64 : decode cX2_becomeDifference 64 = .ok (.iinc 3 1, 3) := by decide +kernel
theorem dX2_becomeDifference_67 : decode cX2_becomeDifference 67 = .ok (.goto (-60), 3) := by decide +kernel
theorem dX2_becomeDifference_70 : decode cX2_becomeDifference 70 = .ok (.iconst 1, 1) := by decide +kernel
theorem dX2_becomeDifference_71 : decode cX2_becomeDifference 71 = .ok (.ireturn, 1) := by decide +kernel
set_option maxRecDepth 20000 in
theorem ggX2_becomeGreaterLevels_X2_formLike : GoodIn wsX2_becomeGreaterLevels wsX2_formLike := goodIn_r _ [11, 12, 13, 1, 14, 15, 16, 10, 17, 18, 19, 20, 21] (by decide +kernel) (by decide +kernel)
set_option maxRecDepth 20000 in
theorem gX2_becomeGreaterLevels_X2_formLike : GoodIn wsX2_becomeGreaterLevels (wsV RX2 29 RX2 yX2_formLike wsX2_formLike) := goodIn_app (goodIn_of _ (by decide +kernel)) ggX2_becomeGreaterLevels_X2_formLike
theorem dX2_becomeGreaterLevels_0 : decode cX2_becomeGreaterLevels 0 = .ok (.aload_n 0, 1) := by decide +kernel
theorem dX2_becomeGreaterLevels_1 : decode cX2_becomeGreaterLevels 1 = .ok (.aload_n 1, 1) := by decide +kernel
theorem dX2_becomeGreaterLevels_2 : decode cX2_becomeGreaterLevels 2 = .ok (.invokevirtual 29, 3) := by decide +kernel
theorem dX2_becomeGreaterLevels_5 : decode cX2_becomeGreaterLevels 5 = .ok (.iconst 0, 1) := by decide +kernel
theorem dX2_becomeGreaterLevels_6 : decode cX2_becomeGreaterLevels 6 = .ok (.istore_n 3, 1) := by decide +kernel
theorem dX2_becomeGreaterLevels_7 : decode cX2_becomeGreaterLevels 7 = .ok (.iload_n 3, 1) := by decide +kernel
theorem dX2_becomeGreaterLevels_8 : decode cX2_becomeGreaterLevels 8 = .ok (.aload_n 0, 1) := by decide +kernel
theorem dX2_becomeGreaterLevels_9 : decode cX2_becomeGreaterLevels 9 = .ok (.getfield 22, 3) := by decide +kernel
theorem dX2_becomeGreaterLevels_12 : decode cX2_becomeGreaterLevels 12 = .ok (.if_icmp .ge 30, 3) := by decide +kernel
theorem dX2_becomeGreaterLevels_15 : decode cX2_becomeGreaterLevels 15 = .ok (.aload_n 0, 1) := by decide +kernel
theorem dX2_becomeGreaterLevels_16 : decode cX2_becomeGreaterLevels 16 = .ok (.getfield 15, 3) := by decide +kernel
theorem dX2_becomeGreaterLevels_19 : decode cX2_becomeGreaterLevels 19 = .ok (.iload_n 3, 1) := by decide +kernel
theorem dX2_becomeGreaterLevels_20 : decode cX2_becomeGreaterLevels 20 = .ok (.aload_n 1, 1) := by decide +kernel
theorem dX2_becomeGreaterLevels_21 : decode cX2_becomeGreaterLevels 21 = .ok (.getfield 15, 3) := by decide +kernel
theorem dX2_becomeGreaterLevels_24 : decode cX2_becomeGreaterLevels 24 = .ok (.iload_n 3, 1) := by decide +kernel
theorem dX2_becomeGreaterLevels_25 : decode cX2_becomeGreaterLevels 25 = .ok (.laload, 1) := by decide +kernel
theorem dX2_becomeGreaterLevels_26 : decode cX2_becomeGreaterLevels 26 = .ok (.aload_n 2, 1) := by decide +kernel
theorem dX2_becomeGreaterLevels_27 : decode cX2_becomeGreaterLevels 27 = .ok (.getfield 15, 3) := by decide +kernel
theorem dX2_becomeGreaterLevels_30 : decode cX2_becomeGreaterLevels 30 = .ok (.iload_n 3, 1) := by decide +kernel
theorem dX2_becomeGreaterLevels_31 : decode cX2_becomeGreaterLevels 31 = .ok (.laload, 1) := by decide +kernel
theorem dX2_becomeGreaterLevels_32 : decode cX2_becomeGreaterLevels 32 = .ok (.invokestatic 33, 3) := by decide +kernel
theorem dX2_becomeGreaterLevels_35 : decode cX2_becomeGreaterLevels 35 = .ok (.lastore, 1) := by decide +kernel
theorem dX2_becomeGreaterLevels_36 : decode cX2_becomeGreaterLevels 36 = .ok (.iinc 3 1, 3) := by decide +kernel
theorem dX2_becomeGreaterLevels_39 : decode cX2_becomeGreaterLevels 39 = .ok (.goto (-32), 3) := by decide +kernel
theorem dX2_becomeGreaterLevels_42 : decode cX2_becomeGreaterLevels 42 = .ok (.return_, 1) := by decide +kernel
set_option maxRecDepth 20000 in
theorem ggX2_becomeLesserLevels_X2_formLike : GoodIn wsX2_becomeLesserLevels wsX2_formLike := goodIn_r _ [11, 12, 13, 1, 14, 15, 16, 10, 17, 18, 19, 20, 21] (by decide +kernel) (by decide +kernel)
set_option maxRecDepth 20000 in
theorem gX2_becomeLesserLevels_X2_formLike : GoodIn wsX2_becomeLesserLevels (wsV RX2 29 RX2 yX2_formLike wsX2_formLike) := goodIn_app (goodIn_of _ (by decide +kernel)) ggX2_becomeLesserLevels_X2_formLike
theorem dX2_becomeLesserLevels_0 : decode cX2_becomeLesserLevels 0 = .ok (.aload_n 0, 1) := by decide +kernel
theorem dX2_becomeLesserLevels_1 : decode cX2_becomeLesserLevels 1 = .ok (.aload_n 1, 1) := by decide +kernel
theorem dX2_becomeLesserLevels_2 : decode cX2_becomeLesserLevels 2 = .ok (.invokevirtual 29, 3) := by decide +kernel
theorem dX2_becomeLesserLevels_5 : decode cX2_becomeLesserLevels 5 = .ok (.iconst 0, 1) := by decide +kernel
theorem dX2_becomeLesserLevels_6 : decode cX2_becomeLesserLevels 6 = .ok (.istore_n 3, 1) := by decide +kernel
theorem dX2_becomeLesserLevels_7 : decode cX2_becomeLesserLevels 7 = .ok (.iload_n 3, 1) := by decide +kernel
theorem dX2_becomeLesserLevels_8 : decode cX2_becomeLesserLevels 8 = .ok (.aload_n 0, 1) := by decide +kernel
theorem dX2_becomeLesserLevels_9 : decode cX2_becomeLesserLevels 9 = .ok (.getfield 22, 3) := by decide +kernel
theorem dX2_becomeLesserLevels_12 : decode cX2_becomeLesserLevels 12 = .ok (.if_icmp .ge 30, 3) := by decide +kernel
theorem dX2_becomeLesserLevels_15 : decode cX2_becomeLesserLevels 15 = .ok (.aload_n 0, 1) := by decide +kernel
theorem dX2_becomeLesserLevels_16 : decode cX2_becomeLesserLevels 16 = .ok (.getfield 15, 3) := by decide +kernel
theorem dX2_becomeLesserLevels_19 : decode cX2_becomeLesserLevels 19 = .ok (.iload_n 3, 1) := by decide +kernel
theorem dX2_becomeLesserLevels_20 : decode cX2_becomeLesserLevels 20 = .ok (.aload_n 1, 1) := by decide +kernel
theorem dX2_becomeLesserLevels_21 : decode cX2_becomeLesserLevels 21 = .ok (.getfield 15, 3) := by decide +kernel
theorem dX2_becomeLesserLevels_24 : decode cX2_becomeLesserLevels 24 = .ok (.iload_n 3, 1) := by decide +kernel
theorem dX2_becomeLesserLevels_25 : decode cX2_becomeLesserLevels 25 = .ok (.laload, 1) := by decide +kernel
theorem dX2_becomeLesserLevels_26 : decode cX2_becomeLesserLevels 26 = .ok (.aload_n 2, 1) := by decide +kernel
theorem dX2_becomeLesserLevels_27 : decode cX2_becomeLesserLevels 27 = .ok (.getfield 15, 3) := by decide +kernel
theorem dX2_becomeLesserLevels_30 : decode cX2_becomeLesserLevels 30 = .ok (.iload_n 3, 1) := by decide +kernel
theorem dX2_becomeLesserLevels_31 : decode cX2_becomeLesserLevels 31 = .ok (.laload, 1) := by decide +kernel
theorem dX2_becomeLesserLevels_32 : decode cX2_becomeLesserLevels 32 = .ok (.invokestatic 39, 3) := by decide +kernel
theorem dX2_becomeLesserLevels_35 : decode cX2_becomeLesserLevels 35 = .ok (.lastore, 1) := by decide +kernel
theorem dX2_becomeLesserLevels_36 : decode cX2_becomeLesserLevels 36 = .ok (.iinc 3 1, 3) := by decide +kernel
theorem dX2_becomeLesserLevels_39 : decode cX2_becomeLesserLevels 39 = .ok (.goto (-32), 3) := by decide +kernel
theorem dX2_becomeLesserLevels_42 : decode cX2_becomeLesserLevels 42 = .ok (.return_, 1) := by decide +kernel
theorem dX4_init_0 : decode cX4_init 0 = .ok (.aload_n 0, 1) := by decide +kernel
theorem dX4_init_1 : decode cX4_init 1 = .ok (.invokespecial 1, 3) := by decide +kernel
theorem dX4_init_4 : decode cX4_init 4 = .ok (.return_, 1) := by decide +kernel
theorem dX4_clear_0 : decode cX4_clear 0 = .ok (.aload_n 0, 1) := by decide +kernel
theorem dX4_clear_1 : decode cX4_clear 1 = .ok (.lconst 0, 1) := by decide +kernel
theorem dX4_clear_2 : decode cX4_clear 2 = .ok (.putfield 7, 3) := by decide +kernel
theorem dX4_clear_5 : decode cX4_clear 5 = .ok (.aload_n 0, 1) := by decide +kernel
theorem dX4_clear_6 : decode cX4_clear 6 = .ok (.lconst 0, 1) := by decide +kernel
theorem dX4_clear_7 : decode cX4_clear 7 = .ok (.putfield 13, 3) := by decide +kernel
theorem dX4_clear_10 : decode cX4_clear 10 = .ok (.return_, 1) := by decide +kernel
theorem dX4_addProduct_0 : decode cX4_addProduct 0 = .ok (.lload_n 1, 1) := by decide +kernel
theorem dX4_addProduct_1 : decode cX4_addProduct 1 = .ok (.ldc2_w 16, 3) := by decide +kernel
theorem dX4_addProduct_4 : decode cX4_addProduct 4 = .ok (.land, 1) := by decide +kernel
theorem dX4_addProduct_5 : decode cX4_addProduct 5 = .ok (.lload_n 3, 1) := by decide +kernel
theorem dX4_addProduct_6 : decode cX4_addProduct 6 = .ok (.lmul, 1) := by decide +kernel
theorem dX4_addProduct_7 : decode cX4_addProduct 7 = .ok (.lstore 5, 2) := by decide +kernel
theorem dX4_addProduct_9 : decode cX4_addProduct 9 = .ok (.aload_n 0, 1) := by decide +kernel
theorem dX4_addProduct_10 : decode cX4_addProduct 10 = .ok (.getfield 13, 3) := by decide +kernel
theorem dX4_addProduct_13 : decode cX4_addProduct 13 = .ok (.lload 5, 2) := by decide +kernel
theorem dX4_addProduct_15 : decode cX4_addProduct 15 = .ok (.ldc2_w 16, 3) := by decide +kernel
theorem dX4_addProduct_18 : decode cX4_addProduct 18 = .ok (.land, 1) := by decide +kernel
theorem dX4_addProduct_19 : decode cX4_addProduct 19 = .ok (.ladd, 1) := by decide +kernel
theorem dX4_addProduct_20 : decode cX4_addProduct 20 = .ok (.lstore 7, 2) := by decide +kernel
theorem dX4_addProduct_22 : decode cX4_addProduct 22 = .ok (.aload_n 0, 1) := by decide +kernel
theorem dX4_addProduct_23 : decode cX4_addProduct 23 = .ok (.dup, 1) := by decide +kernel
theorem dX4_addProduct_24 : decode cX4_addProduct 24 = .ok (.getfield 7, 3) := by decide +kernel
theorem dX4_addProduct_27 : decode cX4_addProduct 27 = .ok (.lload_n 1, 1) := by decide +kernel
theorem dX4_addProduct_28 : decode cX4_addProduct 28 = .ok (.bipush 32, 2) := by decide +kernel
theorem dX4_addProduct_30 : decode cX4_addProduct 30 = .ok (.lshr, 1) := by decide +kernel
theorem dX4_addProduct_31 : decode cX4_addProduct 31 = .ok (.lload_n 3, 1) := by decide +kernel
theorem dX4_addProduct_32 : decode cX4_addProduct 32 = .ok (.lmul, 1) := by decide +kernel
theorem dX4_addProduct_33 : decode cX4_addProduct 33 = .ok (.lload 5, 2) := by decide +kernel
theorem dX4_addProduct_35 : decode cX4_addProduct 35 = .ok (.bipush 32, 2) := by decide +kernel
theorem dX4_addProduct_37 : decode cX4_addProduct 37 = .ok (.lshr, 1) := by decide +kernel
theorem dX4_addProduct_38 : decode cX4_addProduct 38 = .ok (.ladd, 1) := by decide +kernel
theorem dX4_addProduct_39 : decode cX4_addProduct 39 = .ok (.lload 7, 2) := by decide +kernel
theorem dX4_addProduct_41 : decode cX4_addProduct 41 = .ok (.bipush 32, 2) := by decide +kernel
theorem dX4_addProduct_43 : decode cX4_addProduct 43 = .ok (.lshr, 1) := by decide +kernel
theorem dX4_addProduct_44 : decode cX4_addProduct 44 = .ok (.ladd, 1) := by decide +kernel
theorem dX4_addProduct_45 : decode cX4_addProduct 45 = .ok (.ladd, 1) := by decide +kernel
theorem dX4_addProduct_46 : decode cX4_addProduct 46 = .ok (.putfield 7, 3) := by decide +kernel
theorem dX4_addProduct_49 : decode cX4_addProduct 49 = .ok (.aload_n 0, 1) := by decide +kernel
theorem dX4_addProduct_50 : decode cX4_addProduct 50 = .ok (.lload 7, 2) := by decide +kernel
theorem dX4_addProduct_52 : decode cX4_addProduct 52 = .ok (.ldc2_w 16, 3) := by decide +kernel
theorem dX4_addProduct_55 : decode cX4_addProduct 55 = .ok (.land, 1) := by decide +kernel
theorem dX4_addProduct_56 : decode cX4_addProduct 56 = .ok (.putfield 13, 3) := by decide +kernel
theorem dX4_addProduct_59 : decode cX4_addProduct 59 = .ok (.return_, 1) := by decide +kernel
set_option maxRecDepth 20000 in
theorem ggX4_divideDown_J9_floorMod_f86c9 : GoodIn wsX4_divideDown wsJ9_floorMod_f86c9 := goodIn_r _ [6] (by decide +kernel) (by decide +kernel)
set_option maxRecDepth 20000 in
theorem gX4_divideDown_J9_floorMod_f86c9 : GoodIn wsX4_divideDown (va_wsS RX4 18 yJ9_floorMod_f86c9 wsJ9_floorMod_f86c9) := goodIn_app (goodIn_of _ (by decide +kernel)) ggX4_divideDown_J9_floorMod_f86c9
set_option maxRecDepth 20000 in
theorem ggX4_divideDown_J9_floorDiv_f86c9 : GoodIn wsX4_divideDown wsJ9_floorDiv_f86c9 := goodIn_r _ [9] (by decide +kernel) (by decide +kernel)
set_option maxRecDepth 20000 in
theorem gX4_divideDown_J9_floorDiv_f86c9 : GoodIn wsX4_divideDown (va_wsS RX4 24 yJ9_floorDiv_f86c9 wsJ9_floorDiv_f86c9) := goodIn_app (goodIn_of _ (by decide +kernel)) ggX4_divideDown_J9_floorDiv_f86c9
theorem dX4_divideDown_0 : decode cX4_divideDown 0 = .ok (.lload_n 1, 1) := by decide +kernel
theorem dX4_divideDown_1 : decode cX4_divideDown 1 = .ok (.lconst 1, 1) := by decide +kernel
theorem dX4_divideDown_2 : decode cX4_divideDown 2 = .ok (.lcmp, 1) := by decide +kernel
theorem dX4_divideDown_3 : decode cX4_divideDown 3 = .ok (.ifCond .ge 4, 3) := by decide +kernel
theorem dX4_divideDown_6 : decode cX4_divideDown 6 = .ok (.return_, 1) := by decide +kernel
theorem dX4_divideDown_7 : decode cX4_divideDown 7 = .ok (.aload_n 0, 1) := by decide +kernel
theorem dX4_divideDown_8 : decode cX4_divideDown 8 = .ok (.getfield 7, 3) := by decide +kernel
theorem dX4_divideDown_11 : decode cX4_divideDown 11 = .ok (.lload_n 1, 1) := by decide +kernel
theorem dX4_divideDown_12 : decode cX4_divideDown 12 = .ok (.invokestatic 18, 3) := by decide +kernel
theorem dX4_divideDown_15 : decode cX4_divideDown 15 = .ok (.lstore_n 3, 1) := by decide +kernel
theorem dX4_divideDown_16 : decode cX4_divideDown 16 = .ok (.aload_n 0, 1) := by decide +kernel
theorem dX4_divideDown_17 : decode cX4_divideDown 17 = .ok (.aload_n 0, 1) := by decide +kernel
theorem dX4_divideDown_18 : decode cX4_divideDown 18 = .ok (.getfield 7, 3) := by decide +kernel
theorem dX4_divideDown_21 : decode cX4_divideDown 21 = .ok (.lload_n 1, 1) := by decide +kernel
theorem dX4_divideDown_22 : decode cX4_divideDown 22 = .ok (.invokestatic 24, 3) := by decide +kernel
theorem dX4_divideDown_25 : decode cX4_divideDown 25 = .ok (.putfield 7, 3) := by decide +kernel
theorem dX4_divideDown_28 : decode cX4_divideDown 28 = .ok (.aload_n 0, 1) := by decide +kernel
theorem dX4_divideDown_29 : decode cX4_divideDown 29 = .ok (.lload_n 3, 1) := by decide +kernel
theorem dX4_divideDown_30 : decode cX4_divideDown 30 = .ok (.bipush 32, 2) := by decide +kernel
theorem dX4_divideDown_32 : decode cX4_divideDown 32 = .ok (.lshl, 1) := by decide +kernel
theorem dX4_divideDown_33 : decode cX4_divideDown 33 = .ok (.aload_n 0, 1) := by decide +kernel
theorem dX4_divideDown_34 : decode cX4_divideDown 34 = .ok (.getfield 13, 3) := by decide +kernel
theorem dX4_divideDown_37 : decode cX4_divideDown 37 = .ok (.lor, 1) := by decide +kernel
theorem dX4_divideDown_38 : decode cX4_divideDown 38 = .ok (.lload_n 1, 1) := by decide +kernel
theorem dX4_divideDown_39 : decode cX4_divideDown 39 = .ok (.ldiv, 1) := by decide +kernel
theorem dX4_divideDown_40 : decode cX4_divideDown 40 = .ok (.putfield 13, 3) := by decide +kernel
theorem dX4_divideDown_43 : decode cX4_divideDown 43 = .ok (.return_, 1) := by decide +kernel
theorem dX4_fits_0 : decode cX4_fits 0 = .ok (.aload_n 0, 1) := by decide +kernel
theorem dX4_fits_1 : decode cX4_fits 1 = .ok (.getfield 7, 3) := by decide +kernel
theorem dX4_fits_4 : decode cX4_fits 4 = .ok (.ldc2_w 29, 3) := by decide +kernel
theorem dX4_fits_7 : decode cX4_fits 7 = .ok (.lcmp, 1) := by decide +kernel
theorem dX4_fits_8 : decode cX4_fits 8 = .ok (.ifCond .lt 18, 3) := by decide +kernel
theorem dX4_fits_11 : decode cX4_fits 11 = .ok (.aload_n 0, 1) := by decide +kernel
theorem dX4_fits_12 : decode cX4_fits 12 = .ok (.getfield 7, 3) := by decide +kernel
theorem dX4_fits_15 : decode cX4_fits 15 = .ok (.ldc2_w 31, 3) := by decide +kernel
theorem dX4_fits_18 : decode cX4_fits 18 = .ok (.lcmp, 1) := by decide +kernel
theorem dX4_fits_19 : decode cX4_fits 19 = .ok (.ifCond .gt 7, 3) := by decide +kernel
theorem dX4_fits_22 : decode cX4_fits 22 = .ok (.iconst 1, 1) := by decide +kernel
theorem dX4_fits_23 : decode cX4_fits 23 = .ok (.goto 4, 3) := by decide +kernel
theorem dX4_fits_26 : decode cX4_fits 26 = .ok (.iconst 0, 1) := by decide +kernel
theorem dX4_fits_27 : decode cX4_fits 27 = .ok (.ireturn, 1) := by decide +kernel
theorem dX4_value_0 : decode cX4_value 0 = .ok (.aload_n 0, 1) := by decide +kernel
theorem dX4_value_1 : decode cX4_value 1 = .ok (.getfield 7, 3) := by decide +kernel
theorem dX4_value_4 : decode cX4_value 4 = .ok (.bipush 32, 2) := by decide +kernel
theorem dX4_value_6 : decode cX4_value 6 = .ok (.lshl, 1) := by decide +kernel
theorem dX4_value_7 : decode cX4_value 7 = .ok (.aload_n 0, 1) := by decide +kernel
theorem dX4_value_8 : decode cX4_value 8 = .ok (.getfield 13, 3) := by decide +kernel
theorem dX4_value_11 : decode cX4_value 11 = .ok (.lor, 1) := by decide +kernel
theorem dX4_value_12 : decode cX4_value 12 = .ok (.lreturn, 1) := by decide +kernel
theorem dJ9_floorDiv_f86c9_0 : decode cJ9_floorDiv_f86c9 0 = .ok (.lload_n 0, 1) := by decide +kernel
theorem dJ9_floorDiv_f86c9_1 : decode cJ9_floorDiv_f86c9 1 = .ok (.lload_n 2, 1) := by decide +kernel
theorem dJ9_floorDiv_f86c9_2 : decode cJ9_floorDiv_f86c9 2 = .ok (.ldiv, 1) := by decide +kernel
theorem dJ9_floorDiv_f86c9_3 : decode cJ9_floorDiv_f86c9 3 = .ok (.lstore 4, 2) := by decide +kernel
theorem dJ9_floorDiv_f86c9_5 : decode cJ9_floorDiv_f86c9 5 = .ok (.lload_n 0, 1) := by decide +kernel
theorem dJ9_floorDiv_f86c9_6 : decode cJ9_floorDiv_f86c9 6 = .ok (.lload_n 2, 1) := by decide +kernel
theorem dJ9_floorDiv_f86c9_7 : decode cJ9_floorDiv_f86c9 7 = .ok (.lxor, 1) := by decide +kernel
theorem dJ9_floorDiv_f86c9_8 : decode cJ9_floorDiv_f86c9 8 = .ok (.lconst 0, 1) := by decide +kernel
theorem dJ9_floorDiv_f86c9_9 : decode cJ9_floorDiv_f86c9 9 = .ok (.lcmp, 1) := by decide +kernel
theorem dJ9_floorDiv_f86c9_10 : decode cJ9_floorDiv_f86c9 10 = .ok (.ifCond .ge 17, 3) := by decide +kernel
theorem dJ9_floorDiv_f86c9_13 : decode cJ9_floorDiv_f86c9 13 = .ok (.lload 4, 2) := by decide +kernel
theorem dJ9_floorDiv_f86c9_15 : decode cJ9_floorDiv_f86c9 15 = .ok (.lload_n 2, 1) := by decide +kernel
theorem dJ9_floorDiv_f86c9_16 : decode cJ9_floorDiv_f86c9 16 = .ok (.lmul, 1) := by decide +kernel
theorem dJ9_floorDiv_f86c9_17 : decode cJ9_floorDiv_f86c9 17 = .ok (.lload_n 0, 1) := by decide +kernel
theorem dJ9_floorDiv_f86c9_18 : decode cJ9_floorDiv_f86c9 18 = .ok (.lcmp, 1) := by decide +kernel
theorem dJ9_floorDiv_f86c9_19 : decode cJ9_floorDiv_f86c9 19 = .ok (.ifCond .eq 8, 3) := by decide +kernel
theorem dJ9_floorDiv_f86c9_22 : decode cJ9_floorDiv_f86c9 22 = .ok (.lload 4, 2) := by decide +kernel
theorem dJ9_floorDiv_f86c9_24 : decode cJ9_floorDiv_f86c9 24 = .ok (.lconst 1, 1) := by decide +kernel
theorem dJ9_floorDiv_f86c9_25 : decode cJ9_floorDiv_f86c9 25 = .ok (.lsub, 1) := by decide +kernel
theorem dJ9_floorDiv_f86c9_26 : decode cJ9_floorDiv_f86c9 26 = .ok (.lreturn, 1) := by decide +kernel
theorem dJ9_floorDiv_f86c9_27 : decode cJ9_floorDiv_f86c9 27 = .ok (.lload 4, 2) := by decide +kernel
theorem dJ9_floorDiv_f86c9_29 : decode cJ9_floorDiv_f86c9 29 = .ok (.lreturn, 1) := by decide +kernel
theorem dJ9_floorMod_f86c9_0 : decode cJ9_floorMod_f86c9 0 = .ok (.lload_n 0, 1) := by decide +kernel
theorem dJ9_floorMod_f86c9_1 : decode cJ9_floorMod_f86c9 1 = .ok (.lload_n 2, 1) := by decide +kernel
theorem dJ9_floorMod_f86c9_2 : decode cJ9_floorMod_f86c9 2 = .ok (.lrem, 1) := by decide +kernel
theorem dJ9_floorMod_f86c9_3 : decode cJ9_floorMod_f86c9 3 = .ok (.lstore 4, 2) := by decide +kernel
theorem dJ9_floorMod_f86c9_5 : decode cJ9_floorMod_f86c9 5 = .ok (.lload_n 0, 1) := by decide +kernel
theorem dJ9_floorMod_f86c9_6 : decode cJ9_floorMod_f86c9 6 = .ok (.lload_n 2, 1) := by decide +kernel
theorem dJ9_floorMod_f86c9_7 : decode cJ9_floorMod_f86c9 7 = .ok (.lxor, 1) := by decide +kernel
theorem dJ9_floorMod_f86c9_8 : decode cJ9_floorMod_f86c9 8 = .ok (.lconst 0, 1) := by decide +kernel
theorem dJ9_floorMod_f86c9_9 : decode cJ9_floorMod_f86c9 9 = .ok (.lcmp, 1) := by decide +kernel
theorem dJ9_floorMod_f86c9_10 : decode cJ9_floorMod_f86c9 10 = .ok (.ifCond .ge 15, 3) := by decide +kernel
theorem dJ9_floorMod_f86c9_13 : decode cJ9_floorMod_f86c9 13 = .ok (.lload 4, 2) := by decide +kernel
theorem dJ9_floorMod_f86c9_15 : decode cJ9_floorMod_f86c9 15 = .ok (.lconst 0, 1) := by decide +kernel
theorem dJ9_floorMod_f86c9_16 : decode cJ9_floorMod_f86c9 16 = .ok (.lcmp, 1) := by decide +kernel
theorem dJ9_floorMod_f86c9_17 : decode cJ9_floorMod_f86c9 17 = .ok (.ifCond .eq 8, 3) := by decide +kernel
theorem dJ9_floorMod_f86c9_20 : decode cJ9_floorMod_f86c9 20 = .ok (.lload 4, 2) := by decide +kernel
theorem dJ9_floorMod_f86c9_22 : decode cJ9_floorMod_f86c9 22 = .ok (.lload_n 2, 1) := by decide +kernel
theorem dJ9_floorMod_f86c9_23 : decode cJ9_floorMod_f86c9 23 = .ok (.ladd, 1) := by decide +kernel
theorem dJ9_floorMod_f86c9_24 : decode cJ9_floorMod_f86c9 24 = .ok (.lreturn, 1) := by decide +kernel
theorem dJ9_floorMod_f86c9_25 : decode cJ9_floorMod_f86c9 25 = .ok (.lload 4, 2) := by decide +kernel
theorem dJ9_floorMod_f86c9_27 : decode cJ9_floorMod_f86c9 27 = .ok (.lreturn, 1) := by decide +kernel
theorem dJ9_max_f86c9_0 : decode cJ9_max_f86c9 0 = .ok (.lload_n 0, 1) := by decide +kernel
theorem dJ9_max_f86c9_1 : decode cJ9_max_f86c9 1 = .ok (.lload_n 2, 1) := by decide +kernel
theorem dJ9_max_f86c9_2 : decode cJ9_max_f86c9 2 = .ok (.lcmp, 1) := by decide +kernel
theorem dJ9_max_f86c9_3 : decode cJ9_max_f86c9 3 = .ok (.ifCond .lt 7, 3) := by decide +kernel
theorem dJ9_max_f86c9_6 : decode cJ9_max_f86c9 6 = .ok (.lload_n 0, 1) := by decide +kernel
theorem dJ9_max_f86c9_7 : decode cJ9_max_f86c9 7 = .ok (.goto 4, 3) := by decide +kernel
theorem dJ9_max_f86c9_10 : decode cJ9_max_f86c9 10 = .ok (.lload_n 2, 1) := by decide +kernel
theorem dJ9_max_f86c9_11 : decode cJ9_max_f86c9 11 = .ok (.lreturn, 1) := by decide +kernel
theorem dJ9_min_f86c9_0 : decode cJ9_min_f86c9 0 = .ok (.lload_n 0, 1) := by decide +kernel
theorem dJ9_min_f86c9_1 : decode cJ9_min_f86c9 1 = .ok (.lload_n 2, 1) := by decide +kernel
theorem dJ9_min_f86c9_2 : decode cJ9_min_f86c9 2 = .ok (.lcmp, 1) := by decide +kernel
theorem dJ9_min_f86c9_3 : decode cJ9_min_f86c9 3 = .ok (.ifCond .gt 7, 3) := by decide +kernel
theorem dJ9_min_f86c9_6 : decode cJ9_min_f86c9 6 = .ok (.lload_n 0, 1) := by decide +kernel
theorem dJ9_min_f86c9_7 : decode cJ9_min_f86c9 7 = .ok (.goto 4, 3) := by decide +kernel
theorem dJ9_min_f86c9_10 : decode cJ9_min_f86c9 10 = .ok (.lload_n 2, 1) := by decide +kernel
theorem dJ9_min_f86c9_11 : decode cJ9_min_f86c9 11 = .ok (.lreturn, 1) := by decide +kernel
set_option maxRecDepth 20000 in
theorem ggJ0_length_8abf5_J0_coder_7d493 : GoodIn wsJ0_length_8abf5 wsJ0_coder_7d493 := goodIn_r _ [6, 7, 8] (by decide +kernel) (by decide +kernel)
set_option maxRecDepth 20000 in
theorem gJ0_length_8abf5_J0_coder_7d493 : GoodIn wsJ0_length_8abf5 (wsV RJ0 335 RJ0 yJ0_coder_7d493 wsJ0_coder_7d493) := goodIn_app (goodIn_of _ (by decide +kernel)) ggJ0_length_8abf5_J0_coder_7d493
theorem dJ0_length_8abf5_0 : decode cJ0_length_8abf5 0 = .ok (.aload_n 0, 1) := by decide +kernel
theorem dJ0_length_8abf5_1 : decode cJ0_length_8abf5 1 = .ok (.getfield 9, 3) := by decide +kernel
theorem dJ0_length_8abf5_4 : decode cJ0_length_8abf5 4 = .ok (.arraylength, 1) := by decide +kernel
theorem dJ0_length_8abf5_5 : decode cJ0_length_8abf5 5 = .ok (.aload_n 0, 1) := by decide +kernel
theorem dJ0_length_8abf5_6 : decode cJ0_length_8abf5 6 = .ok (.invokevirtual 335, 3) := by decide +kernel
theorem dJ0_length_8abf5_9 : decode cJ0_length_8abf5 9 = .ok (.ishr, 1) := by decide +kernel
theorem dJ0_length_8abf5_10 : decode cJ0_length_8abf5 10 = .ok (.ireturn, 1) := by decide +kernel
set_option maxRecDepth 20000 in
theorem ggJ0_charAt_5068e_J0_isLatin1_aae02 : GoodIn wsJ0_charAt_5068e wsJ0_isLatin1_aae02 := goodIn_r _ [6, 7, 8] (by decide +kernel) (by decide +kernel)
set_option maxRecDepth 20000 in
theorem gJ0_charAt_5068e_J0_isLatin1_aae02 : GoodIn wsJ0_charAt_5068e (wsV RJ0 492 RJ0 yJ0_isLatin1_aae02 wsJ0_isLatin1_aae02) := goodIn_app (goodIn_of _ (by decide +kernel)) ggJ0_charAt_5068e_J0_isLatin1_aae02
set_option maxRecDepth 20000 in
theorem ggJ0_charAt_5068e_J1_charAt_3b067 : GoodIn wsJ0_charAt_5068e wsJ1_charAt_3b067 := goodIn_r _ [12, 13, 14, 5, 15, 16, 17, 18, 19, 20] (by decide +kernel) (by decide +kernel)
set_option maxRecDepth 20000 in
theorem gJ0_charAt_5068e_J1_charAt_3b067 : GoodIn wsJ0_charAt_5068e (va_wsS RJ0 495 yJ1_charAt_3b067 wsJ1_charAt_3b067) := goodIn_app (goodIn_of _ (by decide +kernel)) ggJ0_charAt_5068e_J1_charAt_3b067
set_option maxRecDepth 20000 in
theorem ggJ0_charAt_5068e_J2_charAt_3b067 : GoodIn wsJ0_charAt_5068e wsJ2_charAt_3b067 := goodIn_r _ [24, 25, 26, 23, 27, 28, 29, 30, 31, 14, 5, 15, 16, 17, 18, 19, 20, 32, 33, 34, 35, 36, 37] (by decide +kernel) (by decide +kernel)
set_option maxRecDepth 20000 in
theorem gJ0_charAt_5068e_J2_charAt_3b067 : GoodIn wsJ0_charAt_5068e (va_wsS RJ0 498 yJ2_charAt_3b067 wsJ2_charAt_3b067) := goodIn_app (goodIn_of _ (by decide +kernel)) ggJ0_charAt_5068e_J2_charAt_3b067
theorem dJ0_charAt_5068e_0 : decode cJ0_charAt_5068e 0 = .ok (.aload_n 0, 1) := by decide +kernel
theorem dJ0_charAt_5068e_1 : decode cJ0_charAt_5068e 1 = .ok (.invokevirtual 492, 3) := by decide +kernel
theorem dJ0_charAt_5068e_4 : decode cJ0_charAt_5068e 4 = .ok (.ifCond .eq 12, 3) := by decide +kernel
theorem dJ0_charAt_5068e_7 : decode cJ0_charAt_5068e 7 = .ok (.aload_n 0, 1) := by decide +kernel
theorem dJ0_charAt_5068e_8 : decode cJ0_charAt_5068e 8 = .ok (.getfield 9, 3) := by decide +kernel
theorem dJ0_charAt_5068e_11 : decode cJ0_charAt_5068e 11 = .ok (.iload_n 1, 1) := by decide +kernel
theorem dJ0_charAt_5068e_12 : decode cJ0_charAt_5068e 12 = .ok (.invokestatic 495, 3) := by decide +kernel
theorem dJ0_charAt_5068e_15 : decode cJ0_charAt_5068e 15 = .ok (.ireturn, 1) := by decide +kernel
theorem dJ0_charAt_5068e_16 : decode cJ0_charAt_5068e 16 = .ok (.aload_n 0, 1) := by decide +kernel
theorem dJ0_charAt_5068e_17 : decode cJ0_charAt_5068e 17 = .ok (.getfield 9, 3) := by decide +kernel
theorem dJ0_charAt_5068e_20 : decode cJ0_charAt_5068e 20 = .ok (.iload_n 1, 1) := by decide +kernel
theorem dJ0_charAt_5068e_21 : decode cJ0_charAt_5068e 21 = .ok (.invokestatic 498, 3) := by decide +kernel
theorem dJ0_charAt_5068e_24 : decode cJ0_charAt_5068e 24 = .ok (.ireturn, 1) := by decide +kernel
theorem dJ0_coder_7d493_0 : decode cJ0_coder_7d493 0 = .ok (.getstatic 38, 3) := by decide +kernel
theorem dJ0_coder_7d493_3 : decode cJ0_coder_7d493 3 = .ok (.ifCond .eq 10, 3) := by decide +kernel
theorem dJ0_coder_7d493_6 : decode cJ0_coder_7d493 6 = .ok (.aload_n 0, 1) := by decide +kernel
theorem dJ0_coder_7d493_7 : decode cJ0_coder_7d493 7 = .ok (.getfield 15, 3) := by decide +kernel
theorem dJ0_coder_7d493_10 : decode cJ0_coder_7d493 10 = .ok (.goto 4, 3) := by decide +kernel
theorem dJ0_coder_7d493_13 : decode cJ0_coder_7d493 13 = .ok (.iconst 1, 1) := by decide +kernel
theorem dJ0_coder_7d493_14 : decode cJ0_coder_7d493 14 = .ok (.ireturn, 1) := by decide +kernel
theorem dJ0_isLatin1_aae02_0 : decode cJ0_isLatin1_aae02 0 = .ok (.getstatic 38, 3) := by decide +kernel
theorem dJ0_isLatin1_aae02_3 : decode cJ0_isLatin1_aae02 3 = .ok (.ifCond .eq 14, 3) := by decide +kernel
theorem dJ0_isLatin1_aae02_6 : decode cJ0_isLatin1_aae02 6 = .ok (.aload_n 0, 1) := by decide +kernel
theorem dJ0_isLatin1_aae02_7 : decode cJ0_isLatin1_aae02 7 = .ok (.getfield 15, 3) := by decide +kernel
theorem dJ0_isLatin1_aae02_10 : decode cJ0_isLatin1_aae02 10 = .ok (.ifCond .ne 7, 3) := by decide +kernel
theorem dJ0_isLatin1_aae02_13 : decode cJ0_isLatin1_aae02 13 = .ok (.iconst 1, 1) := by decide +kernel
theorem dJ0_isLatin1_aae02_14 : decode cJ0_isLatin1_aae02 14 = .ok (.goto 4, 3) := by decide +kernel
theorem dJ0_isLatin1_aae02_17 : decode cJ0_isLatin1_aae02 17 = .ok (.iconst 0, 1) := by decide +kernel
theorem dJ0_isLatin1_aae02_18 : decode cJ0_isLatin1_aae02 18 = .ok (.ireturn, 1) := by decide +kernel
set_option maxRecDepth 20000 in
theorem ggJ0_checkIndex_df160_J3_checkIndex_8e157 : GoodIn wsJ0_checkIndex_df160 wsJ3_checkIndex_8e157 := goodIn_r _ [5] (by decide +kernel) (by decide +kernel)
set_option maxRecDepth 20000 in
theorem gJ0_checkIndex_df160_J3_checkIndex_8e157 : GoodIn wsJ0_checkIndex_df160 (va_wsS RJ0 1059 yJ3_checkIndex_8e157 wsJ3_checkIndex_8e157) := goodIn_app (goodIn_of _ (by decide +kernel)) ggJ0_checkIndex_df160_J3_checkIndex_8e157
theorem dJ0_checkIndex_df160_0 : decode cJ0_checkIndex_df160 0 = .ok (.iload_n 0, 1) := by decide +kernel
theorem dJ0_checkIndex_df160_1 : decode cJ0_checkIndex_df160 1 = .ok (.iload_n 1, 1) := by decide +kernel
theorem dJ0_checkIndex_df160_2 : decode cJ0_checkIndex_df160 2 = .ok (.getstatic 1053, 3) := by decide +kernel
theorem dJ0_checkIndex_df160_5 : decode cJ0_checkIndex_df160 5 = .ok (.invokestatic 1059, 3) := by decide +kernel
theorem dJ0_checkIndex_df160_8 : decode cJ0_checkIndex_df160 8 = .ok (.pop, 1) := by decide +kernel
theorem dJ0_checkIndex_df160_9 : decode cJ0_checkIndex_df160 9 = .ok (.return_, 1) := by decide +kernel
set_option maxRecDepth 20000 in
theorem ggJ1_charAt_3b067_J0_checkIndex_df160 : GoodIn wsJ1_charAt_3b067 wsJ0_checkIndex_df160 := goodIn_r _ [4, 5, 6, 7, 8, 9] (by decide +kernel) (by decide +kernel)
set_option maxRecDepth 20000 in
theorem gJ1_charAt_3b067_J0_checkIndex_df160 : GoodIn wsJ1_charAt_3b067 (va_wsS RJ1 9 yJ0_checkIndex_df160 wsJ0_checkIndex_df160) := goodIn_app (goodIn_of _ (by decide +kernel)) ggJ1_charAt_3b067_J0_checkIndex_df160
theorem dJ1_charAt_3b067_0 : decode cJ1_charAt_3b067 0 = .ok (.iload_n 1, 1) := by decide +kernel
theorem dJ1_charAt_3b067_1 : decode cJ1_charAt_3b067 1 = .ok (.aload_n 0, 1) := by decide +kernel
theorem dJ1_charAt_3b067_2 : decode cJ1_charAt_3b067 2 = .ok (.arraylength, 1) := by decide +kernel
theorem dJ1_charAt_3b067_3 : decode cJ1_charAt_3b067 3 = .ok (.invokestatic 9, 3) := by decide +kernel
theorem dJ1_charAt_3b067_6 : decode cJ1_charAt_3b067 6 = .ok (.aload_n 0, 1) := by decide +kernel
theorem dJ1_charAt_3b067_7 : decode cJ1_charAt_3b067 7 = .ok (.iload_n 1, 1) := by decide +kernel
theorem dJ1_charAt_3b067_8 : decode cJ1_charAt_3b067 8 = .ok (.baload, 1) := by decide +kernel
theorem dJ1_charAt_3b067_9 : decode cJ1_charAt_3b067 9 = .ok (.sipush 255, 3) := by decide +kernel
theorem dJ1_charAt_3b067_12 : decode cJ1_charAt_3b067 12 = .ok (.iand, 1) := by decide +kernel
theorem dJ1_charAt_3b067_13 : decode cJ1_charAt_3b067 13 = .ok (.i2c, 1) := by decide +kernel
theorem dJ1_charAt_3b067_14 : decode cJ1_charAt_3b067 14 = .ok (.ireturn, 1) := by decide +kernel
set_option maxRecDepth 20000 in
theorem ggJ2_getChar_3b067_J2_length_9d52b : GoodIn wsJ2_getChar_3b067 wsJ2_length_9d52b := goodIn_r _ [7] (by decide +kernel) (by decide +kernel)
set_option maxRecDepth 20000 in
theorem gJ2_getChar_3b067_J2_length_9d52b : GoodIn wsJ2_getChar_3b067 (va_wsS RJ2 48 yJ2_length_9d52b wsJ2_length_9d52b) := goodIn_app (goodIn_of _ (by decide +kernel)) ggJ2_getChar_3b067_J2_length_9d52b
theorem dJ2_getChar_3b067_0 : decode cJ2_getChar_3b067 0 = .ok (.getstatic 44, 3) := by decide +kernel
theorem dJ2_getChar_3b067_3 : decode cJ2_getChar_3b067 3 = .ok (.ifCond .ne 25, 3) := by decide +kernel
theorem dJ2_getChar_3b067_6 : decode cJ2_getChar_3b067 6 = .ok (.iload_n 1, 1) := by decide +kernel
theorem dJ2_getChar_3b067_7 : decode cJ2_getChar_3b067 7 = .ok (.ifCond .lt 11, 3) := by decide +kernel
theorem dJ2_getChar_3b067_10 : decode cJ2_getChar_3b067 10 = .ok (.iload_n 1, 1) := by decide +kernel
theorem dJ2_getChar_3b067_11 : decode cJ2_getChar_3b067 11 = .ok (.aload_n 0, 1) := by decide +kernel
theorem dJ2_getChar_3b067_12 : decode cJ2_getChar_3b067 12 = .ok (.invokestatic 48, 3) := by decide +kernel
theorem dJ2_getChar_3b067_15 : decode cJ2_getChar_3b067 15 = .ok (.if_icmp .lt 13, 3) := by decide +kernel
theorem dJ2_getChar_3b067_18 : decode cJ2_getChar_3b067 18 = .ok (.new 52, 3) := by decide +kernel
theorem dJ2_getChar_3b067_21 : decode cJ2_getChar_3b067 21 = .ok (.dup, 1) := by decide +kernel
theorem dJ2_getChar_3b067_22 : decode cJ2_getChar_3b067 22 = .ok (.ldc 54, 2) := by decide +kernel
theorem dJ2_getChar_3b067_24 : decode cJ2_getChar_3b067 24 = .ok (.invokespecial 56, 3) := by decide +kernel
theorem dJ2_getChar_3b067_27 : decode cJ2_getChar_3b067 27 = .ok (.athrow, 1) := by decide +kernel
theorem dJ2_getChar_3b067_28 : decode cJ2_getChar_3b067 28 = .ok (.iload_n 1, 1) := by decide +kernel
theorem dJ2_getChar_3b067_29 : decode cJ2_getChar_3b067 29 = .ok (.iconst 1, 1) := by decide +kernel
theorem dJ2_getChar_3b067_30 : decode cJ2_getChar_3b067 30 = .ok (.ishl, 1) := by decide +kernel
theorem dJ2_getChar_3b067_31 : decode cJ2_getChar_3b067 31 = .ok (.istore_n 1, 1) := by decide +kernel
theorem dJ2_getChar_3b067_32 : decode cJ2_getChar_3b067 32 = .ok (.aload_n 0, 1) := by decide +kernel
theorem dJ2_getChar_3b067_33 : decode cJ2_getChar_3b067 33 = .ok (.iload_n 1, 1) := by decide +kernel
theorem dJ2_getChar_3b067_34 : decode cJ2_getChar_3b067 34 = .ok (.iinc 1 1, 3) := by decide +kernel
theorem dJ2_getChar_3b067_37 : decode cJ2_getChar_3b067 37 = .ok (.baload, 1) := by decide +kernel
theorem dJ2_getChar_3b067_38 : decode cJ2_getChar_3b067 38 = .ok (.sipush 255, 3) := by decide +kernel
theorem dJ2_getChar_3b067_41 : decode cJ2_getChar_3b067 41 = .ok (.iand, 1) := by decide +kernel
theorem dJ2_getChar_3b067_42 : decode cJ2_getChar_3b067 42 = .ok (.getstatic 59, 3) := by decide +kernel
theorem dJ2_getChar_3b067_45 : decode cJ2_getChar_3b067 45 = .ok (.ishl, 1) := by decide +kernel
theorem dJ2_getChar_3b067_46 : decode cJ2_getChar_3b067 46 = .ok (.aload_n 0, 1) := by decide +kernel
theorem dJ2_getChar_3b067_47 : decode cJ2_getChar_3b067 47 = .ok (.iload_n 1, 1) := by decide +kernel
theorem dJ2_getChar_3b067_48 : decode cJ2_getChar_3b067 48 = .ok (.baload, 1) := by decide +kernel
theorem dJ2_getChar_3b067_49 : decode cJ2_getChar_3b067 49 = .ok (.sipush 255, 3) := by decide +kernel
theorem dJ2_getChar_3b067_52 : decode cJ2_getChar_3b067 52 = .ok (.iand, 1) := by decide +kernel
theorem dJ2_getChar_3b067_53 : decode cJ2_getChar_3b067 53 = .ok (.getstatic 63, 3) := by decide +kernel
theorem dJ2_getChar_3b067_56 : decode cJ2_getChar_3b067 56 = .ok (.ishl, 1) := by decide +kernel
theorem dJ2_getChar_3b067_57 : decode cJ2_getChar_3b067 57 = .ok (.ior, 1) := by decide +kernel
theorem dJ2_getChar_3b067_58 : decode cJ2_getChar_3b067 58 = .ok (.i2c, 1) := by decide +kernel
theorem dJ2_getChar_3b067_59 : decode cJ2_getChar_3b067 59 = .ok (.ireturn, 1) := by decide +kernel
theorem dJ2_length_9d52b_0 : decode cJ2_length_9d52b 0 = .ok (.aload_n 0, 1) := by decide +kernel
theorem dJ2_length_9d52b_1 : decode cJ2_length_9d52b 1 = .ok (.arraylength, 1) := by decide +kernel
theorem dJ2_length_9d52b_2 : decode cJ2_length_9d52b 2 = .ok (.iconst 1, 1) := by decide +kernel
theorem dJ2_length_9d52b_3 : decode cJ2_length_9d52b 3 = .ok (.ishr, 1) := by decide +kernel
theorem dJ2_length_9d52b_4 : decode cJ2_length_9d52b 4 = .ok (.ireturn, 1) := by decide +kernel
set_option maxRecDepth 20000 in
theorem ggJ2_charAt_3b067_J2_checkIndex_2214a : GoodIn wsJ2_charAt_3b067 wsJ2_checkIndex_2214a := goodIn_r _ [4, 5, 6, 3, 7, 8, 9, 10, 11, 12, 13, 14, 15, 16] (by decide +kernel) (by decide +kernel)
set_option maxRecDepth 20000 in
theorem gJ2_charAt_3b067_J2_checkIndex_2214a : GoodIn wsJ2_charAt_3b067 (va_wsS RJ2 67 yJ2_checkIndex_2214a wsJ2_checkIndex_2214a) := goodIn_app (goodIn_of _ (by decide +kernel)) ggJ2_charAt_3b067_J2_checkIndex_2214a
set_option maxRecDepth 20000 in
theorem ggJ2_charAt_3b067_J2_getChar_3b067 : GoodIn wsJ2_charAt_3b067 wsJ2_getChar_3b067 := goodIn_r _ [19, 20, 21, 22, 5, 6, 3, 7] (by decide +kernel) (by decide +kernel)
set_option maxRecDepth 20000 in
theorem gJ2_charAt_3b067_J2_getChar_3b067 : GoodIn wsJ2_charAt_3b067 (va_wsS RJ2 71 yJ2_getChar_3b067 wsJ2_getChar_3b067) := goodIn_app (goodIn_of _ (by decide +kernel)) ggJ2_charAt_3b067_J2_getChar_3b067
theorem dJ2_charAt_3b067_0 : decode cJ2_charAt_3b067 0 = .ok (.iload_n 1, 1) := by decide +kernel
theorem dJ2_charAt_3b067_1 : decode cJ2_charAt_3b067 1 = .ok (.aload_n 0, 1) := by decide +kernel
theorem dJ2_charAt_3b067_2 : decode cJ2_charAt_3b067 2 = .ok (.invokestatic 67, 3) := by decide +kernel
theorem dJ2_charAt_3b067_5 : decode cJ2_charAt_3b067 5 = .ok (.aload_n 0, 1) := by decide +kernel
theorem dJ2_charAt_3b067_6 : decode cJ2_charAt_3b067 6 = .ok (.iload_n 1, 1) := by decide +kernel
theorem dJ2_charAt_3b067_7 : decode cJ2_charAt_3b067 7 = .ok (.invokestatic 71, 3) := by decide +kernel
theorem dJ2_charAt_3b067_10 : decode cJ2_charAt_3b067 10 = .ok (.ireturn, 1) := by decide +kernel
set_option maxRecDepth 20000 in
theorem ggJ2_checkIndex_2214a_J2_length_9d52b : GoodIn wsJ2_checkIndex_2214a wsJ2_length_9d52b := goodIn_r _ [4] (by decide +kernel) (by decide +kernel)
set_option maxRecDepth 20000 in
theorem gJ2_checkIndex_2214a_J2_length_9d52b : GoodIn wsJ2_checkIndex_2214a (va_wsS RJ2 48 yJ2_length_9d52b wsJ2_length_9d52b) := goodIn_app (goodIn_of _ (by decide +kernel)) ggJ2_checkIndex_2214a_J2_length_9d52b
set_option maxRecDepth 20000 in
theorem ggJ2_checkIndex_2214a_J0_checkIndex_df160 : GoodIn wsJ2_checkIndex_2214a wsJ0_checkIndex_df160 := goodIn_r _ [8, 9, 10, 11, 12, 13] (by decide +kernel) (by decide +kernel)
set_option maxRecDepth 20000 in
theorem gJ2_checkIndex_2214a_J0_checkIndex_df160 : GoodIn wsJ2_checkIndex_2214a (va_wsS RJ2 414 yJ0_checkIndex_df160 wsJ0_checkIndex_df160) := goodIn_app (goodIn_of _ (by decide +kernel)) ggJ2_checkIndex_2214a_J0_checkIndex_df160
theorem dJ2_checkIndex_2214a_0 : decode cJ2_checkIndex_2214a 0 = .ok (.iload_n 0, 1) := by decide +kernel
theorem dJ2_checkIndex_2214a_1 : decode cJ2_checkIndex_2214a 1 = .ok (.aload_n 1, 1) := by decide +kernel
theorem dJ2_checkIndex_2214a_2 : decode cJ2_checkIndex_2214a 2 = .ok (.invokestatic 48, 3) := by decide +kernel
theorem dJ2_checkIndex_2214a_5 : decode cJ2_checkIndex_2214a 5 = .ok (.invokestatic 414, 3) := by decide +kernel
theorem dJ2_checkIndex_2214a_8 : decode cJ2_checkIndex_2214a 8 = .ok (.return_, 1) := by decide +kernel
theorem dJ3_checkIndex_8e157_0 : decode cJ3_checkIndex_8e157 0 = .ok (.iload_n 0, 1) := by decide +kernel
theorem dJ3_checkIndex_8e157_1 : decode cJ3_checkIndex_8e157 1 = .ok (.ifCond .lt 8, 3) := by decide +kernel
theorem dJ3_checkIndex_8e157_4 : decode cJ3_checkIndex_8e157 4 = .ok (.iload_n 0, 1) := by decide +kernel
theorem dJ3_checkIndex_8e157_5 : decode cJ3_checkIndex_8e157 5 = .ok (.iload_n 1, 1) := by decide +kernel
theorem dJ3_checkIndex_8e157_6 : decode cJ3_checkIndex_8e157 6 = .ok (.if_icmp .lt 10, 3) := by decide +kernel
theorem dJ3_checkIndex_8e157_9 : decode cJ3_checkIndex_8e157 9 = .ok (.aload_n 2, 1) := by decide +kernel
theorem dJ3_checkIndex_8e157_10 : decode cJ3_checkIndex_8e157 10 = .ok (.iload_n 0, 1) := by decide +kernel
theorem dJ3_checkIndex_8e157_11 : decode cJ3_checkIndex_8e157 11 = .ok (.iload_n 1, 1) := by decide +kernel
theorem dJ3_checkIndex_8e157_12 : decode cJ3_checkIndex_8e157 12 = .ok (.invokestatic 95, 3) := by decide +kernel
theorem dJ3_checkIndex_8e157_15 : decode cJ3_checkIndex_8e157 15 = .ok (.athrow, 1) := by decide +kernel
theorem dJ3_checkIndex_8e157_16 : decode cJ3_checkIndex_8e157 16 = .ok (.iload_n 0, 1) := by decide +kernel
theorem dJ3_checkIndex_8e157_17 : decode cJ3_checkIndex_8e157 17 = .ok (.ireturn, 1) := by decide +kernel
end
section
theorem dX3_init_0 : decode cX3_init 0 = .ok (.aload_n 0, 1) := by decide +kernel
theorem dX3_init_1 : decode cX3_init 1 = .ok (.invokespecial 3, 3) := by decide +kernel
theorem dX3_init_4 : decode cX3_init 4 = .ok (.aload_n 0, 1) := by decide +kernel
theorem dX3_init_5 : decode cX3_init 5 = .ok (.sipush 300, 3) := by decide +kernel
theorem dX3_init_8 : decode cX3_init 8 = .ok (.newarray .byte, 2) := by decide +kernel
theorem dX3_init_10 : decode cX3_init 10 = .ok (.putfield 9, 3) := by decide +kernel
theorem dX3_init_13 : decode cX3_init 13 = .ok (.return_, 1) := by decide +kernel
theorem dX3_append_0 : decode cX3_append 0 = .ok (.aload_n 0, 1) := by decide +kernel
theorem dX3_append_1 : decode cX3_append 1 = .ok (.getfield 15, 3) := by decide +kernel
theorem dX3_append_4 : decode cX3_append 4 = .ok (.aload_n 0, 1) := by decide +kernel
theorem dX3_append_5 : decode cX3_append 5 = .ok (.getfield 9, 3) := by decide +kernel
theorem dX3_append_8 : decode cX3_append 8 = .ok (.arraylength, 1) := by decide +kernel
theorem dX3_append_9 : decode cX3_append 9 = .ok (.if_icmp .ge 24, 3) := by decide +kernel
theorem dX3_append_12 : decode cX3_append 12 = .ok (.aload_n 0, 1) := by decide +kernel
theorem dX3_append_13 : decode cX3_append 13 = .ok (.getfield 9, 3) := by decide +kernel
theorem dX3_append_16 : decode cX3_append 16 = .ok (.aload_n 0, 1) := by decide +kernel
theorem dX3_append_17 : decode cX3_append 17 = .ok (.getfield 15, 3) := by decide +kernel
theorem dX3_append_20 : decode cX3_append 20 = .ok (.iload_n 1, 1) := by decide +kernel
theorem dX3_append_21 : decode cX3_append 21 = .ok (.i2b, 1) := by decide +kernel
theorem dX3_append_22 : decode cX3_append 22 = .ok (.bastore, 1) := by decide +kernel
theorem dX3_append_23 : decode cX3_append 23 = .ok (.aload_n 0, 1) := by decide +kernel
theorem dX3_append_24 : decode cX3_append 24 = .ok (.dup, 1) := by decide +kernel
theorem dX3_append_25 : decode cX3_append 25 = .ok (.getfield 15, 3) := by decide +kernel
theorem dX3_append_28 : decode cX3_append 28 = .ok (.iconst 1, 1) := by decide +kernel
theorem dX3_append_29 : decode cX3_append 29 = .ok (.iadd, 1) := by decide +kernel
theorem dX3_append_30 : decode cX3_append 30 = .ok (.putfield 15, 3) := by decide +kernel
theorem dX3_append_33 : decode cX3_append 33 = .ok (.return_, 1) := by decide +kernel
set_option maxRecDepth 20000 in
theorem ggX3_parse_X3_isNext : GoodIn wsX3_parse wsX3_isNext := goodIn_r _ [7, 1, 2, 8, 94, 95, 96] (by decide +kernel) (by decide +kernel)
set_option maxRecDepth 20000 in
theorem gX3_parse_X3_isNext : GoodIn wsX3_parse (wsV RX3 22 RX3 yX3_isNext wsX3_isNext) := goodIn_app (goodIn_of _ (by decide +kernel)) ggX3_parse_X3_isNext
set_option maxRecDepth 20000 in
theorem ggX3_parse_X3_parseBent : GoodIn wsX3_parse wsX3_parseBent := goodIn_r _ [12, 1, 13, 14, 15, 6, 16, 3, 4, 5, 7, 2, 8, 17, 18, 19, 20, 21, 22, 23, 24, 25, 26, 27, 28, 29, 30, 31, 32, 33, 34, 35, 36, 37, 38, 39, 40, 41, 42, 43, 44, 45, 46, 47, 48, 49, 50, 51, 52, 53, 54, 55, 56, 57, 58, 59, 60, 61, 62, 63, 64, 65, 66, 67, 68, 69, 70, 71, 72, 73, 74, 75, 76, 77, 78, 79, 80, 81, 82, 83, 84, 85, 86, 87, 88, 89, 94, 95, 96, 97, 98, 99, 100] (by decide +kernel) (by decide +kernel)
set_option maxRecDepth 20000 in
theorem gX3_parse_X3_parseBent : GoodIn wsX3_parse (wsV RX3 26 RX3 yX3_parseBent wsX3_parseBent) := goodIn_app (goodIn_of _ (by decide +kernel)) ggX3_parse_X3_parseBent
set_option maxRecDepth 20000 in
theorem ggX3_parse_X3_parsePlain : GoodIn wsX3_parse wsX3_parsePlain := goodIn_r _ [93, 1, 2, 17, 18, 19, 6, 20, 21, 22, 23, 24, 3, 4, 5, 7, 8, 25, 26, 27, 28, 82, 83, 84, 85, 86, 87, 88, 89, 29, 30, 31, 32, 33, 34, 35, 36, 37, 38, 39, 40, 41, 42, 43, 44, 45, 46, 47, 48, 49, 50, 51, 52, 53, 54, 55, 56, 57, 58, 59, 60, 61, 62, 63, 64, 65, 66, 67, 68, 69, 70, 71, 72, 73, 74, 75, 76, 77, 78, 79, 80, 81, 94, 95, 96, 97, 98, 99, 100] (by decide +kernel) (by decide +kernel)
set_option maxRecDepth 20000 in
theorem gX3_parse_X3_parsePlain : GoodIn wsX3_parse (wsV RX3 30 RX3 yX3_parsePlain wsX3_parsePlain) := goodIn_app (goodIn_of _ (by decide +kernel)) ggX3_parse_X3_parsePlain
theorem dX3_parse_0 : decode cX3_parse 0 = .ok (.aload_n 0, 1) := by decide +kernel
theorem dX3_parse_1 : decode cX3_parse 1 = .ok (.iconst 0, 1) := by decide +kernel
theorem dX3_parse_2 : decode cX3_parse 2 = .ok (.putfield 19, 3) := by decide +kernel
theorem dX3_parse_5 : decode cX3_parse 5 = .ok (.aload_n 0, 1) := by decide +kernel
theorem dX3_parse_6 : decode cX3_parse 6 = .ok (.bipush 91, 2) := by decide +kernel
theorem dX3_parse_8 : decode cX3_parse 8 = .ok (.invokevirtual 22, 3) := by decide +kernel
theorem dX3_parse_11 : decode cX3_parse 11 = .ok (.ifCond .eq 11, 3) := by decide +kernel
theorem dX3_parse_14 : decode cX3_parse 14 = .ok (.aload_n 0, 1) := by decide +kernel
theorem dX3_parse_15 : decode cX3_parse 15 = .ok (.aload_n 1, 1) := by decide +kernel
theorem dX3_parse_16 : decode cX3_parse 16 = .ok (.invokevirtual 26, 3) := by decide +kernel
theorem dX3_parse_19 : decode cX3_parse 19 = .ok (.goto 8, 3) := by decide +kernel
theorem dX3_parse_22 : decode cX3_parse 22 = .ok (.aload_n 0, 1) := by decide +kernel
theorem dX3_parse_23 : decode cX3_parse 23 = .ok (.aload_n 1, 1) := by decide +kernel
theorem dX3_parse_24 : decode cX3_parse 24 = .ok (.invokevirtual 30, 3) := by decide +kernel
theorem dX3_parse_27 : decode cX3_parse 27 = .ok (.istore_n 2, 1) := by decide +kernel
theorem dX3_parse_28 : decode cX3_parse 28 = .ok (.iload_n 2, 1) := by decide +kernel
theorem dX3_parse_29 : decode cX3_parse 29 = .ok (.ifCond .eq 18, 3) := by decide +kernel
theorem dX3_parse_32 : decode cX3_parse 32 = .ok (.aload_n 0, 1) := by decide +kernel
theorem dX3_parse_33 : decode cX3_parse 33 = .ok (.getfield 19, 3) := by decide +kernel
theorem dX3_parse_36 : decode cX3_parse 36 = .ok (.aload_n 0, 1) := by decide +kernel
theorem dX3_parse_37 : decode cX3_parse 37 = .ok (.getfield 15, 3) := by decide +kernel
theorem dX3_parse_40 : decode cX3_parse 40 = .ok (.if_icmp .ne 7, 3) := by decide +kernel
theorem dX3_parse_43 : decode cX3_parse 43 = .ok (.iconst 1, 1) := by decide +kernel
theorem dX3_parse_44 : decode cX3_parse 44 = .ok (.goto 4, 3) := by decide +kernel
theorem dX3_parse_47 : decode cX3_parse 47 = .ok (.iconst 0, 1) := by decide +kernel
theorem dX3_parse_48 : decode cX3_parse 48 = .ok (.ireturn, 1) := by decide +kernel
set_option maxRecDepth 20000 in
theorem ggX3_parsePlain_X3_parseNumber : GoodIn wsX3_parsePlain wsX3_parseNumber := goodIn_r _ [7, 1, 8, 9, 10, 11, 12, 13, 14, 6, 15, 2, 16, 17, 18, 19, 20, 82, 83, 84, 85, 86, 87, 88] (by decide +kernel) (by decide +kernel)
set_option maxRecDepth 20000 in
theorem gX3_parsePlain_X3_parseNumber : GoodIn wsX3_parsePlain (wsV RX3 33 RX3 yX3_parseNumber wsX3_parseNumber) := goodIn_app (goodIn_of _ (by decide +kernel)) ggX3_parsePlain_X3_parseNumber
set_option maxRecDepth 20000 in
theorem ggX3_parsePlain_X2_form : GoodIn wsX3_parsePlain wsX2_form := goodIn_r _ [25, 26, 27, 28, 85, 86, 87, 88] (by decide +kernel) (by decide +kernel)
set_option maxRecDepth 20000 in
theorem gX3_parsePlain_X2_form : GoodIn wsX3_parsePlain (wsV RX3 37 RX2 yX2_form wsX2_form) := goodIn_app (goodIn_of _ (by decide +kernel)) ggX3_parsePlain_X2_form
set_option maxRecDepth 20000 in
theorem ggX3_parsePlain_X3_parseWord : GoodIn wsX3_parsePlain wsX3_parseWord := goodIn_r _ [32, 1, 33, 34, 35, 36, 37, 38, 39, 40, 41, 42, 43, 44, 45, 46, 47, 48, 49, 50, 51, 52, 53, 54, 55, 56, 57, 58, 59, 60, 61, 62, 63, 64, 65, 66, 67, 68, 69, 70, 71, 72, 73, 74, 75, 76, 77, 78, 79, 80, 81, 12, 13, 14, 6, 15, 2, 16, 82, 83, 84] (by decide +kernel) (by decide +kernel)
set_option maxRecDepth 20000 in
theorem gX3_parsePlain_X3_parseWord : GoodIn wsX3_parsePlain (wsV RX3 45 RX3 yX3_parseWord wsX3_parseWord) := goodIn_app (goodIn_of _ (by decide +kernel)) ggX3_parsePlain_X3_parseWord
set_option maxRecDepth 20000 in
theorem ggX3_parsePlain_X3_isNext : GoodIn wsX3_parsePlain wsX3_isNext := goodIn_r _ [15, 1, 2, 16, 82, 83, 84] (by decide +kernel) (by decide +kernel)
set_option maxRecDepth 20000 in
theorem gX3_parsePlain_X3_isNext : GoodIn wsX3_parsePlain (wsV RX3 22 RX3 yX3_isNext wsX3_isNext) := goodIn_app (goodIn_of _ (by decide +kernel)) ggX3_parsePlain_X3_isNext
theorem dX3_parsePlain_0 : decode cX3_parsePlain 0 = .ok (.aload_n 0, 1) := by decide +kernel
theorem dX3_parsePlain_1 : decode cX3_parsePlain 1 = .ok (.aload_n 1, 1) := by decide +kernel
theorem dX3_parsePlain_2 : decode cX3_parsePlain 2 = .ok (.iconst 0, 1) := by decide +kernel
theorem dX3_parsePlain_3 : decode cX3_parsePlain 3 = .ok (.invokevirtual 33, 3) := by decide +kernel
theorem dX3_parsePlain_6 : decode cX3_parsePlain 6 = .ok (.ifCond .ne 5, 3) := by decide +kernel
theorem dX3_parsePlain_9 : decode cX3_parsePlain 9 = .ok (.iconst 0, 1) := by decide +kernel
theorem dX3_parsePlain_10 : decode cX3_parsePlain 10 = .ok (.ireturn, 1) := by decide +kernel
theorem dX3_parsePlain_11 : decode cX3_parsePlain 11 = .ok (.aload_n 0, 1) := by decide +kernel
theorem dX3_parsePlain_12 : decode cX3_parsePlain 12 = .ok (.getfield 19, 3) := by decide +kernel
theorem dX3_parsePlain_15 : decode cX3_parsePlain 15 = .ok (.aload_n 0, 1) := by decide +kernel
theorem dX3_parsePlain_16 : decode cX3_parsePlain 16 = .ok (.getfield 15, 3) := by decide +kernel
theorem dX3_parsePlain_19 : decode cX3_parsePlain 19 = .ok (.if_icmp .ne 12, 3) := by decide +kernel
theorem dX3_parsePlain_22 : decode cX3_parsePlain 22 = .ok (.aload_n 1, 1) := by decide +kernel
theorem dX3_parsePlain_23 : decode cX3_parsePlain 23 = .ok (.iconst 0, 1) := by decide +kernel
theorem dX3_parsePlain_24 : decode cX3_parsePlain 24 = .ok (.iconst 0, 1) := by decide +kernel
theorem dX3_parsePlain_25 : decode cX3_parsePlain 25 = .ok (.iconst 1, 1) := by decide +kernel
theorem dX3_parsePlain_26 : decode cX3_parsePlain 26 = .ok (.invokevirtual 37, 3) := by decide +kernel
theorem dX3_parsePlain_29 : decode cX3_parsePlain 29 = .ok (.iconst 1, 1) := by decide +kernel
theorem dX3_parsePlain_30 : decode cX3_parsePlain 30 = .ok (.ireturn, 1) := by decide +kernel
theorem dX3_parsePlain_31 : decode cX3_parsePlain 31 = .ok (.aload_n 0, 1) := by decide +kernel
theorem dX3_parsePlain_32 : decode cX3_parsePlain 32 = .ok (.ldc 43, 2) := by decide +kernel
theorem dX3_parsePlain_34 : decode cX3_parsePlain 34 = .ok (.invokevirtual 45, 3) := by decide +kernel
theorem dX3_parsePlain_37 : decode cX3_parsePlain 37 = .ok (.ifCond .eq 12, 3) := by decide +kernel
theorem dX3_parsePlain_40 : decode cX3_parsePlain 40 = .ok (.aload_n 0, 1) := by decide +kernel
theorem dX3_parsePlain_41 : decode cX3_parsePlain 41 = .ok (.aload_n 1, 1) := by decide +kernel
theorem dX3_parsePlain_42 : decode cX3_parsePlain 42 = .ok (.iconst 1, 1) := by decide +kernel
theorem dX3_parsePlain_43 : decode cX3_parsePlain 43 = .ok (.invokevirtual 33, 3) := by decide +kernel
theorem dX3_parsePlain_46 : decode cX3_parsePlain 46 = .ok (.ifCond .ne 5, 3) := by decide +kernel
theorem dX3_parsePlain_49 : decode cX3_parsePlain 49 = .ok (.iconst 0, 1) := by decide +kernel
theorem dX3_parsePlain_50 : decode cX3_parsePlain 50 = .ok (.ireturn, 1) := by decide +kernel
theorem dX3_parsePlain_51 : decode cX3_parsePlain 51 = .ok (.aload_n 0, 1) := by decide +kernel
theorem dX3_parsePlain_52 : decode cX3_parsePlain 52 = .ok (.bipush 109, 2) := by decide +kernel
theorem dX3_parsePlain_54 : decode cX3_parsePlain 54 = .ok (.invokevirtual 22, 3) := by decide +kernel
theorem dX3_parsePlain_57 : decode cX3_parsePlain 57 = .ok (.ifCond .ne 17, 3) := by decide +kernel
theorem dX3_parsePlain_60 : decode cX3_parsePlain 60 = .ok (.aload_n 1, 1) := by decide +kernel
theorem dX3_parsePlain_61 : decode cX3_parsePlain 61 = .ok (.iconst 1, 1) := by decide +kernel
theorem dX3_parsePlain_62 : decode cX3_parsePlain 62 = .ok (.iconst 1, 1) := by decide +kernel
theorem dX3_parsePlain_63 : decode cX3_parsePlain 63 = .ok (.iconst 2, 1) := by decide +kernel
theorem dX3_parsePlain_64 : decode cX3_parsePlain 64 = .ok (.invokevirtual 37, 3) := by decide +kernel
theorem dX3_parsePlain_67 : decode cX3_parsePlain 67 = .ok (.aload_n 0, 1) := by decide +kernel
theorem dX3_parsePlain_68 : decode cX3_parsePlain 68 = .ok (.ldc 49, 2) := by decide +kernel
theorem dX3_parsePlain_70 : decode cX3_parsePlain 70 = .ok (.invokevirtual 45, 3) := by decide +kernel
theorem dX3_parsePlain_73 : decode cX3_parsePlain 73 = .ok (.ireturn, 1) := by decide +kernel
theorem dX3_parsePlain_74 : decode cX3_parsePlain 74 = .ok (.aload_n 1, 1) := by decide +kernel
theorem dX3_parsePlain_75 : decode cX3_parsePlain 75 = .ok (.iconst 2, 1) := by decide +kernel
theorem dX3_parsePlain_76 : decode cX3_parsePlain 76 = .ok (.iconst 1, 1) := by decide +kernel
theorem dX3_parsePlain_77 : decode cX3_parsePlain 77 = .ok (.iconst 3, 1) := by decide +kernel
theorem dX3_parsePlain_78 : decode cX3_parsePlain 78 = .ok (.invokevirtual 37, 3) := by decide +kernel
theorem dX3_parsePlain_81 : decode cX3_parsePlain 81 = .ok (.aload_n 0, 1) := by decide +kernel
theorem dX3_parsePlain_82 : decode cX3_parsePlain 82 = .ok (.ldc 51, 2) := by decide +kernel
theorem dX3_parsePlain_84 : decode cX3_parsePlain 84 = .ok (.invokevirtual 45, 3) := by decide +kernel
theorem dX3_parsePlain_87 : decode cX3_parsePlain 87 = .ok (.ifCond .eq 25, 3) := by decide +kernel
theorem dX3_parsePlain_90 : decode cX3_parsePlain 90 = .ok (.aload_n 0, 1) := by decide +kernel
theorem dX3_parsePlain_91 : decode cX3_parsePlain 91 = .ok (.aload_n 1, 1) := by decide +kernel
theorem dX3_parsePlain_92 : decode cX3_parsePlain 92 = .ok (.iconst 2, 1) := by decide +kernel
theorem dX3_parsePlain_93 : decode cX3_parsePlain 93 = .ok (.invokevirtual 33, 3) := by decide +kernel
theorem dX3_parsePlain_96 : decode cX3_parsePlain 96 = .ok (.ifCond .eq 16, 3) := by decide +kernel
theorem dX3_parsePlain_99 : decode cX3_parsePlain 99 = .ok (.aload_n 0, 1) := by decide +kernel
theorem dX3_parsePlain_100 : decode cX3_parsePlain 100 = .ok (.ldc 49, 2) := by decide +kernel
theorem dX3_parsePlain_102 : decode cX3_parsePlain 102 = .ok (.invokevirtual 45, 3) := by decide +kernel
theorem dX3_parsePlain_105 : decode cX3_parsePlain 105 = .ok (.ifCond .eq 7, 3) := by decide +kernel
theorem dX3_parsePlain_108 : decode cX3_parsePlain 108 = .ok (.iconst 1, 1) := by decide +kernel
theorem dX3_parsePlain_109 : decode cX3_parsePlain 109 = .ok (.goto 4, 3) := by decide +kernel
theorem dX3_parsePlain_112 : decode cX3_parsePlain 112 = .ok (.iconst 0, 1) := by decide +kernel
theorem dX3_parsePlain_113 : decode cX3_parsePlain 113 = .ok (.ireturn, 1) := by decide +kernel
set_option maxRecDepth 20000 in
theorem ggX3_parseBent_X3_parseList : GoodIn wsX3_parseBent wsX3_parseList := goodIn_r _ [6, 1, 7, 8, 9, 5, 10, 11, 12, 13, 14, 15, 16, 17, 18, 19, 20, 21, 22, 23, 24, 86, 87, 88, 89, 90, 91, 92] (by decide +kernel) (by decide +kernel)
set_option maxRecDepth 20000 in
theorem gX3_parseBent_X3_parseList : GoodIn wsX3_parseBent (wsV RX3 53 RX3 yX3_parseList wsX3_parseList) := goodIn_app (goodIn_of _ (by decide +kernel)) ggX3_parseBent_X3_parseList
set_option maxRecDepth 20000 in
theorem ggX3_parseBent_X3_parseWord : GoodIn wsX3_parseBent wsX3_parseWord := goodIn_r _ [28, 1, 29, 30, 31, 32, 33, 34, 35, 36, 37, 38, 39, 40, 41, 42, 43, 44, 45, 46, 47, 48, 49, 50, 51, 52, 53, 54, 55, 56, 57, 58, 59, 60, 61, 62, 63, 64, 65, 66, 67, 68, 69, 70, 71, 72, 73, 74, 75, 76, 77, 7, 8, 9, 5, 10, 11, 12, 86, 87, 88] (by decide +kernel) (by decide +kernel)
set_option maxRecDepth 20000 in
theorem gX3_parseBent_X3_parseWord : GoodIn wsX3_parseBent (wsV RX3 45 RX3 yX3_parseWord wsX3_parseWord) := goodIn_app (goodIn_of _ (by decide +kernel)) ggX3_parseBent_X3_parseWord
set_option maxRecDepth 20000 in
theorem ggX3_parseBent_X2_form : GoodIn wsX3_parseBent wsX2_form := goodIn_r _ [82, 83, 84, 85, 89, 90, 91, 92] (by decide +kernel) (by decide +kernel)
set_option maxRecDepth 20000 in
theorem gX3_parseBent_X2_form : GoodIn wsX3_parseBent (wsV RX3 37 RX2 yX2_form wsX2_form) := goodIn_app (goodIn_of _ (by decide +kernel)) ggX3_parseBent_X2_form
theorem dX3_parseBent_0 : decode cX3_parseBent 0 = .ok (.aload_n 0, 1) := by decide +kernel
theorem dX3_parseBent_1 : decode cX3_parseBent 1 = .ok (.dup, 1) := by decide +kernel
theorem dX3_parseBent_2 : decode cX3_parseBent 2 = .ok (.getfield 19, 3) := by decide +kernel
theorem dX3_parseBent_5 : decode cX3_parseBent 5 = .ok (.iconst 1, 1) := by decide +kernel
theorem dX3_parseBent_6 : decode cX3_parseBent 6 = .ok (.iadd, 1) := by decide +kernel
theorem dX3_parseBent_7 : decode cX3_parseBent 7 = .ok (.putfield 19, 3) := by decide +kernel
theorem dX3_parseBent_10 : decode cX3_parseBent 10 = .ok (.aload_n 0, 1) := by decide +kernel
theorem dX3_parseBent_11 : decode cX3_parseBent 11 = .ok (.aload_n 1, 1) := by decide +kernel
theorem dX3_parseBent_12 : decode cX3_parseBent 12 = .ok (.iconst 0, 1) := by decide +kernel
theorem dX3_parseBent_13 : decode cX3_parseBent 13 = .ok (.invokevirtual 53, 3) := by decide +kernel
theorem dX3_parseBent_16 : decode cX3_parseBent 16 = .ok (.istore_n 2, 1) := by decide +kernel
theorem dX3_parseBent_17 : decode cX3_parseBent 17 = .ok (.iload_n 2, 1) := by decide +kernel
theorem dX3_parseBent_18 : decode cX3_parseBent 18 = .ok (.iconst (-1), 1) := by decide +kernel
theorem dX3_parseBent_19 : decode cX3_parseBent 19 = .ok (.if_icmp .eq 12, 3) := by decide +kernel
theorem dX3_parseBent_22 : decode cX3_parseBent 22 = .ok (.aload_n 0, 1) := by decide +kernel
theorem dX3_parseBent_23 : decode cX3_parseBent 23 = .ok (.ldc 57, 2) := by decide +kernel
theorem dX3_parseBent_25 : decode cX3_parseBent 25 = .ok (.invokevirtual 45, 3) := by decide +kernel
theorem dX3_parseBent_28 : decode cX3_parseBent 28 = .ok (.ifCond .ne 5, 3) := by decide +kernel
theorem dX3_parseBent_31 : decode cX3_parseBent 31 = .ok (.iconst 0, 1) := by decide +kernel
theorem dX3_parseBent_32 : decode cX3_parseBent 32 = .ok (.ireturn, 1) := by decide +kernel
theorem dX3_parseBent_33 : decode cX3_parseBent 33 = .ok (.aload_n 0, 1) := by decide +kernel
theorem dX3_parseBent_34 : decode cX3_parseBent 34 = .ok (.aload_n 1, 1) := by decide +kernel
theorem dX3_parseBent_35 : decode cX3_parseBent 35 = .ok (.iload_n 2, 1) := by decide +kernel
theorem dX3_parseBent_36 : decode cX3_parseBent 36 = .ok (.invokevirtual 53, 3) := by decide +kernel
theorem dX3_parseBent_39 : decode cX3_parseBent 39 = .ok (.istore_n 3, 1) := by decide +kernel
theorem dX3_parseBent_40 : decode cX3_parseBent 40 = .ok (.iload_n 3, 1) := by decide +kernel
theorem dX3_parseBent_41 : decode cX3_parseBent 41 = .ok (.iconst (-1), 1) := by decide +kernel
theorem dX3_parseBent_42 : decode cX3_parseBent 42 = .ok (.if_icmp .eq 9, 3) := by decide +kernel
theorem dX3_parseBent_45 : decode cX3_parseBent 45 = .ok (.iload_n 2, 1) := by decide +kernel
theorem dX3_parseBent_46 : decode cX3_parseBent 46 = .ok (.iload_n 3, 1) := by decide +kernel
theorem dX3_parseBent_47 : decode cX3_parseBent 47 = .ok (.iadd, 1) := by decide +kernel
theorem dX3_parseBent_48 : decode cX3_parseBent 48 = .ok (.ifCond .ne 5, 3) := by decide +kernel
theorem dX3_parseBent_51 : decode cX3_parseBent 51 = .ok (.iconst 0, 1) := by decide +kernel
theorem dX3_parseBent_52 : decode cX3_parseBent 52 = .ok (.ireturn, 1) := by decide +kernel
theorem dX3_parseBent_53 : decode cX3_parseBent 53 = .ok (.aload_n 1, 1) := by decide +kernel
theorem dX3_parseBent_54 : decode cX3_parseBent 54 = .ok (.iconst 3, 1) := by decide +kernel
theorem dX3_parseBent_55 : decode cX3_parseBent 55 = .ok (.iload_n 2, 1) := by decide +kernel
theorem dX3_parseBent_56 : decode cX3_parseBent 56 = .ok (.iload_n 2, 1) := by decide +kernel
theorem dX3_parseBent_57 : decode cX3_parseBent 57 = .ok (.iload_n 3, 1) := by decide +kernel
theorem dX3_parseBent_58 : decode cX3_parseBent 58 = .ok (.iadd, 1) := by decide +kernel
theorem dX3_parseBent_59 : decode cX3_parseBent 59 = .ok (.invokevirtual 37, 3) := by decide +kernel
theorem dX3_parseBent_62 : decode cX3_parseBent 62 = .ok (.aload_n 0, 1) := by decide +kernel
theorem dX3_parseBent_63 : decode cX3_parseBent 63 = .ok (.ldc 59, 2) := by decide +kernel
theorem dX3_parseBent_65 : decode cX3_parseBent 65 = .ok (.invokevirtual 45, 3) := by decide +kernel
theorem dX3_parseBent_68 : decode cX3_parseBent 68 = .ok (.ireturn, 1) := by decide +kernel
set_option maxRecDepth 20000 in
theorem ggX3_parseList_X3_isNext : GoodIn wsX3_parseList wsX3_isNext := goodIn_r _ [6, 1, 7, 8, 21, 22, 23] (by decide +kernel) (by decide +kernel)
set_option maxRecDepth 20000 in
theorem gX3_parseList_X3_isNext : GoodIn wsX3_parseList (wsV RX3 22 RX3 yX3_isNext wsX3_isNext) := goodIn_app (goodIn_of _ (by decide +kernel)) ggX3_parseList_X3_isNext
set_option maxRecDepth 20000 in
theorem ggX3_parseList_X3_parseNumber : GoodIn wsX3_parseList wsX3_parseNumber := goodIn_r _ [12, 1, 13, 14, 15, 16, 2, 3, 4, 5, 6, 7, 8, 17, 18, 19, 20, 21, 22, 23, 24, 25, 26, 27] (by decide +kernel) (by decide +kernel)
set_option maxRecDepth 20000 in
theorem gX3_parseList_X3_parseNumber : GoodIn wsX3_parseList (wsV RX3 33 RX3 yX3_parseNumber wsX3_parseNumber) := goodIn_app (goodIn_of _ (by decide +kernel)) ggX3_parseList_X3_parseNumber
theorem dX3_parseList_0 : decode cX3_parseList 0 = .ok (.iconst 0, 1) := by decide +kernel
theorem dX3_parseList_1 : decode cX3_parseList 1 = .ok (.istore_n 3, 1) := by decide +kernel
theorem dX3_parseList_2 : decode cX3_parseList 2 = .ok (.aload_n 0, 1) := by decide +kernel
theorem dX3_parseList_3 : decode cX3_parseList 3 = .ok (.bipush 93, 2) := by decide +kernel
theorem dX3_parseList_5 : decode cX3_parseList 5 = .ok (.invokevirtual 22, 3) := by decide +kernel
theorem dX3_parseList_8 : decode cX3_parseList 8 = .ok (.ifCond .ne 7, 3) := by decide +kernel
theorem dX3_parseList_11 : decode cX3_parseList 11 = .ok (.iconst 1, 1) := by decide +kernel
theorem dX3_parseList_12 : decode cX3_parseList 12 = .ok (.goto 4, 3) := by decide +kernel
theorem dX3_parseList_15 : decode cX3_parseList 15 = .ok (.iconst 0, 1) := by decide +kernel
theorem dX3_parseList_16 : decode cX3_parseList 16 = .ok (.istore 4, 2) := by decide +kernel
theorem dX3_parseList_18 : decode cX3_parseList 18 = .ok (.iload 4, 2) := by decide +kernel
theorem dX3_parseList_20 : decode cX3_parseList 20 = .ok (.ifCond .eq 65, 3) := by decide +kernel
theorem dX3_parseList_23 : decode cX3_parseList 23 = .ok (.iload_n 3, 1) := by decide +kernel
theorem dX3_parseList_24 : decode cX3_parseList 24 = .ok (.bipush 6, 2) := by decide +kernel
theorem dX3_parseList_26 : decode cX3_parseList 26 = .ok (.if_icmp .ge 59, 3) := by decide +kernel
theorem dX3_parseList_29 : decode cX3_parseList 29 = .ok (.aload_n 0, 1) := by decide +kernel
theorem dX3_parseList_30 : decode cX3_parseList 30 = .ok (.aload_n 1, 1) := by decide +kernel
theorem dX3_parseList_31 : decode cX3_parseList 31 = .ok (.iload_n 2, 1) := by decide +kernel
theorem dX3_parseList_32 : decode cX3_parseList 32 = .ok (.iload_n 3, 1) := by decide +kernel
theorem dX3_parseList_33 : decode cX3_parseList 33 = .ok (.iadd, 1) := by decide +kernel
theorem dX3_parseList_34 : decode cX3_parseList 34 = .ok (.invokevirtual 33, 3) := by decide +kernel
theorem dX3_parseList_37 : decode cX3_parseList 37 = .ok (.ifCond .ne 5, 3) := by decide +kernel
theorem dX3_parseList_40 : decode cX3_parseList 40 = .ok (.iconst (-1), 1) := by decide +kernel
theorem dX3_parseList_41 : decode cX3_parseList 41 = .ok (.ireturn, 1) := by decide +kernel
theorem dX3_parseList_42 : decode cX3_parseList 42 = .ok (.iinc 3 1, 3) := by decide +kernel
theorem dX3_parseList_45 : decode cX3_parseList 45 = .ok (.iload_n 3, 1) := by decide +kernel
theorem dX3_parseList_46 : decode cX3_parseList 46 = .ok (.bipush 6, 2) := by decide +kernel
theorem dX3_parseList_48 : decode cX3_parseList 48 = .ok (.if_icmp .ge 16, 3) := by decide +kernel
theorem dX3_parseList_51 : decode cX3_parseList 51 = .ok (.aload_n 0, 1) := by decide +kernel
theorem dX3_parseList_52 : decode cX3_parseList 52 = .ok (.bipush 47, 2) := by decide +kernel
theorem dX3_parseList_54 : decode cX3_parseList 54 = .ok (.invokevirtual 22, 3) := by decide +kernel
theorem dX3_parseList_57 : decode cX3_parseList 57 = .ok (.ifCond .eq 7, 3) := by decide +kernel
theorem dX3_parseList_60 : decode cX3_parseList 60 = .ok (.iconst 1, 1) := by decide +kernel
theorem dX3_parseList_61 : decode cX3_parseList 61 = .ok (.goto 4, 3) := by decide +kernel
theorem dX3_parseList_64 : decode cX3_parseList 64 = .ok (.iconst 0, 1) := by decide +kernel
theorem dX3_parseList_65 : decode cX3_parseList 65 = .ok (.istore 4, 2) := by decide +kernel
theorem dX3_parseList_67 : decode cX3_parseList 67 = .ok (.iload 4, 2) := by decide +kernel
theorem dX3_parseList_69 : decode cX3_parseList 69 = .ok (.ifCond .eq (-51), 3) := by decide +kernel
theorem dX3_parseList_72 : decode cX3_parseList 72 = .ok (.aload_n 0, 1) := by decide +kernel
theorem dX3_parseList_73 : decode cX3_parseList 73 = .ok (.dup, 1) := by decide +kernel
theorem dX3_parseList_74 : decode cX3_parseList 74 = .ok (.getfield 19, 3) := by decide +kernel
theorem dX3_parseList_77 : decode cX3_parseList 77 = .ok (.iconst 1, 1) := by decide +kernel
theorem dX3_parseList_78 : decode cX3_parseList 78 = .ok (.iadd, 1) := by decide +kernel
theorem dX3_parseList_79 : decode cX3_parseList 79 = .ok (.putfield 19, 3) := by decide +kernel
theorem dX3_parseList_82 : decode cX3_parseList 82 = .ok (.goto (-64), 3) := by decide +kernel
theorem dX3_parseList_85 : decode cX3_parseList 85 = .ok (.iload_n 3, 1) := by decide +kernel
theorem dX3_parseList_86 : decode cX3_parseList 86 = .ok (.ireturn, 1) := by decide +kernel
set_option maxRecDepth 20000 in
theorem ggX3_parseNumber_X3_isNext : GoodIn wsX3_parseNumber wsX3_isNext := goodIn_r _ [10, 1, 11, 12, 17, 18, 19] (by decide +kernel) (by decide +kernel)
set_option maxRecDepth 20000 in
theorem gX3_parseNumber_X3_isNext : GoodIn wsX3_parseNumber (wsV RX3 22 RX3 yX3_isNext wsX3_isNext) := goodIn_app (goodIn_of _ (by decide +kernel)) ggX3_parseNumber_X3_isNext
set_option maxRecDepth 20000 in
theorem ggX3_parseNumber_X3_nextDigit : GoodIn wsX3_parseNumber wsX3_nextDigit := goodIn_r _ [16, 1, 11, 12, 17, 18, 19] (by decide +kernel) (by decide +kernel)
set_option maxRecDepth 20000 in
theorem gX3_parseNumber_X3_nextDigit : GoodIn wsX3_parseNumber (wsV RX3 61 RX3 yX3_nextDigit wsX3_nextDigit) := goodIn_app (goodIn_of _ (by decide +kernel)) ggX3_parseNumber_X3_nextDigit
theorem dX3_parseNumber_0 : decode cX3_parseNumber 0 = .ok (.aload_n 0, 1) := by decide +kernel
theorem dX3_parseNumber_1 : decode cX3_parseNumber 1 = .ok (.bipush 45, 2) := by decide +kernel
theorem dX3_parseNumber_3 : decode cX3_parseNumber 3 = .ok (.invokevirtual 22, 3) := by decide +kernel
theorem dX3_parseNumber_6 : decode cX3_parseNumber 6 = .ok (.istore_n 3, 1) := by decide +kernel
theorem dX3_parseNumber_7 : decode cX3_parseNumber 7 = .ok (.iload_n 3, 1) := by decide +kernel
theorem dX3_parseNumber_8 : decode cX3_parseNumber 8 = .ok (.ifCond .eq 13, 3) := by decide +kernel
theorem dX3_parseNumber_11 : decode cX3_parseNumber 11 = .ok (.aload_n 0, 1) := by decide +kernel
theorem dX3_parseNumber_12 : decode cX3_parseNumber 12 = .ok (.dup, 1) := by decide +kernel
theorem dX3_parseNumber_13 : decode cX3_parseNumber 13 = .ok (.getfield 19, 3) := by decide +kernel
theorem dX3_parseNumber_16 : decode cX3_parseNumber 16 = .ok (.iconst 1, 1) := by decide +kernel
theorem dX3_parseNumber_17 : decode cX3_parseNumber 17 = .ok (.iadd, 1) := by decide +kernel
theorem dX3_parseNumber_18 : decode cX3_parseNumber 18 = .ok (.putfield 19, 3) := by decide +kernel
theorem dX3_parseNumber_21 : decode cX3_parseNumber 21 = .ok (.aload_n 0, 1) := by decide +kernel
theorem dX3_parseNumber_22 : decode cX3_parseNumber 22 = .ok (.invokevirtual 61, 3) := by decide +kernel
theorem dX3_parseNumber_25 : decode cX3_parseNumber 25 = .ok (.istore 4, 2) := by decide +kernel
theorem dX3_parseNumber_27 : decode cX3_parseNumber 27 = .ok (.iload 4, 2) := by decide +kernel
theorem dX3_parseNumber_29 : decode cX3_parseNumber 29 = .ok (.iload_n 3, 1) := by decide +kernel
theorem dX3_parseNumber_30 : decode cX3_parseNumber 30 = .ok (.ifCond .eq 7, 3) := by decide +kernel
theorem dX3_parseNumber_33 : decode cX3_parseNumber 33 = .ok (.iconst 1, 1) := by decide +kernel
theorem dX3_parseNumber_34 : decode cX3_parseNumber 34 = .ok (.goto 4, 3) := by decide +kernel
theorem dX3_parseNumber_37 : decode cX3_parseNumber 37 = .ok (.iconst 0, 1) := by decide +kernel
theorem dX3_parseNumber_38 : decode cX3_parseNumber 38 = .ok (.if_icmp .ge 5, 3) := by decide +kernel
theorem dX3_parseNumber_41 : decode cX3_parseNumber 41 = .ok (.iconst 0, 1) := by decide +kernel
theorem dX3_parseNumber_42 : decode cX3_parseNumber 42 = .ok (.ireturn, 1) := by decide +kernel
theorem dX3_parseNumber_43 : decode cX3_parseNumber 43 = .ok (.iload_n 3, 1) := by decide +kernel
theorem dX3_parseNumber_44 : decode cX3_parseNumber 44 = .ok (.ifCond .eq 9, 3) := by decide +kernel
theorem dX3_parseNumber_47 : decode cX3_parseNumber 47 = .ok (.ldc2_w 67, 3) := by decide +kernel
theorem dX3_parseNumber_50 : decode cX3_parseNumber 50 = .ok (.goto 6, 3) := by decide +kernel
theorem dX3_parseNumber_53 : decode cX3_parseNumber 53 = .ok (.ldc2_w 69, 3) := by decide +kernel
theorem dX3_parseNumber_56 : decode cX3_parseNumber 56 = .ok (.lstore 5, 2) := by decide +kernel
theorem dX3_parseNumber_58 : decode cX3_parseNumber 58 = .ok (.iload 4, 2) := by decide +kernel
theorem dX3_parseNumber_60 : decode cX3_parseNumber 60 = .ok (.ifCond .ne 7, 3) := by decide +kernel
theorem dX3_parseNumber_63 : decode cX3_parseNumber 63 = .ok (.iconst 1, 1) := by decide +kernel
theorem dX3_parseNumber_64 : decode cX3_parseNumber 64 = .ok (.goto 5, 3) := by decide +kernel
theorem dX3_parseNumber_67 : decode cX3_parseNumber 67 = .ok (.bipush 19, 2) := by decide +kernel
theorem dX3_parseNumber_69 : decode cX3_parseNumber 69 = .ok (.istore 7, 2) := by decide +kernel
theorem dX3_parseNumber_71 : decode cX3_parseNumber 71 = .ok (.lconst 0, 1) := by decide +kernel
theorem dX3_parseNumber_72 : decode cX3_parseNumber 72 = .ok (.lstore 8, 2) := by decide +kernel
theorem dX3_parseNumber_74 : decode cX3_parseNumber 74 = .ok (.iconst 0, 1) := by decide +kernel
theorem dX3_parseNumber_75 : decode cX3_parseNumber 75 = .ok (.istore 10, 2) := by decide +kernel
theorem dX3_parseNumber_77 : decode cX3_parseNumber 77 = .ok (.iload 10, 2) := by decide +kernel
theorem dX3_parseNumber_79 : decode cX3_parseNumber 79 = .ok (.iload 7, 2) := by decide +kernel
theorem dX3_parseNumber_81 : decode cX3_parseNumber 81 = .ok (.if_icmp .ge 58, 3) := by decide +kernel
theorem dX3_parseNumber_84 : decode cX3_parseNumber 84 = .ok (.iload 4, 2) := by decide +kernel
theorem dX3_parseNumber_86 : decode cX3_parseNumber 86 = .ok (.ifCond .lt 53, 3) := by decide +kernel
theorem dX3_parseNumber_89 : decode cX3_parseNumber 89 = .ok (.lload 8, 2) := by decide +kernel
theorem dX3_parseNumber_91 : decode cX3_parseNumber 91 = .ok (.lload 5, 2) := by decide +kernel
theorem dX3_parseNumber_93 : decode cX3_parseNumber 93 = .ok (.iload 4, 2) := by decide +kernel
theorem dX3_parseNumber_95 : decode cX3_parseNumber 95 = .ok (.i2l, 1) := by decide +kernel
theorem dX3_parseNumber_96 : decode cX3_parseNumber 96 = .ok (.ladd, 1) := by decide +kernel
theorem dX3_parseNumber_97 : decode cX3_parseNumber 97 = .ok (.ldc2_w 71, 3) := by decide +kernel
theorem dX3_parseNumber_100 : decode cX3_parseNumber 100 = .ok (.ldiv, 1) := by decide +kernel
theorem dX3_parseNumber_101 : decode cX3_parseNumber 101 = .ok (.lcmp, 1) := by decide +kernel
theorem dX3_parseNumber_102 : decode cX3_parseNumber 102 = .ok (.ifCond .lt 37, 3) := by decide +kernel
theorem dX3_parseNumber_105 : decode cX3_parseNumber 105 = .ok (.lload 8, 2) := by decide +kernel
theorem dX3_parseNumber_107 : decode cX3_parseNumber 107 = .ok (.ldc2_w 71, 3) := by decide +kernel
theorem dX3_parseNumber_110 : decode cX3_parseNumber 110 = .ok (.lmul, 1) := by decide +kernel
theorem dX3_parseNumber_111 : decode cX3_parseNumber 111 = .ok (.iload 4, 2) := by decide +kernel
theorem dX3_parseNumber_113 : decode cX3_parseNumber 113 = .ok (.i2l, 1) := by decide +kernel
theorem dX3_parseNumber_114 : decode cX3_parseNumber 114 = .ok (.lsub, 1) := by decide +kernel
theorem dX3_parseNumber_115 : decode cX3_parseNumber 115 = .ok (.lstore 8, 2) := by decide +kernel
theorem dX3_parseNumber_117 : decode cX3_parseNumber 117 = .ok (.aload_n 0, 1) := by decide +kernel
theorem dX3_parseNumber_118 : decode cX3_parseNumber 118 = .ok (.dup, 1) := by decide +kernel
theorem dX3_parseNumber_119 : decode cX3_parseNumber 119 = .ok (.getfield 19, 3) := by decide +kernel
theorem dX3_parseNumber_122 : decode cX3_parseNumber 122 = .ok (.iconst 1, 1) := by decide +kernel
theorem dX3_parseNumber_123 : decode cX3_parseNumber 123 = .ok (.iadd, 1) := by decide +kernel
theorem dX3_parseNumber_124 : decode cX3_parseNumber 124 = .ok (.putfield 19, 3) := by decide +kernel
theorem dX3_parseNumber_127 : decode cX3_parseNumber 127 = .ok (.aload_n 0, 1) := by decide +kernel
theorem dX3_parseNumber_128 : decode cX3_parseNumber 128 = .ok (.invokevirtual 61, 3) := by decide +kernel
theorem dX3_parseNumber_131 : decode cX3_parseNumber 131 = .ok (.istore 4, 2) := by decide +kernel
theorem dX3_parseNumber_133 : decode cX3_parseNumber 133 = .ok (.iinc 10 1, 3) := by decide +kernel
theorem dX3_parseNumber_136 : decode cX3_parseNumber 136 = .ok (.goto (-59), 3) := by decide +kernel
theorem dX3_parseNumber_139 : decode cX3_parseNumber 139 = .ok (.aload_n 1, 1) := by decide +kernel
theorem dX3_parseNumber_140 : decode cX3_parseNumber 140 = .ok (.getfield 73, 3) := by decide +kernel
theorem dX3_parseNumber_143 : decode cX3_parseNumber 143 = .ok (.iload_n 2, 1) := by decide +kernel
theorem dX3_parseNumber_144 : decode cX3_parseNumber 144 = .ok (.iload_n 3, 1) := by decide +kernel
theorem dX3_parseNumber_145 : decode cX3_parseNumber 145 = .ok (.ifCond .eq 8, 3) := by decide +kernel
theorem dX3_parseNumber_148 : decode cX3_parseNumber 148 = .ok (.lload 8, 2) := by decide +kernel
theorem dX3_parseNumber_150 : decode cX3_parseNumber 150 = .ok (.goto 6, 3) := by decide +kernel
theorem dX3_parseNumber_153 : decode cX3_parseNumber 153 = .ok (.lload 8, 2) := by decide +kernel
theorem dX3_parseNumber_155 : decode cX3_parseNumber 155 = .ok (.lneg, 1) := by decide +kernel
theorem dX3_parseNumber_156 : decode cX3_parseNumber 156 = .ok (.lastore, 1) := by decide +kernel
theorem dX3_parseNumber_157 : decode cX3_parseNumber 157 = .ok (.iconst 1, 1) := by decide +kernel
theorem dX3_parseNumber_158 : decode cX3_parseNumber 158 = .ok (.ireturn, 1) := by decide +kernel
set_option maxRecDepth 20000 in
theorem ggX3_parseWord_J0_length_8abf5 : GoodIn wsX3_parseWord wsJ0_length_8abf5 := goodIn_r _ [6, 7, 8, 9, 10, 5, 11, 12, 13] (by decide +kernel) (by decide +kernel)
set_option maxRecDepth 20000 in
theorem gX3_parseWord_J0_length_8abf5 : GoodIn wsX3_parseWord (wsV RX3 77 RJ0 yJ0_length_8abf5 wsJ0_length_8abf5) := goodIn_app (goodIn_of _ (by decide +kernel)) ggX3_parseWord_J0_length_8abf5
set_option maxRecDepth 20000 in
theorem ggX3_parseWord_J0_charAt_5068e : GoodIn wsX3_parseWord wsJ0_charAt_5068e := goodIn_r _ [17, 7, 18, 19, 20, 5, 21, 12, 13, 22, 23, 24, 25, 26, 27, 28, 29, 30, 31, 32, 33, 34, 35, 36, 37, 38, 39, 40, 41, 42, 43, 44, 45, 46, 47, 48, 49, 50] (by decide +kernel) (by decide +kernel)
set_option maxRecDepth 20000 in
theorem gX3_parseWord_J0_charAt_5068e : GoodIn wsX3_parseWord (wsV RX3 81 RJ0 yJ0_charAt_5068e wsJ0_charAt_5068e) := goodIn_app (goodIn_of _ (by decide +kernel)) ggX3_parseWord_J0_charAt_5068e
set_option maxRecDepth 20000 in
theorem ggX3_parseWord_X3_isNext : GoodIn wsX3_parseWord wsX3_isNext := goodIn_r _ [55, 1, 56, 57, 58, 59, 60] (by decide +kernel) (by decide +kernel)
set_option maxRecDepth 20000 in
theorem gX3_parseWord_X3_isNext : GoodIn wsX3_parseWord (wsV RX3 22 RX3 yX3_isNext wsX3_isNext) := goodIn_app (goodIn_of _ (by decide +kernel)) ggX3_parseWord_X3_isNext
theorem dX3_parseWord_0 : decode cX3_parseWord 0 = .ok (.iconst 0, 1) := by decide +kernel
theorem dX3_parseWord_1 : decode cX3_parseWord 1 = .ok (.istore_n 2, 1) := by decide +kernel
theorem dX3_parseWord_2 : decode cX3_parseWord 2 = .ok (.iload_n 2, 1) := by decide +kernel
theorem dX3_parseWord_3 : decode cX3_parseWord 3 = .ok (.aload_n 1, 1) := by decide +kernel
theorem dX3_parseWord_4 : decode cX3_parseWord 4 = .ok (.invokevirtual 77, 3) := by decide +kernel
theorem dX3_parseWord_7 : decode cX3_parseWord 7 = .ok (.if_icmp .ge 33, 3) := by decide +kernel
theorem dX3_parseWord_10 : decode cX3_parseWord 10 = .ok (.aload_n 0, 1) := by decide +kernel
theorem dX3_parseWord_11 : decode cX3_parseWord 11 = .ok (.aload_n 1, 1) := by decide +kernel
theorem dX3_parseWord_12 : decode cX3_parseWord 12 = .ok (.iload_n 2, 1) := by decide +kernel
theorem dX3_parseWord_13 : decode cX3_parseWord 13 = .ok (.invokevirtual 81, 3) := by decide +kernel
theorem dX3_parseWord_16 : decode cX3_parseWord 16 = .ok (.invokevirtual 22, 3) := by decide +kernel
theorem dX3_parseWord_19 : decode cX3_parseWord 19 = .ok (.ifCond .ne 5, 3) := by decide +kernel
theorem dX3_parseWord_22 : decode cX3_parseWord 22 = .ok (.iconst 0, 1) := by decide +kernel
theorem dX3_parseWord_23 : decode cX3_parseWord 23 = .ok (.ireturn, 1) := by decide +kernel
theorem dX3_parseWord_24 : decode cX3_parseWord 24 = .ok (.aload_n 0, 1) := by decide +kernel
theorem dX3_parseWord_25 : decode cX3_parseWord 25 = .ok (.dup, 1) := by decide +kernel
theorem dX3_parseWord_26 : decode cX3_parseWord 26 = .ok (.getfield 19, 3) := by decide +kernel
theorem dX3_parseWord_29 : decode cX3_parseWord 29 = .ok (.iconst 1, 1) := by decide +kernel
theorem dX3_parseWord_30 : decode cX3_parseWord 30 = .ok (.iadd, 1) := by decide +kernel
theorem dX3_parseWord_31 : decode cX3_parseWord 31 = .ok (.putfield 19, 3) := by decide +kernel
theorem dX3_parseWord_34 : decode cX3_parseWord 34 = .ok (.iinc 2 1, 3) := by decide +kernel
theorem dX3_parseWord_37 : decode cX3_parseWord 37 = .ok (.goto (-35), 3) := by decide +kernel
theorem dX3_parseWord_40 : decode cX3_parseWord 40 = .ok (.iconst 1, 1) := by decide +kernel
theorem dX3_parseWord_41 : decode cX3_parseWord 41 = .ok (.ireturn, 1) := by decide +kernel
theorem dX3_isNext_0 : decode cX3_isNext 0 = .ok (.aload_n 0, 1) := by decide +kernel
theorem dX3_isNext_1 : decode cX3_isNext 1 = .ok (.getfield 19, 3) := by decide +kernel
theorem dX3_isNext_4 : decode cX3_isNext 4 = .ok (.aload_n 0, 1) := by decide +kernel
theorem dX3_isNext_5 : decode cX3_isNext 5 = .ok (.getfield 15, 3) := by decide +kernel
theorem dX3_isNext_8 : decode cX3_isNext 8 = .ok (.if_icmp .ge 20, 3) := by decide +kernel
theorem dX3_isNext_11 : decode cX3_isNext 11 = .ok (.aload_n 0, 1) := by decide +kernel
theorem dX3_isNext_12 : decode cX3_isNext 12 = .ok (.getfield 9, 3) := by decide +kernel
theorem dX3_isNext_15 : decode cX3_isNext 15 = .ok (.aload_n 0, 1) := by decide +kernel
theorem dX3_isNext_16 : decode cX3_isNext 16 = .ok (.getfield 19, 3) := by decide +kernel
theorem dX3_isNext_19 : decode cX3_isNext 19 = .ok (.baload, 1) := by decide +kernel
theorem dX3_isNext_20 : decode cX3_isNext 20 = .ok (.iload_n 1, 1) := by decide +kernel
theorem dX3_isNext_21 : decode cX3_isNext 21 = .ok (.if_icmp .ne 7, 3) := by decide +kernel
theorem dX3_isNext_24 : decode cX3_isNext 24 = .ok (.iconst 1, 1) := by decide +kernel
theorem dX3_isNext_25 : decode cX3_isNext 25 = .ok (.goto 4, 3) := by decide +kernel
theorem dX3_isNext_28 : decode cX3_isNext 28 = .ok (.iconst 0, 1) := by decide +kernel
theorem dX3_isNext_29 : decode cX3_isNext 29 = .ok (.ireturn, 1) := by decide +kernel
theorem dX3_nextDigit_0 : decode cX3_nextDigit 0 = .ok (.aload_n 0, 1) := by decide +kernel
theorem dX3_nextDigit_1 : decode cX3_nextDigit 1 = .ok (.getfield 19, 3) := by decide +kernel
theorem dX3_nextDigit_4 : decode cX3_nextDigit 4 = .ok (.aload_n 0, 1) := by decide +kernel
theorem dX3_nextDigit_5 : decode cX3_nextDigit 5 = .ok (.getfield 15, 3) := by decide +kernel
theorem dX3_nextDigit_8 : decode cX3_nextDigit 8 = .ok (.if_icmp .ge 31, 3) := by decide +kernel
theorem dX3_nextDigit_11 : decode cX3_nextDigit 11 = .ok (.aload_n 0, 1) := by decide +kernel
theorem dX3_nextDigit_12 : decode cX3_nextDigit 12 = .ok (.getfield 9, 3) := by decide +kernel
theorem dX3_nextDigit_15 : decode cX3_nextDigit 15 = .ok (.aload_n 0, 1) := by decide +kernel
theorem dX3_nextDigit_16 : decode cX3_nextDigit 16 = .ok (.getfield 19, 3) := by decide +kernel
theorem dX3_nextDigit_19 : decode cX3_nextDigit 19 = .ok (.baload, 1) := by decide +kernel
theorem dX3_nextDigit_20 : decode cX3_nextDigit 20 = .ok (.bipush 48, 2) := by decide +kernel
theorem dX3_nextDigit_22 : decode cX3_nextDigit 22 = .ok (.if_icmp .lt 17, 3) := by decide +kernel
theorem dX3_nextDigit_25 : decode cX3_nextDigit 25 = .ok (.aload_n 0, 1) := by decide +kernel
theorem dX3_nextDigit_26 : decode cX3_nextDigit 26 = .ok (.getfield 9, 3) := by decide +kernel
theorem dX3_nextDigit_29 : decode cX3_nextDigit 29 = .ok (.aload_n 0, 1) := by decide +kernel
theorem dX3_nextDigit_30 : decode cX3_nextDigit 30 = .ok (.getfield 19, 3) := by decide +kernel
theorem dX3_nextDigit_33 : decode cX3_nextDigit 33 = .ok (.baload, 1) := by decide +kernel
theorem dX3_nextDigit_34 : decode cX3_nextDigit 34 = .ok (.bipush 57, 2) := by decide +kernel
theorem dX3_nextDigit_36 : decode cX3_nextDigit 36 = .ok (.if_icmp .le 5, 3) := by decide +kernel
theorem dX3_nextDigit_39 : decode cX3_nextDigit 39 = .ok (.iconst (-1), 1) := by decide +kernel
theorem dX3_nextDigit_40 : decode cX3_nextDigit 40 = .ok (.ireturn, 1) := by decide +kernel
theorem dX3_nextDigit_41 : decode cX3_nextDigit 41 = .ok (.aload_n 0, 1) := by decide +kernel
theorem dX3_nextDigit_42 : decode cX3_nextDigit 42 = .ok (.getfield 9, 3) := by decide +kernel
theorem dX3_nextDigit_45 : decode cX3_nextDigit 45 = .ok (.aload_n 0, 1) := by decide +kernel
theorem dX3_nextDigit_46 : decode cX3_nextDigit 46 = .ok (.getfield 19, 3) := by decide +kernel
theorem dX3_nextDigit_49 : decode cX3_nextDigit 49 = .ok (.baload, 1) := by decide +kernel
theorem dX3_nextDigit_50 : decode cX3_nextDigit 50 = .ok (.bipush 48, 2) := by decide +kernel
theorem dX3_nextDigit_52 : decode cX3_nextDigit 52 = .ok (.isub, 1) := by decide +kernel
theorem dX3_nextDigit_53 : decode cX3_nextDigit 53 = .ok (.ireturn, 1) := by decide +kernel
end
section
theorem dX0_init_0 : decode cX0_init 0 = .ok (.aload_n 0, 1) := by decide +kernel
theorem dX0_init_1 : decode cX0_init 1 = .ok (.invokespecial 3, 3) := by decide +kernel
theorem dX0_init_4 : decode cX0_init 4 = .ok (.aload_n 0, 1) := by decide +kernel
theorem dX0_init_5 : decode cX0_init 5 = .ok (.sipush 263, 3) := by decide +kernel
theorem dX0_init_8 : decode cX0_init 8 = .ok (.newarray .byte, 2) := by decide +kernel
theorem dX0_init_10 : decode cX0_init 10 = .ok (.putfield 9, 3) := by decide +kernel
theorem dX0_init_13 : decode cX0_init 13 = .ok (.aload_n 0, 1) := by decide +kernel
theorem dX0_init_14 : decode cX0_init 14 = .ok (.bipush 19, 2) := by decide +kernel
theorem dX0_init_16 : decode cX0_init 16 = .ok (.newarray .byte, 2) := by decide +kernel
theorem dX0_init_18 : decode cX0_init 18 = .ok (.putfield 15, 3) := by decide +kernel
theorem dX0_init_21 : decode cX0_init 21 = .ok (.return_, 1) := by decide +kernel
set_option maxRecDepth 20000 in
theorem ggX0_write_X0_writeBent : GoodIn wsX0_write wsX0_writeBent := goodIn_r _ [7, 8, 9, 10, 11, 12, 6, 13, 14, 15, 16, 17, 18, 19, 20, 21, 22, 23, 24, 25, 26, 27, 28, 29, 30, 31, 32, 33, 34, 35, 36, 37, 38, 39, 40, 41, 42, 43, 44, 45, 46, 47, 48, 49, 50, 51, 52, 53, 54, 55, 56, 57, 58, 59, 60, 61, 62, 63, 64, 65, 66, 1, 67, 68, 69, 70, 71, 72, 73, 74, 75, 76, 77, 78, 79, 87, 88, 89, 90, 84, 85, 86] (by decide +kernel) (by decide +kernel)
set_option maxRecDepth 20000 in
theorem gX0_write_X0_writeBent : GoodIn wsX0_write (wsV RX0 27 RX0 yX0_writeBent wsX0_writeBent) := goodIn_app (goodIn_of _ (by decide +kernel)) ggX0_write_X0_writeBent
set_option maxRecDepth 20000 in
theorem ggX0_write_X0_writePlain : GoodIn wsX0_write wsX0_writePlain := goodIn_r _ [83, 72, 2, 73, 74, 75, 6, 76, 77, 78, 79, 63, 64, 65, 66, 1, 67, 10, 11, 12, 13, 14, 15, 16, 17, 18, 19, 20, 21, 22, 23, 24, 25, 26, 27, 28, 29, 30, 31, 32, 33, 34, 35, 36, 37, 38, 39, 40, 41, 42, 43, 44, 45, 46, 47, 48, 49, 50, 51, 52, 53, 54, 55, 56, 57, 58, 59, 60, 61, 62, 87, 88, 89, 90, 84, 85, 86] (by decide +kernel) (by decide +kernel)
set_option maxRecDepth 20000 in
theorem gX0_write_X0_writePlain : GoodIn wsX0_write (wsV RX0 31 RX0 yX0_writePlain wsX0_writePlain) := goodIn_app (goodIn_of _ (by decide +kernel)) ggX0_write_X0_writePlain
theorem dX0_write_0 : decode cX0_write 0 = .ok (.aload_n 0, 1) := by decide +kernel
theorem dX0_write_1 : decode cX0_write 1 = .ok (.iconst 0, 1) := by decide +kernel
theorem dX0_write_2 : decode cX0_write 2 = .ok (.putfield 18, 3) := by decide +kernel
theorem dX0_write_5 : decode cX0_write 5 = .ok (.aload_n 1, 1) := by decide +kernel
theorem dX0_write_6 : decode cX0_write 6 = .ok (.getfield 22, 3) := by decide +kernel
theorem dX0_write_9 : decode cX0_write 9 = .ok (.iconst 3, 1) := by decide +kernel
theorem dX0_write_10 : decode cX0_write 10 = .ok (.if_icmp .ne 11, 3) := by decide +kernel
theorem dX0_write_13 : decode cX0_write 13 = .ok (.aload_n 0, 1) := by decide +kernel
theorem dX0_write_14 : decode cX0_write 14 = .ok (.aload_n 1, 1) := by decide +kernel
theorem dX0_write_15 : decode cX0_write 15 = .ok (.invokevirtual 27, 3) := by decide +kernel
theorem dX0_write_18 : decode cX0_write 18 = .ok (.goto 8, 3) := by decide +kernel
theorem dX0_write_21 : decode cX0_write 21 = .ok (.aload_n 0, 1) := by decide +kernel
theorem dX0_write_22 : decode cX0_write 22 = .ok (.aload_n 1, 1) := by decide +kernel
theorem dX0_write_23 : decode cX0_write 23 = .ok (.invokevirtual 31, 3) := by decide +kernel
theorem dX0_write_26 : decode cX0_write 26 = .ok (.return_, 1) := by decide +kernel
set_option maxRecDepth 20000 in
theorem ggX0_writePlain_X0_writeNumber : GoodIn wsX0_writePlain wsX0_writeNumber := goodIn_r _ [7, 8, 9, 10, 11, 12, 13, 6, 14, 15, 16, 74, 75, 76] (by decide +kernel) (by decide +kernel)
set_option maxRecDepth 20000 in
theorem gX0_writePlain_X0_writeNumber : GoodIn wsX0_writePlain (wsV RX0 38 RX0 yX0_writeNumber wsX0_writeNumber) := goodIn_app (goodIn_of _ (by decide +kernel)) ggX0_writePlain_X0_writeNumber
set_option maxRecDepth 20000 in
theorem ggX0_writePlain_X0_writeWord : GoodIn wsX0_writePlain wsX0_writeWord := goodIn_r _ [20, 21, 22, 23, 24, 25, 26, 27, 28, 29, 30, 31, 32, 33, 34, 35, 36, 37, 38, 39, 40, 41, 42, 43, 44, 45, 46, 47, 48, 49, 50, 51, 52, 53, 54, 55, 56, 57, 58, 59, 60, 61, 62, 63, 64, 65, 66, 67, 68, 69, 11, 12, 13, 6, 14, 15, 16, 74, 75, 76] (by decide +kernel) (by decide +kernel)
set_option maxRecDepth 20000 in
theorem gX0_writePlain_X0_writeWord : GoodIn wsX0_writePlain (wsV RX0 44 RX0 yX0_writeWord wsX0_writeWord) := goodIn_app (goodIn_of _ (by decide +kernel)) ggX0_writePlain_X0_writeWord
theorem dX0_writePlain_0 : decode cX0_writePlain 0 = .ok (.aload_n 0, 1) := by decide +kernel
theorem dX0_writePlain_1 : decode cX0_writePlain 1 = .ok (.aload_n 1, 1) := by decide +kernel
theorem dX0_writePlain_2 : decode cX0_writePlain 2 = .ok (.getfield 34, 3) := by decide +kernel
theorem dX0_writePlain_5 : decode cX0_writePlain 5 = .ok (.iconst 0, 1) := by decide +kernel
theorem dX0_writePlain_6 : decode cX0_writePlain 6 = .ok (.laload, 1) := by decide +kernel
theorem dX0_writePlain_7 : decode cX0_writePlain 7 = .ok (.invokevirtual 38, 3) := by decide +kernel
theorem dX0_writePlain_10 : decode cX0_writePlain 10 = .ok (.aload_n 1, 1) := by decide +kernel
theorem dX0_writePlain_11 : decode cX0_writePlain 11 = .ok (.getfield 22, 3) := by decide +kernel
theorem dX0_writePlain_14 : decode cX0_writePlain 14 = .ok (.ifCond .ne 4, 3) := by decide +kernel
theorem dX0_writePlain_17 : decode cX0_writePlain 17 = .ok (.return_, 1) := by decide +kernel
theorem dX0_writePlain_18 : decode cX0_writePlain 18 = .ok (.aload_n 0, 1) := by decide +kernel
theorem dX0_writePlain_19 : decode cX0_writePlain 19 = .ok (.ldc 42, 2) := by decide +kernel
theorem dX0_writePlain_21 : decode cX0_writePlain 21 = .ok (.invokevirtual 44, 3) := by decide +kernel
theorem dX0_writePlain_24 : decode cX0_writePlain 24 = .ok (.aload_n 0, 1) := by decide +kernel
theorem dX0_writePlain_25 : decode cX0_writePlain 25 = .ok (.aload_n 1, 1) := by decide +kernel
theorem dX0_writePlain_26 : decode cX0_writePlain 26 = .ok (.getfield 34, 3) := by decide +kernel
theorem dX0_writePlain_29 : decode cX0_writePlain 29 = .ok (.iconst 1, 1) := by decide +kernel
theorem dX0_writePlain_30 : decode cX0_writePlain 30 = .ok (.laload, 1) := by decide +kernel
theorem dX0_writePlain_31 : decode cX0_writePlain 31 = .ok (.invokevirtual 38, 3) := by decide +kernel
theorem dX0_writePlain_34 : decode cX0_writePlain 34 = .ok (.aload_n 1, 1) := by decide +kernel
theorem dX0_writePlain_35 : decode cX0_writePlain 35 = .ok (.getfield 22, 3) := by decide +kernel
theorem dX0_writePlain_38 : decode cX0_writePlain 38 = .ok (.iconst 2, 1) := by decide +kernel
theorem dX0_writePlain_39 : decode cX0_writePlain 39 = .ok (.if_icmp .ne 19, 3) := by decide +kernel
theorem dX0_writePlain_42 : decode cX0_writePlain 42 = .ok (.aload_n 0, 1) := by decide +kernel
theorem dX0_writePlain_43 : decode cX0_writePlain 43 = .ok (.ldc 48, 2) := by decide +kernel
theorem dX0_writePlain_45 : decode cX0_writePlain 45 = .ok (.invokevirtual 44, 3) := by decide +kernel
theorem dX0_writePlain_48 : decode cX0_writePlain 48 = .ok (.aload_n 0, 1) := by decide +kernel
theorem dX0_writePlain_49 : decode cX0_writePlain 49 = .ok (.aload_n 1, 1) := by decide +kernel
theorem dX0_writePlain_50 : decode cX0_writePlain 50 = .ok (.getfield 34, 3) := by decide +kernel
theorem dX0_writePlain_53 : decode cX0_writePlain 53 = .ok (.iconst 2, 1) := by decide +kernel
theorem dX0_writePlain_54 : decode cX0_writePlain 54 = .ok (.laload, 1) := by decide +kernel
theorem dX0_writePlain_55 : decode cX0_writePlain 55 = .ok (.invokevirtual 38, 3) := by decide +kernel
theorem dX0_writePlain_58 : decode cX0_writePlain 58 = .ok (.aload_n 0, 1) := by decide +kernel
theorem dX0_writePlain_59 : decode cX0_writePlain 59 = .ok (.ldc 50, 2) := by decide +kernel
theorem dX0_writePlain_61 : decode cX0_writePlain 61 = .ok (.invokevirtual 44, 3) := by decide +kernel
theorem dX0_writePlain_64 : decode cX0_writePlain 64 = .ok (.return_, 1) := by decide +kernel
set_option maxRecDepth 20000 in
theorem ggX0_writeBent_X0_writeWord : GoodIn wsX0_writeBent wsX0_writeWord := goodIn_r _ [7, 8, 9, 10, 11, 12, 13, 14, 15, 16, 17, 18, 19, 20, 21, 22, 23, 24, 25, 26, 27, 28, 29, 30, 31, 32, 33, 34, 35, 36, 37, 38, 39, 40, 41, 42, 43, 44, 45, 46, 47, 48, 49, 50, 51, 52, 53, 54, 55, 56, 57, 58, 59, 6, 60, 61, 62, 79, 80, 81] (by decide +kernel) (by decide +kernel)
set_option maxRecDepth 20000 in
theorem gX0_writeBent_X0_writeWord : GoodIn wsX0_writeBent (wsV RX0 44 RX0 yX0_writeWord wsX0_writeWord) := goodIn_app (goodIn_of _ (by decide +kernel)) ggX0_writeBent_X0_writeWord
set_option maxRecDepth 20000 in
theorem ggX0_writeBent_X0_writeList : GoodIn wsX0_writeBent wsX0_writeList := goodIn_r _ [66, 67, 57, 58, 59, 6, 60, 61, 62, 68, 69, 70, 71, 72, 73, 74, 75, 76, 77, 78, 79, 80, 81] (by decide +kernel) (by decide +kernel)
set_option maxRecDepth 20000 in
theorem gX0_writeBent_X0_writeList : GoodIn wsX0_writeBent (wsV RX0 57 RX0 yX0_writeList wsX0_writeList) := goodIn_app (goodIn_of _ (by decide +kernel)) ggX0_writeBent_X0_writeList
theorem dX0_writeBent_0 : decode cX0_writeBent 0 = .ok (.aload_n 0, 1) := by decide +kernel
theorem dX0_writeBent_1 : decode cX0_writeBent 1 = .ok (.ldc 52, 2) := by decide +kernel
theorem dX0_writeBent_3 : decode cX0_writeBent 3 = .ok (.invokevirtual 44, 3) := by decide +kernel
theorem dX0_writeBent_6 : decode cX0_writeBent 6 = .ok (.aload_n 0, 1) := by decide +kernel
theorem dX0_writeBent_7 : decode cX0_writeBent 7 = .ok (.aload_n 1, 1) := by decide +kernel
theorem dX0_writeBent_8 : decode cX0_writeBent 8 = .ok (.iconst 0, 1) := by decide +kernel
theorem dX0_writeBent_9 : decode cX0_writeBent 9 = .ok (.aload_n 1, 1) := by decide +kernel
theorem dX0_writeBent_10 : decode cX0_writeBent 10 = .ok (.getfield 54, 3) := by decide +kernel
theorem dX0_writeBent_13 : decode cX0_writeBent 13 = .ok (.invokevirtual 57, 3) := by decide +kernel
theorem dX0_writeBent_16 : decode cX0_writeBent 16 = .ok (.aload_n 0, 1) := by decide +kernel
theorem dX0_writeBent_17 : decode cX0_writeBent 17 = .ok (.ldc 61, 2) := by decide +kernel
theorem dX0_writeBent_19 : decode cX0_writeBent 19 = .ok (.invokevirtual 44, 3) := by decide +kernel
theorem dX0_writeBent_22 : decode cX0_writeBent 22 = .ok (.aload_n 0, 1) := by decide +kernel
theorem dX0_writeBent_23 : decode cX0_writeBent 23 = .ok (.aload_n 1, 1) := by decide +kernel
theorem dX0_writeBent_24 : decode cX0_writeBent 24 = .ok (.aload_n 1, 1) := by decide +kernel
theorem dX0_writeBent_25 : decode cX0_writeBent 25 = .ok (.getfield 54, 3) := by decide +kernel
theorem dX0_writeBent_28 : decode cX0_writeBent 28 = .ok (.aload_n 1, 1) := by decide +kernel
theorem dX0_writeBent_29 : decode cX0_writeBent 29 = .ok (.getfield 63, 3) := by decide +kernel
theorem dX0_writeBent_32 : decode cX0_writeBent 32 = .ok (.invokevirtual 57, 3) := by decide +kernel
theorem dX0_writeBent_35 : decode cX0_writeBent 35 = .ok (.aload_n 0, 1) := by decide +kernel
theorem dX0_writeBent_36 : decode cX0_writeBent 36 = .ok (.ldc 66, 2) := by decide +kernel
theorem dX0_writeBent_38 : decode cX0_writeBent 38 = .ok (.invokevirtual 44, 3) := by decide +kernel
theorem dX0_writeBent_41 : decode cX0_writeBent 41 = .ok (.return_, 1) := by decide +kernel
set_option maxRecDepth 20000 in
theorem ggX0_writeList_X0_append : GoodIn wsX0_writeList wsX0_append := goodIn_r _ [6, 7, 8, 20, 21, 22] (by decide +kernel) (by decide +kernel)
set_option maxRecDepth 20000 in
theorem gX0_writeList_X0_append : GoodIn wsX0_writeList (wsV RX0 68 RX0 yX0_append wsX0_append) := goodIn_app (goodIn_of _ (by decide +kernel)) ggX0_writeList_X0_append
set_option maxRecDepth 20000 in
theorem ggX0_writeList_X0_writeNumber : GoodIn wsX0_writeList wsX0_writeNumber := goodIn_r _ [12, 13, 14, 15, 2, 3, 4, 5, 6, 7, 8, 20, 21, 22] (by decide +kernel) (by decide +kernel)
set_option maxRecDepth 20000 in
theorem gX0_writeList_X0_writeNumber : GoodIn wsX0_writeList (wsV RX0 38 RX0 yX0_writeNumber wsX0_writeNumber) := goodIn_app (goodIn_of _ (by decide +kernel)) ggX0_writeList_X0_writeNumber
theorem dX0_writeList_0 : decode cX0_writeList 0 = .ok (.iload_n 2, 1) := by decide +kernel
theorem dX0_writeList_1 : decode cX0_writeList 1 = .ok (.istore 4, 2) := by decide +kernel
theorem dX0_writeList_3 : decode cX0_writeList 3 = .ok (.iload 4, 2) := by decide +kernel
theorem dX0_writeList_5 : decode cX0_writeList 5 = .ok (.iload_n 3, 1) := by decide +kernel
theorem dX0_writeList_6 : decode cX0_writeList 6 = .ok (.if_icmp .ge 32, 3) := by decide +kernel
theorem dX0_writeList_9 : decode cX0_writeList 9 = .ok (.iload 4, 2) := by decide +kernel
theorem dX0_writeList_11 : decode cX0_writeList 11 = .ok (.iload_n 2, 1) := by decide +kernel
theorem dX0_writeList_12 : decode cX0_writeList 12 = .ok (.if_icmp .le 9, 3) := by decide +kernel
theorem dX0_writeList_15 : decode cX0_writeList 15 = .ok (.aload_n 0, 1) := by decide +kernel
theorem dX0_writeList_16 : decode cX0_writeList 16 = .ok (.bipush 47, 2) := by decide +kernel
theorem dX0_writeList_18 : decode cX0_writeList 18 = .ok (.invokevirtual 68, 3) := by decide +kernel
theorem dX0_writeList_21 : decode cX0_writeList 21 = .ok (.aload_n 0, 1) := by decide +kernel
theorem dX0_writeList_22 : decode cX0_writeList 22 = .ok (.aload_n 1, 1) := by decide +kernel
theorem dX0_writeList_23 : decode cX0_writeList 23 = .ok (.getfield 34, 3) := by decide +kernel
theorem dX0_writeList_26 : decode cX0_writeList 26 = .ok (.iload 4, 2) := by decide +kernel
theorem dX0_writeList_28 : decode cX0_writeList 28 = .ok (.laload, 1) := by decide +kernel
theorem dX0_writeList_29 : decode cX0_writeList 29 = .ok (.invokevirtual 38, 3) := by decide +kernel
theorem dX0_writeList_32 : decode cX0_writeList 32 = .ok (.iinc 4 1, 3) := by decide +kernel
theorem dX0_writeList_35 : decode cX0_writeList 35 = .ok (.goto (-32), 3) := by decide +kernel
theorem dX0_writeList_38 : decode cX0_writeList 38 = .ok (.return_, 1) := by decide +kernel
set_option maxRecDepth 20000 in
theorem ggX0_writeNumber_X0_append : GoodIn wsX0_writeNumber wsX0_append := goodIn_r _ [8, 9, 10, 11, 12, 13] (by decide +kernel) (by decide +kernel)
set_option maxRecDepth 20000 in
theorem gX0_writeNumber_X0_append : GoodIn wsX0_writeNumber (wsV RX0 68 RX0 yX0_append wsX0_append) := goodIn_app (goodIn_of _ (by decide +kernel)) ggX0_writeNumber_X0_append
theorem dX0_writeNumber_0 : decode cX0_writeNumber 0 = .ok (.lload_n 1, 1) := by decide +kernel
theorem dX0_writeNumber_1 : decode cX0_writeNumber 1 = .ok (.lconst 0, 1) := by decide +kernel
theorem dX0_writeNumber_2 : decode cX0_writeNumber 2 = .ok (.lcmp, 1) := by decide +kernel
theorem dX0_writeNumber_3 : decode cX0_writeNumber 3 = .ok (.ifCond .ge 7, 3) := by decide +kernel
theorem dX0_writeNumber_6 : decode cX0_writeNumber 6 = .ok (.lload_n 1, 1) := by decide +kernel
theorem dX0_writeNumber_7 : decode cX0_writeNumber 7 = .ok (.goto 5, 3) := by decide +kernel
theorem dX0_writeNumber_10 : decode cX0_writeNumber 10 = .ok (.lload_n 1, 1) := by decide +kernel
theorem dX0_writeNumber_11 : decode cX0_writeNumber 11 = .ok (.lneg, 1) := by decide +kernel
theorem dX0_writeNumber_12 : decode cX0_writeNumber 12 = .ok (.lstore_n 3, 1) := by decide +kernel
theorem dX0_writeNumber_13 : decode cX0_writeNumber 13 = .ok (.iconst 0, 1) := by decide +kernel
theorem dX0_writeNumber_14 : decode cX0_writeNumber 14 = .ok (.istore 5, 2) := by decide +kernel
theorem dX0_writeNumber_16 : decode cX0_writeNumber 16 = .ok (.aload_n 0, 1) := by decide +kernel
theorem dX0_writeNumber_17 : decode cX0_writeNumber 17 = .ok (.getfield 15, 3) := by decide +kernel
theorem dX0_writeNumber_20 : decode cX0_writeNumber 20 = .ok (.iload 5, 2) := by decide +kernel
theorem dX0_writeNumber_22 : decode cX0_writeNumber 22 = .ok (.ldc2_w 72, 3) := by decide +kernel
theorem dX0_writeNumber_25 : decode cX0_writeNumber 25 = .ok (.lload_n 3, 1) := by decide +kernel
theorem dX0_writeNumber_26 : decode cX0_writeNumber 26 = .ok (.ldc2_w 74, 3) := by decide +kernel
theorem dX0_writeNumber_29 : decode cX0_writeNumber 29 = .ok (.lrem, 1) := by decide +kernel
theorem dX0_writeNumber_30 : decode cX0_writeNumber 30 = .ok (.lsub, 1) := by decide +kernel
theorem dX0_writeNumber_31 : decode cX0_writeNumber 31 = .ok (.l2i, 1) := by decide +kernel
theorem dX0_writeNumber_32 : decode cX0_writeNumber 32 = .ok (.i2b, 1) := by decide +kernel
theorem dX0_writeNumber_33 : decode cX0_writeNumber 33 = .ok (.bastore, 1) := by decide +kernel
theorem dX0_writeNumber_34 : decode cX0_writeNumber 34 = .ok (.lload_n 3, 1) := by decide +kernel
theorem dX0_writeNumber_35 : decode cX0_writeNumber 35 = .ok (.ldc2_w 74, 3) := by decide +kernel
theorem dX0_writeNumber_38 : decode cX0_writeNumber 38 = .ok (.ldiv, 1) := by decide +kernel
theorem dX0_writeNumber_39 : decode cX0_writeNumber 39 = .ok (.lstore_n 3, 1) := by decide +kernel
theorem dX0_writeNumber_40 : decode cX0_writeNumber 40 = .ok (.iinc 5 1, 3) := by decide +kernel
theorem dX0_writeNumber_43 : decode cX0_writeNumber 43 = .ok (.lload_n 3, 1) := by decide +kernel
theorem dX0_writeNumber_44 : decode cX0_writeNumber 44 = .ok (.lconst 0, 1) := by decide +kernel
theorem dX0_writeNumber_45 : decode cX0_writeNumber 45 = .ok (.lcmp, 1) := by decide +kernel
theorem dX0_writeNumber_46 : decode cX0_writeNumber 46 = .ok (.ifCond .eq 10, 3) := by decide +kernel
theorem dX0_writeNumber_49 : decode cX0_writeNumber 49 = .ok (.iload 5, 2) := by decide +kernel
theorem dX0_writeNumber_51 : decode cX0_writeNumber 51 = .ok (.bipush 19, 2) := by decide +kernel
theorem dX0_writeNumber_53 : decode cX0_writeNumber 53 = .ok (.if_icmp .lt (-37), 3) := by decide +kernel
theorem dX0_writeNumber_56 : decode cX0_writeNumber 56 = .ok (.lload_n 1, 1) := by decide +kernel
theorem dX0_writeNumber_57 : decode cX0_writeNumber 57 = .ok (.lconst 0, 1) := by decide +kernel
theorem dX0_writeNumber_58 : decode cX0_writeNumber 58 = .ok (.lcmp, 1) := by decide +kernel
theorem dX0_writeNumber_59 : decode cX0_writeNumber 59 = .ok (.ifCond .ge 9, 3) := by decide +kernel
theorem dX0_writeNumber_62 : decode cX0_writeNumber 62 = .ok (.aload_n 0, 1) := by decide +kernel
theorem dX0_writeNumber_63 : decode cX0_writeNumber 63 = .ok (.bipush 45, 2) := by decide +kernel
theorem dX0_writeNumber_65 : decode cX0_writeNumber 65 = .ok (.invokevirtual 68, 3) := by decide +kernel
theorem dX0_writeNumber_68 : decode cX0_writeNumber 68 = .ok (.iload 5, 2) := by decide +kernel
theorem dX0_writeNumber_70 : decode cX0_writeNumber 70 = .ok (.iconst 1, 1) := by decide +kernel
theorem dX0_writeNumber_71 : decode cX0_writeNumber 71 = .ok (.isub, 1) := by decide +kernel
theorem dX0_writeNumber_72 : decode cX0_writeNumber 72 = .ok (.istore 6, 2) := by decide +kernel
theorem dX0_writeNumber_74 : decode cX0_writeNumber 74 = .ok (.iload 6, 2) := by decide +kernel
theorem dX0_writeNumber_76 : decode cX0_writeNumber 76 = .ok (.ifCond .lt 20, 3) := by decide +kernel
theorem dX0_writeNumber_79 : decode cX0_writeNumber 79 = .ok (.aload_n 0, 1) := by decide +kernel
theorem dX0_writeNumber_80 : decode cX0_writeNumber 80 = .ok (.aload_n 0, 1) := by decide +kernel
theorem dX0_writeNumber_81 : decode cX0_writeNumber 81 = .ok (.getfield 15, 3) := by decide +kernel
theorem dX0_writeNumber_84 : decode cX0_writeNumber 84 = .ok (.iload 6, 2) := by decide +kernel
theorem dX0_writeNumber_86 : decode cX0_writeNumber 86 = .ok (.baload, 1) := by decide +kernel
theorem dX0_writeNumber_87 : decode cX0_writeNumber 87 = .ok (.invokevirtual 68, 3) := by decide +kernel
theorem dX0_writeNumber_90 : decode cX0_writeNumber 90 = .ok (.iinc 6 (-1), 3) := by decide +kernel
theorem dX0_writeNumber_93 : decode cX0_writeNumber 93 = .ok (.goto (-19), 3) := by decide +kernel
theorem dX0_writeNumber_96 : decode cX0_writeNumber 96 = .ok (.return_, 1) := by decide +kernel
set_option maxRecDepth 20000 in
theorem ggX0_writeWord_J0_length_8abf5 : GoodIn wsX0_writeWord wsJ0_length_8abf5 := goodIn_r _ [5, 6, 7, 8, 9, 4, 10, 11, 12] (by decide +kernel) (by decide +kernel)
set_option maxRecDepth 20000 in
theorem gX0_writeWord_J0_length_8abf5 : GoodIn wsX0_writeWord (wsV RX0 76 RJ0 yJ0_length_8abf5 wsJ0_length_8abf5) := goodIn_app (goodIn_of _ (by decide +kernel)) ggX0_writeWord_J0_length_8abf5
set_option maxRecDepth 20000 in
theorem ggX0_writeWord_J0_charAt_5068e : GoodIn wsX0_writeWord wsJ0_charAt_5068e := goodIn_r _ [16, 6, 17, 18, 19, 4, 20, 11, 12, 21, 22, 23, 24, 25, 26, 27, 28, 29, 30, 31, 32, 33, 34, 35, 36, 37, 38, 39, 40, 41, 42, 43, 44, 45, 46, 47, 48, 49] (by decide +kernel) (by decide +kernel)
set_option maxRecDepth 20000 in
theorem gX0_writeWord_J0_charAt_5068e : GoodIn wsX0_writeWord (wsV RX0 81 RJ0 yJ0_charAt_5068e wsJ0_charAt_5068e) := goodIn_app (goodIn_of _ (by decide +kernel)) ggX0_writeWord_J0_charAt_5068e
set_option maxRecDepth 20000 in
theorem ggX0_writeWord_X0_append : GoodIn wsX0_writeWord wsX0_append := goodIn_r _ [54, 55, 56, 57, 58, 59] (by decide +kernel) (by decide +kernel)
set_option maxRecDepth 20000 in
theorem gX0_writeWord_X0_append : GoodIn wsX0_writeWord (wsV RX0 68 RX0 yX0_append wsX0_append) := goodIn_app (goodIn_of _ (by decide +kernel)) ggX0_writeWord_X0_append
theorem dX0_writeWord_0 : decode cX0_writeWord 0 = .ok (.iconst 0, 1) := by decide +kernel
theorem dX0_writeWord_1 : decode cX0_writeWord 1 = .ok (.istore_n 2, 1) := by decide +kernel
theorem dX0_writeWord_2 : decode cX0_writeWord 2 = .ok (.iload_n 2, 1) := by decide +kernel
theorem dX0_writeWord_3 : decode cX0_writeWord 3 = .ok (.aload_n 1, 1) := by decide +kernel
theorem dX0_writeWord_4 : decode cX0_writeWord 4 = .ok (.invokevirtual 76, 3) := by decide +kernel
theorem dX0_writeWord_7 : decode cX0_writeWord 7 = .ok (.if_icmp .ge 18, 3) := by decide +kernel
theorem dX0_writeWord_10 : decode cX0_writeWord 10 = .ok (.aload_n 0, 1) := by decide +kernel
theorem dX0_writeWord_11 : decode cX0_writeWord 11 = .ok (.aload_n 1, 1) := by decide +kernel
theorem dX0_writeWord_12 : decode cX0_writeWord 12 = .ok (.iload_n 2, 1) := by decide +kernel
theorem dX0_writeWord_13 : decode cX0_writeWord 13 = .ok (.invokevirtual 81, 3) := by decide +kernel
theorem dX0_writeWord_16 : decode cX0_writeWord 16 = .ok (.invokevirtual 68, 3) := by decide +kernel
theorem dX0_writeWord_19 : decode cX0_writeWord 19 = .ok (.iinc 2 1, 3) := by decide +kernel
theorem dX0_writeWord_22 : decode cX0_writeWord 22 = .ok (.goto (-20), 3) := by decide +kernel
theorem dX0_writeWord_25 : decode cX0_writeWord 25 = .ok (.return_, 1) := by decide +kernel
theorem dX0_append_0 : decode cX0_append 0 = .ok (.aload_n 0, 1) := by decide +kernel
theorem dX0_append_1 : decode cX0_append 1 = .ok (.getfield 18, 3) := by decide +kernel
theorem dX0_append_4 : decode cX0_append 4 = .ok (.aload_n 0, 1) := by decide +kernel
theorem dX0_append_5 : decode cX0_append 5 = .ok (.getfield 9, 3) := by decide +kernel
theorem dX0_append_8 : decode cX0_append 8 = .ok (.arraylength, 1) := by decide +kernel
theorem dX0_append_9 : decode cX0_append 9 = .ok (.if_icmp .ge 24, 3) := by decide +kernel
theorem dX0_append_12 : decode cX0_append 12 = .ok (.aload_n 0, 1) := by decide +kernel
theorem dX0_append_13 : decode cX0_append 13 = .ok (.getfield 9, 3) := by decide +kernel
theorem dX0_append_16 : decode cX0_append 16 = .ok (.aload_n 0, 1) := by decide +kernel
theorem dX0_append_17 : decode cX0_append 17 = .ok (.getfield 18, 3) := by decide +kernel
theorem dX0_append_20 : decode cX0_append 20 = .ok (.iload_n 1, 1) := by decide +kernel
theorem dX0_append_21 : decode cX0_append 21 = .ok (.i2b, 1) := by decide +kernel
theorem dX0_append_22 : decode cX0_append 22 = .ok (.bastore, 1) := by decide +kernel
theorem dX0_append_23 : decode cX0_append 23 = .ok (.aload_n 0, 1) := by decide +kernel
theorem dX0_append_24 : decode cX0_append 24 = .ok (.dup, 1) := by decide +kernel
theorem dX0_append_25 : decode cX0_append 25 = .ok (.getfield 18, 3) := by decide +kernel
theorem dX0_append_28 : decode cX0_append 28 = .ok (.iconst 1, 1) := by decide +kernel
theorem dX0_append_29 : decode cX0_append 29 = .ok (.iadd, 1) := by decide +kernel
theorem dX0_append_30 : decode cX0_append 30 = .ok (.putfield 18, 3) := by decide +kernel
theorem dX0_append_33 : decode cX0_append 33 = .ok (.return_, 1) := by decide +kernel
end
section
set_option maxRecDepth 20000 in
theorem ggX1_init_X2_init : GoodIn wsX1_init wsX2_init := goodIn_r _ [19, 20, 2, 3, 21, 22, 23, 33, 34, 35, 36] (by decide +kernel) (by decide +kernel)
set_option maxRecDepth 20000 in
theorem gX1_init_X2_init_n11 : GoodIn wsX1_init (wsX2_init) := ggX1_init_X2_init
set_option maxRecDepth 20000 in
theorem ggX1_init_X4_init : GoodIn wsX1_init wsX4_init := goodIn_r _ [25, 26, 2, 3] (by decide +kernel) (by decide +kernel)
set_option maxRecDepth 20000 in
theorem gX1_init_X4_init_n34 : GoodIn wsX1_init (wsX4_init) := ggX1_init_X4_init
set_option maxRecDepth 20000 in
theorem ggX1_init_X2_form : GoodIn wsX1_init wsX2_form := goodIn_r _ [30, 21, 31, 32, 33, 34, 35, 36] (by decide +kernel) (by decide +kernel)
set_option maxRecDepth 20000 in
theorem gX1_init_X2_form : GoodIn wsX1_init (wsV RX1 42 RX2 yX2_form wsX2_form) := goodIn_app (goodIn_of _ (by decide +kernel)) ggX1_init_X2_form
theorem dX1_init_0 : decode cX1_init 0 = .ok (.aload_n 0, 1) := by decide +kernel
theorem dX1_init_1 : decode cX1_init 1 = .ok (.invokespecial 3, 3) := by decide +kernel
theorem dX1_init_4 : decode cX1_init 4 = .ok (.aload_n 0, 1) := by decide +kernel
theorem dX1_init_5 : decode cX1_init 5 = .ok (.new 9, 3) := by decide +kernel
theorem dX1_init_8 : decode cX1_init 8 = .ok (.dup, 1) := by decide +kernel
theorem dX1_init_9 : decode cX1_init 9 = .ok (.invokespecial 11, 3) := by decide +kernel
theorem dX1_init_12 : decode cX1_init 12 = .ok (.putfield 12, 3) := by decide +kernel
theorem dX1_init_15 : decode cX1_init 15 = .ok (.aload_n 0, 1) := by decide +kernel
theorem dX1_init_16 : decode cX1_init 16 = .ok (.bipush 12, 2) := by decide +kernel
theorem dX1_init_18 : decode cX1_init 18 = .ok (.anewarray 9, 3) := by decide +kernel
theorem dX1_init_21 : decode cX1_init 21 = .ok (.putfield 18, 3) := by decide +kernel
theorem dX1_init_24 : decode cX1_init 24 = .ok (.aload_n 0, 1) := by decide +kernel
theorem dX1_init_25 : decode cX1_init 25 = .ok (.bipush 12, 2) := by decide +kernel
theorem dX1_init_27 : decode cX1_init 27 = .ok (.newarray .int, 2) := by decide +kernel
theorem dX1_init_29 : decode cX1_init 29 = .ok (.putfield 22, 3) := by decide +kernel
theorem dX1_init_32 : decode cX1_init 32 = .ok (.aload_n 0, 1) := by decide +kernel
theorem dX1_init_33 : decode cX1_init 33 = .ok (.iconst 5, 1) := by decide +kernel
theorem dX1_init_34 : decode cX1_init 34 = .ok (.anewarray 9, 3) := by decide +kernel
theorem dX1_init_37 : decode cX1_init 37 = .ok (.putfield 26, 3) := by decide +kernel
theorem dX1_init_40 : decode cX1_init 40 = .ok (.aload_n 0, 1) := by decide +kernel
theorem dX1_init_41 : decode cX1_init 41 = .ok (.new 9, 3) := by decide +kernel
theorem dX1_init_44 : decode cX1_init 44 = .ok (.dup, 1) := by decide +kernel
theorem dX1_init_45 : decode cX1_init 45 = .ok (.invokespecial 11, 3) := by decide +kernel
theorem dX1_init_48 : decode cX1_init 48 = .ok (.putfield 29, 3) := by decide +kernel
theorem dX1_init_51 : decode cX1_init 51 = .ok (.aload_n 0, 1) := by decide +kernel
theorem dX1_init_52 : decode cX1_init 52 = .ok (.new 32, 3) := by decide +kernel
theorem dX1_init_55 : decode cX1_init 55 = .ok (.dup, 1) := by decide +kernel
theorem dX1_init_56 : decode cX1_init 56 = .ok (.invokespecial 34, 3) := by decide +kernel
theorem dX1_init_59 : decode cX1_init 59 = .ok (.putfield 35, 3) := by decide +kernel
theorem dX1_init_62 : decode cX1_init 62 = .ok (.aload_n 0, 1) := by decide +kernel
theorem dX1_init_63 : decode cX1_init 63 = .ok (.new 32, 3) := by decide +kernel
theorem dX1_init_66 : decode cX1_init 66 = .ok (.dup, 1) := by decide +kernel
theorem dX1_init_67 : decode cX1_init 67 = .ok (.invokespecial 34, 3) := by decide +kernel
theorem dX1_init_70 : decode cX1_init 70 = .ok (.putfield 39, 3) := by decide +kernel
theorem dX1_init_73 : decode cX1_init 73 = .ok (.aload_n 0, 1) := by decide +kernel
theorem dX1_init_74 : decode cX1_init 74 = .ok (.getfield 12, 3) := by decide +kernel
theorem dX1_init_77 : decode cX1_init 77 = .ok (.iconst 0, 1) := by decide +kernel
theorem dX1_init_78 : decode cX1_init 78 = .ok (.iconst 0, 1) := by decide +kernel
theorem dX1_init_79 : decode cX1_init 79 = .ok (.iconst 1, 1) := by decide +kernel
theorem dX1_init_80 : decode cX1_init 80 = .ok (.invokevirtual 42, 3) := by decide +kernel
theorem dX1_init_83 : decode cX1_init 83 = .ok (.iconst 0, 1) := by decide +kernel
theorem dX1_init_84 : decode cX1_init 84 = .ok (.istore_n 1, 1) := by decide +kernel
theorem dX1_init_85 : decode cX1_init 85 = .ok (.iload_n 1, 1) := by decide +kernel
theorem dX1_init_86 : decode cX1_init 86 = .ok (.bipush 12, 2) := by decide +kernel
theorem dX1_init_88 : decode cX1_init 88 = .ok (.if_icmp .ge 22, 3) := by decide +kernel
theorem dX1_init_91 : decode cX1_init 91 = .ok (.aload_n 0, 1) := by decide +kernel
theorem dX1_init_92 : decode cX1_init 92 = .ok (.getfield 18, 3) := by decide +kernel
theorem dX1_init_95 : decode cX1_init 95 = .ok (.iload_n 1, 1) := by decide +kernel
theorem dX1_init_96 : decode cX1_init 96 = .ok (.new 9, 3) := by decide +kernel
theorem dX1_init_99 : decode cX1_init 99 = .ok (.dup, 1) := by decide +kernel
theorem dX1_init_100 : decode cX1_init 100 = .ok (.invokespecial 11, 3) := by decide +kernel
theorem dX1_init_103 : decode cX1_init 103 = .ok (.aastore, 1) := by decide +kernel
theorem dX1_init_104 : decode cX1_init 104 = .ok (.iinc 1 1, 3) := by decide +kernel
theorem dX1_init_107 : decode cX1_init 107 = .ok (.goto (-22), 3) := by decide +kernel
theorem dX1_init_110 : decode cX1_init 110 = .ok (.iconst 0, 1) := by decide +kernel
theorem dX1_init_111 : decode cX1_init 111 = .ok (.istore_n 1, 1) := by decide +kernel
theorem dX1_init_112 : decode cX1_init 112 = .ok (.iload_n 1, 1) := by decide +kernel
theorem dX1_init_113 : decode cX1_init 113 = .ok (.iconst 5, 1) := by decide +kernel
theorem dX1_init_114 : decode cX1_init 114 = .ok (.if_icmp .ge 22, 3) := by decide +kernel
theorem dX1_init_117 : decode cX1_init 117 = .ok (.aload_n 0, 1) := by decide +kernel
theorem dX1_init_118 : decode cX1_init 118 = .ok (.getfield 26, 3) := by decide +kernel
theorem dX1_init_121 : decode cX1_init 121 = .ok (.iload_n 1, 1) := by decide +kernel
theorem dX1_init_122 : decode cX1_init 122 = .ok (.new 9, 3) := by decide +kernel
theorem dX1_init_125 : decode cX1_init 125 = .ok (.dup, 1) := by decide +kernel
theorem dX1_init_126 : decode cX1_init 126 = .ok (.invokespecial 11, 3) := by decide +kernel
theorem dX1_init_129 : decode cX1_init 129 = .ok (.aastore, 1) := by decide +kernel
theorem dX1_init_130 : decode cX1_init 130 = .ok (.iinc 1 1, 3) := by decide +kernel
theorem dX1_init_133 : decode cX1_init 133 = .ok (.goto (-21), 3) := by decide +kernel
theorem dX1_init_136 : decode cX1_init 136 = .ok (.return_, 1) := by decide +kernel
set_option maxRecDepth 20000 in
theorem ggX1_begin_X2_formLike : GoodIn wsX1_begin wsX2_formLike := goodIn_r _ [8, 9, 10, 11, 12, 13, 14, 7, 15, 25, 26, 27, 28] (by decide +kernel) (by decide +kernel)
set_option maxRecDepth 20000 in
theorem gX1_begin_X2_formLike : GoodIn wsX1_begin (wsV RX1 46 RX2 yX2_formLike wsX2_formLike) := goodIn_app (goodIn_of _ (by decide +kernel)) ggX1_begin_X2_formLike
theorem dX1_begin_0 : decode cX1_begin 0 = .ok (.aload_n 0, 1) := by decide +kernel
theorem dX1_begin_1 : decode cX1_begin 1 = .ok (.getfield 12, 3) := by decide +kernel
theorem dX1_begin_4 : decode cX1_begin 4 = .ok (.aload_n 1, 1) := by decide +kernel
theorem dX1_begin_5 : decode cX1_begin 5 = .ok (.invokevirtual 46, 3) := by decide +kernel
theorem dX1_begin_8 : decode cX1_begin 8 = .ok (.aload_n 0, 1) := by decide +kernel
theorem dX1_begin_9 : decode cX1_begin 9 = .ok (.iconst 0, 1) := by decide +kernel
theorem dX1_begin_10 : decode cX1_begin 10 = .ok (.putfield 50, 3) := by decide +kernel
theorem dX1_begin_13 : decode cX1_begin 13 = .ok (.aload_n 0, 1) := by decide +kernel
theorem dX1_begin_14 : decode cX1_begin 14 = .ok (.iconst 0, 1) := by decide +kernel
theorem dX1_begin_15 : decode cX1_begin 15 = .ok (.putfield 54, 3) := by decide +kernel
theorem dX1_begin_18 : decode cX1_begin 18 = .ok (.return_, 1) := by decide +kernel
theorem dX1_hasRule_0 : decode cX1_hasRule 0 = .ok (.iload_n 1, 1) := by decide +kernel
theorem dX1_hasRule_1 : decode cX1_hasRule 1 = .ok (.ifCond .lt 15, 3) := by decide +kernel
theorem dX1_hasRule_4 : decode cX1_hasRule 4 = .ok (.iload_n 1, 1) := by decide +kernel
theorem dX1_hasRule_5 : decode cX1_hasRule 5 = .ok (.aload_n 0, 1) := by decide +kernel
theorem dX1_hasRule_6 : decode cX1_hasRule 6 = .ok (.getfield 50, 3) := by decide +kernel
theorem dX1_hasRule_9 : decode cX1_hasRule 9 = .ok (.if_icmp .ge 7, 3) := by decide +kernel
theorem dX1_hasRule_12 : decode cX1_hasRule 12 = .ok (.iconst 1, 1) := by decide +kernel
theorem dX1_hasRule_13 : decode cX1_hasRule 13 = .ok (.goto 4, 3) := by decide +kernel
theorem dX1_hasRule_16 : decode cX1_hasRule 16 = .ok (.iconst 0, 1) := by decide +kernel
theorem dX1_hasRule_17 : decode cX1_hasRule 17 = .ok (.ireturn, 1) := by decide +kernel
set_option maxRecDepth 20000 in
theorem ggX1_addRule_X2_copy : GoodIn wsX1_addRule wsX2_copy := goodIn_r _ [8, 9, 10, 11, 12, 13, 7, 14, 15, 16, 17, 18, 19, 20, 30, 31, 32, 33] (by decide +kernel) (by decide +kernel)
set_option maxRecDepth 20000 in
theorem gX1_addRule_X2_copy : GoodIn wsX1_addRule (wsV RX1 57 RX2 yX2_copy wsX2_copy) := goodIn_app (goodIn_of _ (by decide +kernel)) ggX1_addRule_X2_copy
theorem dX1_addRule_0 : decode cX1_addRule 0 = .ok (.aload_n 0, 1) := by decide +kernel
theorem dX1_addRule_1 : decode cX1_addRule 1 = .ok (.getfield 18, 3) := by decide +kernel
theorem dX1_addRule_4 : decode cX1_addRule 4 = .ok (.aload_n 0, 1) := by decide +kernel
theorem dX1_addRule_5 : decode cX1_addRule 5 = .ok (.getfield 50, 3) := by decide +kernel
theorem dX1_addRule_8 : decode cX1_addRule 8 = .ok (.aaload, 1) := by decide +kernel
theorem dX1_addRule_9 : decode cX1_addRule 9 = .ok (.aload_n 1, 1) := by decide +kernel
theorem dX1_addRule_10 : decode cX1_addRule 10 = .ok (.invokevirtual 57, 3) := by decide +kernel
theorem dX1_addRule_13 : decode cX1_addRule 13 = .ok (.aload_n 0, 1) := by decide +kernel
theorem dX1_addRule_14 : decode cX1_addRule 14 = .ok (.getfield 22, 3) := by decide +kernel
theorem dX1_addRule_17 : decode cX1_addRule 17 = .ok (.aload_n 0, 1) := by decide +kernel
theorem dX1_addRule_18 : decode cX1_addRule 18 = .ok (.getfield 50, 3) := by decide +kernel
theorem dX1_addRule_21 : decode cX1_addRule 21 = .ok (.iconst 0, 1) := by decide +kernel
theorem dX1_addRule_22 : decode cX1_addRule 22 = .ok (.iastore, 1) := by decide +kernel
theorem dX1_addRule_23 : decode cX1_addRule 23 = .ok (.aload_n 0, 1) := by decide +kernel
theorem dX1_addRule_24 : decode cX1_addRule 24 = .ok (.dup, 1) := by decide +kernel
theorem dX1_addRule_25 : decode cX1_addRule 25 = .ok (.getfield 50, 3) := by decide +kernel
theorem dX1_addRule_28 : decode cX1_addRule 28 = .ok (.iconst 1, 1) := by decide +kernel
theorem dX1_addRule_29 : decode cX1_addRule 29 = .ok (.iadd, 1) := by decide +kernel
theorem dX1_addRule_30 : decode cX1_addRule 30 = .ok (.putfield 50, 3) := by decide +kernel
theorem dX1_addRule_33 : decode cX1_addRule 33 = .ok (.aload_n 0, 1) := by decide +kernel
theorem dX1_addRule_34 : decode cX1_addRule 34 = .ok (.getfield 50, 3) := by decide +kernel
theorem dX1_addRule_37 : decode cX1_addRule 37 = .ok (.iconst 1, 1) := by decide +kernel
theorem dX1_addRule_38 : decode cX1_addRule 38 = .ok (.isub, 1) := by decide +kernel
theorem dX1_addRule_39 : decode cX1_addRule 39 = .ok (.ireturn, 1) := by decide +kernel
set_option maxRecDepth 20000 in
theorem ggX1_changeCount_X1_allFit : GoodIn wsX1_changeCount wsX1_allFit := goodIn_r _ [6, 7, 8, 9, 10, 11, 5, 12, 13, 14, 15, 16, 17, 18, 19, 20, 21, 1, 22, 23, 24, 25, 26, 27, 28, 29, 30, 31, 32, 33, 34, 35, 36, 37, 38, 39, 40, 41, 42, 43, 44, 45, 46, 47, 48, 49, 50, 51, 52, 53, 54, 55, 56, 57, 58] (by decide +kernel) (by decide +kernel)
set_option maxRecDepth 20000 in
theorem gX1_changeCount_X1_allFit : GoodIn wsX1_changeCount (wsV RX1 60 RX1 yX1_allFit wsX1_allFit) := goodIn_app (goodIn_of _ (by decide +kernel)) ggX1_changeCount_X1_allFit
theorem dX1_changeCount_0 : decode cX1_changeCount 0 = .ok (.aload_n 0, 1) := by decide +kernel
theorem dX1_changeCount_1 : decode cX1_changeCount 1 = .ok (.getfield 22, 3) := by decide +kernel
theorem dX1_changeCount_4 : decode cX1_changeCount 4 = .ok (.iload_n 1, 1) := by decide +kernel
theorem dX1_changeCount_5 : decode cX1_changeCount 5 = .ok (.iaload, 1) := by decide +kernel
theorem dX1_changeCount_6 : decode cX1_changeCount 6 = .ok (.istore_n 3, 1) := by decide +kernel
theorem dX1_changeCount_7 : decode cX1_changeCount 7 = .ok (.aload_n 0, 1) := by decide +kernel
theorem dX1_changeCount_8 : decode cX1_changeCount 8 = .ok (.getfield 22, 3) := by decide +kernel
theorem dX1_changeCount_11 : decode cX1_changeCount 11 = .ok (.iload_n 1, 1) := by decide +kernel
theorem dX1_changeCount_12 : decode cX1_changeCount 12 = .ok (.iload_n 2, 1) := by decide +kernel
theorem dX1_changeCount_13 : decode cX1_changeCount 13 = .ok (.iastore, 1) := by decide +kernel
theorem dX1_changeCount_14 : decode cX1_changeCount 14 = .ok (.aload_n 0, 1) := by decide +kernel
theorem dX1_changeCount_15 : decode cX1_changeCount 15 = .ok (.invokevirtual 60, 3) := by decide +kernel
theorem dX1_changeCount_18 : decode cX1_changeCount 18 = .ok (.ifCond .ne 12, 3) := by decide +kernel
theorem dX1_changeCount_21 : decode cX1_changeCount 21 = .ok (.aload_n 0, 1) := by decide +kernel
theorem dX1_changeCount_22 : decode cX1_changeCount 22 = .ok (.getfield 22, 3) := by decide +kernel
theorem dX1_changeCount_25 : decode cX1_changeCount 25 = .ok (.iload_n 1, 1) := by decide +kernel
theorem dX1_changeCount_26 : decode cX1_changeCount 26 = .ok (.iload_n 3, 1) := by decide +kernel
theorem dX1_changeCount_27 : decode cX1_changeCount 27 = .ok (.iastore, 1) := by decide +kernel
theorem dX1_changeCount_28 : decode cX1_changeCount 28 = .ok (.iconst 0, 1) := by decide +kernel
theorem dX1_changeCount_29 : decode cX1_changeCount 29 = .ok (.ireturn, 1) := by decide +kernel
theorem dX1_changeCount_30 : decode cX1_changeCount 30 = .ok (.iconst 1, 1) := by decide +kernel
theorem dX1_changeCount_31 : decode cX1_changeCount 31 = .ok (.ireturn, 1) := by decide +kernel
set_option maxRecDepth 20000 in
theorem ggX1_changeWeight_X2_copy : GoodIn wsX1_changeWeight wsX2_copy := goodIn_r _ [6, 7, 8, 9, 10, 11, 5, 12, 13, 14, 15, 16, 17, 18, 75, 76, 77, 78] (by decide +kernel) (by decide +kernel)
set_option maxRecDepth 20000 in
theorem gX1_changeWeight_X2_copy : GoodIn wsX1_changeWeight (wsV RX1 57 RX2 yX2_copy wsX2_copy) := goodIn_app (goodIn_of _ (by decide +kernel)) ggX1_changeWeight_X2_copy
set_option maxRecDepth 20000 in
theorem ggX1_changeWeight_X1_tradeSpare : GoodIn wsX1_changeWeight wsX1_tradeSpare := goodIn_r _ [23, 24, 1, 66, 67, 68, 69, 70, 71, 72, 73, 74] (by decide +kernel) (by decide +kernel)
set_option maxRecDepth 20000 in
theorem gX1_changeWeight_X1_tradeSpare : GoodIn wsX1_changeWeight (wsV RX1 64 RX1 yX1_tradeSpare wsX1_tradeSpare) := goodIn_app (goodIn_of _ (by decide +kernel)) ggX1_changeWeight_X1_tradeSpare
set_option maxRecDepth 20000 in
theorem ggX1_changeWeight_X1_allFit : GoodIn wsX1_changeWeight wsX1_allFit := goodIn_r _ [28, 29, 30, 31, 32, 33, 22, 34, 35, 36, 37, 38, 39, 40, 41, 24, 42, 43, 44, 45, 46, 47, 48, 49, 50, 51, 52, 53, 54, 55, 56, 57, 58, 59, 60, 61, 62, 63, 64, 65, 66, 67, 68, 69, 70, 71, 72, 73, 74, 75, 76, 77, 78, 79, 80] (by decide +kernel) (by decide +kernel)
set_option maxRecDepth 20000 in
theorem gX1_changeWeight_X1_allFit : GoodIn wsX1_changeWeight (wsV RX1 60 RX1 yX1_allFit wsX1_allFit) := goodIn_app (goodIn_of _ (by decide +kernel)) ggX1_changeWeight_X1_allFit
theorem dX1_changeWeight_0 : decode cX1_changeWeight 0 = .ok (.aload_n 0, 1) := by decide +kernel
theorem dX1_changeWeight_1 : decode cX1_changeWeight 1 = .ok (.getfield 29, 3) := by decide +kernel
theorem dX1_changeWeight_4 : decode cX1_changeWeight 4 = .ok (.aload_n 2, 1) := by decide +kernel
theorem dX1_changeWeight_5 : decode cX1_changeWeight 5 = .ok (.invokevirtual 57, 3) := by decide +kernel
theorem dX1_changeWeight_8 : decode cX1_changeWeight 8 = .ok (.aload_n 0, 1) := by decide +kernel
theorem dX1_changeWeight_9 : decode cX1_changeWeight 9 = .ok (.iload_n 1, 1) := by decide +kernel
theorem dX1_changeWeight_10 : decode cX1_changeWeight 10 = .ok (.invokevirtual 64, 3) := by decide +kernel
theorem dX1_changeWeight_13 : decode cX1_changeWeight 13 = .ok (.aload_n 0, 1) := by decide +kernel
theorem dX1_changeWeight_14 : decode cX1_changeWeight 14 = .ok (.invokevirtual 60, 3) := by decide +kernel
theorem dX1_changeWeight_17 : decode cX1_changeWeight 17 = .ok (.ifCond .ne 10, 3) := by decide +kernel
theorem dX1_changeWeight_20 : decode cX1_changeWeight 20 = .ok (.aload_n 0, 1) := by decide +kernel
theorem dX1_changeWeight_21 : decode cX1_changeWeight 21 = .ok (.iload_n 1, 1) := by decide +kernel
theorem dX1_changeWeight_22 : decode cX1_changeWeight 22 = .ok (.invokevirtual 64, 3) := by decide +kernel
theorem dX1_changeWeight_25 : decode cX1_changeWeight 25 = .ok (.iconst 0, 1) := by decide +kernel
theorem dX1_changeWeight_26 : decode cX1_changeWeight 26 = .ok (.ireturn, 1) := by decide +kernel
theorem dX1_changeWeight_27 : decode cX1_changeWeight 27 = .ok (.iconst 1, 1) := by decide +kernel
theorem dX1_changeWeight_28 : decode cX1_changeWeight 28 = .ok (.ireturn, 1) := by decide +kernel
theorem dX1_tradeSpare_0 : decode cX1_tradeSpare 0 = .ok (.aload_n 0, 1) := by decide +kernel
theorem dX1_tradeSpare_1 : decode cX1_tradeSpare 1 = .ok (.getfield 18, 3) := by decide +kernel
theorem dX1_tradeSpare_4 : decode cX1_tradeSpare 4 = .ok (.iload_n 1, 1) := by decide +kernel
theorem dX1_tradeSpare_5 : decode cX1_tradeSpare 5 = .ok (.aaload, 1) := by decide +kernel
theorem dX1_tradeSpare_6 : decode cX1_tradeSpare 6 = .ok (.astore_n 2, 1) := by decide +kernel
theorem dX1_tradeSpare_7 : decode cX1_tradeSpare 7 = .ok (.aload_n 0, 1) := by decide +kernel
theorem dX1_tradeSpare_8 : decode cX1_tradeSpare 8 = .ok (.getfield 18, 3) := by decide +kernel
theorem dX1_tradeSpare_11 : decode cX1_tradeSpare 11 = .ok (.iload_n 1, 1) := by decide +kernel
theorem dX1_tradeSpare_12 : decode cX1_tradeSpare 12 = .ok (.aload_n 0, 1) := by decide +kernel
theorem dX1_tradeSpare_13 : decode cX1_tradeSpare 13 = .ok (.getfield 29, 3) := by decide +kernel
theorem dX1_tradeSpare_16 : decode cX1_tradeSpare 16 = .ok (.aastore, 1) := by decide +kernel
theorem dX1_tradeSpare_17 : decode cX1_tradeSpare 17 = .ok (.aload_n 0, 1) := by decide +kernel
theorem dX1_tradeSpare_18 : decode cX1_tradeSpare 18 = .ok (.aload_n 2, 1) := by decide +kernel
theorem dX1_tradeSpare_19 : decode cX1_tradeSpare 19 = .ok (.putfield 29, 3) := by decide +kernel
theorem dX1_tradeSpare_22 : decode cX1_tradeSpare 22 = .ok (.return_, 1) := by decide +kernel
set_option maxRecDepth 20000 in
theorem ggX1_allFit_X1_fitsAt : GoodIn wsX1_allFit wsX1_fitsAt := goodIn_r _ [7, 8, 9, 10, 11, 12, 13, 6, 14, 15, 16, 17, 18, 19, 20, 21, 22, 23, 24, 25, 26, 27, 28, 29, 30, 31, 32, 33, 34, 35, 36, 37, 38, 39, 40, 41, 42, 43, 44, 45, 46, 47, 48, 49, 50, 51, 52, 53, 54] (by decide +kernel) (by decide +kernel)
set_option maxRecDepth 20000 in
theorem gX1_allFit_X1_fitsAt : GoodIn wsX1_allFit (wsV RX1 71 RX1 yX1_fitsAt wsX1_fitsAt) := goodIn_app (goodIn_of _ (by decide +kernel)) ggX1_allFit_X1_fitsAt
theorem dX1_allFit_0 : decode cX1_allFit 0 = .ok (.iconst 0, 1) := by decide +kernel
theorem dX1_allFit_1 : decode cX1_allFit 1 = .ok (.istore_n 1, 1) := by decide +kernel
theorem dX1_allFit_2 : decode cX1_allFit 2 = .ok (.iload_n 1, 1) := by decide +kernel
theorem dX1_allFit_3 : decode cX1_allFit 3 = .ok (.aload_n 0, 1) := by decide +kernel
theorem dX1_allFit_4 : decode cX1_allFit 4 = .ok (.getfield 12, 3) := by decide +kernel
theorem dX1_allFit_7 : decode cX1_allFit 7 = .ok (.getfield 68, 3) := by decide +kernel
theorem dX1_allFit_10 : decode cX1_allFit 10 = .ok (.if_icmp .ge 19, 3) := by decide +kernel
theorem dX1_allFit_13 : decode cX1_allFit 13 = .ok (.aload_n 0, 1) := by decide +kernel
theorem dX1_allFit_14 : decode cX1_allFit 14 = .ok (.iload_n 1, 1) := by decide +kernel
theorem dX1_allFit_15 : decode cX1_allFit 15 = .ok (.invokevirtual 71, 3) := by decide +kernel
theorem dX1_allFit_18 : decode cX1_allFit 18 = .ok (.ifCond .ne 5, 3) := by decide +kernel
theorem dX1_allFit_21 : decode cX1_allFit 21 = .ok (.iconst 0, 1) := by decide +kernel
theorem dX1_allFit_22 : decode cX1_allFit 22 = .ok (.ireturn, 1) := by decide +kernel
theorem dX1_allFit_23 : decode cX1_allFit 23 = .ok (.iinc 1 1, 3) := by decide +kernel
theorem dX1_allFit_26 : decode cX1_allFit 26 = .ok (.goto (-24), 3) := by decide +kernel
theorem dX1_allFit_29 : decode cX1_allFit 29 = .ok (.iconst 1, 1) := by decide +kernel
theorem dX1_allFit_30 : decode cX1_allFit 30 = .ok (.ireturn, 1) := by decide +kernel
set_option maxRecDepth 20000 in
theorem ggX1_fitsAt_X1_pricePart : GoodIn wsX1_fitsAt wsX1_pricePart := goodIn_r _ [8, 2, 9, 10, 11, 12, 13, 14, 15, 16, 17, 18, 19, 20, 21, 22, 23, 34, 35, 36, 37, 38, 39, 40, 41, 42, 43, 44, 45, 46, 47, 48] (by decide +kernel) (by decide +kernel)
set_option maxRecDepth 20000 in
theorem gX1_fitsAt_X1_pricePart : GoodIn wsX1_fitsAt (wsV RX1 75 RX1 yX1_pricePart wsX1_pricePart) := goodIn_app (goodIn_of _ (by decide +kernel)) ggX1_fitsAt_X1_pricePart
set_option maxRecDepth 20000 in
theorem ggX1_fitsAt_X4_fits : GoodIn wsX1_fitsAt wsX4_fits := goodIn_r _ [27, 17, 28, 29, 47, 48] (by decide +kernel) (by decide +kernel)
set_option maxRecDepth 20000 in
theorem gX1_fitsAt_X4_fits : GoodIn wsX1_fitsAt (wsV RX1 79 RX4 yX4_fits wsX4_fits) := goodIn_app (goodIn_of _ (by decide +kernel)) ggX1_fitsAt_X4_fits
set_option maxRecDepth 20000 in
theorem ggX1_fitsAt_X1_priceSum : GoodIn wsX1_fitsAt wsX1_priceSum := goodIn_r _ [33, 3, 1, 9, 10, 11, 12, 13, 14, 15, 16, 17, 18, 19, 20, 21, 22, 23, 34, 35, 36, 37, 38, 39, 40, 41, 42, 43, 44, 45, 46, 47, 48] (by decide +kernel) (by decide +kernel)
set_option maxRecDepth 20000 in
theorem gX1_fitsAt_X1_priceSum : GoodIn wsX1_fitsAt (wsV RX1 82 RX1 yX1_priceSum wsX1_priceSum) := goodIn_app (goodIn_of _ (by decide +kernel)) ggX1_fitsAt_X1_priceSum
theorem dX1_fitsAt_0 : decode cX1_fitsAt 0 = .ok (.iconst 0, 1) := by decide +kernel
theorem dX1_fitsAt_1 : decode cX1_fitsAt 1 = .ok (.istore_n 2, 1) := by decide +kernel
theorem dX1_fitsAt_2 : decode cX1_fitsAt 2 = .ok (.iload_n 2, 1) := by decide +kernel
theorem dX1_fitsAt_3 : decode cX1_fitsAt 3 = .ok (.aload_n 0, 1) := by decide +kernel
theorem dX1_fitsAt_4 : decode cX1_fitsAt 4 = .ok (.getfield 50, 3) := by decide +kernel
theorem dX1_fitsAt_7 : decode cX1_fitsAt 7 = .ok (.if_icmp .ge 27, 3) := by decide +kernel
theorem dX1_fitsAt_10 : decode cX1_fitsAt 10 = .ok (.aload_n 0, 1) := by decide +kernel
theorem dX1_fitsAt_11 : decode cX1_fitsAt 11 = .ok (.iload_n 2, 1) := by decide +kernel
theorem dX1_fitsAt_12 : decode cX1_fitsAt 12 = .ok (.iload_n 1, 1) := by decide +kernel
theorem dX1_fitsAt_13 : decode cX1_fitsAt 13 = .ok (.invokevirtual 75, 3) := by decide +kernel
theorem dX1_fitsAt_16 : decode cX1_fitsAt 16 = .ok (.aload_n 0, 1) := by decide +kernel
theorem dX1_fitsAt_17 : decode cX1_fitsAt 17 = .ok (.getfield 39, 3) := by decide +kernel
theorem dX1_fitsAt_20 : decode cX1_fitsAt 20 = .ok (.invokevirtual 79, 3) := by decide +kernel
theorem dX1_fitsAt_23 : decode cX1_fitsAt 23 = .ok (.ifCond .ne 5, 3) := by decide +kernel
theorem dX1_fitsAt_26 : decode cX1_fitsAt 26 = .ok (.iconst 0, 1) := by decide +kernel
theorem dX1_fitsAt_27 : decode cX1_fitsAt 27 = .ok (.ireturn, 1) := by decide +kernel
theorem dX1_fitsAt_28 : decode cX1_fitsAt 28 = .ok (.iinc 2 1, 3) := by decide +kernel
theorem dX1_fitsAt_31 : decode cX1_fitsAt 31 = .ok (.goto (-29), 3) := by decide +kernel
theorem dX1_fitsAt_34 : decode cX1_fitsAt 34 = .ok (.aload_n 0, 1) := by decide +kernel
theorem dX1_fitsAt_35 : decode cX1_fitsAt 35 = .ok (.iload_n 1, 1) := by decide +kernel
theorem dX1_fitsAt_36 : decode cX1_fitsAt 36 = .ok (.invokevirtual 82, 3) := by decide +kernel
theorem dX1_fitsAt_39 : decode cX1_fitsAt 39 = .ok (.aload_n 0, 1) := by decide +kernel
theorem dX1_fitsAt_40 : decode cX1_fitsAt 40 = .ok (.getfield 35, 3) := by decide +kernel
theorem dX1_fitsAt_43 : decode cX1_fitsAt 43 = .ok (.invokevirtual 79, 3) := by decide +kernel
theorem dX1_fitsAt_46 : decode cX1_fitsAt 46 = .ok (.ireturn, 1) := by decide +kernel
set_option maxRecDepth 20000 in
theorem ggX1_pricePart_X4_clear : GoodIn wsX1_pricePart wsX4_clear := goodIn_r _ [9, 10, 11, 30, 31] (by decide +kernel) (by decide +kernel)
set_option maxRecDepth 20000 in
theorem gX1_pricePart_X4_clear : GoodIn wsX1_pricePart (wsV RX1 85 RX4 yX4_clear wsX4_clear) := goodIn_app (goodIn_of _ (by decide +kernel)) ggX1_pricePart_X4_clear
set_option maxRecDepth 20000 in
theorem ggX1_pricePart_X4_addProduct : GoodIn wsX1_pricePart wsX4_addProduct := goodIn_r _ [15, 16, 11, 10, 30, 31] (by decide +kernel) (by decide +kernel)
set_option maxRecDepth 20000 in
theorem gX1_pricePart_X4_addProduct : GoodIn wsX1_pricePart (wsV RX1 92 RX4 yX4_addProduct wsX4_addProduct) := goodIn_app (goodIn_of _ (by decide +kernel)) ggX1_pricePart_X4_addProduct
theorem dX1_pricePart_0 : decode cX1_pricePart 0 = .ok (.aload_n 0, 1) := by decide +kernel
theorem dX1_pricePart_1 : decode cX1_pricePart 1 = .ok (.getfield 39, 3) := by decide +kernel
theorem dX1_pricePart_4 : decode cX1_pricePart 4 = .ok (.invokevirtual 85, 3) := by decide +kernel
theorem dX1_pricePart_7 : decode cX1_pricePart 7 = .ok (.aload_n 0, 1) := by decide +kernel
theorem dX1_pricePart_8 : decode cX1_pricePart 8 = .ok (.getfield 39, 3) := by decide +kernel
theorem dX1_pricePart_11 : decode cX1_pricePart 11 = .ok (.aload_n 0, 1) := by decide +kernel
theorem dX1_pricePart_12 : decode cX1_pricePart 12 = .ok (.getfield 18, 3) := by decide +kernel
theorem dX1_pricePart_15 : decode cX1_pricePart 15 = .ok (.iload_n 1, 1) := by decide +kernel
theorem dX1_pricePart_16 : decode cX1_pricePart 16 = .ok (.aaload, 1) := by decide +kernel
theorem dX1_pricePart_17 : decode cX1_pricePart 17 = .ok (.getfield 88, 3) := by decide +kernel
theorem dX1_pricePart_20 : decode cX1_pricePart 20 = .ok (.iload_n 2, 1) := by decide +kernel
theorem dX1_pricePart_21 : decode cX1_pricePart 21 = .ok (.laload, 1) := by decide +kernel
theorem dX1_pricePart_22 : decode cX1_pricePart 22 = .ok (.aload_n 0, 1) := by decide +kernel
theorem dX1_pricePart_23 : decode cX1_pricePart 23 = .ok (.getfield 22, 3) := by decide +kernel
theorem dX1_pricePart_26 : decode cX1_pricePart 26 = .ok (.iload_n 1, 1) := by decide +kernel
theorem dX1_pricePart_27 : decode cX1_pricePart 27 = .ok (.iaload, 1) := by decide +kernel
theorem dX1_pricePart_28 : decode cX1_pricePart 28 = .ok (.i2l, 1) := by decide +kernel
theorem dX1_pricePart_29 : decode cX1_pricePart 29 = .ok (.invokevirtual 92, 3) := by decide +kernel
theorem dX1_pricePart_32 : decode cX1_pricePart 32 = .ok (.return_, 1) := by decide +kernel
set_option maxRecDepth 20000 in
theorem ggX1_priceSum_X4_clear : GoodIn wsX1_priceSum wsX4_clear := goodIn_r _ [10, 11, 12, 31, 32] (by decide +kernel) (by decide +kernel)
set_option maxRecDepth 20000 in
theorem gX1_priceSum_X4_clear : GoodIn wsX1_priceSum (wsV RX1 85 RX4 yX4_clear wsX4_clear) := goodIn_app (goodIn_of _ (by decide +kernel)) ggX1_priceSum_X4_clear
set_option maxRecDepth 20000 in
theorem ggX1_priceSum_X4_addProduct : GoodIn wsX1_priceSum wsX4_addProduct := goodIn_r _ [16, 17, 12, 11, 31, 32] (by decide +kernel) (by decide +kernel)
set_option maxRecDepth 20000 in
theorem gX1_priceSum_X4_addProduct : GoodIn wsX1_priceSum (wsV RX1 92 RX4 yX4_addProduct wsX4_addProduct) := goodIn_app (goodIn_of _ (by decide +kernel)) ggX1_priceSum_X4_addProduct
theorem dX1_priceSum_0 : decode cX1_priceSum 0 = .ok (.aload_n 0, 1) := by decide +kernel
theorem dX1_priceSum_1 : decode cX1_priceSum 1 = .ok (.getfield 35, 3) := by decide +kernel
theorem dX1_priceSum_4 : decode cX1_priceSum 4 = .ok (.invokevirtual 85, 3) := by decide +kernel
theorem dX1_priceSum_7 : decode cX1_priceSum 7 = .ok (.iconst 0, 1) := by decide +kernel
theorem dX1_priceSum_8 : decode cX1_priceSum 8 = .ok (.istore_n 2, 1) := by decide +kernel
theorem dX1_priceSum_9 : decode cX1_priceSum 9 = .ok (.iload_n 2, 1) := by decide +kernel
theorem dX1_priceSum_10 : decode cX1_priceSum 10 = .ok (.aload_n 0, 1) := by decide +kernel
theorem dX1_priceSum_11 : decode cX1_priceSum 11 = .ok (.getfield 50, 3) := by decide +kernel
theorem dX1_priceSum_14 : decode cX1_priceSum 14 = .ok (.if_icmp .ge 34, 3) := by decide +kernel
theorem dX1_priceSum_17 : decode cX1_priceSum 17 = .ok (.aload_n 0, 1) := by decide +kernel
theorem dX1_priceSum_18 : decode cX1_priceSum 18 = .ok (.getfield 35, 3) := by decide +kernel
theorem dX1_priceSum_21 : decode cX1_priceSum 21 = .ok (.aload_n 0, 1) := by decide +kernel
theorem dX1_priceSum_22 : decode cX1_priceSum 22 = .ok (.getfield 18, 3) := by decide +kernel
theorem dX1_priceSum_25 : decode cX1_priceSum 25 = .ok (.iload_n 2, 1) := by decide +kernel
theorem dX1_priceSum_26 : decode cX1_priceSum 26 = .ok (.aaload, 1) := by decide +kernel
theorem dX1_priceSum_27 : decode cX1_priceSum 27 = .ok (.getfield 88, 3) := by decide +kernel
theorem dX1_priceSum_30 : decode cX1_priceSum 30 = .ok (.iload_n 1, 1) := by decide +kernel
theorem dX1_priceSum_31 : decode cX1_priceSum 31 = .ok (.laload, 1) := by decide +kernel
theorem dX1_priceSum_32 : decode cX1_priceSum 32 = .ok (.aload_n 0, 1) := by decide +kernel
theorem dX1_priceSum_33 : decode cX1_priceSum 33 = .ok (.getfield 22, 3) := by decide +kernel
theorem dX1_priceSum_36 : decode cX1_priceSum 36 = .ok (.iload_n 2, 1) := by decide +kernel
theorem dX1_priceSum_37 : decode cX1_priceSum 37 = .ok (.iaload, 1) := by decide +kernel
theorem dX1_priceSum_38 : decode cX1_priceSum 38 = .ok (.i2l, 1) := by decide +kernel
theorem dX1_priceSum_39 : decode cX1_priceSum 39 = .ok (.invokevirtual 92, 3) := by decide +kernel
theorem dX1_priceSum_42 : decode cX1_priceSum 42 = .ok (.iinc 2 1, 3) := by decide +kernel
theorem dX1_priceSum_45 : decode cX1_priceSum 45 = .ok (.goto (-36), 3) := by decide +kernel
theorem dX1_priceSum_48 : decode cX1_priceSum 48 = .ok (.return_, 1) := by decide +kernel
set_option maxRecDepth 20000 in
theorem ggX1_sumInto_X2_formLike : GoodIn wsX1_sumInto wsX2_formLike := goodIn_r _ [9, 10, 11, 12, 13, 14, 15, 8, 16, 50, 51, 52, 53] (by decide +kernel) (by decide +kernel)
set_option maxRecDepth 20000 in
theorem gX1_sumInto_X2_formLike : GoodIn wsX1_sumInto (wsV RX1 46 RX2 yX2_formLike wsX2_formLike) := goodIn_app (goodIn_of _ (by decide +kernel)) ggX1_sumInto_X2_formLike
set_option maxRecDepth 20000 in
theorem ggX1_sumInto_X1_priceSum : GoodIn wsX1_sumInto wsX1_priceSum := goodIn_r _ [21, 4, 22, 23, 3, 24, 25, 26, 27, 28, 29, 30, 31, 32, 33, 34, 35, 36, 41, 42, 43, 44, 45, 46, 47, 48, 49, 50, 51, 52, 53, 54, 55] (by decide +kernel) (by decide +kernel)
set_option maxRecDepth 20000 in
theorem gX1_sumInto_X1_priceSum : GoodIn wsX1_sumInto (wsV RX1 82 RX1 yX1_priceSum wsX1_priceSum) := goodIn_app (goodIn_of _ (by decide +kernel)) ggX1_sumInto_X1_priceSum
set_option maxRecDepth 20000 in
theorem ggX1_sumInto_X4_value : GoodIn wsX1_sumInto wsX4_value := goodIn_r _ [40, 30, 31, 54, 55] (by decide +kernel) (by decide +kernel)
set_option maxRecDepth 20000 in
theorem gX1_sumInto_X4_value : GoodIn wsX1_sumInto (wsV RX1 96 RX4 yX4_value wsX4_value) := goodIn_app (goodIn_of _ (by decide +kernel)) ggX1_sumInto_X4_value
theorem dX1_sumInto_0 : decode cX1_sumInto 0 = .ok (.aload_n 1, 1) := by decide +kernel
theorem dX1_sumInto_1 : decode cX1_sumInto 1 = .ok (.aload_n 0, 1) := by decide +kernel
theorem dX1_sumInto_2 : decode cX1_sumInto 2 = .ok (.getfield 12, 3) := by decide +kernel
theorem dX1_sumInto_5 : decode cX1_sumInto 5 = .ok (.invokevirtual 46, 3) := by decide +kernel
theorem dX1_sumInto_8 : decode cX1_sumInto 8 = .ok (.iconst 0, 1) := by decide +kernel
theorem dX1_sumInto_9 : decode cX1_sumInto 9 = .ok (.istore_n 2, 1) := by decide +kernel
theorem dX1_sumInto_10 : decode cX1_sumInto 10 = .ok (.iload_n 2, 1) := by decide +kernel
theorem dX1_sumInto_11 : decode cX1_sumInto 11 = .ok (.aload_n 0, 1) := by decide +kernel
theorem dX1_sumInto_12 : decode cX1_sumInto 12 = .ok (.getfield 12, 3) := by decide +kernel
theorem dX1_sumInto_15 : decode cX1_sumInto 15 = .ok (.getfield 68, 3) := by decide +kernel
theorem dX1_sumInto_18 : decode cX1_sumInto 18 = .ok (.if_icmp .ge 27, 3) := by decide +kernel
theorem dX1_sumInto_21 : decode cX1_sumInto 21 = .ok (.aload_n 0, 1) := by decide +kernel
theorem dX1_sumInto_22 : decode cX1_sumInto 22 = .ok (.iload_n 2, 1) := by decide +kernel
theorem dX1_sumInto_23 : decode cX1_sumInto 23 = .ok (.invokevirtual 82, 3) := by decide +kernel
theorem dX1_sumInto_26 : decode cX1_sumInto 26 = .ok (.aload_n 1, 1) := by decide +kernel
theorem dX1_sumInto_27 : decode cX1_sumInto 27 = .ok (.getfield 88, 3) := by decide +kernel
theorem dX1_sumInto_30 : decode cX1_sumInto 30 = .ok (.iload_n 2, 1) := by decide +kernel
theorem dX1_sumInto_31 : decode cX1_sumInto 31 = .ok (.aload_n 0, 1) := by decide +kernel
theorem dX1_sumInto_32 : decode cX1_sumInto 32 = .ok (.getfield 35, 3) := by decide +kernel
theorem dX1_sumInto_35 : decode cX1_sumInto 35 = .ok (.invokevirtual 96, 3) := by decide +kernel
theorem dX1_sumInto_38 : decode cX1_sumInto 38 = .ok (.lastore, 1) := by decide +kernel
theorem dX1_sumInto_39 : decode cX1_sumInto 39 = .ok (.iinc 2 1, 3) := by decide +kernel
theorem dX1_sumInto_42 : decode cX1_sumInto 42 = .ok (.goto (-32), 3) := by decide +kernel
theorem dX1_sumInto_45 : decode cX1_sumInto 45 = .ok (.return_, 1) := by decide +kernel
set_option maxRecDepth 20000 in
theorem ggX1_partInto_X2_formLike : GoodIn wsX1_partInto wsX2_formLike := goodIn_r _ [9, 10, 11, 12, 13, 14, 15, 8, 16, 49, 50, 51, 52] (by decide +kernel) (by decide +kernel)
set_option maxRecDepth 20000 in
theorem gX1_partInto_X2_formLike : GoodIn wsX1_partInto (wsV RX1 46 RX2 yX2_formLike wsX2_formLike) := goodIn_app (goodIn_of _ (by decide +kernel)) ggX1_partInto_X2_formLike
set_option maxRecDepth 20000 in
theorem ggX1_partInto_X1_pricePart : GoodIn wsX1_partInto wsX1_pricePart := goodIn_r _ [21, 4, 22, 3, 23, 24, 25, 26, 27, 28, 29, 30, 31, 32, 33, 34, 35, 40, 41, 42, 43, 44, 45, 46, 47, 48, 49, 50, 51, 52, 53, 54] (by decide +kernel) (by decide +kernel)
set_option maxRecDepth 20000 in
theorem gX1_partInto_X1_pricePart : GoodIn wsX1_partInto (wsV RX1 75 RX1 yX1_pricePart wsX1_pricePart) := goodIn_app (goodIn_of _ (by decide +kernel)) ggX1_partInto_X1_pricePart
set_option maxRecDepth 20000 in
theorem ggX1_partInto_X4_value : GoodIn wsX1_partInto wsX4_value := goodIn_r _ [39, 29, 30, 53, 54] (by decide +kernel) (by decide +kernel)
set_option maxRecDepth 20000 in
theorem gX1_partInto_X4_value : GoodIn wsX1_partInto (wsV RX1 96 RX4 yX4_value wsX4_value) := goodIn_app (goodIn_of _ (by decide +kernel)) ggX1_partInto_X4_value
theorem dX1_partInto_0 : decode cX1_partInto 0 = .ok (.aload_n 2, 1) := by decide +kernel
theorem dX1_partInto_1 : decode cX1_partInto 1 = .ok (.aload_n 0, 1) := by decide +kernel
theorem dX1_partInto_2 : decode cX1_partInto 2 = .ok (.getfield 12, 3) := by decide +kernel
theorem dX1_partInto_5 : decode cX1_partInto 5 = .ok (.invokevirtual 46, 3) := by decide +kernel
theorem dX1_partInto_8 : decode cX1_partInto 8 = .ok (.iconst 0, 1) := by decide +kernel
theorem dX1_partInto_9 : decode cX1_partInto 9 = .ok (.istore_n 3, 1) := by decide +kernel
theorem dX1_partInto_10 : decode cX1_partInto 10 = .ok (.iload_n 3, 1) := by decide +kernel
theorem dX1_partInto_11 : decode cX1_partInto 11 = .ok (.aload_n 0, 1) := by decide +kernel
theorem dX1_partInto_12 : decode cX1_partInto 12 = .ok (.getfield 12, 3) := by decide +kernel
theorem dX1_partInto_15 : decode cX1_partInto 15 = .ok (.getfield 68, 3) := by decide +kernel
theorem dX1_partInto_18 : decode cX1_partInto 18 = .ok (.if_icmp .ge 28, 3) := by decide +kernel
theorem dX1_partInto_21 : decode cX1_partInto 21 = .ok (.aload_n 0, 1) := by decide +kernel
theorem dX1_partInto_22 : decode cX1_partInto 22 = .ok (.iload_n 1, 1) := by decide +kernel
theorem dX1_partInto_23 : decode cX1_partInto 23 = .ok (.iload_n 3, 1) := by decide +kernel
theorem dX1_partInto_24 : decode cX1_partInto 24 = .ok (.invokevirtual 75, 3) := by decide +kernel
theorem dX1_partInto_27 : decode cX1_partInto 27 = .ok (.aload_n 2, 1) := by decide +kernel
theorem dX1_partInto_28 : decode cX1_partInto 28 = .ok (.getfield 88, 3) := by decide +kernel
theorem dX1_partInto_31 : decode cX1_partInto 31 = .ok (.iload_n 3, 1) := by decide +kernel
theorem dX1_partInto_32 : decode cX1_partInto 32 = .ok (.aload_n 0, 1) := by decide +kernel
theorem dX1_partInto_33 : decode cX1_partInto 33 = .ok (.getfield 39, 3) := by decide +kernel
theorem dX1_partInto_36 : decode cX1_partInto 36 = .ok (.invokevirtual 96, 3) := by decide +kernel
theorem dX1_partInto_39 : decode cX1_partInto 39 = .ok (.lastore, 1) := by decide +kernel
theorem dX1_partInto_40 : decode cX1_partInto 40 = .ok (.iinc 3 1, 3) := by decide +kernel
theorem dX1_partInto_43 : decode cX1_partInto 43 = .ok (.goto (-33), 3) := by decide +kernel
theorem dX1_partInto_46 : decode cX1_partInto 46 = .ok (.return_, 1) := by decide +kernel
set_option maxRecDepth 20000 in
theorem ggX1_bears_X1_bearsAt : GoodIn wsX1_bears wsX1_bearsAt := goodIn_r _ [7, 8, 9, 10, 11, 12, 13, 14, 15, 16, 17, 18, 19, 20, 21, 22, 23, 24, 25, 26, 27, 28, 29, 30, 31, 32, 33, 34, 35, 36, 37, 38, 39, 40, 41, 42, 43, 44] (by decide +kernel) (by decide +kernel)
set_option maxRecDepth 20000 in
theorem gX1_bears_X1_bearsAt : GoodIn wsX1_bears (wsV RX1 100 RX1 yX1_bearsAt wsX1_bearsAt) := goodIn_app (goodIn_of _ (by decide +kernel)) ggX1_bears_X1_bearsAt
theorem dX1_bears_0 : decode cX1_bears 0 = .ok (.iconst 0, 1) := by decide +kernel
theorem dX1_bears_1 : decode cX1_bears 1 = .ok (.istore_n 2, 1) := by decide +kernel
theorem dX1_bears_2 : decode cX1_bears 2 = .ok (.iload_n 2, 1) := by decide +kernel
theorem dX1_bears_3 : decode cX1_bears 3 = .ok (.aload_n 0, 1) := by decide +kernel
theorem dX1_bears_4 : decode cX1_bears 4 = .ok (.getfield 12, 3) := by decide +kernel
theorem dX1_bears_7 : decode cX1_bears 7 = .ok (.getfield 68, 3) := by decide +kernel
theorem dX1_bears_10 : decode cX1_bears 10 = .ok (.if_icmp .ge 31, 3) := by decide +kernel
theorem dX1_bears_13 : decode cX1_bears 13 = .ok (.aload_n 0, 1) := by decide +kernel
theorem dX1_bears_14 : decode cX1_bears 14 = .ok (.iload_n 2, 1) := by decide +kernel
theorem dX1_bears_15 : decode cX1_bears 15 = .ok (.iload_n 1, 1) := by decide +kernel
theorem dX1_bears_16 : decode cX1_bears 16 = .ok (.iconst 1, 1) := by decide +kernel
theorem dX1_bears_17 : decode cX1_bears 17 = .ok (.invokevirtual 100, 3) := by decide +kernel
theorem dX1_bears_20 : decode cX1_bears 20 = .ok (.ifCond .eq 13, 3) := by decide +kernel
theorem dX1_bears_23 : decode cX1_bears 23 = .ok (.aload_n 0, 1) := by decide +kernel
theorem dX1_bears_24 : decode cX1_bears 24 = .ok (.iload_n 2, 1) := by decide +kernel
theorem dX1_bears_25 : decode cX1_bears 25 = .ok (.iload_n 1, 1) := by decide +kernel
theorem dX1_bears_26 : decode cX1_bears 26 = .ok (.iconst 0, 1) := by decide +kernel
theorem dX1_bears_27 : decode cX1_bears 27 = .ok (.invokevirtual 100, 3) := by decide +kernel
theorem dX1_bears_30 : decode cX1_bears 30 = .ok (.ifCond .ne 5, 3) := by decide +kernel
theorem dX1_bears_33 : decode cX1_bears 33 = .ok (.iconst 0, 1) := by decide +kernel
theorem dX1_bears_34 : decode cX1_bears 34 = .ok (.ireturn, 1) := by decide +kernel
theorem dX1_bears_35 : decode cX1_bears 35 = .ok (.iinc 2 1, 3) := by decide +kernel
theorem dX1_bears_38 : decode cX1_bears 38 = .ok (.goto (-36), 3) := by decide +kernel
theorem dX1_bears_41 : decode cX1_bears 41 = .ok (.iconst 1, 1) := by decide +kernel
theorem dX1_bears_42 : decode cX1_bears 42 = .ok (.ireturn, 1) := by decide +kernel
set_option maxRecDepth 20000 in
theorem ggX1_bearsAt_X4_clear : GoodIn wsX1_bearsAt wsX4_clear := goodIn_r _ [9, 10, 11, 36, 37] (by decide +kernel) (by decide +kernel)
set_option maxRecDepth 20000 in
theorem gX1_bearsAt_X4_clear : GoodIn wsX1_bearsAt (wsV RX1 85 RX4 yX4_clear wsX4_clear) := goodIn_app (goodIn_of _ (by decide +kernel)) ggX1_bearsAt_X4_clear
set_option maxRecDepth 20000 in
theorem ggX1_bearsAt_X4_addProduct : GoodIn wsX1_bearsAt wsX4_addProduct := goodIn_r _ [15, 16, 11, 10, 36, 37] (by decide +kernel) (by decide +kernel)
set_option maxRecDepth 20000 in
theorem gX1_bearsAt_X4_addProduct : GoodIn wsX1_bearsAt (wsV RX1 92 RX4 yX4_addProduct wsX4_addProduct) := goodIn_app (goodIn_of _ (by decide +kernel)) ggX1_bearsAt_X4_addProduct
set_option maxRecDepth 20000 in
theorem ggX1_bearsAt_X4_fits : GoodIn wsX1_bearsAt wsX4_fits := goodIn_r _ [20, 10, 21, 22, 36, 37] (by decide +kernel) (by decide +kernel)
set_option maxRecDepth 20000 in
theorem gX1_bearsAt_X4_fits : GoodIn wsX1_bearsAt (wsV RX1 79 RX4 yX4_fits wsX4_fits) := goodIn_app (goodIn_of _ (by decide +kernel)) ggX1_bearsAt_X4_fits
theorem dX1_bearsAt_0 : decode cX1_bearsAt 0 = .ok (.aload_n 0, 1) := by decide +kernel
theorem dX1_bearsAt_1 : decode cX1_bearsAt 1 = .ok (.getfield 35, 3) := by decide +kernel
theorem dX1_bearsAt_4 : decode cX1_bearsAt 4 = .ok (.invokevirtual 85, 3) := by decide +kernel
theorem dX1_bearsAt_7 : decode cX1_bearsAt 7 = .ok (.iconst 0, 1) := by decide +kernel
theorem dX1_bearsAt_8 : decode cX1_bearsAt 8 = .ok (.istore 4, 2) := by decide +kernel
theorem dX1_bearsAt_10 : decode cX1_bearsAt 10 = .ok (.iload 4, 2) := by decide +kernel
theorem dX1_bearsAt_12 : decode cX1_bearsAt 12 = .ok (.aload_n 0, 1) := by decide +kernel
theorem dX1_bearsAt_13 : decode cX1_bearsAt 13 = .ok (.getfield 50, 3) := by decide +kernel
theorem dX1_bearsAt_16 : decode cX1_bearsAt 16 = .ok (.if_icmp .ge 50, 3) := by decide +kernel
theorem dX1_bearsAt_19 : decode cX1_bearsAt 19 = .ok (.aload_n 0, 1) := by decide +kernel
theorem dX1_bearsAt_20 : decode cX1_bearsAt 20 = .ok (.getfield 18, 3) := by decide +kernel
theorem dX1_bearsAt_23 : decode cX1_bearsAt 23 = .ok (.iload 4, 2) := by decide +kernel
theorem dX1_bearsAt_25 : decode cX1_bearsAt 25 = .ok (.aaload, 1) := by decide +kernel
theorem dX1_bearsAt_26 : decode cX1_bearsAt 26 = .ok (.getfield 88, 3) := by decide +kernel
theorem dX1_bearsAt_29 : decode cX1_bearsAt 29 = .ok (.iload_n 1, 1) := by decide +kernel
theorem dX1_bearsAt_30 : decode cX1_bearsAt 30 = .ok (.laload, 1) := by decide +kernel
theorem dX1_bearsAt_31 : decode cX1_bearsAt 31 = .ok (.lstore 5, 2) := by decide +kernel
theorem dX1_bearsAt_33 : decode cX1_bearsAt 33 = .ok (.lload 5, 2) := by decide +kernel
theorem dX1_bearsAt_35 : decode cX1_bearsAt 35 = .ok (.lconst 0, 1) := by decide +kernel
theorem dX1_bearsAt_36 : decode cX1_bearsAt 36 = .ok (.lcmp, 1) := by decide +kernel
theorem dX1_bearsAt_37 : decode cX1_bearsAt 37 = .ok (.ifCond .le 7, 3) := by decide +kernel
theorem dX1_bearsAt_40 : decode cX1_bearsAt 40 = .ok (.iconst 1, 1) := by decide +kernel
theorem dX1_bearsAt_41 : decode cX1_bearsAt 41 = .ok (.goto 4, 3) := by decide +kernel
theorem dX1_bearsAt_44 : decode cX1_bearsAt 44 = .ok (.iconst 0, 1) := by decide +kernel
theorem dX1_bearsAt_45 : decode cX1_bearsAt 45 = .ok (.iload_n 3, 1) := by decide +kernel
theorem dX1_bearsAt_46 : decode cX1_bearsAt 46 = .ok (.if_icmp .ne 14, 3) := by decide +kernel
theorem dX1_bearsAt_49 : decode cX1_bearsAt 49 = .ok (.aload_n 0, 1) := by decide +kernel
theorem dX1_bearsAt_50 : decode cX1_bearsAt 50 = .ok (.getfield 35, 3) := by decide +kernel
theorem dX1_bearsAt_53 : decode cX1_bearsAt 53 = .ok (.lload 5, 2) := by decide +kernel
theorem dX1_bearsAt_55 : decode cX1_bearsAt 55 = .ok (.iload_n 2, 1) := by decide +kernel
theorem dX1_bearsAt_56 : decode cX1_bearsAt 56 = .ok (.i2l, 1) := by decide +kernel
theorem dX1_bearsAt_57 : decode cX1_bearsAt 57 = .ok (.invokevirtual 92, 3) := by decide +kernel
theorem dX1_bearsAt_60 : decode cX1_bearsAt 60 = .ok (.iinc 4 1, 3) := by decide +kernel
theorem dX1_bearsAt_63 : decode cX1_bearsAt 63 = .ok (.goto (-53), 3) := by decide +kernel
theorem dX1_bearsAt_66 : decode cX1_bearsAt 66 = .ok (.aload_n 0, 1) := by decide +kernel
theorem dX1_bearsAt_67 : decode cX1_bearsAt 67 = .ok (.getfield 35, 3) := by decide +kernel
theorem dX1_bearsAt_70 : decode cX1_bearsAt 70 = .ok (.invokevirtual 79, 3) := by decide +kernel
theorem dX1_bearsAt_73 : decode cX1_bearsAt 73 = .ok (.ireturn, 1) := by decide +kernel
set_option maxRecDepth 20000 in
theorem ggX1_admit_X2_compareWith : GoodIn wsX1_admit wsX2_compareWith := goodIn_r _ [7, 8, 9, 33, 34, 35, 36] (by decide +kernel) (by decide +kernel)
set_option maxRecDepth 20000 in
theorem gX1_admit_X2_compareWith : GoodIn wsX1_admit (wsV RX1 104 RX2 yX2_compareWith wsX2_compareWith) := goodIn_app (goodIn_of _ (by decide +kernel)) ggX1_admit_X2_compareWith
set_option maxRecDepth 20000 in
theorem ggX1_admit_X2_copy : GoodIn wsX1_admit wsX2_copy := goodIn_r _ [13, 8, 9, 14, 15, 16, 6, 17, 18, 19, 20, 21, 22, 23, 33, 34, 35, 36] (by decide +kernel) (by decide +kernel)
set_option maxRecDepth 20000 in
theorem gX1_admit_X2_copy : GoodIn wsX1_admit (wsV RX1 57 RX2 yX2_copy wsX2_copy) := goodIn_app (goodIn_of _ (by decide +kernel)) ggX1_admit_X2_copy
theorem dX1_admit_0 : decode cX1_admit 0 = .ok (.iconst 0, 1) := by decide +kernel
theorem dX1_admit_1 : decode cX1_admit 1 = .ok (.istore_n 2, 1) := by decide +kernel
theorem dX1_admit_2 : decode cX1_admit 2 = .ok (.iload_n 2, 1) := by decide +kernel
theorem dX1_admit_3 : decode cX1_admit 3 = .ok (.aload_n 0, 1) := by decide +kernel
theorem dX1_admit_4 : decode cX1_admit 4 = .ok (.getfield 54, 3) := by decide +kernel
theorem dX1_admit_7 : decode cX1_admit 7 = .ok (.if_icmp .ge 22, 3) := by decide +kernel
theorem dX1_admit_10 : decode cX1_admit 10 = .ok (.aload_n 0, 1) := by decide +kernel
theorem dX1_admit_11 : decode cX1_admit 11 = .ok (.getfield 26, 3) := by decide +kernel
theorem dX1_admit_14 : decode cX1_admit 14 = .ok (.iload_n 2, 1) := by decide +kernel
theorem dX1_admit_15 : decode cX1_admit 15 = .ok (.aaload, 1) := by decide +kernel
theorem dX1_admit_16 : decode cX1_admit 16 = .ok (.aload_n 1, 1) := by decide +kernel
theorem dX1_admit_17 : decode cX1_admit 17 = .ok (.invokevirtual 104, 3) := by decide +kernel
theorem dX1_admit_20 : decode cX1_admit 20 = .ok (.ifCond .lt 9, 3) := by decide +kernel
theorem dX1_admit_23 : decode cX1_admit 23 = .ok (.iinc 2 1, 3) := by decide +kernel
theorem dX1_admit_26 : decode cX1_admit 26 = .ok (.goto (-24), 3) := by decide +kernel
theorem dX1_admit_29 : decode cX1_admit 29 = .ok (.iload_n 2, 1) := by decide +kernel
theorem dX1_admit_30 : decode cX1_admit 30 = .ok (.iconst 5, 1) := by decide +kernel
theorem dX1_admit_31 : decode cX1_admit 31 = .ok (.if_icmp .lt 5, 3) := by decide +kernel
theorem dX1_admit_34 : decode cX1_admit 34 = .ok (.iconst (-1), 1) := by decide +kernel
theorem dX1_admit_35 : decode cX1_admit 35 = .ok (.ireturn, 1) := by decide +kernel
theorem dX1_admit_36 : decode cX1_admit 36 = .ok (.aload_n 0, 1) := by decide +kernel
theorem dX1_admit_37 : decode cX1_admit 37 = .ok (.getfield 54, 3) := by decide +kernel
theorem dX1_admit_40 : decode cX1_admit 40 = .ok (.iconst 5, 1) := by decide +kernel
theorem dX1_admit_41 : decode cX1_admit 41 = .ok (.if_icmp .ge 13, 3) := by decide +kernel
theorem dX1_admit_44 : decode cX1_admit 44 = .ok (.aload_n 0, 1) := by decide +kernel
theorem dX1_admit_45 : decode cX1_admit 45 = .ok (.dup, 1) := by decide +kernel
theorem dX1_admit_46 : decode cX1_admit 46 = .ok (.getfield 54, 3) := by decide +kernel
theorem dX1_admit_49 : decode cX1_admit 49 = .ok (.iconst 1, 1) := by decide +kernel
theorem dX1_admit_50 : decode cX1_admit 50 = .ok (.iadd, 1) := by decide +kernel
theorem dX1_admit_51 : decode cX1_admit 51 = .ok (.putfield 54, 3) := by decide +kernel
theorem dX1_admit_54 : decode cX1_admit 54 = .ok (.aload_n 0, 1) := by decide +kernel
theorem dX1_admit_55 : decode cX1_admit 55 = .ok (.getfield 26, 3) := by decide +kernel
theorem dX1_admit_58 : decode cX1_admit 58 = .ok (.aload_n 0, 1) := by decide +kernel
theorem dX1_admit_59 : decode cX1_admit 59 = .ok (.getfield 54, 3) := by decide +kernel
theorem dX1_admit_62 : decode cX1_admit 62 = .ok (.iconst 1, 1) := by decide +kernel
theorem dX1_admit_63 : decode cX1_admit 63 = .ok (.isub, 1) := by decide +kernel
theorem dX1_admit_64 : decode cX1_admit 64 = .ok (.aaload, 1) := by decide +kernel
theorem dX1_admit_65 : decode cX1_admit 65 = .ok (.astore_n 3, 1) := by decide +kernel
theorem dX1_admit_66 : decode cX1_admit 66 = .ok (.aload_n 0, 1) := by decide +kernel
theorem dX1_admit_67 : decode cX1_admit 67 = .ok (.getfield 54, 3) := by decide +kernel
theorem dX1_admit_70 : decode cX1_admit 70 = .ok (.iconst 1, 1) := by decide +kernel
theorem dX1_admit_71 : decode cX1_admit 71 = .ok (.isub, 1) := by decide +kernel
theorem dX1_admit_72 : decode cX1_admit 72 = .ok (.istore 4, 2) := by decide +kernel
theorem dX1_admit_74 : decode cX1_admit 74 = .ok (.iload 4, 2) := by decide +kernel
theorem dX1_admit_76 : decode cX1_admit 76 = .ok (.iload_n 2, 1) := by decide +kernel
theorem dX1_admit_77 : decode cX1_admit 77 = .ok (.if_icmp .le 25, 3) := by decide +kernel
theorem dX1_admit_80 : decode cX1_admit 80 = .ok (.aload_n 0, 1) := by decide +kernel
theorem dX1_admit_81 : decode cX1_admit 81 = .ok (.getfield 26, 3) := by decide +kernel
theorem dX1_admit_84 : decode cX1_admit 84 = .ok (.iload 4, 2) := by decide +kernel
theorem dX1_admit_86 : decode cX1_admit 86 = .ok (.aload_n 0, 1) := by decide +kernel
theorem dX1_admit_87 : decode cX1_admit 87 = .ok (.getfield 26, 3) := by decide +kernel
theorem dX1_admit_90 : decode cX1_admit 90 = .ok (.iload 4, 2) := by decide +kernel
theorem dX1_admit_92 : decode cX1_admit 92 = .ok (.iconst 1, 1) := by decide +kernel
theorem dX1_admit_93 : decode cX1_admit 93 = .ok (.isub, 1) := by decide +kernel
theorem dX1_admit_94 : decode cX1_admit 94 = .ok (.aaload, 1) := by decide +kernel
theorem dX1_admit_95 : decode cX1_admit 95 = .ok (.aastore, 1) := by decide +kernel
theorem dX1_admit_96 : decode cX1_admit 96 = .ok (.iinc 4 (-1), 3) := by decide +kernel
theorem dX1_admit_99 : decode cX1_admit 99 = .ok (.goto (-25), 3) := by decide +kernel
theorem dX1_admit_102 : decode cX1_admit 102 = .ok (.aload_n 0, 1) := by decide +kernel
theorem dX1_admit_103 : decode cX1_admit 103 = .ok (.getfield 26, 3) := by decide +kernel
theorem dX1_admit_106 : decode cX1_admit 106 = .ok (.iload_n 2, 1) := by decide +kernel
theorem dX1_admit_107 : decode cX1_admit 107 = .ok (.aload_n 3, 1) := by decide +kernel
theorem dX1_admit_108 : decode cX1_admit 108 = .ok (.aastore, 1) := by decide +kernel
theorem dX1_admit_109 : decode cX1_admit 109 = .ok (.aload_n 3, 1) := by decide +kernel
theorem dX1_admit_110 : decode cX1_admit 110 = .ok (.aload_n 1, 1) := by decide +kernel
theorem dX1_admit_111 : decode cX1_admit 111 = .ok (.invokevirtual 57, 3) := by decide +kernel
theorem dX1_admit_114 : decode cX1_admit 114 = .ok (.iload_n 2, 1) := by decide +kernel
theorem dX1_admit_115 : decode cX1_admit 115 = .ok (.ireturn, 1) := by decide +kernel
end
section
set_option maxRecDepth 20000 in
theorem ggX5_init_X2_init : GoodIn wsX5_init wsX2_init := goodIn_r _ [25, 26, 2, 3, 27, 28, 29, 69, 70, 71, 72] (by decide +kernel) (by decide +kernel)
set_option maxRecDepth 20000 in
theorem gX5_init_X2_init_n15 : GoodIn wsX5_init (wsX2_init) := ggX5_init_X2_init
set_option maxRecDepth 20000 in
theorem ggX5_init_X3_init : GoodIn wsX5_init wsX3_init := goodIn_r _ [31, 32, 2, 3, 33, 34, 73, 74, 75] (by decide +kernel) (by decide +kernel)
set_option maxRecDepth 20000 in
theorem gX5_init_X3_init_n18 : GoodIn wsX5_init (wsX3_init) := ggX5_init_X3_init
set_option maxRecDepth 20000 in
theorem ggX5_init_X0_init : GoodIn wsX5_init wsX0_init := goodIn_r _ [36, 37, 2, 3, 33, 38, 39, 76, 77, 78] (by decide +kernel) (by decide +kernel)
set_option maxRecDepth 20000 in
theorem gX5_init_X0_init_n25 : GoodIn wsX5_init (wsX0_init) := ggX5_init_X0_init
set_option maxRecDepth 20000 in
theorem ggX5_init_X1_init : GoodIn wsX5_init wsX1_init := goodIn_r _ [42, 43, 2, 3, 44, 6, 7, 45, 46, 47, 48, 49, 50, 51, 21, 22, 52, 53, 24, 25, 26, 27, 28, 29, 54, 55, 56, 57, 58, 59, 60, 61, 62, 69, 70, 71, 72, 79, 80, 81, 82, 83, 84, 85, 86, 87, 88, 89] (by decide +kernel) (by decide +kernel)
set_option maxRecDepth 20000 in
theorem gX5_init_X1_init : GoodIn wsX5_init (wsX1_init) := ggX5_init_X1_init
set_option maxRecDepth 20000 in
theorem ggX5_init_X4_init : GoodIn wsX5_init wsX4_init := goodIn_r _ [55, 56, 2, 3] (by decide +kernel) (by decide +kernel)
set_option maxRecDepth 20000 in
theorem gX5_init_X4_init_n39 : GoodIn wsX5_init (wsX4_init) := ggX5_init_X4_init
theorem dX5_init_0 : decode cX5_init 0 = .ok (.aload_n 0, 1) := by decide +kernel
theorem dX5_init_1 : decode cX5_init 1 = .ok (.invokespecial 1, 3) := by decide +kernel
theorem dX5_init_4 : decode cX5_init 4 = .ok (.aload_n 0, 1) := by decide +kernel
theorem dX5_init_5 : decode cX5_init 5 = .ok (.bipush 60, 2) := by decide +kernel
theorem dX5_init_7 : decode cX5_init 7 = .ok (.anewarray 9, 3) := by decide +kernel
theorem dX5_init_10 : decode cX5_init 10 = .ok (.putfield 11, 3) := by decide +kernel
theorem dX5_init_13 : decode cX5_init 13 = .ok (.iconst 0, 1) := by decide +kernel
theorem dX5_init_14 : decode cX5_init 14 = .ok (.istore_n 1, 1) := by decide +kernel
theorem dX5_init_15 : decode cX5_init 15 = .ok (.iload_n 1, 1) := by decide +kernel
theorem dX5_init_16 : decode cX5_init 16 = .ok (.bipush 60, 2) := by decide +kernel
theorem dX5_init_18 : decode cX5_init 18 = .ok (.if_icmp .ge 22, 3) := by decide +kernel
theorem dX5_init_21 : decode cX5_init 21 = .ok (.aload_n 0, 1) := by decide +kernel
theorem dX5_init_22 : decode cX5_init 22 = .ok (.getfield 11, 3) := by decide +kernel
theorem dX5_init_25 : decode cX5_init 25 = .ok (.iload_n 1, 1) := by decide +kernel
theorem dX5_init_26 : decode cX5_init 26 = .ok (.new 9, 3) := by decide +kernel
theorem dX5_init_29 : decode cX5_init 29 = .ok (.dup, 1) := by decide +kernel
theorem dX5_init_30 : decode cX5_init 30 = .ok (.invokespecial 15, 3) := by decide +kernel
theorem dX5_init_33 : decode cX5_init 33 = .ok (.aastore, 1) := by decide +kernel
theorem dX5_init_34 : decode cX5_init 34 = .ok (.iinc 1 1, 3) := by decide +kernel
theorem dX5_init_37 : decode cX5_init 37 = .ok (.goto (-22), 3) := by decide +kernel
theorem dX5_init_40 : decode cX5_init 40 = .ok (.aload_n 0, 1) := by decide +kernel
theorem dX5_init_41 : decode cX5_init 41 = .ok (.new 16, 3) := by decide +kernel
theorem dX5_init_44 : decode cX5_init 44 = .ok (.dup, 1) := by decide +kernel
theorem dX5_init_45 : decode cX5_init 45 = .ok (.invokespecial 18, 3) := by decide +kernel
theorem dX5_init_48 : decode cX5_init 48 = .ok (.putfield 19, 3) := by decide +kernel
theorem dX5_init_51 : decode cX5_init 51 = .ok (.aload_n 0, 1) := by decide +kernel
theorem dX5_init_52 : decode cX5_init 52 = .ok (.new 23, 3) := by decide +kernel
theorem dX5_init_55 : decode cX5_init 55 = .ok (.dup, 1) := by decide +kernel
theorem dX5_init_56 : decode cX5_init 56 = .ok (.invokespecial 25, 3) := by decide +kernel
theorem dX5_init_59 : decode cX5_init 59 = .ok (.putfield 26, 3) := by decide +kernel
theorem dX5_init_62 : decode cX5_init 62 = .ok (.aload_n 0, 1) := by decide +kernel
theorem dX5_init_63 : decode cX5_init 63 = .ok (.new 30, 3) := by decide +kernel
theorem dX5_init_66 : decode cX5_init 66 = .ok (.dup, 1) := by decide +kernel
theorem dX5_init_67 : decode cX5_init 67 = .ok (.invokespecial 32, 3) := by decide +kernel
theorem dX5_init_70 : decode cX5_init 70 = .ok (.putfield 33, 3) := by decide +kernel
theorem dX5_init_73 : decode cX5_init 73 = .ok (.aload_n 0, 1) := by decide +kernel
theorem dX5_init_74 : decode cX5_init 74 = .ok (.new 37, 3) := by decide +kernel
theorem dX5_init_77 : decode cX5_init 77 = .ok (.dup, 1) := by decide +kernel
theorem dX5_init_78 : decode cX5_init 78 = .ok (.invokespecial 39, 3) := by decide +kernel
theorem dX5_init_81 : decode cX5_init 81 = .ok (.putfield 40, 3) := by decide +kernel
theorem dX5_init_84 : decode cX5_init 84 = .ok (.return_, 1) := by decide +kernel
set_option maxRecDepth 20000 in
theorem ggX5_make_X5_isFull : GoodIn wsX5_make wsX5_isFull := goodIn_r _ [7, 2, 25, 26, 27, 28, 29, 30] (by decide +kernel) (by decide +kernel)
set_option maxRecDepth 20000 in
theorem gX5_make_X5_isFull : GoodIn wsX5_make (wsV RX5 44 RX5 yX5_isFull wsX5_isFull) := goodIn_app (goodIn_of _ (by decide +kernel)) ggX5_make_X5_isFull
set_option maxRecDepth 20000 in
theorem ggX5_make_X2_form : GoodIn wsX5_make wsX2_form := goodIn_r _ [12, 13, 14, 15, 31, 32, 33, 34] (by decide +kernel) (by decide +kernel)
set_option maxRecDepth 20000 in
theorem gX5_make_X2_form : GoodIn wsX5_make (wsV RX5 52 RX2 yX2_form wsX2_form) := goodIn_app (goodIn_of _ (by decide +kernel)) ggX5_make_X2_form
set_option maxRecDepth 20000 in
theorem ggX5_make_X2_clear : GoodIn wsX5_make wsX2_clear := goodIn_r _ [19, 15, 20, 31, 32, 33, 34] (by decide +kernel) (by decide +kernel)
set_option maxRecDepth 20000 in
theorem gX5_make_X2_clear : GoodIn wsX5_make (wsV RX5 56 RX2 yX2_clear wsX2_clear) := goodIn_app (goodIn_of _ (by decide +kernel)) ggX5_make_X2_clear
set_option maxRecDepth 20000 in
theorem ggX5_make_X5_takeNumber : GoodIn wsX5_make wsX5_takeNumber := goodIn_r _ [24, 2, 25, 26, 27, 28, 29, 30] (by decide +kernel) (by decide +kernel)
set_option maxRecDepth 20000 in
theorem gX5_make_X5_takeNumber : GoodIn wsX5_make (wsV RX5 59 RX5 yX5_takeNumber wsX5_takeNumber) := goodIn_app (goodIn_of _ (by decide +kernel)) ggX5_make_X5_takeNumber
theorem dX5_make_0 : decode cX5_make 0 = .ok (.iload_n 1, 1) := by decide +kernel
theorem dX5_make_1 : decode cX5_make 1 = .ok (.ifCond .lt 8, 3) := by decide +kernel
theorem dX5_make_4 : decode cX5_make 4 = .ok (.iload_n 1, 1) := by decide +kernel
theorem dX5_make_5 : decode cX5_make 5 = .ok (.iconst 3, 1) := by decide +kernel
theorem dX5_make_6 : decode cX5_make 6 = .ok (.if_icmp .le 6, 3) := by decide +kernel
theorem dX5_make_9 : decode cX5_make 9 = .ok (.bipush (-3), 2) := by decide +kernel
theorem dX5_make_11 : decode cX5_make 11 = .ok (.ireturn, 1) := by decide +kernel
theorem dX5_make_12 : decode cX5_make 12 = .ok (.iload_n 1, 1) := by decide +kernel
theorem dX5_make_13 : decode cX5_make 13 = .ok (.iconst 3, 1) := by decide +kernel
theorem dX5_make_14 : decode cX5_make 14 = .ok (.if_icmp .ne 26, 3) := by decide +kernel
theorem dX5_make_17 : decode cX5_make 17 = .ok (.iload_n 2, 1) := by decide +kernel
theorem dX5_make_18 : decode cX5_make 18 = .ok (.bipush 6, 2) := by decide +kernel
theorem dX5_make_20 : decode cX5_make 20 = .ok (.if_icmp .gt 17, 3) := by decide +kernel
theorem dX5_make_23 : decode cX5_make 23 = .ok (.iload_n 3, 1) := by decide +kernel
theorem dX5_make_24 : decode cX5_make 24 = .ok (.bipush 6, 2) := by decide +kernel
theorem dX5_make_26 : decode cX5_make 26 = .ok (.if_icmp .gt 11, 3) := by decide +kernel
theorem dX5_make_29 : decode cX5_make 29 = .ok (.iload_n 2, 1) := by decide +kernel
theorem dX5_make_30 : decode cX5_make 30 = .ok (.ifCond .ne 10, 3) := by decide +kernel
theorem dX5_make_33 : decode cX5_make 33 = .ok (.iload_n 3, 1) := by decide +kernel
theorem dX5_make_34 : decode cX5_make 34 = .ok (.ifCond .ne 6, 3) := by decide +kernel
theorem dX5_make_37 : decode cX5_make 37 = .ok (.bipush (-3), 2) := by decide +kernel
theorem dX5_make_39 : decode cX5_make 39 = .ok (.ireturn, 1) := by decide +kernel
theorem dX5_make_40 : decode cX5_make 40 = .ok (.aload_n 0, 1) := by decide +kernel
theorem dX5_make_41 : decode cX5_make 41 = .ok (.invokevirtual 44, 3) := by decide +kernel
theorem dX5_make_44 : decode cX5_make 44 = .ok (.ifCond .eq 6, 3) := by decide +kernel
theorem dX5_make_47 : decode cX5_make 47 = .ok (.bipush (-4), 2) := by decide +kernel
theorem dX5_make_49 : decode cX5_make 49 = .ok (.ireturn, 1) := by decide +kernel
theorem dX5_make_50 : decode cX5_make 50 = .ok (.iload_n 1, 1) := by decide +kernel
theorem dX5_make_51 : decode cX5_make 51 = .ok (.iconst 3, 1) := by decide +kernel
theorem dX5_make_52 : decode cX5_make 52 = .ok (.if_icmp .ne 14, 3) := by decide +kernel
theorem dX5_make_55 : decode cX5_make 55 = .ok (.iload_n 2, 1) := by decide +kernel
theorem dX5_make_56 : decode cX5_make 56 = .ok (.ifCond .lt 7, 3) := by decide +kernel
theorem dX5_make_59 : decode cX5_make 59 = .ok (.iload_n 3, 1) := by decide +kernel
theorem dX5_make_60 : decode cX5_make 60 = .ok (.ifCond .ge 6, 3) := by decide +kernel
theorem dX5_make_63 : decode cX5_make 63 = .ok (.bipush (-14), 2) := by decide +kernel
theorem dX5_make_65 : decode cX5_make 65 = .ok (.ireturn, 1) := by decide +kernel
theorem dX5_make_66 : decode cX5_make 66 = .ok (.aload_n 0, 1) := by decide +kernel
theorem dX5_make_67 : decode cX5_make 67 = .ok (.getfield 11, 3) := by decide +kernel
theorem dX5_make_70 : decode cX5_make 70 = .ok (.aload_n 0, 1) := by decide +kernel
theorem dX5_make_71 : decode cX5_make 71 = .ok (.getfield 48, 3) := by decide +kernel
theorem dX5_make_74 : decode cX5_make 74 = .ok (.aaload, 1) := by decide +kernel
theorem dX5_make_75 : decode cX5_make 75 = .ok (.astore 4, 2) := by decide +kernel
theorem dX5_make_77 : decode cX5_make 77 = .ok (.iload_n 1, 1) := by decide +kernel
theorem dX5_make_78 : decode cX5_make 78 = .ok (.iconst 3, 1) := by decide +kernel
theorem dX5_make_79 : decode cX5_make 79 = .ok (.if_icmp .ne 16, 3) := by decide +kernel
theorem dX5_make_82 : decode cX5_make 82 = .ok (.aload 4, 2) := by decide +kernel
theorem dX5_make_84 : decode cX5_make 84 = .ok (.iconst 3, 1) := by decide +kernel
theorem dX5_make_85 : decode cX5_make 85 = .ok (.iload_n 2, 1) := by decide +kernel
theorem dX5_make_86 : decode cX5_make 86 = .ok (.iload_n 2, 1) := by decide +kernel
theorem dX5_make_87 : decode cX5_make 87 = .ok (.iload_n 3, 1) := by decide +kernel
theorem dX5_make_88 : decode cX5_make 88 = .ok (.iadd, 1) := by decide +kernel
theorem dX5_make_89 : decode cX5_make 89 = .ok (.invokevirtual 52, 3) := by decide +kernel
theorem dX5_make_92 : decode cX5_make 92 = .ok (.goto 21, 3) := by decide +kernel
theorem dX5_make_95 : decode cX5_make 95 = .ok (.aload 4, 2) := by decide +kernel
theorem dX5_make_97 : decode cX5_make 97 = .ok (.iload_n 1, 1) := by decide +kernel
theorem dX5_make_98 : decode cX5_make 98 = .ok (.iload_n 1, 1) := by decide +kernel
theorem dX5_make_99 : decode cX5_make 99 = .ok (.ifCond .ne 7, 3) := by decide +kernel
theorem dX5_make_102 : decode cX5_make 102 = .ok (.iconst 0, 1) := by decide +kernel
theorem dX5_make_103 : decode cX5_make 103 = .ok (.goto 4, 3) := by decide +kernel
theorem dX5_make_106 : decode cX5_make 106 = .ok (.iconst 1, 1) := by decide +kernel
theorem dX5_make_107 : decode cX5_make 107 = .ok (.iload_n 1, 1) := by decide +kernel
theorem dX5_make_108 : decode cX5_make 108 = .ok (.iconst 1, 1) := by decide +kernel
theorem dX5_make_109 : decode cX5_make 109 = .ok (.iadd, 1) := by decide +kernel
theorem dX5_make_110 : decode cX5_make 110 = .ok (.invokevirtual 52, 3) := by decide +kernel
theorem dX5_make_113 : decode cX5_make 113 = .ok (.aload 4, 2) := by decide +kernel
theorem dX5_make_115 : decode cX5_make 115 = .ok (.invokevirtual 56, 3) := by decide +kernel
theorem dX5_make_118 : decode cX5_make 118 = .ok (.aload_n 0, 1) := by decide +kernel
theorem dX5_make_119 : decode cX5_make 119 = .ok (.invokevirtual 59, 3) := by decide +kernel
theorem dX5_make_122 : decode cX5_make 122 = .ok (.ireturn, 1) := by decide +kernel
set_option maxRecDepth 20000 in
theorem ggX5_nothing_X5_isFull : GoodIn wsX5_nothing wsX5_isFull := goodIn_r _ [7, 2, 20, 21, 22, 23, 24, 25] (by decide +kernel) (by decide +kernel)
set_option maxRecDepth 20000 in
theorem gX5_nothing_X5_isFull : GoodIn wsX5_nothing (wsV RX5 44 RX5 yX5_isFull wsX5_isFull) := goodIn_app (goodIn_of _ (by decide +kernel)) ggX5_nothing_X5_isFull
set_option maxRecDepth 20000 in
theorem ggX5_nothing_X2_form : GoodIn wsX5_nothing wsX2_form := goodIn_r _ [12, 13, 14, 15, 26, 27, 28, 29] (by decide +kernel) (by decide +kernel)
set_option maxRecDepth 20000 in
theorem gX5_nothing_X2_form : GoodIn wsX5_nothing (wsV RX5 52 RX2 yX2_form wsX2_form) := goodIn_app (goodIn_of _ (by decide +kernel)) ggX5_nothing_X2_form
set_option maxRecDepth 20000 in
theorem ggX5_nothing_X5_takeNumber : GoodIn wsX5_nothing wsX5_takeNumber := goodIn_r _ [19, 2, 20, 21, 22, 23, 24, 25] (by decide +kernel) (by decide +kernel)
set_option maxRecDepth 20000 in
theorem gX5_nothing_X5_takeNumber : GoodIn wsX5_nothing (wsV RX5 59 RX5 yX5_takeNumber wsX5_takeNumber) := goodIn_app (goodIn_of _ (by decide +kernel)) ggX5_nothing_X5_takeNumber
theorem dX5_nothing_0 : decode cX5_nothing 0 = .ok (.aload_n 0, 1) := by decide +kernel
theorem dX5_nothing_1 : decode cX5_nothing 1 = .ok (.invokevirtual 44, 3) := by decide +kernel
theorem dX5_nothing_4 : decode cX5_nothing 4 = .ok (.ifCond .eq 6, 3) := by decide +kernel
theorem dX5_nothing_7 : decode cX5_nothing 7 = .ok (.bipush (-4), 2) := by decide +kernel
theorem dX5_nothing_9 : decode cX5_nothing 9 = .ok (.ireturn, 1) := by decide +kernel
theorem dX5_nothing_10 : decode cX5_nothing 10 = .ok (.aload_n 0, 1) := by decide +kernel
theorem dX5_nothing_11 : decode cX5_nothing 11 = .ok (.getfield 11, 3) := by decide +kernel
theorem dX5_nothing_14 : decode cX5_nothing 14 = .ok (.aload_n 0, 1) := by decide +kernel
theorem dX5_nothing_15 : decode cX5_nothing 15 = .ok (.getfield 48, 3) := by decide +kernel
theorem dX5_nothing_18 : decode cX5_nothing 18 = .ok (.aaload, 1) := by decide +kernel
theorem dX5_nothing_19 : decode cX5_nothing 19 = .ok (.iconst (-1), 1) := by decide +kernel
theorem dX5_nothing_20 : decode cX5_nothing 20 = .ok (.iconst 0, 1) := by decide +kernel
theorem dX5_nothing_21 : decode cX5_nothing 21 = .ok (.iconst 0, 1) := by decide +kernel
theorem dX5_nothing_22 : decode cX5_nothing 22 = .ok (.invokevirtual 52, 3) := by decide +kernel
theorem dX5_nothing_25 : decode cX5_nothing 25 = .ok (.aload_n 0, 1) := by decide +kernel
theorem dX5_nothing_26 : decode cX5_nothing 26 = .ok (.invokevirtual 59, 3) := by decide +kernel
theorem dX5_nothing_29 : decode cX5_nothing 29 = .ok (.ireturn, 1) := by decide +kernel
set_option maxRecDepth 20000 in
theorem ggX5_set_X5_isNumber : GoodIn wsX5_set wsX5_isNumber := goodIn_r _ [7, 8, 20, 21, 22, 23, 24, 25] (by decide +kernel) (by decide +kernel)
set_option maxRecDepth 20000 in
theorem gX5_set_X5_isNumber : GoodIn wsX5_set (wsV RX5 63 RX5 yX5_isNumber wsX5_isNumber) := goodIn_app (goodIn_of _ (by decide +kernel)) ggX5_set_X5_isNumber
set_option maxRecDepth 20000 in
theorem ggX5_set_X2_isNothing : GoodIn wsX5_set wsX2_isNothing := goodIn_r _ [13, 14, 26, 27, 28, 29] (by decide +kernel) (by decide +kernel)
set_option maxRecDepth 20000 in
theorem gX5_set_X2_isNothing : GoodIn wsX5_set (wsV RX5 67 RX2 yX2_isNothing wsX2_isNothing) := goodIn_app (goodIn_of _ (by decide +kernel)) ggX5_set_X2_isNothing
set_option maxRecDepth 20000 in
theorem ggX5_set_X2_hasLevel : GoodIn wsX5_set wsX2_hasLevel := goodIn_r _ [18, 19, 26, 27, 28, 29] (by decide +kernel) (by decide +kernel)
set_option maxRecDepth 20000 in
theorem gX5_set_X2_hasLevel : GoodIn wsX5_set (wsV RX5 70 RX2 yX2_hasLevel wsX2_hasLevel) := goodIn_app (goodIn_of _ (by decide +kernel)) ggX5_set_X2_hasLevel
theorem dX5_set_0 : decode cX5_set 0 = .ok (.aload_n 0, 1) := by decide +kernel
theorem dX5_set_1 : decode cX5_set 1 = .ok (.iload_n 1, 1) := by decide +kernel
theorem dX5_set_2 : decode cX5_set 2 = .ok (.invokevirtual 63, 3) := by decide +kernel
theorem dX5_set_5 : decode cX5_set 5 = .ok (.ifCond .ne 6, 3) := by decide +kernel
theorem dX5_set_8 : decode cX5_set 8 = .ok (.bipush (-2), 2) := by decide +kernel
theorem dX5_set_10 : decode cX5_set 10 = .ok (.ireturn, 1) := by decide +kernel
theorem dX5_set_11 : decode cX5_set 11 = .ok (.aload_n 0, 1) := by decide +kernel
theorem dX5_set_12 : decode cX5_set 12 = .ok (.getfield 11, 3) := by decide +kernel
theorem dX5_set_15 : decode cX5_set 15 = .ok (.iload_n 1, 1) := by decide +kernel
theorem dX5_set_16 : decode cX5_set 16 = .ok (.aaload, 1) := by decide +kernel
theorem dX5_set_17 : decode cX5_set 17 = .ok (.invokevirtual 67, 3) := by decide +kernel
theorem dX5_set_20 : decode cX5_set 20 = .ok (.ifCond .eq 6, 3) := by decide +kernel
theorem dX5_set_23 : decode cX5_set 23 = .ok (.bipush (-11), 2) := by decide +kernel
theorem dX5_set_25 : decode cX5_set 25 = .ok (.ireturn, 1) := by decide +kernel
theorem dX5_set_26 : decode cX5_set 26 = .ok (.aload_n 0, 1) := by decide +kernel
theorem dX5_set_27 : decode cX5_set 27 = .ok (.getfield 11, 3) := by decide +kernel
theorem dX5_set_30 : decode cX5_set 30 = .ok (.iload_n 1, 1) := by decide +kernel
theorem dX5_set_31 : decode cX5_set 31 = .ok (.aaload, 1) := by decide +kernel
theorem dX5_set_32 : decode cX5_set 32 = .ok (.iload_n 2, 1) := by decide +kernel
theorem dX5_set_33 : decode cX5_set 33 = .ok (.invokevirtual 70, 3) := by decide +kernel
theorem dX5_set_36 : decode cX5_set 36 = .ok (.ifCond .ne 6, 3) := by decide +kernel
theorem dX5_set_39 : decode cX5_set 39 = .ok (.bipush (-13), 2) := by decide +kernel
theorem dX5_set_41 : decode cX5_set 41 = .ok (.ireturn, 1) := by decide +kernel
theorem dX5_set_42 : decode cX5_set 42 = .ok (.aload_n 0, 1) := by decide +kernel
theorem dX5_set_43 : decode cX5_set 43 = .ok (.getfield 11, 3) := by decide +kernel
theorem dX5_set_46 : decode cX5_set 46 = .ok (.iload_n 1, 1) := by decide +kernel
theorem dX5_set_47 : decode cX5_set 47 = .ok (.aaload, 1) := by decide +kernel
theorem dX5_set_48 : decode cX5_set 48 = .ok (.getfield 73, 3) := by decide +kernel
theorem dX5_set_51 : decode cX5_set 51 = .ok (.iload_n 2, 1) := by decide +kernel
theorem dX5_set_52 : decode cX5_set 52 = .ok (.lload_n 3, 1) := by decide +kernel
theorem dX5_set_53 : decode cX5_set 53 = .ok (.lastore, 1) := by decide +kernel
theorem dX5_set_54 : decode cX5_set 54 = .ok (.iconst 1, 1) := by decide +kernel
theorem dX5_set_55 : decode cX5_set 55 = .ok (.ireturn, 1) := by decide +kernel
theorem dX5_at_0 : decode cX5_at 0 = .ok (.aload_n 0, 1) := by decide +kernel
theorem dX5_at_1 : decode cX5_at 1 = .ok (.iload_n 1, 1) := by decide +kernel
theorem dX5_at_2 : decode cX5_at 2 = .ok (.invokevirtual 63, 3) := by decide +kernel
theorem dX5_at_5 : decode cX5_at 5 = .ok (.ifCond .ne 13, 3) := by decide +kernel
theorem dX5_at_8 : decode cX5_at 8 = .ok (.new 77, 3) := by decide +kernel
theorem dX5_at_11 : decode cX5_at 11 = .ok (.dup, 1) := by decide +kernel
theorem dX5_at_12 : decode cX5_at 12 = .ok (.ldc 79, 2) := by decide +kernel
theorem dX5_at_14 : decode cX5_at 14 = .ok (.invokespecial 81, 3) := by decide +kernel
theorem dX5_at_17 : decode cX5_at 17 = .ok (.athrow, 1) := by decide +kernel
theorem dX5_at_18 : decode cX5_at 18 = .ok (.aload_n 0, 1) := by decide +kernel
theorem dX5_at_19 : decode cX5_at 19 = .ok (.getfield 11, 3) := by decide +kernel
theorem dX5_at_22 : decode cX5_at 22 = .ok (.iload_n 1, 1) := by decide +kernel
theorem dX5_at_23 : decode cX5_at 23 = .ok (.aaload, 1) := by decide +kernel
theorem dX5_at_24 : decode cX5_at 24 = .ok (.invokevirtual 67, 3) := by decide +kernel
theorem dX5_at_27 : decode cX5_at 27 = .ok (.ifCond .eq 13, 3) := by decide +kernel
theorem dX5_at_30 : decode cX5_at 30 = .ok (.new 84, 3) := by decide +kernel
theorem dX5_at_33 : decode cX5_at 33 = .ok (.dup, 1) := by decide +kernel
theorem dX5_at_34 : decode cX5_at 34 = .ok (.ldc 86, 2) := by decide +kernel
theorem dX5_at_36 : decode cX5_at 36 = .ok (.invokespecial 88, 3) := by decide +kernel
theorem dX5_at_39 : decode cX5_at 39 = .ok (.athrow, 1) := by decide +kernel
theorem dX5_at_40 : decode cX5_at 40 = .ok (.aload_n 0, 1) := by decide +kernel
theorem dX5_at_41 : decode cX5_at 41 = .ok (.getfield 11, 3) := by decide +kernel
theorem dX5_at_44 : decode cX5_at 44 = .ok (.iload_n 1, 1) := by decide +kernel
theorem dX5_at_45 : decode cX5_at 45 = .ok (.aaload, 1) := by decide +kernel
theorem dX5_at_46 : decode cX5_at 46 = .ok (.iload_n 2, 1) := by decide +kernel
theorem dX5_at_47 : decode cX5_at 47 = .ok (.invokevirtual 70, 3) := by decide +kernel
theorem dX5_at_50 : decode cX5_at 50 = .ok (.ifCond .ne 13, 3) := by decide +kernel
theorem dX5_at_53 : decode cX5_at 53 = .ok (.new 77, 3) := by decide +kernel
theorem dX5_at_56 : decode cX5_at 56 = .ok (.dup, 1) := by decide +kernel
theorem dX5_at_57 : decode cX5_at 57 = .ok (.ldc 89, 2) := by decide +kernel
theorem dX5_at_59 : decode cX5_at 59 = .ok (.invokespecial 81, 3) := by decide +kernel
theorem dX5_at_62 : decode cX5_at 62 = .ok (.athrow, 1) := by decide +kernel
theorem dX5_at_63 : decode cX5_at 63 = .ok (.aload_n 0, 1) := by decide +kernel
theorem dX5_at_64 : decode cX5_at 64 = .ok (.getfield 11, 3) := by decide +kernel
theorem dX5_at_67 : decode cX5_at 67 = .ok (.iload_n 1, 1) := by decide +kernel
theorem dX5_at_68 : decode cX5_at 68 = .ok (.aaload, 1) := by decide +kernel
theorem dX5_at_69 : decode cX5_at 69 = .ok (.getfield 73, 3) := by decide +kernel
theorem dX5_at_72 : decode cX5_at 72 = .ok (.iload_n 2, 1) := by decide +kernel
theorem dX5_at_73 : decode cX5_at 73 = .ok (.laload, 1) := by decide +kernel
theorem dX5_at_74 : decode cX5_at 74 = .ok (.lreturn, 1) := by decide +kernel
set_option maxRecDepth 20000 in
theorem ggX5_told_X5_isNumber : GoodIn wsX5_told wsX5_isNumber := goodIn_r _ [9, 10, 23, 24, 25, 26, 27, 28] (by decide +kernel) (by decide +kernel)
set_option maxRecDepth 20000 in
theorem gX5_told_X5_isNumber : GoodIn wsX5_told (wsV RX5 63 RX5 yX5_isNumber wsX5_isNumber) := goodIn_app (goodIn_of _ (by decide +kernel)) ggX5_told_X5_isNumber
set_option maxRecDepth 20000 in
theorem ggX5_told_X2_isNothing : GoodIn wsX5_told wsX2_isNothing := goodIn_r _ [15, 16, 29, 30, 31, 32] (by decide +kernel) (by decide +kernel)
set_option maxRecDepth 20000 in
theorem gX5_told_X2_isNothing : GoodIn wsX5_told (wsV RX5 67 RX2 yX2_isNothing wsX2_isNothing) := goodIn_app (goodIn_of _ (by decide +kernel)) ggX5_told_X2_isNothing
set_option maxRecDepth 20000 in
theorem ggX5_told_X2_isFeasible : GoodIn wsX5_told wsX2_isFeasible := goodIn_r _ [20, 21, 22, 29, 30, 31, 32] (by decide +kernel) (by decide +kernel)
set_option maxRecDepth 20000 in
theorem gX5_told_X2_isFeasible : GoodIn wsX5_told (wsV RX5 100 RX2 yX2_isFeasible wsX2_isFeasible) := goodIn_app (goodIn_of _ (by decide +kernel)) ggX5_told_X2_isFeasible
theorem dX5_told_0 : decode cX5_told 0 = .ok (.aload_n 0, 1) := by decide +kernel
theorem dX5_told_1 : decode cX5_told 1 = .ok (.iload_n 1, 1) := by decide +kernel
theorem dX5_told_2 : decode cX5_told 2 = .ok (.invokevirtual 63, 3) := by decide +kernel
theorem dX5_told_5 : decode cX5_told 5 = .ok (.ifCond .ne 6, 3) := by decide +kernel
theorem dX5_told_8 : decode cX5_told 8 = .ok (.bipush (-2), 2) := by decide +kernel
theorem dX5_told_10 : decode cX5_told 10 = .ok (.ireturn, 1) := by decide +kernel
theorem dX5_told_11 : decode cX5_told 11 = .ok (.iload_n 2, 1) := by decide +kernel
theorem dX5_told_12 : decode cX5_told 12 = .ok (.ifCond .lt 8, 3) := by decide +kernel
theorem dX5_told_15 : decode cX5_told 15 = .ok (.iload_n 2, 1) := by decide +kernel
theorem dX5_told_16 : decode cX5_told 16 = .ok (.iconst 3, 1) := by decide +kernel
theorem dX5_told_17 : decode cX5_told 17 = .ok (.if_icmp .le 6, 3) := by decide +kernel
theorem dX5_told_20 : decode cX5_told 20 = .ok (.bipush (-3), 2) := by decide +kernel
theorem dX5_told_22 : decode cX5_told 22 = .ok (.ireturn, 1) := by decide +kernel
theorem dX5_told_23 : decode cX5_told 23 = .ok (.aload_n 0, 1) := by decide +kernel
theorem dX5_told_24 : decode cX5_told 24 = .ok (.getfield 11, 3) := by decide +kernel
theorem dX5_told_27 : decode cX5_told 27 = .ok (.iload_n 1, 1) := by decide +kernel
theorem dX5_told_28 : decode cX5_told 28 = .ok (.aaload, 1) := by decide +kernel
theorem dX5_told_29 : decode cX5_told 29 = .ok (.astore_n 3, 1) := by decide +kernel
theorem dX5_told_30 : decode cX5_told 30 = .ok (.aload_n 3, 1) := by decide +kernel
theorem dX5_told_31 : decode cX5_told 31 = .ok (.invokevirtual 67, 3) := by decide +kernel
theorem dX5_told_34 : decode cX5_told 34 = .ok (.ifCond .eq 6, 3) := by decide +kernel
theorem dX5_told_37 : decode cX5_told 37 = .ok (.bipush (-11), 2) := by decide +kernel
theorem dX5_told_39 : decode cX5_told 39 = .ok (.ireturn, 1) := by decide +kernel
theorem dX5_told_40 : decode cX5_told 40 = .ok (.iload_n 2, 1) := by decide +kernel
theorem dX5_told_41 : decode cX5_told 41 = .ok (.tableswitch 42 0 2 #[27, 32, 37], 27) := by decide +kernel
theorem dX5_told_68 : decode cX5_told 68 = .ok (.aload_n 3, 1) := by decide +kernel
theorem dX5_told_69 : decode cX5_told 69 = .ok (.getfield 91, 3) := by decide +kernel
theorem dX5_told_72 : decode cX5_told 72 = .ok (.ireturn, 1) := by decide +kernel
theorem dX5_told_73 : decode cX5_told 73 = .ok (.aload_n 3, 1) := by decide +kernel
theorem dX5_told_74 : decode cX5_told 74 = .ok (.getfield 94, 3) := by decide +kernel
theorem dX5_told_77 : decode cX5_told 77 = .ok (.ireturn, 1) := by decide +kernel
theorem dX5_told_78 : decode cX5_told 78 = .ok (.aload_n 3, 1) := by decide +kernel
theorem dX5_told_79 : decode cX5_told 79 = .ok (.getfield 97, 3) := by decide +kernel
theorem dX5_told_82 : decode cX5_told 82 = .ok (.ireturn, 1) := by decide +kernel
theorem dX5_told_83 : decode cX5_told 83 = .ok (.aload_n 3, 1) := by decide +kernel
theorem dX5_told_84 : decode cX5_told 84 = .ok (.invokevirtual 100, 3) := by decide +kernel
theorem dX5_told_87 : decode cX5_told 87 = .ok (.ifCond .eq 7, 3) := by decide +kernel
theorem dX5_told_90 : decode cX5_told 90 = .ok (.iconst 1, 1) := by decide +kernel
theorem dX5_told_91 : decode cX5_told 91 = .ok (.goto 4, 3) := by decide +kernel
theorem dX5_told_94 : decode cX5_told 94 = .ok (.iconst 0, 1) := by decide +kernel
theorem dX5_told_95 : decode cX5_told 95 = .ok (.ireturn, 1) := by decide +kernel
set_option maxRecDepth 20000 in
theorem ggX5_act_X5_isNumber : GoodIn wsX5_act wsX5_isNumber := goodIn_r _ [7, 2, 74, 75, 76, 77, 78, 79] (by decide +kernel) (by decide +kernel)
set_option maxRecDepth 20000 in
theorem gX5_act_X5_isNumber : GoodIn wsX5_act (wsV RX5 63 RX5 yX5_isNumber wsX5_isNumber) := goodIn_app (goodIn_of _ (by decide +kernel)) ggX5_act_X5_isNumber
set_option maxRecDepth 20000 in
theorem ggX5_act_X5_isFull : GoodIn wsX5_act wsX5_isFull := goodIn_r _ [11, 2, 74, 75, 76, 77, 78, 79] (by decide +kernel) (by decide +kernel)
set_option maxRecDepth 20000 in
theorem gX5_act_X5_isFull : GoodIn wsX5_act (wsV RX5 44 RX5 yX5_isFull wsX5_isFull) := goodIn_app (goodIn_of _ (by decide +kernel)) ggX5_act_X5_isFull
set_option maxRecDepth 20000 in
theorem ggX5_act_X5_failureOfPair : GoodIn wsX5_act wsX5_failureOfPair := goodIn_r _ [14, 15, 16, 17, 18, 19, 20, 21, 22, 23, 24, 25, 26, 80, 81, 82, 83] (by decide +kernel) (by decide +kernel)
set_option maxRecDepth 20000 in
theorem gX5_act_X5_failureOfPair : GoodIn wsX5_act (va_wsS RX5 103 yX5_failureOfPair wsX5_failureOfPair) := goodIn_app (goodIn_of _ (by decide +kernel)) ggX5_act_X5_failureOfPair
set_option maxRecDepth 20000 in
theorem ggX5_act_X5_combine : GoodIn wsX5_act wsX5_combine := goodIn_r _ [29, 30, 31, 32, 18, 33, 26, 34, 35, 36, 37, 38, 20, 25, 39, 40, 41, 42, 43, 44, 45, 46, 47, 48, 49, 50, 51, 52, 53, 54, 55, 56, 57, 58, 59, 60, 61, 62, 63, 64, 65, 66, 67, 68, 69, 80, 81, 82, 83] (by decide +kernel) (by decide +kernel)
set_option maxRecDepth 20000 in
theorem gX5_act_X5_combine : GoodIn wsX5_act (va_wsS RX5 107 yX5_combine wsX5_combine) := goodIn_app (goodIn_of _ (by decide +kernel)) ggX5_act_X5_combine
set_option maxRecDepth 20000 in
theorem ggX5_act_X5_takeNumber : GoodIn wsX5_act wsX5_takeNumber := goodIn_r _ [73, 2, 74, 75, 76, 77, 78, 79] (by decide +kernel) (by decide +kernel)
set_option maxRecDepth 20000 in
theorem gX5_act_X5_takeNumber : GoodIn wsX5_act (wsV RX5 59 RX5 yX5_takeNumber wsX5_takeNumber) := goodIn_app (goodIn_of _ (by decide +kernel)) ggX5_act_X5_takeNumber
theorem dX5_act_0 : decode cX5_act 0 = .ok (.aload_n 0, 1) := by decide +kernel
theorem dX5_act_1 : decode cX5_act 1 = .ok (.iload_n 2, 1) := by decide +kernel
theorem dX5_act_2 : decode cX5_act 2 = .ok (.invokevirtual 63, 3) := by decide +kernel
theorem dX5_act_5 : decode cX5_act 5 = .ok (.ifCond .eq 11, 3) := by decide +kernel
theorem dX5_act_8 : decode cX5_act 8 = .ok (.aload_n 0, 1) := by decide +kernel
theorem dX5_act_9 : decode cX5_act 9 = .ok (.iload_n 3, 1) := by decide +kernel
theorem dX5_act_10 : decode cX5_act 10 = .ok (.invokevirtual 63, 3) := by decide +kernel
theorem dX5_act_13 : decode cX5_act 13 = .ok (.ifCond .ne 6, 3) := by decide +kernel
theorem dX5_act_16 : decode cX5_act 16 = .ok (.bipush (-2), 2) := by decide +kernel
theorem dX5_act_18 : decode cX5_act 18 = .ok (.ireturn, 1) := by decide +kernel
theorem dX5_act_19 : decode cX5_act 19 = .ok (.iload_n 1, 1) := by decide +kernel
theorem dX5_act_20 : decode cX5_act 20 = .ok (.ifCond .lt 8, 3) := by decide +kernel
theorem dX5_act_23 : decode cX5_act 23 = .ok (.iload_n 1, 1) := by decide +kernel
theorem dX5_act_24 : decode cX5_act 24 = .ok (.iconst 5, 1) := by decide +kernel
theorem dX5_act_25 : decode cX5_act 25 = .ok (.if_icmp .le 6, 3) := by decide +kernel
theorem dX5_act_28 : decode cX5_act 28 = .ok (.bipush (-3), 2) := by decide +kernel
theorem dX5_act_30 : decode cX5_act 30 = .ok (.ireturn, 1) := by decide +kernel
theorem dX5_act_31 : decode cX5_act 31 = .ok (.aload_n 0, 1) := by decide +kernel
theorem dX5_act_32 : decode cX5_act 32 = .ok (.invokevirtual 44, 3) := by decide +kernel
theorem dX5_act_35 : decode cX5_act 35 = .ok (.ifCond .eq 6, 3) := by decide +kernel
theorem dX5_act_38 : decode cX5_act 38 = .ok (.bipush (-4), 2) := by decide +kernel
theorem dX5_act_40 : decode cX5_act 40 = .ok (.ireturn, 1) := by decide +kernel
theorem dX5_act_41 : decode cX5_act 41 = .ok (.aload_n 0, 1) := by decide +kernel
theorem dX5_act_42 : decode cX5_act 42 = .ok (.getfield 11, 3) := by decide +kernel
theorem dX5_act_45 : decode cX5_act 45 = .ok (.iload_n 2, 1) := by decide +kernel
theorem dX5_act_46 : decode cX5_act 46 = .ok (.aaload, 1) := by decide +kernel
theorem dX5_act_47 : decode cX5_act 47 = .ok (.aload_n 0, 1) := by decide +kernel
theorem dX5_act_48 : decode cX5_act 48 = .ok (.getfield 11, 3) := by decide +kernel
theorem dX5_act_51 : decode cX5_act 51 = .ok (.iload_n 3, 1) := by decide +kernel
theorem dX5_act_52 : decode cX5_act 52 = .ok (.aaload, 1) := by decide +kernel
theorem dX5_act_53 : decode cX5_act 53 = .ok (.invokestatic 103, 3) := by decide +kernel
theorem dX5_act_56 : decode cX5_act 56 = .ok (.istore 4, 2) := by decide +kernel
theorem dX5_act_58 : decode cX5_act 58 = .ok (.iload 4, 2) := by decide +kernel
theorem dX5_act_60 : decode cX5_act 60 = .ok (.ifCond .eq 6, 3) := by decide +kernel
theorem dX5_act_63 : decode cX5_act 63 = .ok (.iload 4, 2) := by decide +kernel
theorem dX5_act_65 : decode cX5_act 65 = .ok (.ireturn, 1) := by decide +kernel
theorem dX5_act_66 : decode cX5_act 66 = .ok (.iload_n 1, 1) := by decide +kernel
theorem dX5_act_67 : decode cX5_act 67 = .ok (.aload_n 0, 1) := by decide +kernel
theorem dX5_act_68 : decode cX5_act 68 = .ok (.getfield 11, 3) := by decide +kernel
theorem dX5_act_71 : decode cX5_act 71 = .ok (.iload_n 2, 1) := by decide +kernel
theorem dX5_act_72 : decode cX5_act 72 = .ok (.aaload, 1) := by decide +kernel
theorem dX5_act_73 : decode cX5_act 73 = .ok (.aload_n 0, 1) := by decide +kernel
theorem dX5_act_74 : decode cX5_act 74 = .ok (.getfield 11, 3) := by decide +kernel
theorem dX5_act_77 : decode cX5_act 77 = .ok (.iload_n 3, 1) := by decide +kernel
theorem dX5_act_78 : decode cX5_act 78 = .ok (.aaload, 1) := by decide +kernel
theorem dX5_act_79 : decode cX5_act 79 = .ok (.aload_n 0, 1) := by decide +kernel
theorem dX5_act_80 : decode cX5_act 80 = .ok (.getfield 11, 3) := by decide +kernel
theorem dX5_act_83 : decode cX5_act 83 = .ok (.aload_n 0, 1) := by decide +kernel
theorem dX5_act_84 : decode cX5_act 84 = .ok (.getfield 48, 3) := by decide +kernel
theorem dX5_act_87 : decode cX5_act 87 = .ok (.aaload, 1) := by decide +kernel
theorem dX5_act_88 : decode cX5_act 88 = .ok (.invokestatic 107, 3) := by decide +kernel
theorem dX5_act_91 : decode cX5_act 91 = .ok (.ifCond .eq 10, 3) := by decide +kernel
theorem dX5_act_94 : decode cX5_act 94 = .ok (.aload_n 0, 1) := by decide +kernel
theorem dX5_act_95 : decode cX5_act 95 = .ok (.invokevirtual 59, 3) := by decide +kernel
theorem dX5_act_98 : decode cX5_act 98 = .ok (.goto 5, 3) := by decide +kernel
theorem dX5_act_101 : decode cX5_act 101 = .ok (.bipush (-16), 2) := by decide +kernel
theorem dX5_act_103 : decode cX5_act 103 = .ok (.ireturn, 1) := by decide +kernel
set_option maxRecDepth 20000 in
theorem ggX5_times_X5_isNumber : GoodIn wsX5_times wsX5_isNumber := goodIn_r _ [7, 2, 72, 73, 74, 75, 76, 77] (by decide +kernel) (by decide +kernel)
set_option maxRecDepth 20000 in
theorem gX5_times_X5_isNumber : GoodIn wsX5_times (wsV RX5 63 RX5 yX5_isNumber wsX5_isNumber) := goodIn_app (goodIn_of _ (by decide +kernel)) ggX5_times_X5_isNumber
set_option maxRecDepth 20000 in
theorem ggX5_times_X5_isFull : GoodIn wsX5_times wsX5_isFull := goodIn_r _ [11, 2, 72, 73, 74, 75, 76, 77] (by decide +kernel) (by decide +kernel)
set_option maxRecDepth 20000 in
theorem gX5_times_X5_isFull : GoodIn wsX5_times (wsV RX5 44 RX5 yX5_isFull wsX5_isFull) := goodIn_app (goodIn_of _ (by decide +kernel)) ggX5_times_X5_isFull
set_option maxRecDepth 20000 in
theorem ggX5_times_X2_isNothing : GoodIn wsX5_times wsX2_isNothing := goodIn_r _ [16, 17, 78, 79, 80, 81] (by decide +kernel) (by decide +kernel)
set_option maxRecDepth 20000 in
theorem gX5_times_X2_isNothing : GoodIn wsX5_times (wsV RX5 67 RX2 yX2_isNothing wsX2_isNothing) := goodIn_app (goodIn_of _ (by decide +kernel)) ggX5_times_X2_isNothing
set_option maxRecDepth 20000 in
theorem ggX5_times_X5_scale : GoodIn wsX5_times wsX5_scale := goodIn_r _ [21, 22, 23, 24, 25, 26, 27, 15, 28, 17, 29, 30, 31, 32, 33, 34, 35, 36, 37, 38, 39, 40, 41, 42, 43, 44, 45, 46, 47, 48, 49, 50, 51, 52, 53, 54, 55, 56, 57, 58, 59, 60, 61, 62, 63, 64, 65, 66, 67, 78, 79, 80, 81, 72, 73, 74, 75, 76, 77, 82, 83] (by decide +kernel) (by decide +kernel)
set_option maxRecDepth 20000 in
theorem gX5_times_X5_scale : GoodIn wsX5_times (wsV RX5 111 RX5 yX5_scale wsX5_scale) := goodIn_app (goodIn_of _ (by decide +kernel)) ggX5_times_X5_scale
set_option maxRecDepth 20000 in
theorem ggX5_times_X5_takeNumber : GoodIn wsX5_times wsX5_takeNumber := goodIn_r _ [71, 2, 72, 73, 74, 75, 76, 77] (by decide +kernel) (by decide +kernel)
set_option maxRecDepth 20000 in
theorem gX5_times_X5_takeNumber : GoodIn wsX5_times (wsV RX5 59 RX5 yX5_takeNumber wsX5_takeNumber) := goodIn_app (goodIn_of _ (by decide +kernel)) ggX5_times_X5_takeNumber
theorem dX5_times_0 : decode cX5_times 0 = .ok (.aload_n 0, 1) := by decide +kernel
theorem dX5_times_1 : decode cX5_times 1 = .ok (.iload_n 1, 1) := by decide +kernel
theorem dX5_times_2 : decode cX5_times 2 = .ok (.invokevirtual 63, 3) := by decide +kernel
theorem dX5_times_5 : decode cX5_times 5 = .ok (.ifCond .ne 6, 3) := by decide +kernel
theorem dX5_times_8 : decode cX5_times 8 = .ok (.bipush (-2), 2) := by decide +kernel
theorem dX5_times_10 : decode cX5_times 10 = .ok (.ireturn, 1) := by decide +kernel
theorem dX5_times_11 : decode cX5_times 11 = .ok (.aload_n 0, 1) := by decide +kernel
theorem dX5_times_12 : decode cX5_times 12 = .ok (.invokevirtual 44, 3) := by decide +kernel
theorem dX5_times_15 : decode cX5_times 15 = .ok (.ifCond .eq 6, 3) := by decide +kernel
theorem dX5_times_18 : decode cX5_times 18 = .ok (.bipush (-4), 2) := by decide +kernel
theorem dX5_times_20 : decode cX5_times 20 = .ok (.ireturn, 1) := by decide +kernel
theorem dX5_times_21 : decode cX5_times 21 = .ok (.aload_n 0, 1) := by decide +kernel
theorem dX5_times_22 : decode cX5_times 22 = .ok (.getfield 11, 3) := by decide +kernel
theorem dX5_times_25 : decode cX5_times 25 = .ok (.iload_n 1, 1) := by decide +kernel
theorem dX5_times_26 : decode cX5_times 26 = .ok (.aaload, 1) := by decide +kernel
theorem dX5_times_27 : decode cX5_times 27 = .ok (.invokevirtual 67, 3) := by decide +kernel
theorem dX5_times_30 : decode cX5_times 30 = .ok (.ifCond .eq 6, 3) := by decide +kernel
theorem dX5_times_33 : decode cX5_times 33 = .ok (.bipush (-11), 2) := by decide +kernel
theorem dX5_times_35 : decode cX5_times 35 = .ok (.ireturn, 1) := by decide +kernel
theorem dX5_times_36 : decode cX5_times 36 = .ok (.iload_n 3, 1) := by decide +kernel
theorem dX5_times_37 : decode cX5_times 37 = .ok (.ifCond .ne 6, 3) := by decide +kernel
theorem dX5_times_40 : decode cX5_times 40 = .ok (.bipush (-15), 2) := by decide +kernel
theorem dX5_times_42 : decode cX5_times 42 = .ok (.ireturn, 1) := by decide +kernel
theorem dX5_times_43 : decode cX5_times 43 = .ok (.aload_n 0, 1) := by decide +kernel
theorem dX5_times_44 : decode cX5_times 44 = .ok (.aload_n 0, 1) := by decide +kernel
theorem dX5_times_45 : decode cX5_times 45 = .ok (.getfield 11, 3) := by decide +kernel
theorem dX5_times_48 : decode cX5_times 48 = .ok (.iload_n 1, 1) := by decide +kernel
theorem dX5_times_49 : decode cX5_times 49 = .ok (.aaload, 1) := by decide +kernel
theorem dX5_times_50 : decode cX5_times 50 = .ok (.iload_n 2, 1) := by decide +kernel
theorem dX5_times_51 : decode cX5_times 51 = .ok (.iload_n 3, 1) := by decide +kernel
theorem dX5_times_52 : decode cX5_times 52 = .ok (.aload_n 0, 1) := by decide +kernel
theorem dX5_times_53 : decode cX5_times 53 = .ok (.getfield 11, 3) := by decide +kernel
theorem dX5_times_56 : decode cX5_times 56 = .ok (.aload_n 0, 1) := by decide +kernel
theorem dX5_times_57 : decode cX5_times 57 = .ok (.getfield 48, 3) := by decide +kernel
theorem dX5_times_60 : decode cX5_times 60 = .ok (.aaload, 1) := by decide +kernel
theorem dX5_times_61 : decode cX5_times 61 = .ok (.invokevirtual 111, 3) := by decide +kernel
theorem dX5_times_64 : decode cX5_times 64 = .ok (.ifCond .eq 10, 3) := by decide +kernel
theorem dX5_times_67 : decode cX5_times 67 = .ok (.aload_n 0, 1) := by decide +kernel
theorem dX5_times_68 : decode cX5_times 68 = .ok (.invokevirtual 59, 3) := by decide +kernel
theorem dX5_times_71 : decode cX5_times 71 = .ok (.goto 5, 3) := by decide +kernel
theorem dX5_times_74 : decode cX5_times 74 = .ok (.bipush (-16), 2) := by decide +kernel
theorem dX5_times_76 : decode cX5_times 76 = .ok (.ireturn, 1) := by decide +kernel
set_option maxRecDepth 20000 in
theorem ggX5_order_X5_isNumber : GoodIn wsX5_order wsX5_isNumber := goodIn_r _ [6, 7, 28, 29, 30, 31, 32, 33] (by decide +kernel) (by decide +kernel)
set_option maxRecDepth 20000 in
theorem gX5_order_X5_isNumber : GoodIn wsX5_order (wsV RX5 63 RX5 yX5_isNumber wsX5_isNumber) := goodIn_app (goodIn_of _ (by decide +kernel)) ggX5_order_X5_isNumber
set_option maxRecDepth 20000 in
theorem ggX5_order_X5_failureOfPair : GoodIn wsX5_order wsX5_failureOfPair := goodIn_r _ [10, 11, 12, 13, 14, 15, 16, 17, 18, 19, 20, 21, 22, 34, 35, 36, 37] (by decide +kernel) (by decide +kernel)
set_option maxRecDepth 20000 in
theorem gX5_order_X5_failureOfPair : GoodIn wsX5_order (va_wsS RX5 103 yX5_failureOfPair wsX5_failureOfPair) := goodIn_app (goodIn_of _ (by decide +kernel)) ggX5_order_X5_failureOfPair
set_option maxRecDepth 20000 in
theorem ggX5_order_X2_compareWith : GoodIn wsX5_order wsX2_compareWith := goodIn_r _ [26, 22, 27, 34, 35, 36, 37] (by decide +kernel) (by decide +kernel)
set_option maxRecDepth 20000 in
theorem gX5_order_X2_compareWith : GoodIn wsX5_order (wsV RX5 115 RX2 yX2_compareWith wsX2_compareWith) := goodIn_app (goodIn_of _ (by decide +kernel)) ggX5_order_X2_compareWith
theorem dX5_order_0 : decode cX5_order 0 = .ok (.aload_n 0, 1) := by decide +kernel
theorem dX5_order_1 : decode cX5_order 1 = .ok (.iload_n 1, 1) := by decide +kernel
theorem dX5_order_2 : decode cX5_order 2 = .ok (.invokevirtual 63, 3) := by decide +kernel
theorem dX5_order_5 : decode cX5_order 5 = .ok (.ifCond .eq 11, 3) := by decide +kernel
theorem dX5_order_8 : decode cX5_order 8 = .ok (.aload_n 0, 1) := by decide +kernel
theorem dX5_order_9 : decode cX5_order 9 = .ok (.iload_n 2, 1) := by decide +kernel
theorem dX5_order_10 : decode cX5_order 10 = .ok (.invokevirtual 63, 3) := by decide +kernel
theorem dX5_order_13 : decode cX5_order 13 = .ok (.ifCond .ne 6, 3) := by decide +kernel
theorem dX5_order_16 : decode cX5_order 16 = .ok (.bipush (-2), 2) := by decide +kernel
theorem dX5_order_18 : decode cX5_order 18 = .ok (.ireturn, 1) := by decide +kernel
theorem dX5_order_19 : decode cX5_order 19 = .ok (.aload_n 0, 1) := by decide +kernel
theorem dX5_order_20 : decode cX5_order 20 = .ok (.getfield 11, 3) := by decide +kernel
theorem dX5_order_23 : decode cX5_order 23 = .ok (.iload_n 1, 1) := by decide +kernel
theorem dX5_order_24 : decode cX5_order 24 = .ok (.aaload, 1) := by decide +kernel
theorem dX5_order_25 : decode cX5_order 25 = .ok (.aload_n 0, 1) := by decide +kernel
theorem dX5_order_26 : decode cX5_order 26 = .ok (.getfield 11, 3) := by decide +kernel
theorem dX5_order_29 : decode cX5_order 29 = .ok (.iload_n 2, 1) := by decide +kernel
theorem dX5_order_30 : decode cX5_order 30 = .ok (.aaload, 1) := by decide +kernel
theorem dX5_order_31 : decode cX5_order 31 = .ok (.invokestatic 103, 3) := by decide +kernel
theorem dX5_order_34 : decode cX5_order 34 = .ok (.istore_n 3, 1) := by decide +kernel
theorem dX5_order_35 : decode cX5_order 35 = .ok (.iload_n 3, 1) := by decide +kernel
theorem dX5_order_36 : decode cX5_order 36 = .ok (.ifCond .eq 5, 3) := by decide +kernel
theorem dX5_order_39 : decode cX5_order 39 = .ok (.iload_n 3, 1) := by decide +kernel
theorem dX5_order_40 : decode cX5_order 40 = .ok (.ireturn, 1) := by decide +kernel
theorem dX5_order_41 : decode cX5_order 41 = .ok (.aload_n 0, 1) := by decide +kernel
theorem dX5_order_42 : decode cX5_order 42 = .ok (.getfield 11, 3) := by decide +kernel
theorem dX5_order_45 : decode cX5_order 45 = .ok (.iload_n 1, 1) := by decide +kernel
theorem dX5_order_46 : decode cX5_order 46 = .ok (.aaload, 1) := by decide +kernel
theorem dX5_order_47 : decode cX5_order 47 = .ok (.aload_n 0, 1) := by decide +kernel
theorem dX5_order_48 : decode cX5_order 48 = .ok (.getfield 11, 3) := by decide +kernel
theorem dX5_order_51 : decode cX5_order 51 = .ok (.iload_n 2, 1) := by decide +kernel
theorem dX5_order_52 : decode cX5_order 52 = .ok (.aaload, 1) := by decide +kernel
theorem dX5_order_53 : decode cX5_order 53 = .ok (.invokevirtual 115, 3) := by decide +kernel
theorem dX5_order_56 : decode cX5_order 56 = .ok (.iconst 2, 1) := by decide +kernel
theorem dX5_order_57 : decode cX5_order 57 = .ok (.iadd, 1) := by decide +kernel
theorem dX5_order_58 : decode cX5_order 58 = .ok (.ireturn, 1) := by decide +kernel
set_option maxRecDepth 20000 in
theorem ggX5_put_X3_append : GoodIn wsX5_put wsX3_append := goodIn_r _ [7, 8, 9, 16, 17, 18] (by decide +kernel) (by decide +kernel)
set_option maxRecDepth 20000 in
theorem gX5_put_X3_append : GoodIn wsX5_put (wsV RX5 122 RX3 yX3_append wsX3_append) := goodIn_app (goodIn_of _ (by decide +kernel)) ggX5_put_X3_append
theorem dX5_put_0 : decode cX5_put 0 = .ok (.iload_n 1, 1) := by decide +kernel
theorem dX5_put_1 : decode cX5_put 1 = .ok (.ifCond .lt 9, 3) := by decide +kernel
theorem dX5_put_4 : decode cX5_put 4 = .ok (.iload_n 1, 1) := by decide +kernel
theorem dX5_put_5 : decode cX5_put 5 = .ok (.bipush 127, 2) := by decide +kernel
theorem dX5_put_7 : decode cX5_put 7 = .ok (.if_icmp .le 6, 3) := by decide +kernel
theorem dX5_put_10 : decode cX5_put 10 = .ok (.bipush (-3), 2) := by decide +kernel
theorem dX5_put_12 : decode cX5_put 12 = .ok (.ireturn, 1) := by decide +kernel
theorem dX5_put_13 : decode cX5_put 13 = .ok (.aload_n 0, 1) := by decide +kernel
theorem dX5_put_14 : decode cX5_put 14 = .ok (.getfield 19, 3) := by decide +kernel
theorem dX5_put_17 : decode cX5_put 17 = .ok (.getfield 119, 3) := by decide +kernel
theorem dX5_put_20 : decode cX5_put 20 = .ok (.sipush 300, 3) := by decide +kernel
theorem dX5_put_23 : decode cX5_put 23 = .ok (.if_icmp .lt 6, 3) := by decide +kernel
theorem dX5_put_26 : decode cX5_put 26 = .ok (.bipush (-4), 2) := by decide +kernel
theorem dX5_put_28 : decode cX5_put 28 = .ok (.ireturn, 1) := by decide +kernel
theorem dX5_put_29 : decode cX5_put 29 = .ok (.aload_n 0, 1) := by decide +kernel
theorem dX5_put_30 : decode cX5_put 30 = .ok (.getfield 19, 3) := by decide +kernel
theorem dX5_put_33 : decode cX5_put 33 = .ok (.iload_n 1, 1) := by decide +kernel
theorem dX5_put_34 : decode cX5_put 34 = .ok (.invokevirtual 122, 3) := by decide +kernel
theorem dX5_put_37 : decode cX5_put 37 = .ok (.aload_n 0, 1) := by decide +kernel
theorem dX5_put_38 : decode cX5_put 38 = .ok (.getfield 19, 3) := by decide +kernel
theorem dX5_put_41 : decode cX5_put 41 = .ok (.getfield 119, 3) := by decide +kernel
theorem dX5_put_44 : decode cX5_put 44 = .ok (.ireturn, 1) := by decide +kernel
set_option maxRecDepth 20000 in
theorem ggX5_read_X5_isFull : GoodIn wsX5_read wsX5_isFull := goodIn_r _ [10, 4, 112, 113, 114, 115, 116, 117] (by decide +kernel) (by decide +kernel)
set_option maxRecDepth 20000 in
theorem gX5_read_X5_isFull : GoodIn wsX5_read (wsV RX5 44 RX5 yX5_isFull wsX5_isFull) := goodIn_app (goodIn_of _ (by decide +kernel)) ggX5_read_X5_isFull
set_option maxRecDepth 20000 in
theorem ggX5_read_X3_parse : GoodIn wsX5_read wsX3_parse := goodIn_r _ [15, 16, 17, 18, 19, 20, 14, 21, 22, 23, 24, 25, 26, 27, 28, 29, 30, 31, 32, 33, 34, 35, 36, 37, 38, 39, 40, 41, 42, 43, 44, 45, 46, 47, 48, 49, 50, 51, 52, 53, 54, 55, 56, 57, 58, 59, 60, 61, 62, 63, 64, 65, 66, 67, 68, 69, 70, 71, 72, 73, 74, 75, 76, 77, 78, 79, 80, 81, 82, 83, 84, 85, 86, 87, 88, 89, 90, 91, 92, 93, 94, 95, 96, 97, 98, 99, 100, 101, 102, 103, 104, 105, 106, 107, 118, 119, 120, 121, 122, 123, 124] (by decide +kernel) (by decide +kernel)
set_option maxRecDepth 20000 in
theorem gX5_read_X3_parse : GoodIn wsX5_read (wsV RX5 126 RX3 yX3_parse wsX3_parse) := goodIn_app (goodIn_of _ (by decide +kernel)) ggX5_read_X3_parse
set_option maxRecDepth 20000 in
theorem ggX5_read_X5_takeNumber : GoodIn wsX5_read wsX5_takeNumber := goodIn_r _ [111, 4, 112, 113, 114, 115, 116, 117] (by decide +kernel) (by decide +kernel)
set_option maxRecDepth 20000 in
theorem gX5_read_X5_takeNumber : GoodIn wsX5_read (wsV RX5 59 RX5 yX5_takeNumber wsX5_takeNumber) := goodIn_app (goodIn_of _ (by decide +kernel)) ggX5_read_X5_takeNumber
theorem dX5_read_0 : decode cX5_read 0 = .ok (.aload_n 0, 1) := by decide +kernel
theorem dX5_read_1 : decode cX5_read 1 = .ok (.invokevirtual 44, 3) := by decide +kernel
theorem dX5_read_4 : decode cX5_read 4 = .ok (.ifCond .eq 14, 3) := by decide +kernel
theorem dX5_read_7 : decode cX5_read 7 = .ok (.aload_n 0, 1) := by decide +kernel
theorem dX5_read_8 : decode cX5_read 8 = .ok (.getfield 19, 3) := by decide +kernel
theorem dX5_read_11 : decode cX5_read 11 = .ok (.iconst 0, 1) := by decide +kernel
theorem dX5_read_12 : decode cX5_read 12 = .ok (.putfield 119, 3) := by decide +kernel
theorem dX5_read_15 : decode cX5_read 15 = .ok (.bipush (-4), 2) := by decide +kernel
theorem dX5_read_17 : decode cX5_read 17 = .ok (.ireturn, 1) := by decide +kernel
theorem dX5_read_18 : decode cX5_read 18 = .ok (.aload_n 0, 1) := by decide +kernel
theorem dX5_read_19 : decode cX5_read 19 = .ok (.getfield 19, 3) := by decide +kernel
theorem dX5_read_22 : decode cX5_read 22 = .ok (.aload_n 0, 1) := by decide +kernel
theorem dX5_read_23 : decode cX5_read 23 = .ok (.getfield 11, 3) := by decide +kernel
theorem dX5_read_26 : decode cX5_read 26 = .ok (.aload_n 0, 1) := by decide +kernel
theorem dX5_read_27 : decode cX5_read 27 = .ok (.getfield 48, 3) := by decide +kernel
theorem dX5_read_30 : decode cX5_read 30 = .ok (.aaload, 1) := by decide +kernel
theorem dX5_read_31 : decode cX5_read 31 = .ok (.invokevirtual 126, 3) := by decide +kernel
theorem dX5_read_34 : decode cX5_read 34 = .ok (.istore_n 1, 1) := by decide +kernel
theorem dX5_read_35 : decode cX5_read 35 = .ok (.aload_n 0, 1) := by decide +kernel
theorem dX5_read_36 : decode cX5_read 36 = .ok (.getfield 19, 3) := by decide +kernel
theorem dX5_read_39 : decode cX5_read 39 = .ok (.iconst 0, 1) := by decide +kernel
theorem dX5_read_40 : decode cX5_read 40 = .ok (.putfield 119, 3) := by decide +kernel
theorem dX5_read_43 : decode cX5_read 43 = .ok (.iload_n 1, 1) := by decide +kernel
theorem dX5_read_44 : decode cX5_read 44 = .ok (.ifCond .eq 10, 3) := by decide +kernel
theorem dX5_read_47 : decode cX5_read 47 = .ok (.aload_n 0, 1) := by decide +kernel
theorem dX5_read_48 : decode cX5_read 48 = .ok (.invokevirtual 59, 3) := by decide +kernel
theorem dX5_read_51 : decode cX5_read 51 = .ok (.goto 13, 3) := by decide +kernel
theorem dX5_read_54 : decode cX5_read 54 = .ok (.bipush (-100), 2) := by decide +kernel
theorem dX5_read_56 : decode cX5_read 56 = .ok (.aload_n 0, 1) := by decide +kernel
theorem dX5_read_57 : decode cX5_read 57 = .ok (.getfield 19, 3) := by decide +kernel
theorem dX5_read_60 : decode cX5_read 60 = .ok (.getfield 130, 3) := by decide +kernel
theorem dX5_read_63 : decode cX5_read 63 = .ok (.isub, 1) := by decide +kernel
theorem dX5_read_64 : decode cX5_read 64 = .ok (.ireturn, 1) := by decide +kernel
set_option maxRecDepth 20000 in
theorem ggX5_print_X5_isNumber : GoodIn wsX5_print wsX5_isNumber := goodIn_r _ [8, 9, 103, 104, 105, 106, 107, 108] (by decide +kernel) (by decide +kernel)
set_option maxRecDepth 20000 in
theorem gX5_print_X5_isNumber : GoodIn wsX5_print (wsV RX5 63 RX5 yX5_isNumber wsX5_isNumber) := goodIn_app (goodIn_of _ (by decide +kernel)) ggX5_print_X5_isNumber
set_option maxRecDepth 20000 in
theorem ggX5_print_X2_isNothing : GoodIn wsX5_print wsX2_isNothing := goodIn_r _ [14, 15, 112, 113, 114, 115] (by decide +kernel) (by decide +kernel)
set_option maxRecDepth 20000 in
theorem gX5_print_X2_isNothing : GoodIn wsX5_print (wsV RX5 67 RX2 yX2_isNothing wsX2_isNothing) := goodIn_app (goodIn_of _ (by decide +kernel)) ggX5_print_X2_isNothing
set_option maxRecDepth 20000 in
theorem ggX5_print_X0_write : GoodIn wsX5_print wsX0_write := goodIn_r _ [20, 21, 22, 23, 24, 25, 19, 26, 27, 28, 29, 30, 31, 32, 33, 34, 35, 36, 37, 38, 39, 40, 41, 42, 43, 44, 45, 46, 47, 48, 49, 50, 51, 52, 53, 54, 55, 56, 57, 58, 59, 60, 61, 62, 63, 64, 65, 66, 67, 68, 69, 70, 71, 72, 73, 74, 75, 76, 77, 78, 79, 80, 81, 82, 83, 84, 85, 86, 87, 88, 89, 90, 91, 92, 93, 94, 95, 96, 97, 98, 99, 100, 101, 102, 109, 110, 111, 112, 113, 114, 115] (by decide +kernel) (by decide +kernel)
set_option maxRecDepth 20000 in
theorem gX5_print_X0_write : GoodIn wsX5_print (wsV RX5 133 RX0 yX0_write wsX0_write) := goodIn_app (goodIn_of _ (by decide +kernel)) ggX5_print_X0_write
theorem dX5_print_0 : decode cX5_print 0 = .ok (.aload_n 0, 1) := by decide +kernel
theorem dX5_print_1 : decode cX5_print 1 = .ok (.iload_n 1, 1) := by decide +kernel
theorem dX5_print_2 : decode cX5_print 2 = .ok (.invokevirtual 63, 3) := by decide +kernel
theorem dX5_print_5 : decode cX5_print 5 = .ok (.ifCond .ne 6, 3) := by decide +kernel
theorem dX5_print_8 : decode cX5_print 8 = .ok (.bipush (-2), 2) := by decide +kernel
theorem dX5_print_10 : decode cX5_print 10 = .ok (.ireturn, 1) := by decide +kernel
theorem dX5_print_11 : decode cX5_print 11 = .ok (.aload_n 0, 1) := by decide +kernel
theorem dX5_print_12 : decode cX5_print 12 = .ok (.getfield 11, 3) := by decide +kernel
theorem dX5_print_15 : decode cX5_print 15 = .ok (.iload_n 1, 1) := by decide +kernel
theorem dX5_print_16 : decode cX5_print 16 = .ok (.aaload, 1) := by decide +kernel
theorem dX5_print_17 : decode cX5_print 17 = .ok (.invokevirtual 67, 3) := by decide +kernel
theorem dX5_print_20 : decode cX5_print 20 = .ok (.ifCond .eq 6, 3) := by decide +kernel
theorem dX5_print_23 : decode cX5_print 23 = .ok (.bipush (-11), 2) := by decide +kernel
theorem dX5_print_25 : decode cX5_print 25 = .ok (.ireturn, 1) := by decide +kernel
theorem dX5_print_26 : decode cX5_print 26 = .ok (.aload_n 0, 1) := by decide +kernel
theorem dX5_print_27 : decode cX5_print 27 = .ok (.getfield 26, 3) := by decide +kernel
theorem dX5_print_30 : decode cX5_print 30 = .ok (.aload_n 0, 1) := by decide +kernel
theorem dX5_print_31 : decode cX5_print 31 = .ok (.getfield 11, 3) := by decide +kernel
theorem dX5_print_34 : decode cX5_print 34 = .ok (.iload_n 1, 1) := by decide +kernel
theorem dX5_print_35 : decode cX5_print 35 = .ok (.aaload, 1) := by decide +kernel
theorem dX5_print_36 : decode cX5_print 36 = .ok (.invokevirtual 133, 3) := by decide +kernel
end
section
theorem dX5_print_39 : decode cX5_print 39 = .ok (.aload_n 0, 1) := by decide +kernel
theorem dX5_print_40 : decode cX5_print 40 = .ok (.getfield 26, 3) := by decide +kernel
theorem dX5_print_43 : decode cX5_print 43 = .ok (.getfield 137, 3) := by decide +kernel
theorem dX5_print_46 : decode cX5_print 46 = .ok (.ireturn, 1) := by decide +kernel
theorem dX5_out_0 : decode cX5_out 0 = .ok (.iload_n 1, 1) := by decide +kernel
theorem dX5_out_1 : decode cX5_out 1 = .ok (.ifCond .lt 26, 3) := by decide +kernel
theorem dX5_out_4 : decode cX5_out 4 = .ok (.iload_n 1, 1) := by decide +kernel
theorem dX5_out_5 : decode cX5_out 5 = .ok (.aload_n 0, 1) := by decide +kernel
theorem dX5_out_6 : decode cX5_out 6 = .ok (.getfield 26, 3) := by decide +kernel
theorem dX5_out_9 : decode cX5_out 9 = .ok (.getfield 137, 3) := by decide +kernel
theorem dX5_out_12 : decode cX5_out 12 = .ok (.if_icmp .ge 15, 3) := by decide +kernel
theorem dX5_out_15 : decode cX5_out 15 = .ok (.aload_n 0, 1) := by decide +kernel
theorem dX5_out_16 : decode cX5_out 16 = .ok (.getfield 26, 3) := by decide +kernel
theorem dX5_out_19 : decode cX5_out 19 = .ok (.getfield 138, 3) := by decide +kernel
theorem dX5_out_22 : decode cX5_out 22 = .ok (.iload_n 1, 1) := by decide +kernel
theorem dX5_out_23 : decode cX5_out 23 = .ok (.baload, 1) := by decide +kernel
theorem dX5_out_24 : decode cX5_out 24 = .ok (.goto 4, 3) := by decide +kernel
theorem dX5_out_27 : decode cX5_out 27 = .ok (.iconst (-1), 1) := by decide +kernel
theorem dX5_out_28 : decode cX5_out 28 = .ok (.ireturn, 1) := by decide +kernel
set_option maxRecDepth 20000 in
theorem ggX5_plan_X5_isNumber : GoodIn wsX5_plan wsX5_isNumber := goodIn_r _ [8, 9, 34, 35, 36, 37, 38, 39] (by decide +kernel) (by decide +kernel)
set_option maxRecDepth 20000 in
theorem gX5_plan_X5_isNumber : GoodIn wsX5_plan (wsV RX5 63 RX5 yX5_isNumber wsX5_isNumber) := goodIn_app (goodIn_of _ (by decide +kernel)) ggX5_plan_X5_isNumber
set_option maxRecDepth 20000 in
theorem ggX5_plan_X2_isNothing : GoodIn wsX5_plan wsX2_isNothing := goodIn_r _ [14, 15, 49, 50, 51, 52] (by decide +kernel) (by decide +kernel)
set_option maxRecDepth 20000 in
theorem gX5_plan_X2_isNothing : GoodIn wsX5_plan (wsV RX5 67 RX2 yX2_isNothing wsX2_isNothing) := goodIn_app (goodIn_of _ (by decide +kernel)) ggX5_plan_X2_isNothing
set_option maxRecDepth 20000 in
theorem ggX5_plan_X1_begin : GoodIn wsX5_plan wsX1_begin := goodIn_r _ [20, 21, 22, 23, 24, 25, 26, 13, 27, 15, 28, 29, 30, 31, 32, 33, 40, 41, 42, 43, 44, 45, 46, 47, 48, 49, 50, 51, 52] (by decide +kernel) (by decide +kernel)
set_option maxRecDepth 20000 in
theorem gX5_plan_X1_begin : GoodIn wsX5_plan (wsV RX5 145 RX1 yX1_begin wsX1_begin) := goodIn_app (goodIn_of _ (by decide +kernel)) ggX5_plan_X1_begin
theorem dX5_plan_0 : decode cX5_plan 0 = .ok (.aload_n 0, 1) := by decide +kernel
theorem dX5_plan_1 : decode cX5_plan 1 = .ok (.iload_n 1, 1) := by decide +kernel
theorem dX5_plan_2 : decode cX5_plan 2 = .ok (.invokevirtual 63, 3) := by decide +kernel
theorem dX5_plan_5 : decode cX5_plan 5 = .ok (.ifCond .ne 6, 3) := by decide +kernel
theorem dX5_plan_8 : decode cX5_plan 8 = .ok (.bipush (-2), 2) := by decide +kernel
theorem dX5_plan_10 : decode cX5_plan 10 = .ok (.ireturn, 1) := by decide +kernel
theorem dX5_plan_11 : decode cX5_plan 11 = .ok (.aload_n 0, 1) := by decide +kernel
theorem dX5_plan_12 : decode cX5_plan 12 = .ok (.getfield 11, 3) := by decide +kernel
theorem dX5_plan_15 : decode cX5_plan 15 = .ok (.iload_n 1, 1) := by decide +kernel
theorem dX5_plan_16 : decode cX5_plan 16 = .ok (.aaload, 1) := by decide +kernel
theorem dX5_plan_17 : decode cX5_plan 17 = .ok (.invokevirtual 67, 3) := by decide +kernel
theorem dX5_plan_20 : decode cX5_plan 20 = .ok (.ifCond .eq 6, 3) := by decide +kernel
theorem dX5_plan_23 : decode cX5_plan 23 = .ok (.bipush (-11), 2) := by decide +kernel
theorem dX5_plan_25 : decode cX5_plan 25 = .ok (.ireturn, 1) := by decide +kernel
theorem dX5_plan_26 : decode cX5_plan 26 = .ok (.aload_n 0, 1) := by decide +kernel
theorem dX5_plan_27 : decode cX5_plan 27 = .ok (.getfield 33, 3) := by decide +kernel
theorem dX5_plan_30 : decode cX5_plan 30 = .ok (.getfield 142, 3) := by decide +kernel
theorem dX5_plan_33 : decode cX5_plan 33 = .ok (.istore_n 2, 1) := by decide +kernel
theorem dX5_plan_34 : decode cX5_plan 34 = .ok (.aload_n 0, 1) := by decide +kernel
theorem dX5_plan_35 : decode cX5_plan 35 = .ok (.getfield 33, 3) := by decide +kernel
theorem dX5_plan_38 : decode cX5_plan 38 = .ok (.aload_n 0, 1) := by decide +kernel
theorem dX5_plan_39 : decode cX5_plan 39 = .ok (.getfield 11, 3) := by decide +kernel
theorem dX5_plan_42 : decode cX5_plan 42 = .ok (.iload_n 1, 1) := by decide +kernel
theorem dX5_plan_43 : decode cX5_plan 43 = .ok (.aaload, 1) := by decide +kernel
theorem dX5_plan_44 : decode cX5_plan 44 = .ok (.invokevirtual 145, 3) := by decide +kernel
theorem dX5_plan_47 : decode cX5_plan 47 = .ok (.iload_n 2, 1) := by decide +kernel
theorem dX5_plan_48 : decode cX5_plan 48 = .ok (.ireturn, 1) := by decide +kernel
set_option maxRecDepth 20000 in
theorem ggX5_rule_X5_isNumber : GoodIn wsX5_rule wsX5_isNumber := goodIn_r _ [9, 10, 47, 48, 49, 50, 51, 52] (by decide +kernel) (by decide +kernel)
set_option maxRecDepth 20000 in
theorem gX5_rule_X5_isNumber : GoodIn wsX5_rule (wsV RX5 63 RX5 yX5_isNumber wsX5_isNumber) := goodIn_app (goodIn_of _ (by decide +kernel)) ggX5_rule_X5_isNumber
set_option maxRecDepth 20000 in
theorem ggX5_rule_X5_failureOfPair : GoodIn wsX5_rule wsX5_failureOfPair := goodIn_r _ [13, 14, 15, 16, 17, 18, 19, 20, 21, 22, 23, 24, 25, 62, 63, 64, 65] (by decide +kernel) (by decide +kernel)
set_option maxRecDepth 20000 in
theorem gX5_rule_X5_failureOfPair : GoodIn wsX5_rule (va_wsS RX5 103 yX5_failureOfPair wsX5_failureOfPair) := goodIn_app (goodIn_of _ (by decide +kernel)) ggX5_rule_X5_failureOfPair
set_option maxRecDepth 20000 in
theorem ggX5_rule_X1_addRule : GoodIn wsX5_rule wsX1_addRule := goodIn_r _ [30, 31, 32, 33, 34, 35, 36, 17, 37, 25, 38, 39, 40, 41, 42, 19, 24, 43, 44, 45, 46, 53, 54, 55, 56, 57, 58, 59, 60, 61, 62, 63, 64, 65] (by decide +kernel) (by decide +kernel)
set_option maxRecDepth 20000 in
theorem gX5_rule_X1_addRule : GoodIn wsX5_rule (wsV RX5 152 RX1 yX1_addRule wsX1_addRule) := goodIn_app (goodIn_of _ (by decide +kernel)) ggX5_rule_X1_addRule
theorem dX5_rule_0 : decode cX5_rule 0 = .ok (.aload_n 0, 1) := by decide +kernel
theorem dX5_rule_1 : decode cX5_rule 1 = .ok (.iload_n 1, 1) := by decide +kernel
theorem dX5_rule_2 : decode cX5_rule 2 = .ok (.invokevirtual 63, 3) := by decide +kernel
theorem dX5_rule_5 : decode cX5_rule 5 = .ok (.ifCond .ne 6, 3) := by decide +kernel
theorem dX5_rule_8 : decode cX5_rule 8 = .ok (.bipush (-2), 2) := by decide +kernel
theorem dX5_rule_10 : decode cX5_rule 10 = .ok (.ireturn, 1) := by decide +kernel
theorem dX5_rule_11 : decode cX5_rule 11 = .ok (.aload_n 0, 1) := by decide +kernel
theorem dX5_rule_12 : decode cX5_rule 12 = .ok (.getfield 33, 3) := by decide +kernel
theorem dX5_rule_15 : decode cX5_rule 15 = .ok (.getfield 142, 3) := by decide +kernel
theorem dX5_rule_18 : decode cX5_rule 18 = .ok (.bipush 12, 2) := by decide +kernel
theorem dX5_rule_20 : decode cX5_rule 20 = .ok (.if_icmp .lt 6, 3) := by decide +kernel
theorem dX5_rule_23 : decode cX5_rule 23 = .ok (.bipush (-4), 2) := by decide +kernel
theorem dX5_rule_25 : decode cX5_rule 25 = .ok (.ireturn, 1) := by decide +kernel
theorem dX5_rule_26 : decode cX5_rule 26 = .ok (.aload_n 0, 1) := by decide +kernel
theorem dX5_rule_27 : decode cX5_rule 27 = .ok (.getfield 11, 3) := by decide +kernel
theorem dX5_rule_30 : decode cX5_rule 30 = .ok (.iload_n 1, 1) := by decide +kernel
theorem dX5_rule_31 : decode cX5_rule 31 = .ok (.aaload, 1) := by decide +kernel
theorem dX5_rule_32 : decode cX5_rule 32 = .ok (.aload_n 0, 1) := by decide +kernel
theorem dX5_rule_33 : decode cX5_rule 33 = .ok (.getfield 33, 3) := by decide +kernel
theorem dX5_rule_36 : decode cX5_rule 36 = .ok (.getfield 148, 3) := by decide +kernel
theorem dX5_rule_39 : decode cX5_rule 39 = .ok (.invokestatic 103, 3) := by decide +kernel
theorem dX5_rule_42 : decode cX5_rule 42 = .ok (.istore_n 2, 1) := by decide +kernel
theorem dX5_rule_43 : decode cX5_rule 43 = .ok (.iload_n 2, 1) := by decide +kernel
theorem dX5_rule_44 : decode cX5_rule 44 = .ok (.ifCond .eq 5, 3) := by decide +kernel
theorem dX5_rule_47 : decode cX5_rule 47 = .ok (.iload_n 2, 1) := by decide +kernel
theorem dX5_rule_48 : decode cX5_rule 48 = .ok (.ireturn, 1) := by decide +kernel
theorem dX5_rule_49 : decode cX5_rule 49 = .ok (.aload_n 0, 1) := by decide +kernel
theorem dX5_rule_50 : decode cX5_rule 50 = .ok (.getfield 33, 3) := by decide +kernel
theorem dX5_rule_53 : decode cX5_rule 53 = .ok (.aload_n 0, 1) := by decide +kernel
theorem dX5_rule_54 : decode cX5_rule 54 = .ok (.getfield 11, 3) := by decide +kernel
theorem dX5_rule_57 : decode cX5_rule 57 = .ok (.iload_n 1, 1) := by decide +kernel
theorem dX5_rule_58 : decode cX5_rule 58 = .ok (.aaload, 1) := by decide +kernel
theorem dX5_rule_59 : decode cX5_rule 59 = .ok (.invokevirtual 152, 3) := by decide +kernel
theorem dX5_rule_62 : decode cX5_rule 62 = .ok (.ireturn, 1) := by decide +kernel
set_option maxRecDepth 20000 in
theorem ggX5_count_X1_hasRule : GoodIn wsX5_count wsX1_hasRule := goodIn_r _ [7, 8, 65, 66, 67, 68, 69, 70, 71, 72, 73] (by decide +kernel) (by decide +kernel)
set_option maxRecDepth 20000 in
theorem gX5_count_X1_hasRule : GoodIn wsX5_count (wsV RX5 155 RX1 yX1_hasRule wsX1_hasRule) := goodIn_app (goodIn_of _ (by decide +kernel)) ggX5_count_X1_hasRule
set_option maxRecDepth 20000 in
theorem ggX5_count_X5_isCount : GoodIn wsX5_count wsX5_isCount := goodIn_r _ [12, 13] (by decide +kernel) (by decide +kernel)
set_option maxRecDepth 20000 in
theorem gX5_count_X5_isCount : GoodIn wsX5_count (va_wsS RX5 158 yX5_isCount wsX5_isCount) := goodIn_app (goodIn_of _ (by decide +kernel)) ggX5_count_X5_isCount
set_option maxRecDepth 20000 in
theorem ggX5_count_X1_changeCount : GoodIn wsX5_count wsX1_changeCount := goodIn_r _ [17, 18, 19, 20, 21, 6, 22, 23, 24, 25, 26, 27, 28, 8, 29, 30, 31, 32, 33, 34, 35, 36, 37, 38, 39, 40, 41, 42, 43, 44, 45, 46, 47, 48, 49, 50, 51, 52, 53, 54, 55, 56, 57, 58, 65, 66, 67, 68, 69, 70, 71, 72, 73, 74, 75, 76, 77, 78, 79] (by decide +kernel) (by decide +kernel)
set_option maxRecDepth 20000 in
theorem gX5_count_X1_changeCount : GoodIn wsX5_count (wsV RX5 165 RX1 yX1_changeCount wsX1_changeCount) := goodIn_app (goodIn_of _ (by decide +kernel)) ggX5_count_X1_changeCount
theorem dX5_count_0 : decode cX5_count 0 = .ok (.aload_n 0, 1) := by decide +kernel
theorem dX5_count_1 : decode cX5_count 1 = .ok (.getfield 33, 3) := by decide +kernel
theorem dX5_count_4 : decode cX5_count 4 = .ok (.iload_n 1, 1) := by decide +kernel
theorem dX5_count_5 : decode cX5_count 5 = .ok (.invokevirtual 155, 3) := by decide +kernel
theorem dX5_count_8 : decode cX5_count 8 = .ok (.ifCond .ne 6, 3) := by decide +kernel
theorem dX5_count_11 : decode cX5_count 11 = .ok (.bipush (-2), 2) := by decide +kernel
theorem dX5_count_13 : decode cX5_count 13 = .ok (.ireturn, 1) := by decide +kernel
theorem dX5_count_14 : decode cX5_count 14 = .ok (.iload_n 2, 1) := by decide +kernel
theorem dX5_count_15 : decode cX5_count 15 = .ok (.invokestatic 158, 3) := by decide +kernel
theorem dX5_count_18 : decode cX5_count 18 = .ok (.ifCond .ne 6, 3) := by decide +kernel
theorem dX5_count_21 : decode cX5_count 21 = .ok (.bipush (-3), 2) := by decide +kernel
theorem dX5_count_23 : decode cX5_count 23 = .ok (.ireturn, 1) := by decide +kernel
theorem dX5_count_24 : decode cX5_count 24 = .ok (.aload_n 0, 1) := by decide +kernel
theorem dX5_count_25 : decode cX5_count 25 = .ok (.getfield 33, 3) := by decide +kernel
theorem dX5_count_28 : decode cX5_count 28 = .ok (.getfield 161, 3) := by decide +kernel
theorem dX5_count_31 : decode cX5_count 31 = .ok (.iload_n 1, 1) := by decide +kernel
theorem dX5_count_32 : decode cX5_count 32 = .ok (.iaload, 1) := by decide +kernel
theorem dX5_count_33 : decode cX5_count 33 = .ok (.istore_n 3, 1) := by decide +kernel
theorem dX5_count_34 : decode cX5_count 34 = .ok (.aload_n 0, 1) := by decide +kernel
theorem dX5_count_35 : decode cX5_count 35 = .ok (.getfield 33, 3) := by decide +kernel
theorem dX5_count_38 : decode cX5_count 38 = .ok (.iload_n 1, 1) := by decide +kernel
theorem dX5_count_39 : decode cX5_count 39 = .ok (.iload_n 2, 1) := by decide +kernel
theorem dX5_count_40 : decode cX5_count 40 = .ok (.invokevirtual 165, 3) := by decide +kernel
theorem dX5_count_43 : decode cX5_count 43 = .ok (.ifCond .eq 7, 3) := by decide +kernel
theorem dX5_count_46 : decode cX5_count 46 = .ok (.iload_n 3, 1) := by decide +kernel
theorem dX5_count_47 : decode cX5_count 47 = .ok (.goto 5, 3) := by decide +kernel
theorem dX5_count_50 : decode cX5_count 50 = .ok (.bipush (-16), 2) := by decide +kernel
theorem dX5_count_52 : decode cX5_count 52 = .ok (.ireturn, 1) := by decide +kernel
set_option maxRecDepth 20000 in
theorem ggX5_weight_X1_hasRule : GoodIn wsX5_weight wsX1_hasRule := goodIn_r _ [8, 9, 100, 101, 102, 103, 104, 105, 106, 107, 108] (by decide +kernel) (by decide +kernel)
set_option maxRecDepth 20000 in
theorem gX5_weight_X1_hasRule : GoodIn wsX5_weight (wsV RX5 155 RX1 yX1_hasRule wsX1_hasRule) := goodIn_app (goodIn_of _ (by decide +kernel)) ggX5_weight_X1_hasRule
set_option maxRecDepth 20000 in
theorem ggX5_weight_X5_isNumber : GoodIn wsX5_weight wsX5_isNumber := goodIn_r _ [14, 15, 94, 95, 96, 97, 98, 99] (by decide +kernel) (by decide +kernel)
set_option maxRecDepth 20000 in
theorem gX5_weight_X5_isNumber : GoodIn wsX5_weight (wsV RX5 63 RX5 yX5_isNumber wsX5_isNumber) := goodIn_app (goodIn_of _ (by decide +kernel)) ggX5_weight_X5_isNumber
set_option maxRecDepth 20000 in
theorem ggX5_weight_X5_failureOfPair : GoodIn wsX5_weight wsX5_failureOfPair := goodIn_r _ [18, 19, 20, 21, 22, 23, 24, 25, 26, 27, 28, 29, 30, 109, 110, 111, 112] (by decide +kernel) (by decide +kernel)
set_option maxRecDepth 20000 in
theorem gX5_weight_X5_failureOfPair : GoodIn wsX5_weight (va_wsS RX5 103 yX5_failureOfPair wsX5_failureOfPair) := goodIn_app (goodIn_of _ (by decide +kernel)) ggX5_weight_X5_failureOfPair
set_option maxRecDepth 20000 in
theorem ggX5_weight_X1_changeWeight : GoodIn wsX5_weight wsX1_changeWeight := goodIn_r _ [34, 35, 36, 37, 38, 22, 39, 30, 40, 41, 42, 43, 44, 24, 29, 45, 46, 47, 48, 49, 50, 51, 7, 52, 53, 54, 55, 56, 57, 58, 59, 60, 61, 62, 63, 9, 64, 65, 66, 67, 68, 69, 70, 71, 72, 73, 74, 75, 76, 77, 78, 79, 80, 81, 82, 83, 84, 85, 86, 87, 88, 89, 90, 91, 92, 93, 100, 101, 102, 103, 104, 105, 106, 107, 108, 109, 110, 111, 112, 113, 114] (by decide +kernel) (by decide +kernel)
set_option maxRecDepth 20000 in
theorem gX5_weight_X1_changeWeight : GoodIn wsX5_weight (wsV RX5 169 RX1 yX1_changeWeight wsX1_changeWeight) := goodIn_app (goodIn_of _ (by decide +kernel)) ggX5_weight_X1_changeWeight
theorem dX5_weight_0 : decode cX5_weight 0 = .ok (.aload_n 0, 1) := by decide +kernel
theorem dX5_weight_1 : decode cX5_weight 1 = .ok (.getfield 33, 3) := by decide +kernel
theorem dX5_weight_4 : decode cX5_weight 4 = .ok (.iload_n 1, 1) := by decide +kernel
theorem dX5_weight_5 : decode cX5_weight 5 = .ok (.invokevirtual 155, 3) := by decide +kernel
theorem dX5_weight_8 : decode cX5_weight 8 = .ok (.ifCond .eq 11, 3) := by decide +kernel
theorem dX5_weight_11 : decode cX5_weight 11 = .ok (.aload_n 0, 1) := by decide +kernel
theorem dX5_weight_12 : decode cX5_weight 12 = .ok (.iload_n 2, 1) := by decide +kernel
theorem dX5_weight_13 : decode cX5_weight 13 = .ok (.invokevirtual 63, 3) := by decide +kernel
theorem dX5_weight_16 : decode cX5_weight 16 = .ok (.ifCond .ne 6, 3) := by decide +kernel
theorem dX5_weight_19 : decode cX5_weight 19 = .ok (.bipush (-2), 2) := by decide +kernel
theorem dX5_weight_21 : decode cX5_weight 21 = .ok (.ireturn, 1) := by decide +kernel
theorem dX5_weight_22 : decode cX5_weight 22 = .ok (.aload_n 0, 1) := by decide +kernel
theorem dX5_weight_23 : decode cX5_weight 23 = .ok (.getfield 11, 3) := by decide +kernel
theorem dX5_weight_26 : decode cX5_weight 26 = .ok (.iload_n 2, 1) := by decide +kernel
theorem dX5_weight_27 : decode cX5_weight 27 = .ok (.aaload, 1) := by decide +kernel
theorem dX5_weight_28 : decode cX5_weight 28 = .ok (.aload_n 0, 1) := by decide +kernel
theorem dX5_weight_29 : decode cX5_weight 29 = .ok (.getfield 33, 3) := by decide +kernel
theorem dX5_weight_32 : decode cX5_weight 32 = .ok (.getfield 148, 3) := by decide +kernel
theorem dX5_weight_35 : decode cX5_weight 35 = .ok (.invokestatic 103, 3) := by decide +kernel
theorem dX5_weight_38 : decode cX5_weight 38 = .ok (.istore_n 3, 1) := by decide +kernel
theorem dX5_weight_39 : decode cX5_weight 39 = .ok (.iload_n 3, 1) := by decide +kernel
theorem dX5_weight_40 : decode cX5_weight 40 = .ok (.ifCond .eq 5, 3) := by decide +kernel
theorem dX5_weight_43 : decode cX5_weight 43 = .ok (.iload_n 3, 1) := by decide +kernel
theorem dX5_weight_44 : decode cX5_weight 44 = .ok (.ireturn, 1) := by decide +kernel
theorem dX5_weight_45 : decode cX5_weight 45 = .ok (.aload_n 0, 1) := by decide +kernel
theorem dX5_weight_46 : decode cX5_weight 46 = .ok (.getfield 33, 3) := by decide +kernel
theorem dX5_weight_49 : decode cX5_weight 49 = .ok (.iload_n 1, 1) := by decide +kernel
theorem dX5_weight_50 : decode cX5_weight 50 = .ok (.aload_n 0, 1) := by decide +kernel
theorem dX5_weight_51 : decode cX5_weight 51 = .ok (.getfield 11, 3) := by decide +kernel
theorem dX5_weight_54 : decode cX5_weight 54 = .ok (.iload_n 2, 1) := by decide +kernel
theorem dX5_weight_55 : decode cX5_weight 55 = .ok (.aaload, 1) := by decide +kernel
theorem dX5_weight_56 : decode cX5_weight 56 = .ok (.invokevirtual 169, 3) := by decide +kernel
theorem dX5_weight_59 : decode cX5_weight 59 = .ok (.ifCond .eq 7, 3) := by decide +kernel
theorem dX5_weight_62 : decode cX5_weight 62 = .ok (.iconst 1, 1) := by decide +kernel
theorem dX5_weight_63 : decode cX5_weight 63 = .ok (.goto 5, 3) := by decide +kernel
theorem dX5_weight_66 : decode cX5_weight 66 = .ok (.bipush (-16), 2) := by decide +kernel
theorem dX5_weight_68 : decode cX5_weight 68 = .ok (.ireturn, 1) := by decide +kernel
set_option maxRecDepth 20000 in
theorem ggX5_total_X1_hasRule : GoodIn wsX5_total wsX1_hasRule := goodIn_r _ [8, 9, 76, 77, 78, 79, 80, 81, 82, 83, 84] (by decide +kernel) (by decide +kernel)
set_option maxRecDepth 20000 in
theorem gX5_total_X1_hasRule : GoodIn wsX5_total (wsV RX5 155 RX1 yX1_hasRule wsX1_hasRule) := goodIn_app (goodIn_of _ (by decide +kernel)) ggX5_total_X1_hasRule
set_option maxRecDepth 20000 in
theorem ggX5_total_X5_isFull : GoodIn wsX5_total wsX5_isFull := goodIn_r _ [14, 3, 70, 71, 72, 73, 74, 75] (by decide +kernel) (by decide +kernel)
set_option maxRecDepth 20000 in
theorem gX5_total_X5_isFull : GoodIn wsX5_total (wsV RX5 44 RX5 yX5_isFull wsX5_isFull) := goodIn_app (goodIn_of _ (by decide +kernel)) ggX5_total_X5_isFull
set_option maxRecDepth 20000 in
theorem ggX5_total_X1_sumInto : GoodIn wsX5_total wsX1_sumInto := goodIn_r _ [18, 19, 20, 21, 22, 23, 24, 25, 26, 27, 28, 29, 30, 31, 32, 33, 34, 35, 36, 37, 7, 38, 9, 39, 40, 41, 42, 43, 44, 45, 46, 47, 48, 49, 50, 51, 52, 53, 54, 55, 56, 76, 77, 78, 79, 80, 81, 82, 83, 84, 85, 86, 87, 88, 89, 90] (by decide +kernel) (by decide +kernel)
set_option maxRecDepth 20000 in
theorem gX5_total_X1_sumInto : GoodIn wsX5_total (wsV RX5 173 RX1 yX1_sumInto wsX1_sumInto) := goodIn_app (goodIn_of _ (by decide +kernel)) ggX5_total_X1_sumInto
set_option maxRecDepth 20000 in
theorem ggX5_total_X1_partInto : GoodIn wsX5_total wsX1_partInto := goodIn_r _ [60, 19, 20, 21, 61, 23, 24, 25, 26, 27, 28, 29, 30, 31, 32, 33, 34, 62, 63, 64, 7, 65, 39, 40, 41, 42, 43, 44, 45, 46, 47, 48, 49, 50, 51, 52, 53, 54, 55, 56, 76, 77, 78, 79, 80, 81, 82, 83, 84, 85, 86, 87, 88, 89, 90] (by decide +kernel) (by decide +kernel)
set_option maxRecDepth 20000 in
theorem gX5_total_X1_partInto : GoodIn wsX5_total (wsV RX5 176 RX1 yX1_partInto wsX1_partInto) := goodIn_app (goodIn_of _ (by decide +kernel)) ggX5_total_X1_partInto
set_option maxRecDepth 20000 in
theorem ggX5_total_X5_takeNumber : GoodIn wsX5_total wsX5_takeNumber := goodIn_r _ [69, 3, 70, 71, 72, 73, 74, 75] (by decide +kernel) (by decide +kernel)
set_option maxRecDepth 20000 in
theorem gX5_total_X5_takeNumber : GoodIn wsX5_total (wsV RX5 59 RX5 yX5_takeNumber wsX5_takeNumber) := goodIn_app (goodIn_of _ (by decide +kernel)) ggX5_total_X5_takeNumber
theorem dX5_total_0 : decode cX5_total 0 = .ok (.iload_n 1, 1) := by decide +kernel
theorem dX5_total_1 : decode cX5_total 1 = .ok (.iconst (-1), 1) := by decide +kernel
theorem dX5_total_2 : decode cX5_total 2 = .ok (.if_icmp .eq 17, 3) := by decide +kernel
theorem dX5_total_5 : decode cX5_total 5 = .ok (.aload_n 0, 1) := by decide +kernel
theorem dX5_total_6 : decode cX5_total 6 = .ok (.getfield 33, 3) := by decide +kernel
theorem dX5_total_9 : decode cX5_total 9 = .ok (.iload_n 1, 1) := by decide +kernel
theorem dX5_total_10 : decode cX5_total 10 = .ok (.invokevirtual 155, 3) := by decide +kernel
theorem dX5_total_13 : decode cX5_total 13 = .ok (.ifCond .ne 6, 3) := by decide +kernel
theorem dX5_total_16 : decode cX5_total 16 = .ok (.bipush (-2), 2) := by decide +kernel
theorem dX5_total_18 : decode cX5_total 18 = .ok (.ireturn, 1) := by decide +kernel
theorem dX5_total_19 : decode cX5_total 19 = .ok (.aload_n 0, 1) := by decide +kernel
theorem dX5_total_20 : decode cX5_total 20 = .ok (.invokevirtual 44, 3) := by decide +kernel
theorem dX5_total_23 : decode cX5_total 23 = .ok (.ifCond .eq 6, 3) := by decide +kernel
theorem dX5_total_26 : decode cX5_total 26 = .ok (.bipush (-4), 2) := by decide +kernel
theorem dX5_total_28 : decode cX5_total 28 = .ok (.ireturn, 1) := by decide +kernel
theorem dX5_total_29 : decode cX5_total 29 = .ok (.iload_n 1, 1) := by decide +kernel
theorem dX5_total_30 : decode cX5_total 30 = .ok (.iconst (-1), 1) := by decide +kernel
theorem dX5_total_31 : decode cX5_total 31 = .ok (.if_icmp .ne 22, 3) := by decide +kernel
theorem dX5_total_34 : decode cX5_total 34 = .ok (.aload_n 0, 1) := by decide +kernel
theorem dX5_total_35 : decode cX5_total 35 = .ok (.getfield 33, 3) := by decide +kernel
theorem dX5_total_38 : decode cX5_total 38 = .ok (.aload_n 0, 1) := by decide +kernel
theorem dX5_total_39 : decode cX5_total 39 = .ok (.getfield 11, 3) := by decide +kernel
theorem dX5_total_42 : decode cX5_total 42 = .ok (.aload_n 0, 1) := by decide +kernel
theorem dX5_total_43 : decode cX5_total 43 = .ok (.getfield 48, 3) := by decide +kernel
theorem dX5_total_46 : decode cX5_total 46 = .ok (.aaload, 1) := by decide +kernel
theorem dX5_total_47 : decode cX5_total 47 = .ok (.invokevirtual 173, 3) := by decide +kernel
theorem dX5_total_50 : decode cX5_total 50 = .ok (.goto 20, 3) := by decide +kernel
theorem dX5_total_53 : decode cX5_total 53 = .ok (.aload_n 0, 1) := by decide +kernel
theorem dX5_total_54 : decode cX5_total 54 = .ok (.getfield 33, 3) := by decide +kernel
theorem dX5_total_57 : decode cX5_total 57 = .ok (.iload_n 1, 1) := by decide +kernel
theorem dX5_total_58 : decode cX5_total 58 = .ok (.aload_n 0, 1) := by decide +kernel
theorem dX5_total_59 : decode cX5_total 59 = .ok (.getfield 11, 3) := by decide +kernel
theorem dX5_total_62 : decode cX5_total 62 = .ok (.aload_n 0, 1) := by decide +kernel
theorem dX5_total_63 : decode cX5_total 63 = .ok (.getfield 48, 3) := by decide +kernel
theorem dX5_total_66 : decode cX5_total 66 = .ok (.aaload, 1) := by decide +kernel
theorem dX5_total_67 : decode cX5_total 67 = .ok (.invokevirtual 176, 3) := by decide +kernel
theorem dX5_total_70 : decode cX5_total 70 = .ok (.aload_n 0, 1) := by decide +kernel
theorem dX5_total_71 : decode cX5_total 71 = .ok (.invokevirtual 59, 3) := by decide +kernel
theorem dX5_total_74 : decode cX5_total 74 = .ok (.ireturn, 1) := by decide +kernel
set_option maxRecDepth 20000 in
theorem ggX5_safe_X5_isCount : GoodIn wsX5_safe wsX5_isCount := goodIn_r _ [5, 6] (by decide +kernel) (by decide +kernel)
set_option maxRecDepth 20000 in
theorem gX5_safe_X5_isCount : GoodIn wsX5_safe (va_wsS RX5 158 yX5_isCount wsX5_isCount) := goodIn_app (goodIn_of _ (by decide +kernel)) ggX5_safe_X5_isCount
set_option maxRecDepth 20000 in
theorem ggX5_safe_X1_bears : GoodIn wsX5_safe wsX1_bears := goodIn_r _ [11, 12, 13, 14, 15, 16, 10, 17, 18, 19, 20, 21, 22, 23, 24, 25, 26, 27, 28, 29, 30, 31, 32, 33, 34, 35, 36, 37, 38, 39, 46, 47, 48, 49, 50, 51, 52, 53, 54, 55, 56, 57, 58, 59, 60] (by decide +kernel) (by decide +kernel)
set_option maxRecDepth 20000 in
theorem gX5_safe_X1_bears : GoodIn wsX5_safe (wsV RX5 180 RX1 yX1_bears wsX1_bears) := goodIn_app (goodIn_of _ (by decide +kernel)) ggX5_safe_X1_bears
theorem dX5_safe_0 : decode cX5_safe 0 = .ok (.iload_n 1, 1) := by decide +kernel
theorem dX5_safe_1 : decode cX5_safe 1 = .ok (.invokestatic 158, 3) := by decide +kernel
theorem dX5_safe_4 : decode cX5_safe 4 = .ok (.ifCond .ne 6, 3) := by decide +kernel
theorem dX5_safe_7 : decode cX5_safe 7 = .ok (.bipush (-3), 2) := by decide +kernel
theorem dX5_safe_9 : decode cX5_safe 9 = .ok (.ireturn, 1) := by decide +kernel
theorem dX5_safe_10 : decode cX5_safe 10 = .ok (.aload_n 0, 1) := by decide +kernel
theorem dX5_safe_11 : decode cX5_safe 11 = .ok (.getfield 33, 3) := by decide +kernel
theorem dX5_safe_14 : decode cX5_safe 14 = .ok (.iload_n 1, 1) := by decide +kernel
theorem dX5_safe_15 : decode cX5_safe 15 = .ok (.invokevirtual 180, 3) := by decide +kernel
theorem dX5_safe_18 : decode cX5_safe 18 = .ok (.ifCond .eq 7, 3) := by decide +kernel
theorem dX5_safe_21 : decode cX5_safe 21 = .ok (.iconst 1, 1) := by decide +kernel
theorem dX5_safe_22 : decode cX5_safe 22 = .ok (.goto 4, 3) := by decide +kernel
theorem dX5_safe_25 : decode cX5_safe 25 = .ok (.iconst 0, 1) := by decide +kernel
theorem dX5_safe_26 : decode cX5_safe 26 = .ok (.ireturn, 1) := by decide +kernel
set_option maxRecDepth 20000 in
theorem ggX5_keep_X5_isNumber : GoodIn wsX5_keep wsX5_isNumber := goodIn_r _ [8, 9, 49, 50, 51, 52, 53, 54] (by decide +kernel) (by decide +kernel)
set_option maxRecDepth 20000 in
theorem gX5_keep_X5_isNumber : GoodIn wsX5_keep (wsV RX5 63 RX5 yX5_isNumber wsX5_isNumber) := goodIn_app (goodIn_of _ (by decide +kernel)) ggX5_keep_X5_isNumber
set_option maxRecDepth 20000 in
theorem ggX5_keep_X5_failureOfPair : GoodIn wsX5_keep wsX5_failureOfPair := goodIn_r _ [12, 13, 14, 15, 16, 17, 18, 19, 20, 21, 22, 23, 24, 64, 65, 66, 67] (by decide +kernel) (by decide +kernel)
set_option maxRecDepth 20000 in
theorem gX5_keep_X5_failureOfPair : GoodIn wsX5_keep (va_wsS RX5 103 yX5_failureOfPair wsX5_failureOfPair) := goodIn_app (goodIn_of _ (by decide +kernel)) ggX5_keep_X5_failureOfPair
set_option maxRecDepth 20000 in
theorem ggX5_keep_X1_admit : GoodIn wsX5_keep wsX1_admit := goodIn_r _ [29, 30, 31, 32, 33, 34, 16, 35, 24, 36, 37, 38, 39, 40, 41, 42, 43, 44, 18, 23, 45, 46, 47, 48, 55, 56, 57, 58, 59, 60, 61, 62, 63, 64, 65, 66, 67] (by decide +kernel) (by decide +kernel)
set_option maxRecDepth 20000 in
theorem gX5_keep_X1_admit : GoodIn wsX5_keep (wsV RX5 183 RX1 yX1_admit wsX1_admit) := goodIn_app (goodIn_of _ (by decide +kernel)) ggX5_keep_X1_admit
theorem dX5_keep_0 : decode cX5_keep 0 = .ok (.aload_n 0, 1) := by decide +kernel
theorem dX5_keep_1 : decode cX5_keep 1 = .ok (.iload_n 1, 1) := by decide +kernel
theorem dX5_keep_2 : decode cX5_keep 2 = .ok (.invokevirtual 63, 3) := by decide +kernel
theorem dX5_keep_5 : decode cX5_keep 5 = .ok (.ifCond .ne 6, 3) := by decide +kernel
theorem dX5_keep_8 : decode cX5_keep 8 = .ok (.bipush (-2), 2) := by decide +kernel
theorem dX5_keep_10 : decode cX5_keep 10 = .ok (.ireturn, 1) := by decide +kernel
theorem dX5_keep_11 : decode cX5_keep 11 = .ok (.aload_n 0, 1) := by decide +kernel
theorem dX5_keep_12 : decode cX5_keep 12 = .ok (.getfield 11, 3) := by decide +kernel
theorem dX5_keep_15 : decode cX5_keep 15 = .ok (.iload_n 1, 1) := by decide +kernel
theorem dX5_keep_16 : decode cX5_keep 16 = .ok (.aaload, 1) := by decide +kernel
theorem dX5_keep_17 : decode cX5_keep 17 = .ok (.aload_n 0, 1) := by decide +kernel
theorem dX5_keep_18 : decode cX5_keep 18 = .ok (.getfield 33, 3) := by decide +kernel
theorem dX5_keep_21 : decode cX5_keep 21 = .ok (.getfield 148, 3) := by decide +kernel
theorem dX5_keep_24 : decode cX5_keep 24 = .ok (.invokestatic 103, 3) := by decide +kernel
theorem dX5_keep_27 : decode cX5_keep 27 = .ok (.istore_n 2, 1) := by decide +kernel
theorem dX5_keep_28 : decode cX5_keep 28 = .ok (.iload_n 2, 1) := by decide +kernel
theorem dX5_keep_29 : decode cX5_keep 29 = .ok (.ifCond .eq 5, 3) := by decide +kernel
theorem dX5_keep_32 : decode cX5_keep 32 = .ok (.iload_n 2, 1) := by decide +kernel
theorem dX5_keep_33 : decode cX5_keep 33 = .ok (.ireturn, 1) := by decide +kernel
theorem dX5_keep_34 : decode cX5_keep 34 = .ok (.aload_n 0, 1) := by decide +kernel
theorem dX5_keep_35 : decode cX5_keep 35 = .ok (.getfield 33, 3) := by decide +kernel
theorem dX5_keep_38 : decode cX5_keep 38 = .ok (.aload_n 0, 1) := by decide +kernel
theorem dX5_keep_39 : decode cX5_keep 39 = .ok (.getfield 11, 3) := by decide +kernel
theorem dX5_keep_42 : decode cX5_keep 42 = .ok (.iload_n 1, 1) := by decide +kernel
theorem dX5_keep_43 : decode cX5_keep 43 = .ok (.aaload, 1) := by decide +kernel
theorem dX5_keep_44 : decode cX5_keep 44 = .ok (.invokevirtual 183, 3) := by decide +kernel
theorem dX5_keep_47 : decode cX5_keep 47 = .ok (.ireturn, 1) := by decide +kernel
set_option maxRecDepth 20000 in
theorem ggX5_kept_X5_isFull : GoodIn wsX5_kept wsX5_isFull := goodIn_r _ [10, 4, 32, 33, 34, 35, 36, 37] (by decide +kernel) (by decide +kernel)
set_option maxRecDepth 20000 in
theorem gX5_kept_X5_isFull : GoodIn wsX5_kept (wsV RX5 44 RX5 yX5_isFull wsX5_isFull) := goodIn_app (goodIn_of _ (by decide +kernel)) ggX5_kept_X5_isFull
set_option maxRecDepth 20000 in
theorem ggX5_kept_X2_copy : GoodIn wsX5_kept wsX2_copy := goodIn_r _ [15, 16, 17, 18, 19, 20, 14, 21, 22, 23, 24, 25, 26, 27, 47, 48, 49, 50] (by decide +kernel) (by decide +kernel)
set_option maxRecDepth 20000 in
theorem gX5_kept_X2_copy : GoodIn wsX5_kept (wsV RX5 192 RX2 yX2_copy wsX2_copy) := goodIn_app (goodIn_of _ (by decide +kernel)) ggX5_kept_X2_copy
set_option maxRecDepth 20000 in
theorem ggX5_kept_X5_takeNumber : GoodIn wsX5_kept wsX5_takeNumber := goodIn_r _ [31, 4, 32, 33, 34, 35, 36, 37] (by decide +kernel) (by decide +kernel)
set_option maxRecDepth 20000 in
theorem gX5_kept_X5_takeNumber : GoodIn wsX5_kept (wsV RX5 59 RX5 yX5_takeNumber wsX5_takeNumber) := goodIn_app (goodIn_of _ (by decide +kernel)) ggX5_kept_X5_takeNumber
theorem dX5_kept_0 : decode cX5_kept 0 = .ok (.iload_n 1, 1) := by decide +kernel
theorem dX5_kept_1 : decode cX5_kept 1 = .ok (.ifCond .lt 14, 3) := by decide +kernel
theorem dX5_kept_4 : decode cX5_kept 4 = .ok (.iload_n 1, 1) := by decide +kernel
theorem dX5_kept_5 : decode cX5_kept 5 = .ok (.aload_n 0, 1) := by decide +kernel
theorem dX5_kept_6 : decode cX5_kept 6 = .ok (.getfield 33, 3) := by decide +kernel
theorem dX5_kept_9 : decode cX5_kept 9 = .ok (.getfield 186, 3) := by decide +kernel
theorem dX5_kept_12 : decode cX5_kept 12 = .ok (.if_icmp .lt 6, 3) := by decide +kernel
theorem dX5_kept_15 : decode cX5_kept 15 = .ok (.bipush (-2), 2) := by decide +kernel
theorem dX5_kept_17 : decode cX5_kept 17 = .ok (.ireturn, 1) := by decide +kernel
theorem dX5_kept_18 : decode cX5_kept 18 = .ok (.aload_n 0, 1) := by decide +kernel
theorem dX5_kept_19 : decode cX5_kept 19 = .ok (.invokevirtual 44, 3) := by decide +kernel
theorem dX5_kept_22 : decode cX5_kept 22 = .ok (.ifCond .eq 6, 3) := by decide +kernel
theorem dX5_kept_25 : decode cX5_kept 25 = .ok (.bipush (-4), 2) := by decide +kernel
theorem dX5_kept_27 : decode cX5_kept 27 = .ok (.ireturn, 1) := by decide +kernel
theorem dX5_kept_28 : decode cX5_kept 28 = .ok (.aload_n 0, 1) := by decide +kernel
theorem dX5_kept_29 : decode cX5_kept 29 = .ok (.getfield 11, 3) := by decide +kernel
theorem dX5_kept_32 : decode cX5_kept 32 = .ok (.aload_n 0, 1) := by decide +kernel
theorem dX5_kept_33 : decode cX5_kept 33 = .ok (.getfield 48, 3) := by decide +kernel
theorem dX5_kept_36 : decode cX5_kept 36 = .ok (.aaload, 1) := by decide +kernel
theorem dX5_kept_37 : decode cX5_kept 37 = .ok (.aload_n 0, 1) := by decide +kernel
theorem dX5_kept_38 : decode cX5_kept 38 = .ok (.getfield 33, 3) := by decide +kernel
theorem dX5_kept_41 : decode cX5_kept 41 = .ok (.getfield 189, 3) := by decide +kernel
theorem dX5_kept_44 : decode cX5_kept 44 = .ok (.iload_n 1, 1) := by decide +kernel
theorem dX5_kept_45 : decode cX5_kept 45 = .ok (.aaload, 1) := by decide +kernel
theorem dX5_kept_46 : decode cX5_kept 46 = .ok (.invokevirtual 192, 3) := by decide +kernel
theorem dX5_kept_49 : decode cX5_kept 49 = .ok (.aload_n 0, 1) := by decide +kernel
theorem dX5_kept_50 : decode cX5_kept 50 = .ok (.invokevirtual 59, 3) := by decide +kernel
theorem dX5_kept_53 : decode cX5_kept 53 = .ok (.ireturn, 1) := by decide +kernel
theorem dX5_many_0 : decode cX5_many 0 = .ok (.iload_n 1, 1) := by decide +kernel
theorem dX5_many_1 : decode cX5_many 1 = .ok (.tableswitch 72 0 4 #[35, 40, 48, 56, 64], 35) := by decide +kernel
theorem dX5_many_36 : decode cX5_many 36 = .ok (.aload_n 0, 1) := by decide +kernel
theorem dX5_many_37 : decode cX5_many 37 = .ok (.getfield 48, 3) := by decide +kernel
theorem dX5_many_40 : decode cX5_many 40 = .ok (.ireturn, 1) := by decide +kernel
theorem dX5_many_41 : decode cX5_many 41 = .ok (.aload_n 0, 1) := by decide +kernel
theorem dX5_many_42 : decode cX5_many 42 = .ok (.getfield 33, 3) := by decide +kernel
theorem dX5_many_45 : decode cX5_many 45 = .ok (.getfield 142, 3) := by decide +kernel
theorem dX5_many_48 : decode cX5_many 48 = .ok (.ireturn, 1) := by decide +kernel
theorem dX5_many_49 : decode cX5_many 49 = .ok (.aload_n 0, 1) := by decide +kernel
theorem dX5_many_50 : decode cX5_many 50 = .ok (.getfield 33, 3) := by decide +kernel
theorem dX5_many_53 : decode cX5_many 53 = .ok (.getfield 186, 3) := by decide +kernel
theorem dX5_many_56 : decode cX5_many 56 = .ok (.ireturn, 1) := by decide +kernel
theorem dX5_many_57 : decode cX5_many 57 = .ok (.aload_n 0, 1) := by decide +kernel
theorem dX5_many_58 : decode cX5_many 58 = .ok (.getfield 19, 3) := by decide +kernel
theorem dX5_many_61 : decode cX5_many 61 = .ok (.getfield 119, 3) := by decide +kernel
theorem dX5_many_64 : decode cX5_many 64 = .ok (.ireturn, 1) := by decide +kernel
theorem dX5_many_65 : decode cX5_many 65 = .ok (.aload_n 0, 1) := by decide +kernel
theorem dX5_many_66 : decode cX5_many 66 = .ok (.getfield 26, 3) := by decide +kernel
theorem dX5_many_69 : decode cX5_many 69 = .ok (.getfield 137, 3) := by decide +kernel
theorem dX5_many_72 : decode cX5_many 72 = .ok (.ireturn, 1) := by decide +kernel
theorem dX5_many_73 : decode cX5_many 73 = .ok (.bipush (-3), 2) := by decide +kernel
theorem dX5_many_75 : decode cX5_many 75 = .ok (.ireturn, 1) := by decide +kernel
theorem dX5_drop_0 : decode cX5_drop 0 = .ok (.aload_n 0, 1) := by decide +kernel
theorem dX5_drop_1 : decode cX5_drop 1 = .ok (.getfield 48, 3) := by decide +kernel
theorem dX5_drop_4 : decode cX5_drop 4 = .ok (.ifCond .ne 6, 3) := by decide +kernel
theorem dX5_drop_7 : decode cX5_drop 7 = .ok (.bipush (-2), 2) := by decide +kernel
theorem dX5_drop_9 : decode cX5_drop 9 = .ok (.ireturn, 1) := by decide +kernel
theorem dX5_drop_10 : decode cX5_drop 10 = .ok (.aload_n 0, 1) := by decide +kernel
theorem dX5_drop_11 : decode cX5_drop 11 = .ok (.dup, 1) := by decide +kernel
theorem dX5_drop_12 : decode cX5_drop 12 = .ok (.getfield 48, 3) := by decide +kernel
theorem dX5_drop_15 : decode cX5_drop 15 = .ok (.iconst 1, 1) := by decide +kernel
theorem dX5_drop_16 : decode cX5_drop 16 = .ok (.isub, 1) := by decide +kernel
theorem dX5_drop_17 : decode cX5_drop 17 = .ok (.putfield 48, 3) := by decide +kernel
theorem dX5_drop_20 : decode cX5_drop 20 = .ok (.aload_n 0, 1) := by decide +kernel
theorem dX5_drop_21 : decode cX5_drop 21 = .ok (.getfield 48, 3) := by decide +kernel
theorem dX5_drop_24 : decode cX5_drop 24 = .ok (.ireturn, 1) := by decide +kernel
theorem dX5_isNumber_0 : decode cX5_isNumber 0 = .ok (.iload_n 1, 1) := by decide +kernel
theorem dX5_isNumber_1 : decode cX5_isNumber 1 = .ok (.ifCond .lt 15, 3) := by decide +kernel
theorem dX5_isNumber_4 : decode cX5_isNumber 4 = .ok (.iload_n 1, 1) := by decide +kernel
theorem dX5_isNumber_5 : decode cX5_isNumber 5 = .ok (.aload_n 0, 1) := by decide +kernel
theorem dX5_isNumber_6 : decode cX5_isNumber 6 = .ok (.getfield 48, 3) := by decide +kernel
theorem dX5_isNumber_9 : decode cX5_isNumber 9 = .ok (.if_icmp .ge 7, 3) := by decide +kernel
theorem dX5_isNumber_12 : decode cX5_isNumber 12 = .ok (.iconst 1, 1) := by decide +kernel
theorem dX5_isNumber_13 : decode cX5_isNumber 13 = .ok (.goto 4, 3) := by decide +kernel
theorem dX5_isNumber_16 : decode cX5_isNumber 16 = .ok (.iconst 0, 1) := by decide +kernel
theorem dX5_isNumber_17 : decode cX5_isNumber 17 = .ok (.ireturn, 1) := by decide +kernel
theorem dX5_isFull_0 : decode cX5_isFull 0 = .ok (.aload_n 0, 1) := by decide +kernel
theorem dX5_isFull_1 : decode cX5_isFull 1 = .ok (.getfield 48, 3) := by decide +kernel
theorem dX5_isFull_4 : decode cX5_isFull 4 = .ok (.bipush 60, 2) := by decide +kernel
theorem dX5_isFull_6 : decode cX5_isFull 6 = .ok (.if_icmp .lt 7, 3) := by decide +kernel
theorem dX5_isFull_9 : decode cX5_isFull 9 = .ok (.iconst 1, 1) := by decide +kernel
theorem dX5_isFull_10 : decode cX5_isFull 10 = .ok (.goto 4, 3) := by decide +kernel
theorem dX5_isFull_13 : decode cX5_isFull 13 = .ok (.iconst 0, 1) := by decide +kernel
theorem dX5_isFull_14 : decode cX5_isFull 14 = .ok (.ireturn, 1) := by decide +kernel
theorem dX5_isCount_0 : decode cX5_isCount 0 = .ok (.iload_n 0, 1) := by decide +kernel
theorem dX5_isCount_1 : decode cX5_isCount 1 = .ok (.ifCond .lt 13, 3) := by decide +kernel
theorem dX5_isCount_4 : decode cX5_isCount 4 = .ok (.iload_n 0, 1) := by decide +kernel
theorem dX5_isCount_5 : decode cX5_isCount 5 = .ok (.ldc 195, 2) := by decide +kernel
theorem dX5_isCount_7 : decode cX5_isCount 7 = .ok (.if_icmp .gt 7, 3) := by decide +kernel
theorem dX5_isCount_10 : decode cX5_isCount 10 = .ok (.iconst 1, 1) := by decide +kernel
theorem dX5_isCount_11 : decode cX5_isCount 11 = .ok (.goto 4, 3) := by decide +kernel
theorem dX5_isCount_14 : decode cX5_isCount 14 = .ok (.iconst 0, 1) := by decide +kernel
theorem dX5_isCount_15 : decode cX5_isCount 15 = .ok (.ireturn, 1) := by decide +kernel
theorem dX5_takeNumber_0 : decode cX5_takeNumber 0 = .ok (.aload_n 0, 1) := by decide +kernel
theorem dX5_takeNumber_1 : decode cX5_takeNumber 1 = .ok (.dup, 1) := by decide +kernel
theorem dX5_takeNumber_2 : decode cX5_takeNumber 2 = .ok (.getfield 48, 3) := by decide +kernel
theorem dX5_takeNumber_5 : decode cX5_takeNumber 5 = .ok (.iconst 1, 1) := by decide +kernel
theorem dX5_takeNumber_6 : decode cX5_takeNumber 6 = .ok (.iadd, 1) := by decide +kernel
theorem dX5_takeNumber_7 : decode cX5_takeNumber 7 = .ok (.putfield 48, 3) := by decide +kernel
theorem dX5_takeNumber_10 : decode cX5_takeNumber 10 = .ok (.aload_n 0, 1) := by decide +kernel
theorem dX5_takeNumber_11 : decode cX5_takeNumber 11 = .ok (.getfield 48, 3) := by decide +kernel
theorem dX5_takeNumber_14 : decode cX5_takeNumber 14 = .ok (.iconst 1, 1) := by decide +kernel
theorem dX5_takeNumber_15 : decode cX5_takeNumber 15 = .ok (.isub, 1) := by decide +kernel
theorem dX5_takeNumber_16 : decode cX5_takeNumber 16 = .ok (.ireturn, 1) := by decide +kernel
set_option maxRecDepth 20000 in
theorem ggX5_failureOfPair_X2_isNothing : GoodIn wsX5_failureOfPair wsX2_isNothing := goodIn_r _ [5, 6, 13, 14, 15, 16] (by decide +kernel) (by decide +kernel)
set_option maxRecDepth 20000 in
theorem gX5_failureOfPair_X2_isNothing : GoodIn wsX5_failureOfPair (wsV RX5 67 RX2 yX2_isNothing wsX2_isNothing) := goodIn_app (goodIn_of _ (by decide +kernel)) ggX5_failureOfPair_X2_isNothing
set_option maxRecDepth 20000 in
theorem ggX5_failureOfPair_X2_isLike : GoodIn wsX5_failureOfPair wsX2_isLike := goodIn_r _ [10, 6, 11, 12, 13, 14, 15, 16] (by decide +kernel) (by decide +kernel)
set_option maxRecDepth 20000 in
theorem gX5_failureOfPair_X2_isLike : GoodIn wsX5_failureOfPair (wsV RX5 196 RX2 yX2_isLike wsX2_isLike) := goodIn_app (goodIn_of _ (by decide +kernel)) ggX5_failureOfPair_X2_isLike
theorem dX5_failureOfPair_0 : decode cX5_failureOfPair 0 = .ok (.aload_n 0, 1) := by decide +kernel
theorem dX5_failureOfPair_1 : decode cX5_failureOfPair 1 = .ok (.invokevirtual 67, 3) := by decide +kernel
theorem dX5_failureOfPair_4 : decode cX5_failureOfPair 4 = .ok (.ifCond .ne 10, 3) := by decide +kernel
theorem dX5_failureOfPair_7 : decode cX5_failureOfPair 7 = .ok (.aload_n 1, 1) := by decide +kernel
theorem dX5_failureOfPair_8 : decode cX5_failureOfPair 8 = .ok (.invokevirtual 67, 3) := by decide +kernel
theorem dX5_failureOfPair_11 : decode cX5_failureOfPair 11 = .ok (.ifCond .eq 6, 3) := by decide +kernel
theorem dX5_failureOfPair_14 : decode cX5_failureOfPair 14 = .ok (.bipush (-11), 2) := by decide +kernel
theorem dX5_failureOfPair_16 : decode cX5_failureOfPair 16 = .ok (.ireturn, 1) := by decide +kernel
theorem dX5_failureOfPair_17 : decode cX5_failureOfPair 17 = .ok (.aload_n 0, 1) := by decide +kernel
theorem dX5_failureOfPair_18 : decode cX5_failureOfPair 18 = .ok (.aload_n 1, 1) := by decide +kernel
theorem dX5_failureOfPair_19 : decode cX5_failureOfPair 19 = .ok (.invokevirtual 196, 3) := by decide +kernel
theorem dX5_failureOfPair_22 : decode cX5_failureOfPair 22 = .ok (.ifCond .eq 7, 3) := by decide +kernel
theorem dX5_failureOfPair_25 : decode cX5_failureOfPair 25 = .ok (.iconst 0, 1) := by decide +kernel
theorem dX5_failureOfPair_26 : decode cX5_failureOfPair 26 = .ok (.goto 5, 3) := by decide +kernel
theorem dX5_failureOfPair_29 : decode cX5_failureOfPair 29 = .ok (.bipush (-12), 2) := by decide +kernel
theorem dX5_failureOfPair_31 : decode cX5_failureOfPair 31 = .ok (.ireturn, 1) := by decide +kernel
set_option maxRecDepth 20000 in
theorem ggX5_combine_X2_becomeSum : GoodIn wsX5_combine wsX2_becomeSum := goodIn_r _ [5, 6, 7, 8, 9, 10, 4, 11, 12, 13, 14, 15, 16, 17, 45, 46, 47, 48] (by decide +kernel) (by decide +kernel)
set_option maxRecDepth 20000 in
theorem gX5_combine_X2_becomeSum : GoodIn wsX5_combine (wsV RX5 199 RX2 yX2_becomeSum wsX2_becomeSum) := goodIn_app (goodIn_of _ (by decide +kernel)) ggX5_combine_X2_becomeSum
set_option maxRecDepth 20000 in
theorem ggX5_combine_X2_becomeDifference : GoodIn wsX5_combine wsX2_becomeDifference := goodIn_r _ [21, 6, 7, 8, 9, 10, 4, 11, 12, 13, 14, 15, 16, 17, 45, 46, 47, 48] (by decide +kernel) (by decide +kernel)
set_option maxRecDepth 20000 in
theorem gX5_combine_X2_becomeDifference : GoodIn wsX5_combine (wsV RX5 203 RX2 yX2_becomeDifference wsX2_becomeDifference) := goodIn_app (goodIn_of _ (by decide +kernel)) ggX5_combine_X2_becomeDifference
set_option maxRecDepth 20000 in
theorem ggX5_combine_X2_compareWith : GoodIn wsX5_combine wsX2_compareWith := goodIn_r _ [25, 6, 7, 45, 46, 47, 48] (by decide +kernel) (by decide +kernel)
set_option maxRecDepth 20000 in
theorem gX5_combine_X2_compareWith : GoodIn wsX5_combine (wsV RX5 115 RX2 yX2_compareWith wsX2_compareWith) := goodIn_app (goodIn_of _ (by decide +kernel)) ggX5_combine_X2_compareWith
set_option maxRecDepth 20000 in
theorem ggX5_combine_X2_copy : GoodIn wsX5_combine wsX2_copy := goodIn_r _ [29, 6, 7, 8, 9, 10, 4, 11, 12, 13, 14, 15, 16, 17, 45, 46, 47, 48] (by decide +kernel) (by decide +kernel)
set_option maxRecDepth 20000 in
theorem gX5_combine_X2_copy : GoodIn wsX5_combine (wsV RX5 192 RX2 yX2_copy wsX2_copy) := goodIn_app (goodIn_of _ (by decide +kernel)) ggX5_combine_X2_copy
set_option maxRecDepth 20000 in
theorem ggX5_combine_X2_becomeGreaterLevels : GoodIn wsX5_combine wsX2_becomeGreaterLevels := goodIn_r _ [33, 6, 7, 34, 35, 36, 37, 8, 9, 10, 4, 11, 12, 13, 14, 15, 16, 17, 45, 46, 47, 48] (by decide +kernel) (by decide +kernel)
set_option maxRecDepth 20000 in
theorem gX5_combine_X2_becomeGreaterLevels : GoodIn wsX5_combine (wsV RX5 206 RX2 yX2_becomeGreaterLevels wsX2_becomeGreaterLevels) := goodIn_app (goodIn_of _ (by decide +kernel)) ggX5_combine_X2_becomeGreaterLevels
set_option maxRecDepth 20000 in
theorem ggX5_combine_X2_becomeLesserLevels : GoodIn wsX5_combine wsX2_becomeLesserLevels := goodIn_r _ [41, 6, 7, 42, 43, 36, 44, 8, 9, 10, 4, 11, 12, 13, 14, 15, 16, 17, 45, 46, 47, 48] (by decide +kernel) (by decide +kernel)
set_option maxRecDepth 20000 in
theorem gX5_combine_X2_becomeLesserLevels : GoodIn wsX5_combine (wsV RX5 210 RX2 yX2_becomeLesserLevels wsX2_becomeLesserLevels) := goodIn_app (goodIn_of _ (by decide +kernel)) ggX5_combine_X2_becomeLesserLevels
theorem dX5_combine_0 : decode cX5_combine 0 = .ok (.iload_n 0, 1) := by decide +kernel
theorem dX5_combine_1 : decode cX5_combine 1 = .ok (.tableswitch 95 0 4 #[35, 42, 49, 68, 87], 35) := by decide +kernel
theorem dX5_combine_36 : decode cX5_combine 36 = .ok (.aload_n 3, 1) := by decide +kernel
theorem dX5_combine_37 : decode cX5_combine 37 = .ok (.aload_n 1, 1) := by decide +kernel
theorem dX5_combine_38 : decode cX5_combine 38 = .ok (.aload_n 2, 1) := by decide +kernel
theorem dX5_combine_39 : decode cX5_combine 39 = .ok (.invokevirtual 199, 3) := by decide +kernel
theorem dX5_combine_42 : decode cX5_combine 42 = .ok (.ireturn, 1) := by decide +kernel
theorem dX5_combine_43 : decode cX5_combine 43 = .ok (.aload_n 3, 1) := by decide +kernel
theorem dX5_combine_44 : decode cX5_combine 44 = .ok (.aload_n 1, 1) := by decide +kernel
theorem dX5_combine_45 : decode cX5_combine 45 = .ok (.aload_n 2, 1) := by decide +kernel
theorem dX5_combine_46 : decode cX5_combine 46 = .ok (.invokevirtual 203, 3) := by decide +kernel
theorem dX5_combine_49 : decode cX5_combine 49 = .ok (.ireturn, 1) := by decide +kernel
theorem dX5_combine_50 : decode cX5_combine 50 = .ok (.aload_n 3, 1) := by decide +kernel
theorem dX5_combine_51 : decode cX5_combine 51 = .ok (.aload_n 1, 1) := by decide +kernel
theorem dX5_combine_52 : decode cX5_combine 52 = .ok (.aload_n 2, 1) := by decide +kernel
theorem dX5_combine_53 : decode cX5_combine 53 = .ok (.invokevirtual 115, 3) := by decide +kernel
theorem dX5_combine_56 : decode cX5_combine 56 = .ok (.ifCond .ge 7, 3) := by decide +kernel
theorem dX5_combine_59 : decode cX5_combine 59 = .ok (.aload_n 2, 1) := by decide +kernel
theorem dX5_combine_60 : decode cX5_combine 60 = .ok (.goto 4, 3) := by decide +kernel
theorem dX5_combine_63 : decode cX5_combine 63 = .ok (.aload_n 1, 1) := by decide +kernel
theorem dX5_combine_64 : decode cX5_combine 64 = .ok (.invokevirtual 192, 3) := by decide +kernel
theorem dX5_combine_67 : decode cX5_combine 67 = .ok (.iconst 1, 1) := by decide +kernel
theorem dX5_combine_68 : decode cX5_combine 68 = .ok (.ireturn, 1) := by decide +kernel
theorem dX5_combine_69 : decode cX5_combine 69 = .ok (.aload_n 3, 1) := by decide +kernel
theorem dX5_combine_70 : decode cX5_combine 70 = .ok (.aload_n 1, 1) := by decide +kernel
theorem dX5_combine_71 : decode cX5_combine 71 = .ok (.aload_n 2, 1) := by decide +kernel
theorem dX5_combine_72 : decode cX5_combine 72 = .ok (.invokevirtual 115, 3) := by decide +kernel
theorem dX5_combine_75 : decode cX5_combine 75 = .ok (.ifCond .le 7, 3) := by decide +kernel
theorem dX5_combine_78 : decode cX5_combine 78 = .ok (.aload_n 2, 1) := by decide +kernel
theorem dX5_combine_79 : decode cX5_combine 79 = .ok (.goto 4, 3) := by decide +kernel
theorem dX5_combine_82 : decode cX5_combine 82 = .ok (.aload_n 1, 1) := by decide +kernel
theorem dX5_combine_83 : decode cX5_combine 83 = .ok (.invokevirtual 192, 3) := by decide +kernel
theorem dX5_combine_86 : decode cX5_combine 86 = .ok (.iconst 1, 1) := by decide +kernel
theorem dX5_combine_87 : decode cX5_combine 87 = .ok (.ireturn, 1) := by decide +kernel
theorem dX5_combine_88 : decode cX5_combine 88 = .ok (.aload_n 3, 1) := by decide +kernel
theorem dX5_combine_89 : decode cX5_combine 89 = .ok (.aload_n 1, 1) := by decide +kernel
theorem dX5_combine_90 : decode cX5_combine 90 = .ok (.aload_n 2, 1) := by decide +kernel
theorem dX5_combine_91 : decode cX5_combine 91 = .ok (.invokevirtual 206, 3) := by decide +kernel
theorem dX5_combine_94 : decode cX5_combine 94 = .ok (.iconst 1, 1) := by decide +kernel
theorem dX5_combine_95 : decode cX5_combine 95 = .ok (.ireturn, 1) := by decide +kernel
theorem dX5_combine_96 : decode cX5_combine 96 = .ok (.aload_n 3, 1) := by decide +kernel
theorem dX5_combine_97 : decode cX5_combine 97 = .ok (.aload_n 1, 1) := by decide +kernel
theorem dX5_combine_98 : decode cX5_combine 98 = .ok (.aload_n 2, 1) := by decide +kernel
theorem dX5_combine_99 : decode cX5_combine 99 = .ok (.invokevirtual 210, 3) := by decide +kernel
theorem dX5_combine_102 : decode cX5_combine 102 = .ok (.iconst 1, 1) := by decide +kernel
theorem dX5_combine_103 : decode cX5_combine 103 = .ok (.ireturn, 1) := by decide +kernel
set_option maxRecDepth 20000 in
theorem ggX5_scale_X2_formLike : GoodIn wsX5_scale wsX2_formLike := goodIn_r _ [8, 9, 10, 11, 12, 13, 14, 7, 15, 49, 50, 51, 52] (by decide +kernel) (by decide +kernel)
set_option maxRecDepth 20000 in
theorem gX5_scale_X2_formLike : GoodIn wsX5_scale (wsV RX5 213 RX2 yX2_formLike wsX2_formLike) := goodIn_app (goodIn_of _ (by decide +kernel)) ggX5_scale_X2_formLike
set_option maxRecDepth 20000 in
theorem ggX5_scale_X4_clear : GoodIn wsX5_scale wsX4_clear := goodIn_r _ [20, 21, 22, 59, 60] (by decide +kernel) (by decide +kernel)
set_option maxRecDepth 20000 in
theorem gX5_scale_X4_clear : GoodIn wsX5_scale (wsV RX5 216 RX4 yX4_clear wsX4_clear) := goodIn_app (goodIn_of _ (by decide +kernel)) ggX5_scale_X4_clear
set_option maxRecDepth 20000 in
theorem ggX5_scale_X4_addProduct : GoodIn wsX5_scale wsX4_addProduct := goodIn_r _ [26, 27, 22, 21, 59, 60] (by decide +kernel) (by decide +kernel)
set_option maxRecDepth 20000 in
theorem gX5_scale_X4_addProduct : GoodIn wsX5_scale (wsV RX5 217 RX4 yX4_addProduct wsX4_addProduct) := goodIn_app (goodIn_of _ (by decide +kernel)) ggX5_scale_X4_addProduct
set_option maxRecDepth 20000 in
theorem ggX5_scale_X4_divideDown : GoodIn wsX5_scale wsX4_divideDown := goodIn_r _ [31, 21, 22, 32, 33, 34, 35, 36, 37, 38, 59, 60] (by decide +kernel) (by decide +kernel)
set_option maxRecDepth 20000 in
theorem gX5_scale_X4_divideDown : GoodIn wsX5_scale (wsV RX5 221 RX4 yX4_divideDown wsX4_divideDown) := goodIn_app (goodIn_of _ (by decide +kernel)) ggX5_scale_X4_divideDown
set_option maxRecDepth 20000 in
theorem ggX5_scale_X4_fits : GoodIn wsX5_scale wsX4_fits := goodIn_r _ [42, 21, 43, 44, 59, 60] (by decide +kernel) (by decide +kernel)
set_option maxRecDepth 20000 in
theorem gX5_scale_X4_fits : GoodIn wsX5_scale (wsV RX5 225 RX4 yX4_fits wsX4_fits) := goodIn_app (goodIn_of _ (by decide +kernel)) ggX5_scale_X4_fits
set_option maxRecDepth 20000 in
theorem ggX5_scale_X4_value : GoodIn wsX5_scale wsX4_value := goodIn_r _ [48, 21, 22, 59, 60] (by decide +kernel) (by decide +kernel)
set_option maxRecDepth 20000 in
theorem gX5_scale_X4_value : GoodIn wsX5_scale (wsV RX5 228 RX4 yX4_value wsX4_value) := goodIn_app (goodIn_of _ (by decide +kernel)) ggX5_scale_X4_value
theorem dX5_scale_0 : decode cX5_scale 0 = .ok (.iload_n 3, 1) := by decide +kernel
theorem dX5_scale_1 : decode cX5_scale 1 = .ok (.ifCond .ge 9, 3) := by decide +kernel
theorem dX5_scale_4 : decode cX5_scale 4 = .ok (.iload_n 2, 1) := by decide +kernel
theorem dX5_scale_5 : decode cX5_scale 5 = .ok (.i2l, 1) := by decide +kernel
theorem dX5_scale_6 : decode cX5_scale 6 = .ok (.lneg, 1) := by decide +kernel
theorem dX5_scale_7 : decode cX5_scale 7 = .ok (.goto 5, 3) := by decide +kernel
theorem dX5_scale_10 : decode cX5_scale 10 = .ok (.iload_n 2, 1) := by decide +kernel
theorem dX5_scale_11 : decode cX5_scale 11 = .ok (.i2l, 1) := by decide +kernel
theorem dX5_scale_12 : decode cX5_scale 12 = .ok (.lstore 5, 2) := by decide +kernel
theorem dX5_scale_14 : decode cX5_scale 14 = .ok (.iload_n 3, 1) := by decide +kernel
theorem dX5_scale_15 : decode cX5_scale 15 = .ok (.ifCond .ge 9, 3) := by decide +kernel
theorem dX5_scale_18 : decode cX5_scale 18 = .ok (.iload_n 3, 1) := by decide +kernel
theorem dX5_scale_19 : decode cX5_scale 19 = .ok (.i2l, 1) := by decide +kernel
theorem dX5_scale_20 : decode cX5_scale 20 = .ok (.lneg, 1) := by decide +kernel
theorem dX5_scale_21 : decode cX5_scale 21 = .ok (.goto 5, 3) := by decide +kernel
theorem dX5_scale_24 : decode cX5_scale 24 = .ok (.iload_n 3, 1) := by decide +kernel
theorem dX5_scale_25 : decode cX5_scale 25 = .ok (.i2l, 1) := by decide +kernel
theorem dX5_scale_26 : decode cX5_scale 26 = .ok (.lstore 7, 2) := by decide +kernel
theorem dX5_scale_28 : decode cX5_scale 28 = .ok (.aload 4, 2) := by decide +kernel
theorem dX5_scale_30 : decode cX5_scale 30 = .ok (.aload_n 1, 1) := by decide +kernel
theorem dX5_scale_31 : decode cX5_scale 31 = .ok (.invokevirtual 213, 3) := by decide +kernel
theorem dX5_scale_34 : decode cX5_scale 34 = .ok (.iconst 0, 1) := by decide +kernel
theorem dX5_scale_35 : decode cX5_scale 35 = .ok (.istore 9, 2) := by decide +kernel
theorem dX5_scale_37 : decode cX5_scale 37 = .ok (.iload 9, 2) := by decide +kernel
theorem dX5_scale_39 : decode cX5_scale 39 = .ok (.aload_n 1, 1) := by decide +kernel
theorem dX5_scale_40 : decode cX5_scale 40 = .ok (.getfield 97, 3) := by decide +kernel
theorem dX5_scale_43 : decode cX5_scale 43 = .ok (.if_icmp .ge 68, 3) := by decide +kernel
theorem dX5_scale_46 : decode cX5_scale 46 = .ok (.aload_n 0, 1) := by decide +kernel
theorem dX5_scale_47 : decode cX5_scale 47 = .ok (.getfield 40, 3) := by decide +kernel
theorem dX5_scale_50 : decode cX5_scale 50 = .ok (.invokevirtual 216, 3) := by decide +kernel
theorem dX5_scale_53 : decode cX5_scale 53 = .ok (.aload_n 0, 1) := by decide +kernel
theorem dX5_scale_54 : decode cX5_scale 54 = .ok (.getfield 40, 3) := by decide +kernel
theorem dX5_scale_57 : decode cX5_scale 57 = .ok (.aload_n 1, 1) := by decide +kernel
theorem dX5_scale_58 : decode cX5_scale 58 = .ok (.getfield 73, 3) := by decide +kernel
theorem dX5_scale_61 : decode cX5_scale 61 = .ok (.iload 9, 2) := by decide +kernel
theorem dX5_scale_63 : decode cX5_scale 63 = .ok (.laload, 1) := by decide +kernel
theorem dX5_scale_64 : decode cX5_scale 64 = .ok (.lload 5, 2) := by decide +kernel
theorem dX5_scale_66 : decode cX5_scale 66 = .ok (.invokevirtual 217, 3) := by decide +kernel
theorem dX5_scale_69 : decode cX5_scale 69 = .ok (.aload_n 0, 1) := by decide +kernel
theorem dX5_scale_70 : decode cX5_scale 70 = .ok (.getfield 40, 3) := by decide +kernel
theorem dX5_scale_73 : decode cX5_scale 73 = .ok (.lload 7, 2) := by decide +kernel
theorem dX5_scale_75 : decode cX5_scale 75 = .ok (.invokevirtual 221, 3) := by decide +kernel
theorem dX5_scale_78 : decode cX5_scale 78 = .ok (.aload_n 0, 1) := by decide +kernel
theorem dX5_scale_79 : decode cX5_scale 79 = .ok (.getfield 40, 3) := by decide +kernel
theorem dX5_scale_82 : decode cX5_scale 82 = .ok (.invokevirtual 225, 3) := by decide +kernel
theorem dX5_scale_85 : decode cX5_scale 85 = .ok (.ifCond .ne 5, 3) := by decide +kernel
theorem dX5_scale_88 : decode cX5_scale 88 = .ok (.iconst 0, 1) := by decide +kernel
theorem dX5_scale_89 : decode cX5_scale 89 = .ok (.ireturn, 1) := by decide +kernel
theorem dX5_scale_90 : decode cX5_scale 90 = .ok (.aload 4, 2) := by decide +kernel
theorem dX5_scale_92 : decode cX5_scale 92 = .ok (.getfield 73, 3) := by decide +kernel
theorem dX5_scale_95 : decode cX5_scale 95 = .ok (.iload 9, 2) := by decide +kernel
theorem dX5_scale_97 : decode cX5_scale 97 = .ok (.aload_n 0, 1) := by decide +kernel
theorem dX5_scale_98 : decode cX5_scale 98 = .ok (.getfield 40, 3) := by decide +kernel
theorem dX5_scale_101 : decode cX5_scale 101 = .ok (.invokevirtual 228, 3) := by decide +kernel
theorem dX5_scale_104 : decode cX5_scale 104 = .ok (.lastore, 1) := by decide +kernel
theorem dX5_scale_105 : decode cX5_scale 105 = .ok (.iinc 9 1, 3) := by decide +kernel
theorem dX5_scale_108 : decode cX5_scale 108 = .ok (.goto (-71), 3) := by decide +kernel
theorem dX5_scale_111 : decode cX5_scale 111 = .ok (.iconst 1, 1) := by decide +kernel
theorem dX5_scale_112 : decode cX5_scale 112 = .ok (.ireturn, 1) := by decide +kernel
end
section
theorem dX6_init_0 : decode cX6_init 0 = .ok (.aload_n 0, 1) := by decide +kernel
theorem dX6_init_1 : decode cX6_init 1 = .ok (.invokespecial 1, 3) := by decide +kernel
theorem dX6_init_4 : decode cX6_init 4 = .ok (.aload_n 0, 1) := by decide +kernel
theorem dX6_init_5 : decode cX6_init 5 = .ok (.bipush 61, 2) := by decide +kernel
theorem dX6_init_7 : decode cX6_init 7 = .ok (.newarray .int, 2) := by decide +kernel
theorem dX6_init_9 : decode cX6_init 9 = .ok (.putfield 7, 3) := by decide +kernel
theorem dX6_init_12 : decode cX6_init 12 = .ok (.aload_n 0, 1) := by decide +kernel
theorem dX6_init_13 : decode cX6_init 13 = .ok (.bipush 61, 2) := by decide +kernel
theorem dX6_init_15 : decode cX6_init 15 = .ok (.newarray .int, 2) := by decide +kernel
theorem dX6_init_17 : decode cX6_init 17 = .ok (.putfield 13, 3) := by decide +kernel
theorem dX6_init_20 : decode cX6_init 20 = .ok (.aload_n 0, 1) := by decide +kernel
theorem dX6_init_21 : decode cX6_init 21 = .ok (.bipush 61, 2) := by decide +kernel
theorem dX6_init_23 : decode cX6_init 23 = .ok (.newarray .int, 2) := by decide +kernel
theorem dX6_init_25 : decode cX6_init 25 = .ok (.putfield 16, 3) := by decide +kernel
theorem dX6_init_28 : decode cX6_init 28 = .ok (.aload_n 0, 1) := by decide +kernel
theorem dX6_init_29 : decode cX6_init 29 = .ok (.sipush 732, 3) := by decide +kernel
theorem dX6_init_32 : decode cX6_init 32 = .ok (.newarray .long, 2) := by decide +kernel
theorem dX6_init_34 : decode cX6_init 34 = .ok (.putfield 19, 3) := by decide +kernel
theorem dX6_init_37 : decode cX6_init 37 = .ok (.aload_n 0, 1) := by decide +kernel
theorem dX6_init_38 : decode cX6_init 38 = .ok (.iconst 1, 1) := by decide +kernel
theorem dX6_init_39 : decode cX6_init 39 = .ok (.putfield 23, 3) := by decide +kernel
theorem dX6_init_42 : decode cX6_init 42 = .ok (.aload_n 0, 1) := by decide +kernel
theorem dX6_init_43 : decode cX6_init 43 = .ok (.sipush 144, 3) := by decide +kernel
theorem dX6_init_46 : decode cX6_init 46 = .ok (.newarray .long, 2) := by decide +kernel
theorem dX6_init_48 : decode cX6_init 48 = .ok (.putfield 27, 3) := by decide +kernel
theorem dX6_init_51 : decode cX6_init 51 = .ok (.aload_n 0, 1) := by decide +kernel
theorem dX6_init_52 : decode cX6_init 52 = .ok (.bipush 12, 2) := by decide +kernel
theorem dX6_init_54 : decode cX6_init 54 = .ok (.newarray .int, 2) := by decide +kernel
theorem dX6_init_56 : decode cX6_init 56 = .ok (.putfield 30, 3) := by decide +kernel
theorem dX6_init_59 : decode cX6_init 59 = .ok (.aload_n 0, 1) := by decide +kernel
theorem dX6_init_60 : decode cX6_init 60 = .ok (.bipush 72, 2) := by decide +kernel
theorem dX6_init_62 : decode cX6_init 62 = .ok (.newarray .long, 2) := by decide +kernel
theorem dX6_init_64 : decode cX6_init 64 = .ok (.putfield 33, 3) := by decide +kernel
theorem dX6_init_67 : decode cX6_init 67 = .ok (.aload_n 0, 1) := by decide +kernel
theorem dX6_init_68 : decode cX6_init 68 = .ok (.sipush 300, 3) := by decide +kernel
theorem dX6_init_71 : decode cX6_init 71 = .ok (.newarray .int, 2) := by decide +kernel
theorem dX6_init_73 : decode cX6_init 73 = .ok (.putfield 36, 3) := by decide +kernel
theorem dX6_init_76 : decode cX6_init 76 = .ok (.aload_n 0, 1) := by decide +kernel
theorem dX6_init_77 : decode cX6_init 77 = .ok (.sipush 400, 3) := by decide +kernel
theorem dX6_init_80 : decode cX6_init 80 = .ok (.newarray .int, 2) := by decide +kernel
theorem dX6_init_82 : decode cX6_init 82 = .ok (.putfield 39, 3) := by decide +kernel
theorem dX6_init_85 : decode cX6_init 85 = .ok (.aload_n 0, 1) := by decide +kernel
theorem dX6_init_86 : decode cX6_init 86 = .ok (.bipush 12, 2) := by decide +kernel
theorem dX6_init_88 : decode cX6_init 88 = .ok (.newarray .long, 2) := by decide +kernel
theorem dX6_init_90 : decode cX6_init 90 = .ok (.putfield 42, 3) := by decide +kernel
theorem dX6_init_93 : decode cX6_init 93 = .ok (.return_, 1) := by decide +kernel
theorem dX6_in_0 : decode cX6_in 0 = .ok (.lload_n 0, 1) := by decide +kernel
theorem dX6_in_1 : decode cX6_in 1 = .ok (.lload_n 2, 1) := by decide +kernel
theorem dX6_in_2 : decode cX6_in 2 = .ok (.lcmp, 1) := by decide +kernel
theorem dX6_in_3 : decode cX6_in 3 = .ok (.ifCond .lt 14, 3) := by decide +kernel
theorem dX6_in_6 : decode cX6_in 6 = .ok (.lload_n 0, 1) := by decide +kernel
theorem dX6_in_7 : decode cX6_in 7 = .ok (.lload 4, 2) := by decide +kernel
theorem dX6_in_9 : decode cX6_in 9 = .ok (.lcmp, 1) := by decide +kernel
theorem dX6_in_10 : decode cX6_in 10 = .ok (.ifCond .gt 7, 3) := by decide +kernel
theorem dX6_in_13 : decode cX6_in 13 = .ok (.iconst 1, 1) := by decide +kernel
theorem dX6_in_14 : decode cX6_in 14 = .ok (.goto 4, 3) := by decide +kernel
theorem dX6_in_17 : decode cX6_in 17 = .ok (.iconst 0, 1) := by decide +kernel
theorem dX6_in_18 : decode cX6_in 18 = .ok (.ireturn, 1) := by decide +kernel
set_option maxRecDepth 20000 in
theorem ggX6_isNumber_X6_in : GoodIn wsX6_isNumber wsX6_in := goodIn_r _ [5] (by decide +kernel) (by decide +kernel)
set_option maxRecDepth 20000 in
theorem gX6_isNumber_X6_in : GoodIn wsX6_isNumber (va_wsS RX6 48 yX6_in wsX6_in) := goodIn_app (goodIn_of _ (by decide +kernel)) ggX6_isNumber_X6_in
theorem dX6_isNumber_0 : decode cX6_isNumber 0 = .ok (.iload_n 1, 1) := by decide +kernel
theorem dX6_isNumber_1 : decode cX6_isNumber 1 = .ok (.i2l, 1) := by decide +kernel
theorem dX6_isNumber_2 : decode cX6_isNumber 2 = .ok (.lconst 0, 1) := by decide +kernel
theorem dX6_isNumber_3 : decode cX6_isNumber 3 = .ok (.aload_n 0, 1) := by decide +kernel
theorem dX6_isNumber_4 : decode cX6_isNumber 4 = .ok (.getfield 45, 3) := by decide +kernel
theorem dX6_isNumber_7 : decode cX6_isNumber 7 = .ok (.iconst 1, 1) := by decide +kernel
theorem dX6_isNumber_8 : decode cX6_isNumber 8 = .ok (.isub, 1) := by decide +kernel
theorem dX6_isNumber_9 : decode cX6_isNumber 9 = .ok (.i2l, 1) := by decide +kernel
theorem dX6_isNumber_10 : decode cX6_isNumber 10 = .ok (.invokestatic 48, 3) := by decide +kernel
theorem dX6_isNumber_13 : decode cX6_isNumber 13 = .ok (.ireturn, 1) := by decide +kernel
theorem dX6_isNothing_0 : decode cX6_isNothing 0 = .ok (.aload_n 0, 1) := by decide +kernel
theorem dX6_isNothing_1 : decode cX6_isNothing 1 = .ok (.getfield 7, 3) := by decide +kernel
theorem dX6_isNothing_4 : decode cX6_isNothing 4 = .ok (.iload_n 1, 1) := by decide +kernel
theorem dX6_isNothing_5 : decode cX6_isNothing 5 = .ok (.iaload, 1) := by decide +kernel
theorem dX6_isNothing_6 : decode cX6_isNothing 6 = .ok (.iconst (-1), 1) := by decide +kernel
theorem dX6_isNothing_7 : decode cX6_isNothing 7 = .ok (.if_icmp .ne 7, 3) := by decide +kernel
theorem dX6_isNothing_10 : decode cX6_isNothing 10 = .ok (.iconst 1, 1) := by decide +kernel
theorem dX6_isNothing_11 : decode cX6_isNothing 11 = .ok (.goto 4, 3) := by decide +kernel
theorem dX6_isNothing_14 : decode cX6_isNothing 14 = .ok (.iconst 0, 1) := by decide +kernel
theorem dX6_isNothing_15 : decode cX6_isNothing 15 = .ok (.ireturn, 1) := by decide +kernel
theorem dX6_areLike_0 : decode cX6_areLike 0 = .ok (.aload_n 0, 1) := by decide +kernel
theorem dX6_areLike_1 : decode cX6_areLike 1 = .ok (.getfield 7, 3) := by decide +kernel
theorem dX6_areLike_4 : decode cX6_areLike 4 = .ok (.iload_n 1, 1) := by decide +kernel
theorem dX6_areLike_5 : decode cX6_areLike 5 = .ok (.iaload, 1) := by decide +kernel
theorem dX6_areLike_6 : decode cX6_areLike 6 = .ok (.aload_n 0, 1) := by decide +kernel
theorem dX6_areLike_7 : decode cX6_areLike 7 = .ok (.getfield 7, 3) := by decide +kernel
theorem dX6_areLike_10 : decode cX6_areLike 10 = .ok (.iload_n 2, 1) := by decide +kernel
theorem dX6_areLike_11 : decode cX6_areLike 11 = .ok (.iaload, 1) := by decide +kernel
theorem dX6_areLike_12 : decode cX6_areLike 12 = .ok (.if_icmp .ne 37, 3) := by decide +kernel
theorem dX6_areLike_15 : decode cX6_areLike 15 = .ok (.aload_n 0, 1) := by decide +kernel
theorem dX6_areLike_16 : decode cX6_areLike 16 = .ok (.getfield 13, 3) := by decide +kernel
theorem dX6_areLike_19 : decode cX6_areLike 19 = .ok (.iload_n 1, 1) := by decide +kernel
theorem dX6_areLike_20 : decode cX6_areLike 20 = .ok (.iaload, 1) := by decide +kernel
theorem dX6_areLike_21 : decode cX6_areLike 21 = .ok (.aload_n 0, 1) := by decide +kernel
theorem dX6_areLike_22 : decode cX6_areLike 22 = .ok (.getfield 13, 3) := by decide +kernel
theorem dX6_areLike_25 : decode cX6_areLike 25 = .ok (.iload_n 2, 1) := by decide +kernel
theorem dX6_areLike_26 : decode cX6_areLike 26 = .ok (.iaload, 1) := by decide +kernel
theorem dX6_areLike_27 : decode cX6_areLike 27 = .ok (.if_icmp .ne 22, 3) := by decide +kernel
theorem dX6_areLike_30 : decode cX6_areLike 30 = .ok (.aload_n 0, 1) := by decide +kernel
theorem dX6_areLike_31 : decode cX6_areLike 31 = .ok (.getfield 16, 3) := by decide +kernel
theorem dX6_areLike_34 : decode cX6_areLike 34 = .ok (.iload_n 1, 1) := by decide +kernel
theorem dX6_areLike_35 : decode cX6_areLike 35 = .ok (.iaload, 1) := by decide +kernel
theorem dX6_areLike_36 : decode cX6_areLike 36 = .ok (.aload_n 0, 1) := by decide +kernel
theorem dX6_areLike_37 : decode cX6_areLike 37 = .ok (.getfield 16, 3) := by decide +kernel
theorem dX6_areLike_40 : decode cX6_areLike 40 = .ok (.iload_n 2, 1) := by decide +kernel
theorem dX6_areLike_41 : decode cX6_areLike 41 = .ok (.iaload, 1) := by decide +kernel
theorem dX6_areLike_42 : decode cX6_areLike 42 = .ok (.if_icmp .ne 7, 3) := by decide +kernel
theorem dX6_areLike_45 : decode cX6_areLike 45 = .ok (.iconst 1, 1) := by decide +kernel
theorem dX6_areLike_46 : decode cX6_areLike 46 = .ok (.goto 4, 3) := by decide +kernel
theorem dX6_areLike_49 : decode cX6_areLike 49 = .ok (.iconst 0, 1) := by decide +kernel
theorem dX6_areLike_50 : decode cX6_areLike 50 = .ok (.ireturn, 1) := by decide +kernel
theorem dX6_isLikePlan_0 : decode cX6_isLikePlan 0 = .ok (.aload_n 0, 1) := by decide +kernel
theorem dX6_isLikePlan_1 : decode cX6_isLikePlan 1 = .ok (.getfield 7, 3) := by decide +kernel
theorem dX6_isLikePlan_4 : decode cX6_isLikePlan 4 = .ok (.iload_n 1, 1) := by decide +kernel
theorem dX6_isLikePlan_5 : decode cX6_isLikePlan 5 = .ok (.iaload, 1) := by decide +kernel
theorem dX6_isLikePlan_6 : decode cX6_isLikePlan 6 = .ok (.aload_n 0, 1) := by decide +kernel
theorem dX6_isLikePlan_7 : decode cX6_isLikePlan 7 = .ok (.getfield 52, 3) := by decide +kernel
theorem dX6_isLikePlan_10 : decode cX6_isLikePlan 10 = .ok (.if_icmp .ne 33, 3) := by decide +kernel
theorem dX6_isLikePlan_13 : decode cX6_isLikePlan 13 = .ok (.aload_n 0, 1) := by decide +kernel
theorem dX6_isLikePlan_14 : decode cX6_isLikePlan 14 = .ok (.getfield 13, 3) := by decide +kernel
theorem dX6_isLikePlan_17 : decode cX6_isLikePlan 17 = .ok (.iload_n 1, 1) := by decide +kernel
theorem dX6_isLikePlan_18 : decode cX6_isLikePlan 18 = .ok (.iaload, 1) := by decide +kernel
theorem dX6_isLikePlan_19 : decode cX6_isLikePlan 19 = .ok (.aload_n 0, 1) := by decide +kernel
theorem dX6_isLikePlan_20 : decode cX6_isLikePlan 20 = .ok (.getfield 55, 3) := by decide +kernel
theorem dX6_isLikePlan_23 : decode cX6_isLikePlan 23 = .ok (.if_icmp .ne 20, 3) := by decide +kernel
theorem dX6_isLikePlan_26 : decode cX6_isLikePlan 26 = .ok (.aload_n 0, 1) := by decide +kernel
theorem dX6_isLikePlan_27 : decode cX6_isLikePlan 27 = .ok (.getfield 16, 3) := by decide +kernel
theorem dX6_isLikePlan_30 : decode cX6_isLikePlan 30 = .ok (.iload_n 1, 1) := by decide +kernel
theorem dX6_isLikePlan_31 : decode cX6_isLikePlan 31 = .ok (.iaload, 1) := by decide +kernel
theorem dX6_isLikePlan_32 : decode cX6_isLikePlan 32 = .ok (.aload_n 0, 1) := by decide +kernel
theorem dX6_isLikePlan_33 : decode cX6_isLikePlan 33 = .ok (.getfield 23, 3) := by decide +kernel
theorem dX6_isLikePlan_36 : decode cX6_isLikePlan 36 = .ok (.if_icmp .ne 7, 3) := by decide +kernel
theorem dX6_isLikePlan_39 : decode cX6_isLikePlan 39 = .ok (.iconst 1, 1) := by decide +kernel
theorem dX6_isLikePlan_40 : decode cX6_isLikePlan 40 = .ok (.goto 4, 3) := by decide +kernel
theorem dX6_isLikePlan_43 : decode cX6_isLikePlan 43 = .ok (.iconst 0, 1) := by decide +kernel
theorem dX6_isLikePlan_44 : decode cX6_isLikePlan 44 = .ok (.ireturn, 1) := by decide +kernel
theorem dX6_lay_0 : decode cX6_lay 0 = .ok (.aload_n 0, 1) := by decide +kernel
theorem dX6_lay_1 : decode cX6_lay 1 = .ok (.getfield 7, 3) := by decide +kernel
theorem dX6_lay_4 : decode cX6_lay 4 = .ok (.aload_n 0, 1) := by decide +kernel
theorem dX6_lay_5 : decode cX6_lay 5 = .ok (.getfield 45, 3) := by decide +kernel
theorem dX6_lay_8 : decode cX6_lay 8 = .ok (.iload_n 1, 1) := by decide +kernel
theorem dX6_lay_9 : decode cX6_lay 9 = .ok (.iastore, 1) := by decide +kernel
theorem dX6_lay_10 : decode cX6_lay 10 = .ok (.aload_n 0, 1) := by decide +kernel
theorem dX6_lay_11 : decode cX6_lay 11 = .ok (.getfield 13, 3) := by decide +kernel
theorem dX6_lay_14 : decode cX6_lay 14 = .ok (.aload_n 0, 1) := by decide +kernel
theorem dX6_lay_15 : decode cX6_lay 15 = .ok (.getfield 45, 3) := by decide +kernel
theorem dX6_lay_18 : decode cX6_lay 18 = .ok (.iload_n 2, 1) := by decide +kernel
theorem dX6_lay_19 : decode cX6_lay 19 = .ok (.iastore, 1) := by decide +kernel
theorem dX6_lay_20 : decode cX6_lay 20 = .ok (.aload_n 0, 1) := by decide +kernel
theorem dX6_lay_21 : decode cX6_lay 21 = .ok (.getfield 16, 3) := by decide +kernel
theorem dX6_lay_24 : decode cX6_lay 24 = .ok (.aload_n 0, 1) := by decide +kernel
theorem dX6_lay_25 : decode cX6_lay 25 = .ok (.getfield 45, 3) := by decide +kernel
theorem dX6_lay_28 : decode cX6_lay 28 = .ok (.iload_n 3, 1) := by decide +kernel
theorem dX6_lay_29 : decode cX6_lay 29 = .ok (.iastore, 1) := by decide +kernel
theorem dX6_lay_30 : decode cX6_lay 30 = .ok (.iconst 0, 1) := by decide +kernel
theorem dX6_lay_31 : decode cX6_lay 31 = .ok (.istore 4, 2) := by decide +kernel
theorem dX6_lay_33 : decode cX6_lay 33 = .ok (.iload 4, 2) := by decide +kernel
theorem dX6_lay_35 : decode cX6_lay 35 = .ok (.bipush 12, 2) := by decide +kernel
theorem dX6_lay_37 : decode cX6_lay 37 = .ok (.if_icmp .ge 25, 3) := by decide +kernel
theorem dX6_lay_40 : decode cX6_lay 40 = .ok (.aload_n 0, 1) := by decide +kernel
theorem dX6_lay_41 : decode cX6_lay 41 = .ok (.getfield 19, 3) := by decide +kernel
theorem dX6_lay_44 : decode cX6_lay 44 = .ok (.bipush 12, 2) := by decide +kernel
theorem dX6_lay_46 : decode cX6_lay 46 = .ok (.aload_n 0, 1) := by decide +kernel
theorem dX6_lay_47 : decode cX6_lay 47 = .ok (.getfield 45, 3) := by decide +kernel
theorem dX6_lay_50 : decode cX6_lay 50 = .ok (.imul, 1) := by decide +kernel
theorem dX6_lay_51 : decode cX6_lay 51 = .ok (.iload 4, 2) := by decide +kernel
theorem dX6_lay_53 : decode cX6_lay 53 = .ok (.iadd, 1) := by decide +kernel
theorem dX6_lay_54 : decode cX6_lay 54 = .ok (.lconst 0, 1) := by decide +kernel
theorem dX6_lay_55 : decode cX6_lay 55 = .ok (.lastore, 1) := by decide +kernel
theorem dX6_lay_56 : decode cX6_lay 56 = .ok (.iinc 4 1, 3) := by decide +kernel
theorem dX6_lay_59 : decode cX6_lay 59 = .ok (.goto (-26), 3) := by decide +kernel
theorem dX6_lay_62 : decode cX6_lay 62 = .ok (.return_, 1) := by decide +kernel
theorem dX6_keepScore_0 : decode cX6_keepScore 0 = .ok (.aload_n 0, 1) := by decide +kernel
theorem dX6_keepScore_1 : decode cX6_keepScore 1 = .ok (.dup, 1) := by decide +kernel
theorem dX6_keepScore_2 : decode cX6_keepScore 2 = .ok (.getfield 45, 3) := by decide +kernel
theorem dX6_keepScore_5 : decode cX6_keepScore 5 = .ok (.iconst 1, 1) := by decide +kernel
theorem dX6_keepScore_6 : decode cX6_keepScore 6 = .ok (.iadd, 1) := by decide +kernel
theorem dX6_keepScore_7 : decode cX6_keepScore 7 = .ok (.putfield 45, 3) := by decide +kernel
theorem dX6_keepScore_10 : decode cX6_keepScore 10 = .ok (.aload_n 0, 1) := by decide +kernel
theorem dX6_keepScore_11 : decode cX6_keepScore 11 = .ok (.getfield 45, 3) := by decide +kernel
theorem dX6_keepScore_14 : decode cX6_keepScore 14 = .ok (.iconst 1, 1) := by decide +kernel
theorem dX6_keepScore_15 : decode cX6_keepScore 15 = .ok (.isub, 1) := by decide +kernel
theorem dX6_keepScore_16 : decode cX6_keepScore 16 = .ok (.ireturn, 1) := by decide +kernel
set_option maxRecDepth 20000 in
theorem ggX6_make_X6_in : GoodIn wsX6_make wsX6_in := goodIn_r _ [6] (by decide +kernel) (by decide +kernel)
set_option maxRecDepth 20000 in
theorem gX6_make_X6_in : GoodIn wsX6_make (va_wsS RX6 48 yX6_in wsX6_in) := goodIn_app (goodIn_of _ (by decide +kernel)) ggX6_make_X6_in
set_option maxRecDepth 20000 in
theorem ggX6_make_X6_lay : GoodIn wsX6_make wsX6_lay := goodIn_r _ [10, 11, 2, 12, 13, 14, 19, 20, 21, 22, 23, 24, 25, 26, 27, 28, 29, 30, 31, 32, 33, 34, 35, 36, 37, 38, 39, 40, 41, 42] (by decide +kernel) (by decide +kernel)
set_option maxRecDepth 20000 in
theorem gX6_make_X6_lay : GoodIn wsX6_make (wsV RX6 60 RX6 yX6_lay wsX6_lay) := goodIn_app (goodIn_of _ (by decide +kernel)) ggX6_make_X6_lay
set_option maxRecDepth 20000 in
theorem ggX6_make_X6_keepScore : GoodIn wsX6_make wsX6_keepScore := goodIn_r _ [18, 2, 19, 20, 21, 22, 23, 24, 25, 26, 27, 28, 29, 30, 31, 32, 33, 34, 35, 36, 37, 38, 39, 40, 41, 42] (by decide +kernel) (by decide +kernel)
set_option maxRecDepth 20000 in
theorem gX6_make_X6_keepScore : GoodIn wsX6_make (wsV RX6 64 RX6 yX6_keepScore wsX6_keepScore) := goodIn_app (goodIn_of _ (by decide +kernel)) ggX6_make_X6_keepScore
theorem dX6_make_0 : decode cX6_make 0 = .ok (.iload_n 1, 1) := by decide +kernel
theorem dX6_make_1 : decode cX6_make 1 = .ok (.i2l, 1) := by decide +kernel
theorem dX6_make_2 : decode cX6_make 2 = .ok (.lconst 0, 1) := by decide +kernel
theorem dX6_make_3 : decode cX6_make 3 = .ok (.ldc2_w 58, 3) := by decide +kernel
theorem dX6_make_6 : decode cX6_make 6 = .ok (.invokestatic 48, 3) := by decide +kernel
theorem dX6_make_9 : decode cX6_make 9 = .ok (.ifCond .eq 28, 3) := by decide +kernel
theorem dX6_make_12 : decode cX6_make 12 = .ok (.iload_n 1, 1) := by decide +kernel
theorem dX6_make_13 : decode cX6_make 13 = .ok (.iconst 3, 1) := by decide +kernel
theorem dX6_make_14 : decode cX6_make 14 = .ok (.if_icmp .ne 26, 3) := by decide +kernel
theorem dX6_make_17 : decode cX6_make 17 = .ok (.iload_n 2, 1) := by decide +kernel
theorem dX6_make_18 : decode cX6_make 18 = .ok (.bipush 6, 2) := by decide +kernel
theorem dX6_make_20 : decode cX6_make 20 = .ok (.if_icmp .gt 17, 3) := by decide +kernel
theorem dX6_make_23 : decode cX6_make 23 = .ok (.iload_n 3, 1) := by decide +kernel
theorem dX6_make_24 : decode cX6_make 24 = .ok (.bipush 6, 2) := by decide +kernel
theorem dX6_make_26 : decode cX6_make 26 = .ok (.if_icmp .gt 11, 3) := by decide +kernel
theorem dX6_make_29 : decode cX6_make 29 = .ok (.iload_n 2, 1) := by decide +kernel
theorem dX6_make_30 : decode cX6_make 30 = .ok (.ifCond .ne 10, 3) := by decide +kernel
theorem dX6_make_33 : decode cX6_make 33 = .ok (.iload_n 3, 1) := by decide +kernel
theorem dX6_make_34 : decode cX6_make 34 = .ok (.ifCond .ne 6, 3) := by decide +kernel
theorem dX6_make_37 : decode cX6_make 37 = .ok (.bipush (-3), 2) := by decide +kernel
theorem dX6_make_39 : decode cX6_make 39 = .ok (.ireturn, 1) := by decide +kernel
theorem dX6_make_40 : decode cX6_make 40 = .ok (.aload_n 0, 1) := by decide +kernel
theorem dX6_make_41 : decode cX6_make 41 = .ok (.getfield 45, 3) := by decide +kernel
theorem dX6_make_44 : decode cX6_make 44 = .ok (.bipush 60, 2) := by decide +kernel
theorem dX6_make_46 : decode cX6_make 46 = .ok (.if_icmp .ne 6, 3) := by decide +kernel
theorem dX6_make_49 : decode cX6_make 49 = .ok (.bipush (-4), 2) := by decide +kernel
theorem dX6_make_51 : decode cX6_make 51 = .ok (.ireturn, 1) := by decide +kernel
theorem dX6_make_52 : decode cX6_make 52 = .ok (.iload_n 1, 1) := by decide +kernel
theorem dX6_make_53 : decode cX6_make 53 = .ok (.iconst 3, 1) := by decide +kernel
theorem dX6_make_54 : decode cX6_make 54 = .ok (.if_icmp .ne 14, 3) := by decide +kernel
theorem dX6_make_57 : decode cX6_make 57 = .ok (.iload_n 2, 1) := by decide +kernel
theorem dX6_make_58 : decode cX6_make 58 = .ok (.ifCond .lt 7, 3) := by decide +kernel
theorem dX6_make_61 : decode cX6_make 61 = .ok (.iload_n 3, 1) := by decide +kernel
theorem dX6_make_62 : decode cX6_make 62 = .ok (.ifCond .ge 6, 3) := by decide +kernel
theorem dX6_make_65 : decode cX6_make 65 = .ok (.bipush (-14), 2) := by decide +kernel
theorem dX6_make_67 : decode cX6_make 67 = .ok (.ireturn, 1) := by decide +kernel
theorem dX6_make_68 : decode cX6_make 68 = .ok (.aload_n 0, 1) := by decide +kernel
theorem dX6_make_69 : decode cX6_make 69 = .ok (.iload_n 1, 1) := by decide +kernel
theorem dX6_make_70 : decode cX6_make 70 = .ok (.iload_n 1, 1) := by decide +kernel
theorem dX6_make_71 : decode cX6_make 71 = .ok (.ifCond .ne 7, 3) := by decide +kernel
theorem dX6_make_74 : decode cX6_make 74 = .ok (.iconst 0, 1) := by decide +kernel
theorem dX6_make_75 : decode cX6_make 75 = .ok (.goto 13, 3) := by decide +kernel
theorem dX6_make_78 : decode cX6_make 78 = .ok (.iload_n 1, 1) := by decide +kernel
theorem dX6_make_79 : decode cX6_make 79 = .ok (.iconst 3, 1) := by decide +kernel
theorem dX6_make_80 : decode cX6_make 80 = .ok (.if_icmp .ge 7, 3) := by decide +kernel
theorem dX6_make_83 : decode cX6_make 83 = .ok (.iconst 1, 1) := by decide +kernel
theorem dX6_make_84 : decode cX6_make 84 = .ok (.goto 4, 3) := by decide +kernel
theorem dX6_make_87 : decode cX6_make 87 = .ok (.iload_n 2, 1) := by decide +kernel
theorem dX6_make_88 : decode cX6_make 88 = .ok (.iload_n 1, 1) := by decide +kernel
theorem dX6_make_89 : decode cX6_make 89 = .ok (.iconst 3, 1) := by decide +kernel
theorem dX6_make_90 : decode cX6_make 90 = .ok (.if_icmp .ge 9, 3) := by decide +kernel
theorem dX6_make_93 : decode cX6_make 93 = .ok (.iload_n 1, 1) := by decide +kernel
theorem dX6_make_94 : decode cX6_make 94 = .ok (.iconst 1, 1) := by decide +kernel
theorem dX6_make_95 : decode cX6_make 95 = .ok (.iadd, 1) := by decide +kernel
theorem dX6_make_96 : decode cX6_make 96 = .ok (.goto 6, 3) := by decide +kernel
theorem dX6_make_99 : decode cX6_make 99 = .ok (.iload_n 2, 1) := by decide +kernel
theorem dX6_make_100 : decode cX6_make 100 = .ok (.iload_n 3, 1) := by decide +kernel
theorem dX6_make_101 : decode cX6_make 101 = .ok (.iadd, 1) := by decide +kernel
theorem dX6_make_102 : decode cX6_make 102 = .ok (.invokevirtual 60, 3) := by decide +kernel
theorem dX6_make_105 : decode cX6_make 105 = .ok (.aload_n 0, 1) := by decide +kernel
theorem dX6_make_106 : decode cX6_make 106 = .ok (.invokevirtual 64, 3) := by decide +kernel
theorem dX6_make_109 : decode cX6_make 109 = .ok (.ireturn, 1) := by decide +kernel
set_option maxRecDepth 20000 in
theorem ggX6_nothing_X6_lay : GoodIn wsX6_nothing wsX6_lay := goodIn_r _ [6, 7, 1, 8, 9, 10, 15, 16, 17, 18, 19, 20, 21, 22, 23, 24, 25, 26, 27, 28, 29, 30, 31, 32, 33, 34, 35, 36, 37, 38] (by decide +kernel) (by decide +kernel)
set_option maxRecDepth 20000 in
theorem gX6_nothing_X6_lay : GoodIn wsX6_nothing (wsV RX6 60 RX6 yX6_lay wsX6_lay) := goodIn_app (goodIn_of _ (by decide +kernel)) ggX6_nothing_X6_lay
set_option maxRecDepth 20000 in
theorem ggX6_nothing_X6_keepScore : GoodIn wsX6_nothing wsX6_keepScore := goodIn_r _ [14, 1, 15, 16, 17, 18, 19, 20, 21, 22, 23, 24, 25, 26, 27, 28, 29, 30, 31, 32, 33, 34, 35, 36, 37, 38] (by decide +kernel) (by decide +kernel)
set_option maxRecDepth 20000 in
theorem gX6_nothing_X6_keepScore : GoodIn wsX6_nothing (wsV RX6 64 RX6 yX6_keepScore wsX6_keepScore) := goodIn_app (goodIn_of _ (by decide +kernel)) ggX6_nothing_X6_keepScore
theorem dX6_nothing_0 : decode cX6_nothing 0 = .ok (.aload_n 0, 1) := by decide +kernel
theorem dX6_nothing_1 : decode cX6_nothing 1 = .ok (.getfield 45, 3) := by decide +kernel
theorem dX6_nothing_4 : decode cX6_nothing 4 = .ok (.bipush 60, 2) := by decide +kernel
theorem dX6_nothing_6 : decode cX6_nothing 6 = .ok (.if_icmp .ne 6, 3) := by decide +kernel
theorem dX6_nothing_9 : decode cX6_nothing 9 = .ok (.bipush (-4), 2) := by decide +kernel
theorem dX6_nothing_11 : decode cX6_nothing 11 = .ok (.ireturn, 1) := by decide +kernel
theorem dX6_nothing_12 : decode cX6_nothing 12 = .ok (.aload_n 0, 1) := by decide +kernel
theorem dX6_nothing_13 : decode cX6_nothing 13 = .ok (.iconst (-1), 1) := by decide +kernel
theorem dX6_nothing_14 : decode cX6_nothing 14 = .ok (.iconst 0, 1) := by decide +kernel
theorem dX6_nothing_15 : decode cX6_nothing 15 = .ok (.iconst 0, 1) := by decide +kernel
theorem dX6_nothing_16 : decode cX6_nothing 16 = .ok (.invokevirtual 60, 3) := by decide +kernel
theorem dX6_nothing_19 : decode cX6_nothing 19 = .ok (.aload_n 0, 1) := by decide +kernel
theorem dX6_nothing_20 : decode cX6_nothing 20 = .ok (.invokevirtual 64, 3) := by decide +kernel
theorem dX6_nothing_23 : decode cX6_nothing 23 = .ok (.ireturn, 1) := by decide +kernel
set_option maxRecDepth 20000 in
theorem ggX6_set_X6_isNumber : GoodIn wsX6_set wsX6_isNumber := goodIn_r _ [7, 8, 9, 10, 6, 11, 17, 18, 19, 20, 21, 22, 23, 24, 25, 26, 27, 28, 29, 30, 31, 32, 33, 34, 35, 36, 37, 38, 39, 40] (by decide +kernel) (by decide +kernel)
set_option maxRecDepth 20000 in
theorem gX6_set_X6_isNumber : GoodIn wsX6_set (wsV RX6 68 RX6 yX6_isNumber wsX6_isNumber) := goodIn_app (goodIn_of _ (by decide +kernel)) ggX6_set_X6_isNumber
set_option maxRecDepth 20000 in
theorem ggX6_set_X6_isNothing : GoodIn wsX6_set wsX6_isNothing := goodIn_r _ [15, 16, 17, 18, 19, 20, 21, 22, 23, 24, 25, 26, 27, 28, 29, 30, 31, 32, 33, 34, 35, 36, 37, 38, 39, 40] (by decide +kernel) (by decide +kernel)
set_option maxRecDepth 20000 in
theorem gX6_set_X6_isNothing : GoodIn wsX6_set (wsV RX6 72 RX6 yX6_isNothing wsX6_isNothing) := goodIn_app (goodIn_of _ (by decide +kernel)) ggX6_set_X6_isNothing
set_option maxRecDepth 20000 in
theorem ggX6_set_X6_in : GoodIn wsX6_set wsX6_in := goodIn_r _ [11] (by decide +kernel) (by decide +kernel)
set_option maxRecDepth 20000 in
theorem gX6_set_X6_in : GoodIn wsX6_set (va_wsS RX6 48 yX6_in wsX6_in) := goodIn_app (goodIn_of _ (by decide +kernel)) ggX6_set_X6_in
theorem dX6_set_0 : decode cX6_set 0 = .ok (.aload_n 0, 1) := by decide +kernel
theorem dX6_set_1 : decode cX6_set 1 = .ok (.iload_n 1, 1) := by decide +kernel
theorem dX6_set_2 : decode cX6_set 2 = .ok (.invokevirtual 68, 3) := by decide +kernel
theorem dX6_set_5 : decode cX6_set 5 = .ok (.ifCond .ne 6, 3) := by decide +kernel
theorem dX6_set_8 : decode cX6_set 8 = .ok (.bipush (-2), 2) := by decide +kernel
theorem dX6_set_10 : decode cX6_set 10 = .ok (.ireturn, 1) := by decide +kernel
theorem dX6_set_11 : decode cX6_set 11 = .ok (.aload_n 0, 1) := by decide +kernel
theorem dX6_set_12 : decode cX6_set 12 = .ok (.iload_n 1, 1) := by decide +kernel
theorem dX6_set_13 : decode cX6_set 13 = .ok (.invokevirtual 72, 3) := by decide +kernel
theorem dX6_set_16 : decode cX6_set 16 = .ok (.ifCond .eq 6, 3) := by decide +kernel
theorem dX6_set_19 : decode cX6_set 19 = .ok (.bipush (-11), 2) := by decide +kernel
theorem dX6_set_21 : decode cX6_set 21 = .ok (.ireturn, 1) := by decide +kernel
theorem dX6_set_22 : decode cX6_set 22 = .ok (.iload_n 2, 1) := by decide +kernel
theorem dX6_set_23 : decode cX6_set 23 = .ok (.i2l, 1) := by decide +kernel
theorem dX6_set_24 : decode cX6_set 24 = .ok (.lconst 0, 1) := by decide +kernel
theorem dX6_set_25 : decode cX6_set 25 = .ok (.aload_n 0, 1) := by decide +kernel
theorem dX6_set_26 : decode cX6_set 26 = .ok (.getfield 16, 3) := by decide +kernel
theorem dX6_set_29 : decode cX6_set 29 = .ok (.iload_n 1, 1) := by decide +kernel
theorem dX6_set_30 : decode cX6_set 30 = .ok (.iaload, 1) := by decide +kernel
theorem dX6_set_31 : decode cX6_set 31 = .ok (.iconst 1, 1) := by decide +kernel
theorem dX6_set_32 : decode cX6_set 32 = .ok (.isub, 1) := by decide +kernel
theorem dX6_set_33 : decode cX6_set 33 = .ok (.i2l, 1) := by decide +kernel
theorem dX6_set_34 : decode cX6_set 34 = .ok (.invokestatic 48, 3) := by decide +kernel
theorem dX6_set_37 : decode cX6_set 37 = .ok (.ifCond .ne 6, 3) := by decide +kernel
theorem dX6_set_40 : decode cX6_set 40 = .ok (.bipush (-13), 2) := by decide +kernel
theorem dX6_set_42 : decode cX6_set 42 = .ok (.ireturn, 1) := by decide +kernel
theorem dX6_set_43 : decode cX6_set 43 = .ok (.aload_n 0, 1) := by decide +kernel
theorem dX6_set_44 : decode cX6_set 44 = .ok (.getfield 19, 3) := by decide +kernel
theorem dX6_set_47 : decode cX6_set 47 = .ok (.bipush 12, 2) := by decide +kernel
theorem dX6_set_49 : decode cX6_set 49 = .ok (.iload_n 1, 1) := by decide +kernel
theorem dX6_set_50 : decode cX6_set 50 = .ok (.imul, 1) := by decide +kernel
theorem dX6_set_51 : decode cX6_set 51 = .ok (.iload_n 2, 1) := by decide +kernel
theorem dX6_set_52 : decode cX6_set 52 = .ok (.iadd, 1) := by decide +kernel
theorem dX6_set_53 : decode cX6_set 53 = .ok (.lload_n 3, 1) := by decide +kernel
theorem dX6_set_54 : decode cX6_set 54 = .ok (.lastore, 1) := by decide +kernel
theorem dX6_set_55 : decode cX6_set 55 = .ok (.iconst 1, 1) := by decide +kernel
theorem dX6_set_56 : decode cX6_set 56 = .ok (.ireturn, 1) := by decide +kernel
theorem dX6_thrown_0 : decode cX6_thrown 0 = .ok (.aload_n 0, 1) := by decide +kernel
theorem dX6_thrown_1 : decode cX6_thrown 1 = .ok (.getfield 75, 3) := by decide +kernel
theorem dX6_thrown_4 : decode cX6_thrown 4 = .ok (.ireturn, 1) := by decide +kernel
set_option maxRecDepth 20000 in
theorem ggX6_at_X6_isNumber : GoodIn wsX6_at wsX6_isNumber := goodIn_r _ [8, 9, 10, 11, 7, 12, 18, 19, 20, 21, 22, 23, 24, 25, 26, 27, 28, 29, 30, 31, 32, 33, 34, 35, 36, 37, 38, 39, 40, 41] (by decide +kernel) (by decide +kernel)
set_option maxRecDepth 20000 in
theorem gX6_at_X6_isNumber : GoodIn wsX6_at (wsV RX6 68 RX6 yX6_isNumber wsX6_isNumber) := goodIn_app (goodIn_of _ (by decide +kernel)) ggX6_at_X6_isNumber
set_option maxRecDepth 20000 in
theorem ggX6_at_X6_isNothing : GoodIn wsX6_at wsX6_isNothing := goodIn_r _ [16, 17, 18, 19, 20, 21, 22, 23, 24, 25, 26, 27, 28, 29, 30, 31, 32, 33, 34, 35, 36, 37, 38, 39, 40, 41] (by decide +kernel) (by decide +kernel)
set_option maxRecDepth 20000 in
theorem gX6_at_X6_isNothing : GoodIn wsX6_at (wsV RX6 72 RX6 yX6_isNothing wsX6_isNothing) := goodIn_app (goodIn_of _ (by decide +kernel)) ggX6_at_X6_isNothing
set_option maxRecDepth 20000 in
theorem ggX6_at_X6_in : GoodIn wsX6_at wsX6_in := goodIn_r _ [12] (by decide +kernel) (by decide +kernel)
set_option maxRecDepth 20000 in
theorem gX6_at_X6_in : GoodIn wsX6_at (va_wsS RX6 48 yX6_in wsX6_in) := goodIn_app (goodIn_of _ (by decide +kernel)) ggX6_at_X6_in
theorem dX6_at_0 : decode cX6_at 0 = .ok (.aload_n 0, 1) := by decide +kernel
theorem dX6_at_1 : decode cX6_at 1 = .ok (.aload_n 0, 1) := by decide +kernel
theorem dX6_at_2 : decode cX6_at 2 = .ok (.iload_n 1, 1) := by decide +kernel
theorem dX6_at_3 : decode cX6_at 3 = .ok (.invokevirtual 68, 3) := by decide +kernel
theorem dX6_at_6 : decode cX6_at 6 = .ok (.ifCond .ne 7, 3) := by decide +kernel
theorem dX6_at_9 : decode cX6_at 9 = .ok (.iconst 1, 1) := by decide +kernel
theorem dX6_at_10 : decode cX6_at 10 = .ok (.goto 38, 3) := by decide +kernel
theorem dX6_at_13 : decode cX6_at 13 = .ok (.aload_n 0, 1) := by decide +kernel
theorem dX6_at_14 : decode cX6_at 14 = .ok (.iload_n 1, 1) := by decide +kernel
theorem dX6_at_15 : decode cX6_at 15 = .ok (.invokevirtual 72, 3) := by decide +kernel
theorem dX6_at_18 : decode cX6_at 18 = .ok (.ifCond .eq 7, 3) := by decide +kernel
theorem dX6_at_21 : decode cX6_at 21 = .ok (.iconst 2, 1) := by decide +kernel
theorem dX6_at_22 : decode cX6_at 22 = .ok (.goto 26, 3) := by decide +kernel
theorem dX6_at_25 : decode cX6_at 25 = .ok (.iload_n 2, 1) := by decide +kernel
theorem dX6_at_26 : decode cX6_at 26 = .ok (.i2l, 1) := by decide +kernel
theorem dX6_at_27 : decode cX6_at 27 = .ok (.lconst 0, 1) := by decide +kernel
theorem dX6_at_28 : decode cX6_at 28 = .ok (.aload_n 0, 1) := by decide +kernel
theorem dX6_at_29 : decode cX6_at 29 = .ok (.getfield 16, 3) := by decide +kernel
theorem dX6_at_32 : decode cX6_at 32 = .ok (.iload_n 1, 1) := by decide +kernel
theorem dX6_at_33 : decode cX6_at 33 = .ok (.iaload, 1) := by decide +kernel
theorem dX6_at_34 : decode cX6_at 34 = .ok (.iconst 1, 1) := by decide +kernel
theorem dX6_at_35 : decode cX6_at 35 = .ok (.isub, 1) := by decide +kernel
theorem dX6_at_36 : decode cX6_at 36 = .ok (.i2l, 1) := by decide +kernel
theorem dX6_at_37 : decode cX6_at 37 = .ok (.invokestatic 48, 3) := by decide +kernel
theorem dX6_at_40 : decode cX6_at 40 = .ok (.ifCond .ne 7, 3) := by decide +kernel
theorem dX6_at_43 : decode cX6_at 43 = .ok (.iconst 1, 1) := by decide +kernel
theorem dX6_at_44 : decode cX6_at 44 = .ok (.goto 4, 3) := by decide +kernel
theorem dX6_at_47 : decode cX6_at 47 = .ok (.iconst 0, 1) := by decide +kernel
theorem dX6_at_48 : decode cX6_at 48 = .ok (.putfield 75, 3) := by decide +kernel
theorem dX6_at_51 : decode cX6_at 51 = .ok (.aload_n 0, 1) := by decide +kernel
theorem dX6_at_52 : decode cX6_at 52 = .ok (.getfield 75, 3) := by decide +kernel
theorem dX6_at_55 : decode cX6_at 55 = .ok (.ifCond .le 7, 3) := by decide +kernel
theorem dX6_at_58 : decode cX6_at 58 = .ok (.lconst 0, 1) := by decide +kernel
theorem dX6_at_59 : decode cX6_at 59 = .ok (.goto 14, 3) := by decide +kernel
theorem dX6_at_62 : decode cX6_at 62 = .ok (.aload_n 0, 1) := by decide +kernel
theorem dX6_at_63 : decode cX6_at 63 = .ok (.getfield 19, 3) := by decide +kernel
theorem dX6_at_66 : decode cX6_at 66 = .ok (.bipush 12, 2) := by decide +kernel
theorem dX6_at_68 : decode cX6_at 68 = .ok (.iload_n 1, 1) := by decide +kernel
theorem dX6_at_69 : decode cX6_at 69 = .ok (.imul, 1) := by decide +kernel
theorem dX6_at_70 : decode cX6_at 70 = .ok (.iload_n 2, 1) := by decide +kernel
theorem dX6_at_71 : decode cX6_at 71 = .ok (.iadd, 1) := by decide +kernel
theorem dX6_at_72 : decode cX6_at 72 = .ok (.laload, 1) := by decide +kernel
theorem dX6_at_73 : decode cX6_at 73 = .ok (.lreturn, 1) := by decide +kernel
set_option maxRecDepth 20000 in
theorem ggX6_told_X6_isNumber : GoodIn wsX6_told wsX6_isNumber := goodIn_r _ [10, 11, 12, 13, 9, 14, 19, 20, 21, 22, 23, 24, 25, 26, 27, 28, 29, 30, 31, 32, 33, 34, 35, 36, 37, 38, 39, 40, 41, 42] (by decide +kernel) (by decide +kernel)
set_option maxRecDepth 20000 in
theorem gX6_told_X6_isNumber : GoodIn wsX6_told (wsV RX6 68 RX6 yX6_isNumber wsX6_isNumber) := goodIn_app (goodIn_of _ (by decide +kernel)) ggX6_told_X6_isNumber
set_option maxRecDepth 20000 in
theorem ggX6_told_X6_in : GoodIn wsX6_told wsX6_in := goodIn_r _ [14] (by decide +kernel) (by decide +kernel)
set_option maxRecDepth 20000 in
theorem gX6_told_X6_in : GoodIn wsX6_told (va_wsS RX6 48 yX6_in wsX6_in) := goodIn_app (goodIn_of _ (by decide +kernel)) ggX6_told_X6_in
set_option maxRecDepth 20000 in
theorem ggX6_told_X6_isNothing : GoodIn wsX6_told wsX6_isNothing := goodIn_r _ [18, 4, 19, 20, 21, 22, 23, 24, 25, 26, 27, 28, 29, 30, 31, 32, 33, 34, 35, 36, 37, 38, 39, 40, 41, 42] (by decide +kernel) (by decide +kernel)
set_option maxRecDepth 20000 in
theorem gX6_told_X6_isNothing : GoodIn wsX6_told (wsV RX6 72 RX6 yX6_isNothing wsX6_isNothing) := goodIn_app (goodIn_of _ (by decide +kernel)) ggX6_told_X6_isNothing
theorem dX6_told_0 : decode cX6_told 0 = .ok (.aload_n 0, 1) := by decide +kernel
theorem dX6_told_1 : decode cX6_told 1 = .ok (.iload_n 1, 1) := by decide +kernel
theorem dX6_told_2 : decode cX6_told 2 = .ok (.invokevirtual 68, 3) := by decide +kernel
theorem dX6_told_5 : decode cX6_told 5 = .ok (.ifCond .ne 6, 3) := by decide +kernel
theorem dX6_told_8 : decode cX6_told 8 = .ok (.bipush (-2), 2) := by decide +kernel
theorem dX6_told_10 : decode cX6_told 10 = .ok (.ireturn, 1) := by decide +kernel
theorem dX6_told_11 : decode cX6_told 11 = .ok (.iload_n 2, 1) := by decide +kernel
theorem dX6_told_12 : decode cX6_told 12 = .ok (.i2l, 1) := by decide +kernel
theorem dX6_told_13 : decode cX6_told 13 = .ok (.lconst 0, 1) := by decide +kernel
theorem dX6_told_14 : decode cX6_told 14 = .ok (.ldc2_w 58, 3) := by decide +kernel
theorem dX6_told_17 : decode cX6_told 17 = .ok (.invokestatic 48, 3) := by decide +kernel
theorem dX6_told_20 : decode cX6_told 20 = .ok (.ifCond .ne 6, 3) := by decide +kernel
theorem dX6_told_23 : decode cX6_told 23 = .ok (.bipush (-3), 2) := by decide +kernel
theorem dX6_told_25 : decode cX6_told 25 = .ok (.ireturn, 1) := by decide +kernel
theorem dX6_told_26 : decode cX6_told 26 = .ok (.aload_n 0, 1) := by decide +kernel
theorem dX6_told_27 : decode cX6_told 27 = .ok (.iload_n 1, 1) := by decide +kernel
theorem dX6_told_28 : decode cX6_told 28 = .ok (.invokevirtual 72, 3) := by decide +kernel
theorem dX6_told_31 : decode cX6_told 31 = .ok (.ifCond .eq 6, 3) := by decide +kernel
theorem dX6_told_34 : decode cX6_told 34 = .ok (.bipush (-11), 2) := by decide +kernel
theorem dX6_told_36 : decode cX6_told 36 = .ok (.ireturn, 1) := by decide +kernel
theorem dX6_told_37 : decode cX6_told 37 = .ok (.iconst 1, 1) := by decide +kernel
theorem dX6_told_38 : decode cX6_told 38 = .ok (.istore_n 3, 1) := by decide +kernel
theorem dX6_told_39 : decode cX6_told 39 = .ok (.iconst 0, 1) := by decide +kernel
theorem dX6_told_40 : decode cX6_told 40 = .ok (.istore 4, 2) := by decide +kernel
theorem dX6_told_42 : decode cX6_told 42 = .ok (.iload 4, 2) := by decide +kernel
theorem dX6_told_44 : decode cX6_told 44 = .ok (.aload_n 0, 1) := by decide +kernel
theorem dX6_told_45 : decode cX6_told 45 = .ok (.getfield 13, 3) := by decide +kernel
theorem dX6_told_48 : decode cX6_told 48 = .ok (.iload_n 1, 1) := by decide +kernel
theorem dX6_told_49 : decode cX6_told 49 = .ok (.iaload, 1) := by decide +kernel
theorem dX6_told_50 : decode cX6_told 50 = .ok (.if_icmp .ge 36, 3) := by decide +kernel
theorem dX6_told_53 : decode cX6_told 53 = .ok (.iload_n 3, 1) := by decide +kernel
theorem dX6_told_54 : decode cX6_told 54 = .ok (.ifCond .eq 24, 3) := by decide +kernel
theorem dX6_told_57 : decode cX6_told 57 = .ok (.aload_n 0, 1) := by decide +kernel
theorem dX6_told_58 : decode cX6_told 58 = .ok (.getfield 19, 3) := by decide +kernel
theorem dX6_told_61 : decode cX6_told 61 = .ok (.bipush 12, 2) := by decide +kernel
theorem dX6_told_63 : decode cX6_told 63 = .ok (.iload_n 1, 1) := by decide +kernel
theorem dX6_told_64 : decode cX6_told 64 = .ok (.imul, 1) := by decide +kernel
theorem dX6_told_65 : decode cX6_told 65 = .ok (.iload 4, 2) := by decide +kernel
theorem dX6_told_67 : decode cX6_told 67 = .ok (.iadd, 1) := by decide +kernel
theorem dX6_told_68 : decode cX6_told 68 = .ok (.laload, 1) := by decide +kernel
theorem dX6_told_69 : decode cX6_told 69 = .ok (.lconst 0, 1) := by decide +kernel
theorem dX6_told_70 : decode cX6_told 70 = .ok (.lcmp, 1) := by decide +kernel
theorem dX6_told_71 : decode cX6_told 71 = .ok (.ifCond .lt 7, 3) := by decide +kernel
theorem dX6_told_74 : decode cX6_told 74 = .ok (.iconst 1, 1) := by decide +kernel
theorem dX6_told_75 : decode cX6_told 75 = .ok (.goto 4, 3) := by decide +kernel
theorem dX6_told_78 : decode cX6_told 78 = .ok (.iconst 0, 1) := by decide +kernel
theorem dX6_told_79 : decode cX6_told 79 = .ok (.istore_n 3, 1) := by decide +kernel
theorem dX6_told_80 : decode cX6_told 80 = .ok (.iinc 4 1, 3) := by decide +kernel
theorem dX6_told_83 : decode cX6_told 83 = .ok (.goto (-41), 3) := by decide +kernel
theorem dX6_told_86 : decode cX6_told 86 = .ok (.iload_n 2, 1) := by decide +kernel
theorem dX6_told_87 : decode cX6_told 87 = .ok (.ifCond .ne 12, 3) := by decide +kernel
theorem dX6_told_90 : decode cX6_told 90 = .ok (.aload_n 0, 1) := by decide +kernel
theorem dX6_told_91 : decode cX6_told 91 = .ok (.getfield 7, 3) := by decide +kernel
theorem dX6_told_94 : decode cX6_told 94 = .ok (.iload_n 1, 1) := by decide +kernel
theorem dX6_told_95 : decode cX6_told 95 = .ok (.iaload, 1) := by decide +kernel
theorem dX6_told_96 : decode cX6_told 96 = .ok (.goto 40, 3) := by decide +kernel
theorem dX6_told_99 : decode cX6_told 99 = .ok (.iload_n 2, 1) := by decide +kernel
theorem dX6_told_100 : decode cX6_told 100 = .ok (.iconst 1, 1) := by decide +kernel
theorem dX6_told_101 : decode cX6_told 101 = .ok (.if_icmp .ne 12, 3) := by decide +kernel
theorem dX6_told_104 : decode cX6_told 104 = .ok (.aload_n 0, 1) := by decide +kernel
theorem dX6_told_105 : decode cX6_told 105 = .ok (.getfield 13, 3) := by decide +kernel
theorem dX6_told_108 : decode cX6_told 108 = .ok (.iload_n 1, 1) := by decide +kernel
theorem dX6_told_109 : decode cX6_told 109 = .ok (.iaload, 1) := by decide +kernel
theorem dX6_told_110 : decode cX6_told 110 = .ok (.goto 26, 3) := by decide +kernel
theorem dX6_told_113 : decode cX6_told 113 = .ok (.iload_n 2, 1) := by decide +kernel
theorem dX6_told_114 : decode cX6_told 114 = .ok (.iconst 2, 1) := by decide +kernel
theorem dX6_told_115 : decode cX6_told 115 = .ok (.if_icmp .ne 12, 3) := by decide +kernel
theorem dX6_told_118 : decode cX6_told 118 = .ok (.aload_n 0, 1) := by decide +kernel
theorem dX6_told_119 : decode cX6_told 119 = .ok (.getfield 16, 3) := by decide +kernel
theorem dX6_told_122 : decode cX6_told 122 = .ok (.iload_n 1, 1) := by decide +kernel
theorem dX6_told_123 : decode cX6_told 123 = .ok (.iaload, 1) := by decide +kernel
theorem dX6_told_124 : decode cX6_told 124 = .ok (.goto 12, 3) := by decide +kernel
theorem dX6_told_127 : decode cX6_told 127 = .ok (.iload_n 3, 1) := by decide +kernel
theorem dX6_told_128 : decode cX6_told 128 = .ok (.ifCond .eq 7, 3) := by decide +kernel
theorem dX6_told_131 : decode cX6_told 131 = .ok (.iconst 1, 1) := by decide +kernel
theorem dX6_told_132 : decode cX6_told 132 = .ok (.goto 4, 3) := by decide +kernel
theorem dX6_told_135 : decode cX6_told 135 = .ok (.iconst 0, 1) := by decide +kernel
theorem dX6_told_136 : decode cX6_told 136 = .ok (.ireturn, 1) := by decide +kernel
theorem dX6_zero_0 : decode cX6_zero 0 = .ok (.aload_n 0, 1) := by decide +kernel
theorem dX6_zero_1 : decode cX6_zero 1 = .ok (.lconst 0, 1) := by decide +kernel
theorem dX6_zero_2 : decode cX6_zero 2 = .ok (.putfield 78, 3) := by decide +kernel
theorem dX6_zero_5 : decode cX6_zero 5 = .ok (.aload_n 0, 1) := by decide +kernel
theorem dX6_zero_6 : decode cX6_zero 6 = .ok (.lconst 0, 1) := by decide +kernel
theorem dX6_zero_7 : decode cX6_zero 7 = .ok (.putfield 82, 3) := by decide +kernel
theorem dX6_zero_10 : decode cX6_zero 10 = .ok (.return_, 1) := by decide +kernel
theorem dX6_add_0 : decode cX6_add 0 = .ok (.aload_n 0, 1) := by decide +kernel
theorem dX6_add_1 : decode cX6_add 1 = .ok (.dup, 1) := by decide +kernel
theorem dX6_add_2 : decode cX6_add 2 = .ok (.getfield 78, 3) := by decide +kernel
theorem dX6_add_5 : decode cX6_add 5 = .ok (.lload_n 1, 1) := by decide +kernel
theorem dX6_add_6 : decode cX6_add 6 = .ok (.bipush 32, 2) := by decide +kernel
theorem dX6_add_8 : decode cX6_add 8 = .ok (.lshr, 1) := by decide +kernel
theorem dX6_add_9 : decode cX6_add 9 = .ok (.lload_n 3, 1) := by decide +kernel
theorem dX6_add_10 : decode cX6_add 10 = .ok (.lmul, 1) := by decide +kernel
theorem dX6_add_11 : decode cX6_add 11 = .ok (.ladd, 1) := by decide +kernel
theorem dX6_add_12 : decode cX6_add 12 = .ok (.putfield 78, 3) := by decide +kernel
theorem dX6_add_15 : decode cX6_add 15 = .ok (.aload_n 0, 1) := by decide +kernel
theorem dX6_add_16 : decode cX6_add 16 = .ok (.dup, 1) := by decide +kernel
theorem dX6_add_17 : decode cX6_add 17 = .ok (.getfield 82, 3) := by decide +kernel
theorem dX6_add_20 : decode cX6_add 20 = .ok (.lload_n 1, 1) := by decide +kernel
theorem dX6_add_21 : decode cX6_add 21 = .ok (.ldc2_w 85, 3) := by decide +kernel
theorem dX6_add_24 : decode cX6_add 24 = .ok (.land, 1) := by decide +kernel
theorem dX6_add_25 : decode cX6_add 25 = .ok (.lload_n 3, 1) := by decide +kernel
theorem dX6_add_26 : decode cX6_add 26 = .ok (.lmul, 1) := by decide +kernel
theorem dX6_add_27 : decode cX6_add 27 = .ok (.ladd, 1) := by decide +kernel
theorem dX6_add_28 : decode cX6_add 28 = .ok (.putfield 82, 3) := by decide +kernel
theorem dX6_add_31 : decode cX6_add 31 = .ok (.aload_n 0, 1) := by decide +kernel
theorem dX6_add_32 : decode cX6_add 32 = .ok (.dup, 1) := by decide +kernel
theorem dX6_add_33 : decode cX6_add 33 = .ok (.getfield 78, 3) := by decide +kernel
theorem dX6_add_36 : decode cX6_add 36 = .ok (.aload_n 0, 1) := by decide +kernel
theorem dX6_add_37 : decode cX6_add 37 = .ok (.getfield 82, 3) := by decide +kernel
theorem dX6_add_40 : decode cX6_add 40 = .ok (.bipush 32, 2) := by decide +kernel
theorem dX6_add_42 : decode cX6_add 42 = .ok (.lshr, 1) := by decide +kernel
theorem dX6_add_43 : decode cX6_add 43 = .ok (.ladd, 1) := by decide +kernel
theorem dX6_add_44 : decode cX6_add 44 = .ok (.putfield 78, 3) := by decide +kernel
theorem dX6_add_47 : decode cX6_add 47 = .ok (.aload_n 0, 1) := by decide +kernel
theorem dX6_add_48 : decode cX6_add 48 = .ok (.aload_n 0, 1) := by decide +kernel
theorem dX6_add_49 : decode cX6_add 49 = .ok (.getfield 82, 3) := by decide +kernel
theorem dX6_add_52 : decode cX6_add 52 = .ok (.ldc2_w 85, 3) := by decide +kernel
theorem dX6_add_55 : decode cX6_add 55 = .ok (.land, 1) := by decide +kernel
theorem dX6_add_56 : decode cX6_add 56 = .ok (.putfield 82, 3) := by decide +kernel
theorem dX6_add_59 : decode cX6_add 59 = .ok (.return_, 1) := by decide +kernel
set_option maxRecDepth 20000 in
theorem ggX6_fits_X6_in : GoodIn wsX6_fits wsX6_in := goodIn_r _ [7] (by decide +kernel) (by decide +kernel)
set_option maxRecDepth 20000 in
theorem gX6_fits_X6_in : GoodIn wsX6_fits (va_wsS RX6 48 yX6_in wsX6_in) := goodIn_app (goodIn_of _ (by decide +kernel)) ggX6_fits_X6_in
theorem dX6_fits_0 : decode cX6_fits 0 = .ok (.aload_n 0, 1) := by decide +kernel
theorem dX6_fits_1 : decode cX6_fits 1 = .ok (.getfield 78, 3) := by decide +kernel
theorem dX6_fits_4 : decode cX6_fits 4 = .ok (.ldc2_w 87, 3) := by decide +kernel
theorem dX6_fits_7 : decode cX6_fits 7 = .ok (.ldc2_w 89, 3) := by decide +kernel
theorem dX6_fits_10 : decode cX6_fits 10 = .ok (.invokestatic 48, 3) := by decide +kernel
theorem dX6_fits_13 : decode cX6_fits 13 = .ok (.ireturn, 1) := by decide +kernel
theorem dX6_number_0 : decode cX6_number 0 = .ok (.aload_n 0, 1) := by decide +kernel
theorem dX6_number_1 : decode cX6_number 1 = .ok (.getfield 78, 3) := by decide +kernel
theorem dX6_number_4 : decode cX6_number 4 = .ok (.bipush 32, 2) := by decide +kernel
theorem dX6_number_6 : decode cX6_number 6 = .ok (.lshl, 1) := by decide +kernel
theorem dX6_number_7 : decode cX6_number 7 = .ok (.aload_n 0, 1) := by decide +kernel
theorem dX6_number_8 : decode cX6_number 8 = .ok (.getfield 82, 3) := by decide +kernel
theorem dX6_number_11 : decode cX6_number 11 = .ok (.ladd, 1) := by decide +kernel
theorem dX6_number_12 : decode cX6_number 12 = .ok (.lreturn, 1) := by decide +kernel
theorem dX6_compare_0 : decode cX6_compare 0 = .ok (.iconst 0, 1) := by decide +kernel
theorem dX6_compare_1 : decode cX6_compare 1 = .ok (.istore 6, 2) := by decide +kernel
theorem dX6_compare_3 : decode cX6_compare 3 = .ok (.iload 6, 2) := by decide +kernel
theorem dX6_compare_5 : decode cX6_compare 5 = .ok (.iload 5, 2) := by decide +kernel
theorem dX6_compare_7 : decode cX6_compare 7 = .ok (.if_icmp .ge 49, 3) := by decide +kernel
theorem dX6_compare_10 : decode cX6_compare 10 = .ok (.aload_n 1, 1) := by decide +kernel
theorem dX6_compare_11 : decode cX6_compare 11 = .ok (.iload_n 2, 1) := by decide +kernel
theorem dX6_compare_12 : decode cX6_compare 12 = .ok (.iload 6, 2) := by decide +kernel
theorem dX6_compare_14 : decode cX6_compare 14 = .ok (.iadd, 1) := by decide +kernel
theorem dX6_compare_15 : decode cX6_compare 15 = .ok (.laload, 1) := by decide +kernel
theorem dX6_compare_16 : decode cX6_compare 16 = .ok (.aload_n 3, 1) := by decide +kernel
theorem dX6_compare_17 : decode cX6_compare 17 = .ok (.iload 4, 2) := by decide +kernel
theorem dX6_compare_19 : decode cX6_compare 19 = .ok (.iload 6, 2) := by decide +kernel
theorem dX6_compare_21 : decode cX6_compare 21 = .ok (.iadd, 1) := by decide +kernel
theorem dX6_compare_22 : decode cX6_compare 22 = .ok (.laload, 1) := by decide +kernel
theorem dX6_compare_23 : decode cX6_compare 23 = .ok (.lcmp, 1) := by decide +kernel
theorem dX6_compare_24 : decode cX6_compare 24 = .ok (.ifCond .eq 26, 3) := by decide +kernel
theorem dX6_compare_27 : decode cX6_compare 27 = .ok (.aload_n 1, 1) := by decide +kernel
theorem dX6_compare_28 : decode cX6_compare 28 = .ok (.iload_n 2, 1) := by decide +kernel
theorem dX6_compare_29 : decode cX6_compare 29 = .ok (.iload 6, 2) := by decide +kernel
theorem dX6_compare_31 : decode cX6_compare 31 = .ok (.iadd, 1) := by decide +kernel
theorem dX6_compare_32 : decode cX6_compare 32 = .ok (.laload, 1) := by decide +kernel
theorem dX6_compare_33 : decode cX6_compare 33 = .ok (.aload_n 3, 1) := by decide +kernel
theorem dX6_compare_34 : decode cX6_compare 34 = .ok (.iload 4, 2) := by decide +kernel
theorem dX6_compare_36 : decode cX6_compare 36 = .ok (.iload 6, 2) := by decide +kernel
theorem dX6_compare_38 : decode cX6_compare 38 = .ok (.iadd, 1) := by decide +kernel
theorem dX6_compare_39 : decode cX6_compare 39 = .ok (.laload, 1) := by decide +kernel
theorem dX6_compare_40 : decode cX6_compare 40 = .ok (.lcmp, 1) := by decide +kernel
theorem dX6_compare_41 : decode cX6_compare 41 = .ok (.ifCond .ge 7, 3) := by decide +kernel
theorem dX6_compare_44 : decode cX6_compare 44 = .ok (.iconst (-1), 1) := by decide +kernel
theorem dX6_compare_45 : decode cX6_compare 45 = .ok (.goto 4, 3) := by decide +kernel
theorem dX6_compare_48 : decode cX6_compare 48 = .ok (.iconst 1, 1) := by decide +kernel
theorem dX6_compare_49 : decode cX6_compare 49 = .ok (.ireturn, 1) := by decide +kernel
theorem dX6_compare_50 : decode cX6_compare 50 = .ok (.iinc 6 1, 3) := by decide +kernel
theorem dX6_compare_53 : decode cX6_compare 53 = .ok (.goto (-50), 3) := by decide +kernel
theorem dX6_compare_56 : decode cX6_compare 56 = .ok (.iconst 0, 1) := by decide +kernel
theorem dX6_compare_57 : decode cX6_compare 57 = .ok (.ireturn, 1) := by decide +kernel
set_option maxRecDepth 20000 in
theorem ggX6_refusal_X6_isNothing : GoodIn wsX6_refusal wsX6_isNothing := goodIn_r _ [5, 6, 13, 14, 15, 16, 17, 18, 19, 20, 21, 22, 23, 24, 25, 26, 27, 28, 29, 30, 31, 32, 33, 34, 35, 36] (by decide +kernel) (by decide +kernel)
set_option maxRecDepth 20000 in
theorem gX6_refusal_X6_isNothing : GoodIn wsX6_refusal (wsV RX6 72 RX6 yX6_isNothing wsX6_isNothing) := goodIn_app (goodIn_of _ (by decide +kernel)) ggX6_refusal_X6_isNothing
set_option maxRecDepth 20000 in
theorem ggX6_refusal_X6_areLike : GoodIn wsX6_refusal wsX6_areLike := goodIn_r _ [10, 6, 11, 12, 13, 14, 15, 16, 17, 18, 19, 20, 21, 22, 23, 24, 25, 26, 27, 28, 29, 30, 31, 32, 33, 34, 35, 36] (by decide +kernel) (by decide +kernel)
set_option maxRecDepth 20000 in
theorem gX6_refusal_X6_areLike : GoodIn wsX6_refusal (wsV RX6 91 RX6 yX6_areLike wsX6_areLike) := goodIn_app (goodIn_of _ (by decide +kernel)) ggX6_refusal_X6_areLike
theorem dX6_refusal_0 : decode cX6_refusal 0 = .ok (.aload_n 0, 1) := by decide +kernel
theorem dX6_refusal_1 : decode cX6_refusal 1 = .ok (.iload_n 1, 1) := by decide +kernel
theorem dX6_refusal_2 : decode cX6_refusal 2 = .ok (.invokevirtual 72, 3) := by decide +kernel
theorem dX6_refusal_5 : decode cX6_refusal 5 = .ok (.ifCond .ne 11, 3) := by decide +kernel
theorem dX6_refusal_8 : decode cX6_refusal 8 = .ok (.aload_n 0, 1) := by decide +kernel
theorem dX6_refusal_9 : decode cX6_refusal 9 = .ok (.iload_n 2, 1) := by decide +kernel
theorem dX6_refusal_10 : decode cX6_refusal 10 = .ok (.invokevirtual 72, 3) := by decide +kernel
theorem dX6_refusal_13 : decode cX6_refusal 13 = .ok (.ifCond .eq 8, 3) := by decide +kernel
theorem dX6_refusal_16 : decode cX6_refusal 16 = .ok (.bipush (-11), 2) := by decide +kernel
theorem dX6_refusal_18 : decode cX6_refusal 18 = .ok (.goto 18, 3) := by decide +kernel
theorem dX6_refusal_21 : decode cX6_refusal 21 = .ok (.aload_n 0, 1) := by decide +kernel
theorem dX6_refusal_22 : decode cX6_refusal 22 = .ok (.iload_n 1, 1) := by decide +kernel
theorem dX6_refusal_23 : decode cX6_refusal 23 = .ok (.iload_n 2, 1) := by decide +kernel
theorem dX6_refusal_24 : decode cX6_refusal 24 = .ok (.invokevirtual 91, 3) := by decide +kernel
theorem dX6_refusal_27 : decode cX6_refusal 27 = .ok (.ifCond .eq 7, 3) := by decide +kernel
theorem dX6_refusal_30 : decode cX6_refusal 30 = .ok (.iconst 0, 1) := by decide +kernel
theorem dX6_refusal_31 : decode cX6_refusal 31 = .ok (.goto 5, 3) := by decide +kernel
theorem dX6_refusal_34 : decode cX6_refusal 34 = .ok (.bipush (-12), 2) := by decide +kernel
theorem dX6_refusal_36 : decode cX6_refusal 36 = .ok (.ireturn, 1) := by decide +kernel
set_option maxRecDepth 20000 in
theorem ggX6_act_X6_isNumber : GoodIn wsX6_act wsX6_isNumber := goodIn_r _ [12, 2, 13, 14, 11, 15, 61, 62, 63, 64, 65, 66, 67, 68, 69, 70, 71, 72, 73, 74, 75, 76, 77, 78, 79, 80, 81, 82, 83, 84] (by decide +kernel) (by decide +kernel)
set_option maxRecDepth 20000 in
theorem gX6_act_X6_isNumber : GoodIn wsX6_act (wsV RX6 68 RX6 yX6_isNumber wsX6_isNumber) := goodIn_app (goodIn_of _ (by decide +kernel)) ggX6_act_X6_isNumber
set_option maxRecDepth 20000 in
theorem ggX6_act_X6_in : GoodIn wsX6_act wsX6_in := goodIn_r _ [15] (by decide +kernel) (by decide +kernel)
set_option maxRecDepth 20000 in
theorem gX6_act_X6_in : GoodIn wsX6_act (va_wsS RX6 48 yX6_in wsX6_in) := goodIn_app (goodIn_of _ (by decide +kernel)) ggX6_act_X6_in
set_option maxRecDepth 20000 in
theorem ggX6_act_X6_refusal : GoodIn wsX6_act wsX6_refusal := goodIn_r _ [19, 20, 21, 22, 11, 23, 3, 24, 25, 26, 27, 4, 5, 61, 62, 63, 64, 65, 66, 67, 68, 69, 70, 71, 72, 73, 74, 75, 76, 77, 78, 79, 80, 81, 82, 83, 84] (by decide +kernel) (by decide +kernel)
set_option maxRecDepth 20000 in
theorem gX6_act_X6_refusal : GoodIn wsX6_act (wsV RX6 97 RX6 yX6_refusal wsX6_refusal) := goodIn_app (goodIn_of _ (by decide +kernel)) ggX6_act_X6_refusal
set_option maxRecDepth 20000 in
theorem ggX6_act_X6_lay : GoodIn wsX6_act wsX6_lay := goodIn_r _ [31, 3, 2, 4, 5, 6, 61, 62, 63, 64, 65, 66, 67, 68, 69, 70, 71, 72, 73, 74, 75, 76, 77, 78, 79, 80, 81, 82, 83, 84] (by decide +kernel) (by decide +kernel)
set_option maxRecDepth 20000 in
theorem gX6_act_X6_lay : GoodIn wsX6_act (wsV RX6 60 RX6 yX6_lay wsX6_lay) := goodIn_app (goodIn_of _ (by decide +kernel)) ggX6_act_X6_lay
set_option maxRecDepth 20000 in
theorem ggX6_act_X6_compare : GoodIn wsX6_act wsX6_compare := goodIn_r _ [35] (by decide +kernel) (by decide +kernel)
set_option maxRecDepth 20000 in
theorem gX6_act_X6_compare : GoodIn wsX6_act (wsV RX6 101 RX6 yX6_compare wsX6_compare) := goodIn_app (goodIn_of _ (by decide +kernel)) ggX6_act_X6_compare
set_option maxRecDepth 20000 in
theorem ggX6_act_X6_zero : GoodIn wsX6_act wsX6_zero := goodIn_r _ [39, 40, 41, 61, 62, 63, 64, 65, 66, 67, 68, 69, 70, 71, 72, 73, 74, 75, 76, 77, 78, 79, 80, 81, 82, 83, 84] (by decide +kernel) (by decide +kernel)
set_option maxRecDepth 20000 in
theorem gX6_act_X6_zero : GoodIn wsX6_act (wsV RX6 105 RX6 yX6_zero wsX6_zero) := goodIn_app (goodIn_of _ (by decide +kernel)) ggX6_act_X6_zero
set_option maxRecDepth 20000 in
theorem ggX6_act_X6_add : GoodIn wsX6_act wsX6_add := goodIn_r _ [45, 40, 41, 46, 61, 62, 63, 64, 65, 66, 67, 68, 69, 70, 71, 72, 73, 74, 75, 76, 77, 78, 79, 80, 81, 82, 83, 84] (by decide +kernel) (by decide +kernel)
set_option maxRecDepth 20000 in
theorem gX6_act_X6_add : GoodIn wsX6_act (wsV RX6 108 RX6 yX6_add wsX6_add) := goodIn_app (goodIn_of _ (by decide +kernel)) ggX6_act_X6_add
set_option maxRecDepth 20000 in
theorem ggX6_act_X6_fits : GoodIn wsX6_act wsX6_fits := goodIn_r _ [50, 40, 51, 52, 13, 14, 11, 15, 61, 62, 63, 64, 65, 66, 67, 68, 69, 70, 71, 72, 73, 74, 75, 76, 77, 78, 79, 80, 81, 82, 83, 84] (by decide +kernel) (by decide +kernel)
set_option maxRecDepth 20000 in
theorem gX6_act_X6_fits : GoodIn wsX6_act (wsV RX6 114 RX6 yX6_fits wsX6_fits) := goodIn_app (goodIn_of _ (by decide +kernel)) ggX6_act_X6_fits
set_option maxRecDepth 20000 in
theorem ggX6_act_X6_number : GoodIn wsX6_act wsX6_number := goodIn_r _ [56, 40, 41, 61, 62, 63, 64, 65, 66, 67, 68, 69, 70, 71, 72, 73, 74, 75, 76, 77, 78, 79, 80, 81, 82, 83, 84] (by decide +kernel) (by decide +kernel)
set_option maxRecDepth 20000 in
theorem gX6_act_X6_number : GoodIn wsX6_act (wsV RX6 118 RX6 yX6_number wsX6_number) := goodIn_app (goodIn_of _ (by decide +kernel)) ggX6_act_X6_number
set_option maxRecDepth 20000 in
theorem ggX6_act_X6_keepScore : GoodIn wsX6_act wsX6_keepScore := goodIn_r _ [60, 2, 61, 62, 63, 64, 65, 66, 67, 68, 69, 70, 71, 72, 73, 74, 75, 76, 77, 78, 79, 80, 81, 82, 83, 84] (by decide +kernel) (by decide +kernel)
set_option maxRecDepth 20000 in
theorem gX6_act_X6_keepScore : GoodIn wsX6_act (wsV RX6 64 RX6 yX6_keepScore wsX6_keepScore) := goodIn_app (goodIn_of _ (by decide +kernel)) ggX6_act_X6_keepScore
theorem dX6_act_0 : decode cX6_act 0 = .ok (.aload_n 0, 1) := by decide +kernel
theorem dX6_act_1 : decode cX6_act 1 = .ok (.iload_n 2, 1) := by decide +kernel
theorem dX6_act_2 : decode cX6_act 2 = .ok (.invokevirtual 68, 3) := by decide +kernel
theorem dX6_act_5 : decode cX6_act 5 = .ok (.ifCond .eq 11, 3) := by decide +kernel
theorem dX6_act_8 : decode cX6_act 8 = .ok (.aload_n 0, 1) := by decide +kernel
theorem dX6_act_9 : decode cX6_act 9 = .ok (.iload_n 3, 1) := by decide +kernel
theorem dX6_act_10 : decode cX6_act 10 = .ok (.invokevirtual 68, 3) := by decide +kernel
theorem dX6_act_13 : decode cX6_act 13 = .ok (.ifCond .ne 6, 3) := by decide +kernel
theorem dX6_act_16 : decode cX6_act 16 = .ok (.bipush (-2), 2) := by decide +kernel
theorem dX6_act_18 : decode cX6_act 18 = .ok (.ireturn, 1) := by decide +kernel
theorem dX6_act_19 : decode cX6_act 19 = .ok (.iload_n 1, 1) := by decide +kernel
theorem dX6_act_20 : decode cX6_act 20 = .ok (.i2l, 1) := by decide +kernel
theorem dX6_act_21 : decode cX6_act 21 = .ok (.lconst 0, 1) := by decide +kernel
theorem dX6_act_22 : decode cX6_act 22 = .ok (.ldc2_w 95, 3) := by decide +kernel
theorem dX6_act_25 : decode cX6_act 25 = .ok (.invokestatic 48, 3) := by decide +kernel
theorem dX6_act_28 : decode cX6_act 28 = .ok (.ifCond .ne 6, 3) := by decide +kernel
theorem dX6_act_31 : decode cX6_act 31 = .ok (.bipush (-3), 2) := by decide +kernel
theorem dX6_act_33 : decode cX6_act 33 = .ok (.ireturn, 1) := by decide +kernel
theorem dX6_act_34 : decode cX6_act 34 = .ok (.aload_n 0, 1) := by decide +kernel
theorem dX6_act_35 : decode cX6_act 35 = .ok (.getfield 45, 3) := by decide +kernel
theorem dX6_act_38 : decode cX6_act 38 = .ok (.bipush 60, 2) := by decide +kernel
theorem dX6_act_40 : decode cX6_act 40 = .ok (.if_icmp .ne 6, 3) := by decide +kernel
theorem dX6_act_43 : decode cX6_act 43 = .ok (.bipush (-4), 2) := by decide +kernel
theorem dX6_act_45 : decode cX6_act 45 = .ok (.ireturn, 1) := by decide +kernel
theorem dX6_act_46 : decode cX6_act 46 = .ok (.aload_n 0, 1) := by decide +kernel
theorem dX6_act_47 : decode cX6_act 47 = .ok (.iload_n 2, 1) := by decide +kernel
theorem dX6_act_48 : decode cX6_act 48 = .ok (.iload_n 3, 1) := by decide +kernel
theorem dX6_act_49 : decode cX6_act 49 = .ok (.invokevirtual 97, 3) := by decide +kernel
theorem dX6_act_52 : decode cX6_act 52 = .ok (.istore 4, 2) := by decide +kernel
theorem dX6_act_54 : decode cX6_act 54 = .ok (.iload 4, 2) := by decide +kernel
theorem dX6_act_56 : decode cX6_act 56 = .ok (.ifCond .ge 6, 3) := by decide +kernel
theorem dX6_act_59 : decode cX6_act 59 = .ok (.iload 4, 2) := by decide +kernel
theorem dX6_act_61 : decode cX6_act 61 = .ok (.ireturn, 1) := by decide +kernel
theorem dX6_act_62 : decode cX6_act 62 = .ok (.aload_n 0, 1) := by decide +kernel
theorem dX6_act_63 : decode cX6_act 63 = .ok (.aload_n 0, 1) := by decide +kernel
theorem dX6_act_64 : decode cX6_act 64 = .ok (.getfield 7, 3) := by decide +kernel
theorem dX6_act_67 : decode cX6_act 67 = .ok (.iload_n 2, 1) := by decide +kernel
theorem dX6_act_68 : decode cX6_act 68 = .ok (.iaload, 1) := by decide +kernel
theorem dX6_act_69 : decode cX6_act 69 = .ok (.aload_n 0, 1) := by decide +kernel
theorem dX6_act_70 : decode cX6_act 70 = .ok (.getfield 13, 3) := by decide +kernel
theorem dX6_act_73 : decode cX6_act 73 = .ok (.iload_n 2, 1) := by decide +kernel
theorem dX6_act_74 : decode cX6_act 74 = .ok (.iaload, 1) := by decide +kernel
theorem dX6_act_75 : decode cX6_act 75 = .ok (.aload_n 0, 1) := by decide +kernel
theorem dX6_act_76 : decode cX6_act 76 = .ok (.getfield 16, 3) := by decide +kernel
theorem dX6_act_79 : decode cX6_act 79 = .ok (.iload_n 2, 1) := by decide +kernel
theorem dX6_act_80 : decode cX6_act 80 = .ok (.iaload, 1) := by decide +kernel
theorem dX6_act_81 : decode cX6_act 81 = .ok (.invokevirtual 60, 3) := by decide +kernel
theorem dX6_act_84 : decode cX6_act 84 = .ok (.aload_n 0, 1) := by decide +kernel
theorem dX6_act_85 : decode cX6_act 85 = .ok (.aload_n 0, 1) := by decide +kernel
theorem dX6_act_86 : decode cX6_act 86 = .ok (.getfield 19, 3) := by decide +kernel
theorem dX6_act_89 : decode cX6_act 89 = .ok (.bipush 12, 2) := by decide +kernel
theorem dX6_act_91 : decode cX6_act 91 = .ok (.iload_n 2, 1) := by decide +kernel
theorem dX6_act_92 : decode cX6_act 92 = .ok (.imul, 1) := by decide +kernel
theorem dX6_act_93 : decode cX6_act 93 = .ok (.aload_n 0, 1) := by decide +kernel
theorem dX6_act_94 : decode cX6_act 94 = .ok (.getfield 19, 3) := by decide +kernel
theorem dX6_act_97 : decode cX6_act 97 = .ok (.bipush 12, 2) := by decide +kernel
theorem dX6_act_99 : decode cX6_act 99 = .ok (.iload_n 3, 1) := by decide +kernel
theorem dX6_act_100 : decode cX6_act 100 = .ok (.imul, 1) := by decide +kernel
theorem dX6_act_101 : decode cX6_act 101 = .ok (.aload_n 0, 1) := by decide +kernel
theorem dX6_act_102 : decode cX6_act 102 = .ok (.getfield 16, 3) := by decide +kernel
theorem dX6_act_105 : decode cX6_act 105 = .ok (.iload_n 2, 1) := by decide +kernel
theorem dX6_act_106 : decode cX6_act 106 = .ok (.iaload, 1) := by decide +kernel
theorem dX6_act_107 : decode cX6_act 107 = .ok (.invokevirtual 101, 3) := by decide +kernel
theorem dX6_act_110 : decode cX6_act 110 = .ok (.istore 5, 2) := by decide +kernel
theorem dX6_act_112 : decode cX6_act 112 = .ok (.iload_n 1, 1) := by decide +kernel
theorem dX6_act_113 : decode cX6_act 113 = .ok (.iconst 2, 1) := by decide +kernel
theorem dX6_act_114 : decode cX6_act 114 = .ok (.if_icmp .ne 16, 3) := by decide +kernel
theorem dX6_act_117 : decode cX6_act 117 = .ok (.iload 5, 2) := by decide +kernel
theorem dX6_act_119 : decode cX6_act 119 = .ok (.ifCond .lt 7, 3) := by decide +kernel
theorem dX6_act_122 : decode cX6_act 122 = .ok (.iconst 1, 1) := by decide +kernel
theorem dX6_act_123 : decode cX6_act 123 = .ok (.goto 17, 3) := by decide +kernel
theorem dX6_act_126 : decode cX6_act 126 = .ok (.iconst 0, 1) := by decide +kernel
end
section
theorem dX6_act_127 : decode cX6_act 127 = .ok (.goto 13, 3) := by decide +kernel
theorem dX6_act_130 : decode cX6_act 130 = .ok (.iload 5, 2) := by decide +kernel
theorem dX6_act_132 : decode cX6_act 132 = .ok (.ifCond .gt 7, 3) := by decide +kernel
theorem dX6_act_135 : decode cX6_act 135 = .ok (.iconst 1, 1) := by decide +kernel
theorem dX6_act_136 : decode cX6_act 136 = .ok (.goto 4, 3) := by decide +kernel
theorem dX6_act_139 : decode cX6_act 139 = .ok (.iconst 0, 1) := by decide +kernel
theorem dX6_act_140 : decode cX6_act 140 = .ok (.istore 6, 2) := by decide +kernel
theorem dX6_act_142 : decode cX6_act 142 = .ok (.iconst 0, 1) := by decide +kernel
theorem dX6_act_143 : decode cX6_act 143 = .ok (.istore 7, 2) := by decide +kernel
theorem dX6_act_145 : decode cX6_act 145 = .ok (.iload 7, 2) := by decide +kernel
theorem dX6_act_147 : decode cX6_act 147 = .ok (.aload_n 0, 1) := by decide +kernel
theorem dX6_act_148 : decode cX6_act 148 = .ok (.getfield 16, 3) := by decide +kernel
theorem dX6_act_151 : decode cX6_act 151 = .ok (.iload_n 2, 1) := by decide +kernel
theorem dX6_act_152 : decode cX6_act 152 = .ok (.iaload, 1) := by decide +kernel
theorem dX6_act_153 : decode cX6_act 153 = .ok (.if_icmp .ge 163, 3) := by decide +kernel
theorem dX6_act_156 : decode cX6_act 156 = .ok (.aload_n 0, 1) := by decide +kernel
theorem dX6_act_157 : decode cX6_act 157 = .ok (.getfield 19, 3) := by decide +kernel
theorem dX6_act_160 : decode cX6_act 160 = .ok (.bipush 12, 2) := by decide +kernel
theorem dX6_act_162 : decode cX6_act 162 = .ok (.iload_n 2, 1) := by decide +kernel
theorem dX6_act_163 : decode cX6_act 163 = .ok (.imul, 1) := by decide +kernel
theorem dX6_act_164 : decode cX6_act 164 = .ok (.iload 7, 2) := by decide +kernel
theorem dX6_act_166 : decode cX6_act 166 = .ok (.iadd, 1) := by decide +kernel
theorem dX6_act_167 : decode cX6_act 167 = .ok (.laload, 1) := by decide +kernel
theorem dX6_act_168 : decode cX6_act 168 = .ok (.lstore 8, 2) := by decide +kernel
theorem dX6_act_170 : decode cX6_act 170 = .ok (.aload_n 0, 1) := by decide +kernel
theorem dX6_act_171 : decode cX6_act 171 = .ok (.getfield 19, 3) := by decide +kernel
theorem dX6_act_174 : decode cX6_act 174 = .ok (.bipush 12, 2) := by decide +kernel
theorem dX6_act_176 : decode cX6_act 176 = .ok (.iload_n 3, 1) := by decide +kernel
theorem dX6_act_177 : decode cX6_act 177 = .ok (.imul, 1) := by decide +kernel
theorem dX6_act_178 : decode cX6_act 178 = .ok (.iload 7, 2) := by decide +kernel
theorem dX6_act_180 : decode cX6_act 180 = .ok (.iadd, 1) := by decide +kernel
theorem dX6_act_181 : decode cX6_act 181 = .ok (.laload, 1) := by decide +kernel
theorem dX6_act_182 : decode cX6_act 182 = .ok (.lstore 10, 2) := by decide +kernel
theorem dX6_act_184 : decode cX6_act 184 = .ok (.iload_n 1, 1) := by decide +kernel
theorem dX6_act_185 : decode cX6_act 185 = .ok (.iconst 4, 1) := by decide +kernel
theorem dX6_act_186 : decode cX6_act 186 = .ok (.if_icmp .ne 21, 3) := by decide +kernel
theorem dX6_act_189 : decode cX6_act 189 = .ok (.lload 8, 2) := by decide +kernel
theorem dX6_act_191 : decode cX6_act 191 = .ok (.lload 10, 2) := by decide +kernel
theorem dX6_act_193 : decode cX6_act 193 = .ok (.lcmp, 1) := by decide +kernel
theorem dX6_act_194 : decode cX6_act 194 = .ok (.ifCond .le 8, 3) := by decide +kernel
theorem dX6_act_197 : decode cX6_act 197 = .ok (.lload 8, 2) := by decide +kernel
theorem dX6_act_199 : decode cX6_act 199 = .ok (.goto 43, 3) := by decide +kernel
theorem dX6_act_202 : decode cX6_act 202 = .ok (.lload 10, 2) := by decide +kernel
theorem dX6_act_204 : decode cX6_act 204 = .ok (.goto 38, 3) := by decide +kernel
theorem dX6_act_207 : decode cX6_act 207 = .ok (.iload_n 1, 1) := by decide +kernel
theorem dX6_act_208 : decode cX6_act 208 = .ok (.iconst 5, 1) := by decide +kernel
theorem dX6_act_209 : decode cX6_act 209 = .ok (.if_icmp .ne 21, 3) := by decide +kernel
theorem dX6_act_212 : decode cX6_act 212 = .ok (.lload 8, 2) := by decide +kernel
theorem dX6_act_214 : decode cX6_act 214 = .ok (.lload 10, 2) := by decide +kernel
theorem dX6_act_216 : decode cX6_act 216 = .ok (.lcmp, 1) := by decide +kernel
theorem dX6_act_217 : decode cX6_act 217 = .ok (.ifCond .ge 8, 3) := by decide +kernel
theorem dX6_act_220 : decode cX6_act 220 = .ok (.lload 8, 2) := by decide +kernel
theorem dX6_act_222 : decode cX6_act 222 = .ok (.goto 20, 3) := by decide +kernel
theorem dX6_act_225 : decode cX6_act 225 = .ok (.lload 10, 2) := by decide +kernel
theorem dX6_act_227 : decode cX6_act 227 = .ok (.goto 15, 3) := by decide +kernel
theorem dX6_act_230 : decode cX6_act 230 = .ok (.iload 6, 2) := by decide +kernel
theorem dX6_act_232 : decode cX6_act 232 = .ok (.ifCond .eq 8, 3) := by decide +kernel
theorem dX6_act_235 : decode cX6_act 235 = .ok (.lload 8, 2) := by decide +kernel
theorem dX6_act_237 : decode cX6_act 237 = .ok (.goto 5, 3) := by decide +kernel
theorem dX6_act_240 : decode cX6_act 240 = .ok (.lload 10, 2) := by decide +kernel
theorem dX6_act_242 : decode cX6_act 242 = .ok (.lstore 12, 2) := by decide +kernel
theorem dX6_act_244 : decode cX6_act 244 = .ok (.iload_n 1, 1) := by decide +kernel
theorem dX6_act_245 : decode cX6_act 245 = .ok (.iconst 2, 1) := by decide +kernel
theorem dX6_act_246 : decode cX6_act 246 = .ok (.if_icmp .ge 47, 3) := by decide +kernel
theorem dX6_act_249 : decode cX6_act 249 = .ok (.aload_n 0, 1) := by decide +kernel
theorem dX6_act_250 : decode cX6_act 250 = .ok (.invokevirtual 105, 3) := by decide +kernel
theorem dX6_act_253 : decode cX6_act 253 = .ok (.aload_n 0, 1) := by decide +kernel
theorem dX6_act_254 : decode cX6_act 254 = .ok (.lload 8, 2) := by decide +kernel
theorem dX6_act_256 : decode cX6_act 256 = .ok (.lconst 1, 1) := by decide +kernel
theorem dX6_act_257 : decode cX6_act 257 = .ok (.invokevirtual 108, 3) := by decide +kernel
theorem dX6_act_260 : decode cX6_act 260 = .ok (.aload_n 0, 1) := by decide +kernel
theorem dX6_act_261 : decode cX6_act 261 = .ok (.lload 10, 2) := by decide +kernel
theorem dX6_act_263 : decode cX6_act 263 = .ok (.iload_n 1, 1) := by decide +kernel
theorem dX6_act_264 : decode cX6_act 264 = .ok (.ifCond .ne 7, 3) := by decide +kernel
theorem dX6_act_267 : decode cX6_act 267 = .ok (.lconst 1, 1) := by decide +kernel
theorem dX6_act_268 : decode cX6_act 268 = .ok (.goto 6, 3) := by decide +kernel
theorem dX6_act_271 : decode cX6_act 271 = .ok (.ldc2_w 112, 3) := by decide +kernel
theorem dX6_act_274 : decode cX6_act 274 = .ok (.invokevirtual 108, 3) := by decide +kernel
theorem dX6_act_277 : decode cX6_act 277 = .ok (.aload_n 0, 1) := by decide +kernel
theorem dX6_act_278 : decode cX6_act 278 = .ok (.invokevirtual 114, 3) := by decide +kernel
theorem dX6_act_281 : decode cX6_act 281 = .ok (.ifCond .ne 6, 3) := by decide +kernel
theorem dX6_act_284 : decode cX6_act 284 = .ok (.bipush (-16), 2) := by decide +kernel
theorem dX6_act_286 : decode cX6_act 286 = .ok (.ireturn, 1) := by decide +kernel
theorem dX6_act_287 : decode cX6_act 287 = .ok (.aload_n 0, 1) := by decide +kernel
theorem dX6_act_288 : decode cX6_act 288 = .ok (.invokevirtual 118, 3) := by decide +kernel
theorem dX6_act_291 : decode cX6_act 291 = .ok (.lstore 12, 2) := by decide +kernel
theorem dX6_act_293 : decode cX6_act 293 = .ok (.aload_n 0, 1) := by decide +kernel
theorem dX6_act_294 : decode cX6_act 294 = .ok (.getfield 19, 3) := by decide +kernel
theorem dX6_act_297 : decode cX6_act 297 = .ok (.bipush 12, 2) := by decide +kernel
theorem dX6_act_299 : decode cX6_act 299 = .ok (.aload_n 0, 1) := by decide +kernel
theorem dX6_act_300 : decode cX6_act 300 = .ok (.getfield 45, 3) := by decide +kernel
theorem dX6_act_303 : decode cX6_act 303 = .ok (.imul, 1) := by decide +kernel
theorem dX6_act_304 : decode cX6_act 304 = .ok (.iload 7, 2) := by decide +kernel
theorem dX6_act_306 : decode cX6_act 306 = .ok (.iadd, 1) := by decide +kernel
theorem dX6_act_307 : decode cX6_act 307 = .ok (.lload 12, 2) := by decide +kernel
theorem dX6_act_309 : decode cX6_act 309 = .ok (.lastore, 1) := by decide +kernel
theorem dX6_act_310 : decode cX6_act 310 = .ok (.iinc 7 1, 3) := by decide +kernel
theorem dX6_act_313 : decode cX6_act 313 = .ok (.goto (-168), 3) := by decide +kernel
theorem dX6_act_316 : decode cX6_act 316 = .ok (.aload_n 0, 1) := by decide +kernel
theorem dX6_act_317 : decode cX6_act 317 = .ok (.invokevirtual 64, 3) := by decide +kernel
theorem dX6_act_320 : decode cX6_act 320 = .ok (.ireturn, 1) := by decide +kernel
set_option maxRecDepth 20000 in
theorem ggX6_times_X6_isNumber : GoodIn wsX6_times wsX6_isNumber := goodIn_r _ [10, 1, 11, 12, 9, 13, 47, 48, 49, 50, 51, 52, 53, 54, 55, 56, 57, 58, 59, 60, 61, 62, 63, 64, 65, 66, 67, 68, 69, 70] (by decide +kernel) (by decide +kernel)
set_option maxRecDepth 20000 in
theorem gX6_times_X6_isNumber : GoodIn wsX6_times (wsV RX6 68 RX6 yX6_isNumber wsX6_isNumber) := goodIn_app (goodIn_of _ (by decide +kernel)) ggX6_times_X6_isNumber
set_option maxRecDepth 20000 in
theorem ggX6_times_X6_isNothing : GoodIn wsX6_times wsX6_isNothing := goodIn_r _ [17, 2, 47, 48, 49, 50, 51, 52, 53, 54, 55, 56, 57, 58, 59, 60, 61, 62, 63, 64, 65, 66, 67, 68, 69, 70] (by decide +kernel) (by decide +kernel)
set_option maxRecDepth 20000 in
theorem gX6_times_X6_isNothing : GoodIn wsX6_times (wsV RX6 72 RX6 yX6_isNothing wsX6_isNothing) := goodIn_app (goodIn_of _ (by decide +kernel)) ggX6_times_X6_isNothing
set_option maxRecDepth 20000 in
theorem ggX6_times_X6_lay : GoodIn wsX6_times wsX6_lay := goodIn_r _ [21, 2, 1, 3, 4, 5, 47, 48, 49, 50, 51, 52, 53, 54, 55, 56, 57, 58, 59, 60, 61, 62, 63, 64, 65, 66, 67, 68, 69, 70] (by decide +kernel) (by decide +kernel)
set_option maxRecDepth 20000 in
theorem gX6_times_X6_lay : GoodIn wsX6_times (wsV RX6 60 RX6 yX6_lay wsX6_lay) := goodIn_app (goodIn_of _ (by decide +kernel)) ggX6_times_X6_lay
set_option maxRecDepth 20000 in
theorem ggX6_times_X6_zero : GoodIn wsX6_times wsX6_zero := goodIn_r _ [25, 26, 27, 47, 48, 49, 50, 51, 52, 53, 54, 55, 56, 57, 58, 59, 60, 61, 62, 63, 64, 65, 66, 67, 68, 69, 70] (by decide +kernel) (by decide +kernel)
set_option maxRecDepth 20000 in
theorem gX6_times_X6_zero : GoodIn wsX6_times (wsV RX6 105 RX6 yX6_zero wsX6_zero) := goodIn_app (goodIn_of _ (by decide +kernel)) ggX6_times_X6_zero
set_option maxRecDepth 20000 in
theorem ggX6_times_X6_add : GoodIn wsX6_times wsX6_add := goodIn_r _ [31, 26, 27, 32, 47, 48, 49, 50, 51, 52, 53, 54, 55, 56, 57, 58, 59, 60, 61, 62, 63, 64, 65, 66, 67, 68, 69, 70] (by decide +kernel) (by decide +kernel)
set_option maxRecDepth 20000 in
theorem gX6_times_X6_add : GoodIn wsX6_times (wsV RX6 108 RX6 yX6_add wsX6_add) := goodIn_app (goodIn_of _ (by decide +kernel)) ggX6_times_X6_add
set_option maxRecDepth 20000 in
theorem ggX6_times_X6_fits : GoodIn wsX6_times wsX6_fits := goodIn_r _ [36, 26, 37, 38, 11, 12, 9, 13, 47, 48, 49, 50, 51, 52, 53, 54, 55, 56, 57, 58, 59, 60, 61, 62, 63, 64, 65, 66, 67, 68, 69, 70] (by decide +kernel) (by decide +kernel)
set_option maxRecDepth 20000 in
theorem gX6_times_X6_fits : GoodIn wsX6_times (wsV RX6 114 RX6 yX6_fits wsX6_fits) := goodIn_app (goodIn_of _ (by decide +kernel)) ggX6_times_X6_fits
set_option maxRecDepth 20000 in
theorem ggX6_times_X6_number : GoodIn wsX6_times wsX6_number := goodIn_r _ [42, 26, 27, 47, 48, 49, 50, 51, 52, 53, 54, 55, 56, 57, 58, 59, 60, 61, 62, 63, 64, 65, 66, 67, 68, 69, 70] (by decide +kernel) (by decide +kernel)
set_option maxRecDepth 20000 in
theorem gX6_times_X6_number : GoodIn wsX6_times (wsV RX6 118 RX6 yX6_number wsX6_number) := goodIn_app (goodIn_of _ (by decide +kernel)) ggX6_times_X6_number
set_option maxRecDepth 20000 in
theorem ggX6_times_X6_keepScore : GoodIn wsX6_times wsX6_keepScore := goodIn_r _ [46, 1, 47, 48, 49, 50, 51, 52, 53, 54, 55, 56, 57, 58, 59, 60, 61, 62, 63, 64, 65, 66, 67, 68, 69, 70] (by decide +kernel) (by decide +kernel)
set_option maxRecDepth 20000 in
theorem gX6_times_X6_keepScore : GoodIn wsX6_times (wsV RX6 64 RX6 yX6_keepScore wsX6_keepScore) := goodIn_app (goodIn_of _ (by decide +kernel)) ggX6_times_X6_keepScore
theorem dX6_times_0 : decode cX6_times 0 = .ok (.aload_n 0, 1) := by decide +kernel
theorem dX6_times_1 : decode cX6_times 1 = .ok (.iload_n 1, 1) := by decide +kernel
theorem dX6_times_2 : decode cX6_times 2 = .ok (.invokevirtual 68, 3) := by decide +kernel
theorem dX6_times_5 : decode cX6_times 5 = .ok (.ifCond .ne 6, 3) := by decide +kernel
theorem dX6_times_8 : decode cX6_times 8 = .ok (.bipush (-2), 2) := by decide +kernel
theorem dX6_times_10 : decode cX6_times 10 = .ok (.ireturn, 1) := by decide +kernel
theorem dX6_times_11 : decode cX6_times 11 = .ok (.aload_n 0, 1) := by decide +kernel
theorem dX6_times_12 : decode cX6_times 12 = .ok (.getfield 45, 3) := by decide +kernel
theorem dX6_times_15 : decode cX6_times 15 = .ok (.bipush 60, 2) := by decide +kernel
theorem dX6_times_17 : decode cX6_times 17 = .ok (.if_icmp .ne 6, 3) := by decide +kernel
theorem dX6_times_20 : decode cX6_times 20 = .ok (.bipush (-4), 2) := by decide +kernel
theorem dX6_times_22 : decode cX6_times 22 = .ok (.ireturn, 1) := by decide +kernel
theorem dX6_times_23 : decode cX6_times 23 = .ok (.aload_n 0, 1) := by decide +kernel
theorem dX6_times_24 : decode cX6_times 24 = .ok (.iload_n 1, 1) := by decide +kernel
theorem dX6_times_25 : decode cX6_times 25 = .ok (.invokevirtual 72, 3) := by decide +kernel
theorem dX6_times_28 : decode cX6_times 28 = .ok (.ifCond .eq 6, 3) := by decide +kernel
theorem dX6_times_31 : decode cX6_times 31 = .ok (.bipush (-11), 2) := by decide +kernel
theorem dX6_times_33 : decode cX6_times 33 = .ok (.ireturn, 1) := by decide +kernel
theorem dX6_times_34 : decode cX6_times 34 = .ok (.iload_n 3, 1) := by decide +kernel
theorem dX6_times_35 : decode cX6_times 35 = .ok (.ifCond .ne 6, 3) := by decide +kernel
theorem dX6_times_38 : decode cX6_times 38 = .ok (.bipush (-15), 2) := by decide +kernel
theorem dX6_times_40 : decode cX6_times 40 = .ok (.ireturn, 1) := by decide +kernel
theorem dX6_times_41 : decode cX6_times 41 = .ok (.iload_n 3, 1) := by decide +kernel
theorem dX6_times_42 : decode cX6_times 42 = .ok (.ifCond .ge 9, 3) := by decide +kernel
theorem dX6_times_45 : decode cX6_times 45 = .ok (.iload_n 2, 1) := by decide +kernel
theorem dX6_times_46 : decode cX6_times 46 = .ok (.i2l, 1) := by decide +kernel
theorem dX6_times_47 : decode cX6_times 47 = .ok (.lneg, 1) := by decide +kernel
theorem dX6_times_48 : decode cX6_times 48 = .ok (.goto 5, 3) := by decide +kernel
theorem dX6_times_51 : decode cX6_times 51 = .ok (.iload_n 2, 1) := by decide +kernel
theorem dX6_times_52 : decode cX6_times 52 = .ok (.i2l, 1) := by decide +kernel
theorem dX6_times_53 : decode cX6_times 53 = .ok (.lstore 4, 2) := by decide +kernel
theorem dX6_times_55 : decode cX6_times 55 = .ok (.iload_n 3, 1) := by decide +kernel
theorem dX6_times_56 : decode cX6_times 56 = .ok (.ifCond .ge 9, 3) := by decide +kernel
theorem dX6_times_59 : decode cX6_times 59 = .ok (.iload_n 3, 1) := by decide +kernel
theorem dX6_times_60 : decode cX6_times 60 = .ok (.i2l, 1) := by decide +kernel
theorem dX6_times_61 : decode cX6_times 61 = .ok (.lneg, 1) := by decide +kernel
theorem dX6_times_62 : decode cX6_times 62 = .ok (.goto 5, 3) := by decide +kernel
theorem dX6_times_65 : decode cX6_times 65 = .ok (.iload_n 3, 1) := by decide +kernel
theorem dX6_times_66 : decode cX6_times 66 = .ok (.i2l, 1) := by decide +kernel
theorem dX6_times_67 : decode cX6_times 67 = .ok (.lstore 6, 2) := by decide +kernel
theorem dX6_times_69 : decode cX6_times 69 = .ok (.aload_n 0, 1) := by decide +kernel
theorem dX6_times_70 : decode cX6_times 70 = .ok (.aload_n 0, 1) := by decide +kernel
theorem dX6_times_71 : decode cX6_times 71 = .ok (.getfield 7, 3) := by decide +kernel
theorem dX6_times_74 : decode cX6_times 74 = .ok (.iload_n 1, 1) := by decide +kernel
theorem dX6_times_75 : decode cX6_times 75 = .ok (.iaload, 1) := by decide +kernel
theorem dX6_times_76 : decode cX6_times 76 = .ok (.aload_n 0, 1) := by decide +kernel
theorem dX6_times_77 : decode cX6_times 77 = .ok (.getfield 13, 3) := by decide +kernel
theorem dX6_times_80 : decode cX6_times 80 = .ok (.iload_n 1, 1) := by decide +kernel
theorem dX6_times_81 : decode cX6_times 81 = .ok (.iaload, 1) := by decide +kernel
theorem dX6_times_82 : decode cX6_times 82 = .ok (.aload_n 0, 1) := by decide +kernel
theorem dX6_times_83 : decode cX6_times 83 = .ok (.getfield 16, 3) := by decide +kernel
theorem dX6_times_86 : decode cX6_times 86 = .ok (.iload_n 1, 1) := by decide +kernel
theorem dX6_times_87 : decode cX6_times 87 = .ok (.iaload, 1) := by decide +kernel
theorem dX6_times_88 : decode cX6_times 88 = .ok (.invokevirtual 60, 3) := by decide +kernel
theorem dX6_times_91 : decode cX6_times 91 = .ok (.iconst 0, 1) := by decide +kernel
theorem dX6_times_92 : decode cX6_times 92 = .ok (.istore 8, 2) := by decide +kernel
theorem dX6_times_94 : decode cX6_times 94 = .ok (.iload 8, 2) := by decide +kernel
theorem dX6_times_96 : decode cX6_times 96 = .ok (.aload_n 0, 1) := by decide +kernel
theorem dX6_times_97 : decode cX6_times 97 = .ok (.getfield 16, 3) := by decide +kernel
theorem dX6_times_100 : decode cX6_times 100 = .ok (.iload_n 1, 1) := by decide +kernel
theorem dX6_times_101 : decode cX6_times 101 = .ok (.iaload, 1) := by decide +kernel
theorem dX6_times_102 : decode cX6_times 102 = .ok (.if_icmp .ge 135, 3) := by decide +kernel
theorem dX6_times_105 : decode cX6_times 105 = .ok (.aload_n 0, 1) := by decide +kernel
theorem dX6_times_106 : decode cX6_times 106 = .ok (.getfield 19, 3) := by decide +kernel
theorem dX6_times_109 : decode cX6_times 109 = .ok (.bipush 12, 2) := by decide +kernel
theorem dX6_times_111 : decode cX6_times 111 = .ok (.iload_n 1, 1) := by decide +kernel
theorem dX6_times_112 : decode cX6_times 112 = .ok (.imul, 1) := by decide +kernel
theorem dX6_times_113 : decode cX6_times 113 = .ok (.iload 8, 2) := by decide +kernel
theorem dX6_times_115 : decode cX6_times 115 = .ok (.iadd, 1) := by decide +kernel
theorem dX6_times_116 : decode cX6_times 116 = .ok (.laload, 1) := by decide +kernel
theorem dX6_times_117 : decode cX6_times 117 = .ok (.lstore 9, 2) := by decide +kernel
theorem dX6_times_119 : decode cX6_times 119 = .ok (.lload 9, 2) := by decide +kernel
theorem dX6_times_121 : decode cX6_times 121 = .ok (.lload 6, 2) := by decide +kernel
theorem dX6_times_123 : decode cX6_times 123 = .ok (.lrem, 1) := by decide +kernel
theorem dX6_times_124 : decode cX6_times 124 = .ok (.lstore 11, 2) := by decide +kernel
theorem dX6_times_126 : decode cX6_times 126 = .ok (.lload 9, 2) := by decide +kernel
theorem dX6_times_128 : decode cX6_times 128 = .ok (.lload 6, 2) := by decide +kernel
theorem dX6_times_130 : decode cX6_times 130 = .ok (.ldiv, 1) := by decide +kernel
theorem dX6_times_131 : decode cX6_times 131 = .ok (.lstore 13, 2) := by decide +kernel
theorem dX6_times_133 : decode cX6_times 133 = .ok (.lload 11, 2) := by decide +kernel
theorem dX6_times_135 : decode cX6_times 135 = .ok (.lconst 0, 1) := by decide +kernel
theorem dX6_times_136 : decode cX6_times 136 = .ok (.lcmp, 1) := by decide +kernel
theorem dX6_times_137 : decode cX6_times 137 = .ok (.ifCond .ge 16, 3) := by decide +kernel
theorem dX6_times_140 : decode cX6_times 140 = .ok (.lload 11, 2) := by decide +kernel
theorem dX6_times_142 : decode cX6_times 142 = .ok (.lload 6, 2) := by decide +kernel
theorem dX6_times_144 : decode cX6_times 144 = .ok (.ladd, 1) := by decide +kernel
theorem dX6_times_145 : decode cX6_times 145 = .ok (.lstore 11, 2) := by decide +kernel
theorem dX6_times_147 : decode cX6_times 147 = .ok (.lload 13, 2) := by decide +kernel
theorem dX6_times_149 : decode cX6_times 149 = .ok (.lconst 1, 1) := by decide +kernel
theorem dX6_times_150 : decode cX6_times 150 = .ok (.lsub, 1) := by decide +kernel
theorem dX6_times_151 : decode cX6_times 151 = .ok (.lstore 13, 2) := by decide +kernel
theorem dX6_times_153 : decode cX6_times 153 = .ok (.lload 11, 2) := by decide +kernel
theorem dX6_times_155 : decode cX6_times 155 = .ok (.lload 4, 2) := by decide +kernel
theorem dX6_times_157 : decode cX6_times 157 = .ok (.lmul, 1) := by decide +kernel
theorem dX6_times_158 : decode cX6_times 158 = .ok (.lstore 15, 2) := by decide +kernel
theorem dX6_times_160 : decode cX6_times 160 = .ok (.lload 15, 2) := by decide +kernel
theorem dX6_times_162 : decode cX6_times 162 = .ok (.lload 6, 2) := by decide +kernel
theorem dX6_times_164 : decode cX6_times 164 = .ok (.ldiv, 1) := by decide +kernel
theorem dX6_times_165 : decode cX6_times 165 = .ok (.lstore 17, 2) := by decide +kernel
theorem dX6_times_167 : decode cX6_times 167 = .ok (.lload 15, 2) := by decide +kernel
theorem dX6_times_169 : decode cX6_times 169 = .ok (.lload 6, 2) := by decide +kernel
theorem dX6_times_171 : decode cX6_times 171 = .ok (.lrem, 1) := by decide +kernel
theorem dX6_times_172 : decode cX6_times 172 = .ok (.lconst 0, 1) := by decide +kernel
theorem dX6_times_173 : decode cX6_times 173 = .ok (.lcmp, 1) := by decide +kernel
theorem dX6_times_174 : decode cX6_times 174 = .ok (.ifCond .ge 9, 3) := by decide +kernel
theorem dX6_times_177 : decode cX6_times 177 = .ok (.lload 17, 2) := by decide +kernel
theorem dX6_times_179 : decode cX6_times 179 = .ok (.lconst 1, 1) := by decide +kernel
theorem dX6_times_180 : decode cX6_times 180 = .ok (.lsub, 1) := by decide +kernel
theorem dX6_times_181 : decode cX6_times 181 = .ok (.lstore 17, 2) := by decide +kernel
theorem dX6_times_183 : decode cX6_times 183 = .ok (.aload_n 0, 1) := by decide +kernel
theorem dX6_times_184 : decode cX6_times 184 = .ok (.invokevirtual 105, 3) := by decide +kernel
theorem dX6_times_187 : decode cX6_times 187 = .ok (.aload_n 0, 1) := by decide +kernel
theorem dX6_times_188 : decode cX6_times 188 = .ok (.lload 13, 2) := by decide +kernel
theorem dX6_times_190 : decode cX6_times 190 = .ok (.lload 4, 2) := by decide +kernel
theorem dX6_times_192 : decode cX6_times 192 = .ok (.invokevirtual 108, 3) := by decide +kernel
theorem dX6_times_195 : decode cX6_times 195 = .ok (.aload_n 0, 1) := by decide +kernel
theorem dX6_times_196 : decode cX6_times 196 = .ok (.lload 17, 2) := by decide +kernel
theorem dX6_times_198 : decode cX6_times 198 = .ok (.lconst 1, 1) := by decide +kernel
theorem dX6_times_199 : decode cX6_times 199 = .ok (.invokevirtual 108, 3) := by decide +kernel
theorem dX6_times_202 : decode cX6_times 202 = .ok (.aload_n 0, 1) := by decide +kernel
theorem dX6_times_203 : decode cX6_times 203 = .ok (.invokevirtual 114, 3) := by decide +kernel
theorem dX6_times_206 : decode cX6_times 206 = .ok (.ifCond .ne 6, 3) := by decide +kernel
theorem dX6_times_209 : decode cX6_times 209 = .ok (.bipush (-16), 2) := by decide +kernel
theorem dX6_times_211 : decode cX6_times 211 = .ok (.ireturn, 1) := by decide +kernel
theorem dX6_times_212 : decode cX6_times 212 = .ok (.aload_n 0, 1) := by decide +kernel
theorem dX6_times_213 : decode cX6_times 213 = .ok (.getfield 19, 3) := by decide +kernel
theorem dX6_times_216 : decode cX6_times 216 = .ok (.bipush 12, 2) := by decide +kernel
theorem dX6_times_218 : decode cX6_times 218 = .ok (.aload_n 0, 1) := by decide +kernel
theorem dX6_times_219 : decode cX6_times 219 = .ok (.getfield 45, 3) := by decide +kernel
theorem dX6_times_222 : decode cX6_times 222 = .ok (.imul, 1) := by decide +kernel
theorem dX6_times_223 : decode cX6_times 223 = .ok (.iload 8, 2) := by decide +kernel
theorem dX6_times_225 : decode cX6_times 225 = .ok (.iadd, 1) := by decide +kernel
theorem dX6_times_226 : decode cX6_times 226 = .ok (.aload_n 0, 1) := by decide +kernel
theorem dX6_times_227 : decode cX6_times 227 = .ok (.invokevirtual 118, 3) := by decide +kernel
theorem dX6_times_230 : decode cX6_times 230 = .ok (.lastore, 1) := by decide +kernel
theorem dX6_times_231 : decode cX6_times 231 = .ok (.iinc 8 1, 3) := by decide +kernel
theorem dX6_times_234 : decode cX6_times 234 = .ok (.goto (-140), 3) := by decide +kernel
theorem dX6_times_237 : decode cX6_times 237 = .ok (.aload_n 0, 1) := by decide +kernel
theorem dX6_times_238 : decode cX6_times 238 = .ok (.invokevirtual 64, 3) := by decide +kernel
theorem dX6_times_241 : decode cX6_times 241 = .ok (.ireturn, 1) := by decide +kernel
set_option maxRecDepth 20000 in
theorem ggX6_order_X6_isNumber : GoodIn wsX6_order wsX6_isNumber := goodIn_r _ [7, 8, 9, 10, 6, 11, 30, 31, 32, 33, 34, 35, 36, 37, 38, 39, 40, 41, 42, 43, 44, 45, 46, 47, 48, 49, 50, 51, 52, 53] (by decide +kernel) (by decide +kernel)
set_option maxRecDepth 20000 in
theorem gX6_order_X6_isNumber : GoodIn wsX6_order (wsV RX6 68 RX6 yX6_isNumber wsX6_isNumber) := goodIn_app (goodIn_of _ (by decide +kernel)) ggX6_order_X6_isNumber
set_option maxRecDepth 20000 in
theorem ggX6_order_X6_refusal : GoodIn wsX6_order wsX6_refusal := goodIn_r _ [15, 16, 17, 18, 6, 19, 20, 21, 22, 23, 24, 25, 2, 30, 31, 32, 33, 34, 35, 36, 37, 38, 39, 40, 41, 42, 43, 44, 45, 46, 47, 48, 49, 50, 51, 52, 53] (by decide +kernel) (by decide +kernel)
set_option maxRecDepth 20000 in
theorem gX6_order_X6_refusal : GoodIn wsX6_order (wsV RX6 97 RX6 yX6_refusal wsX6_refusal) := goodIn_app (goodIn_of _ (by decide +kernel)) ggX6_order_X6_refusal
set_option maxRecDepth 20000 in
theorem ggX6_order_X6_compare : GoodIn wsX6_order wsX6_compare := goodIn_r _ [29] (by decide +kernel) (by decide +kernel)
set_option maxRecDepth 20000 in
theorem gX6_order_X6_compare : GoodIn wsX6_order (wsV RX6 101 RX6 yX6_compare wsX6_compare) := goodIn_app (goodIn_of _ (by decide +kernel)) ggX6_order_X6_compare
theorem dX6_order_0 : decode cX6_order 0 = .ok (.aload_n 0, 1) := by decide +kernel
theorem dX6_order_1 : decode cX6_order 1 = .ok (.iload_n 1, 1) := by decide +kernel
theorem dX6_order_2 : decode cX6_order 2 = .ok (.invokevirtual 68, 3) := by decide +kernel
theorem dX6_order_5 : decode cX6_order 5 = .ok (.ifCond .eq 11, 3) := by decide +kernel
theorem dX6_order_8 : decode cX6_order 8 = .ok (.aload_n 0, 1) := by decide +kernel
theorem dX6_order_9 : decode cX6_order 9 = .ok (.iload_n 2, 1) := by decide +kernel
theorem dX6_order_10 : decode cX6_order 10 = .ok (.invokevirtual 68, 3) := by decide +kernel
theorem dX6_order_13 : decode cX6_order 13 = .ok (.ifCond .ne 6, 3) := by decide +kernel
theorem dX6_order_16 : decode cX6_order 16 = .ok (.bipush (-2), 2) := by decide +kernel
theorem dX6_order_18 : decode cX6_order 18 = .ok (.ireturn, 1) := by decide +kernel
theorem dX6_order_19 : decode cX6_order 19 = .ok (.aload_n 0, 1) := by decide +kernel
theorem dX6_order_20 : decode cX6_order 20 = .ok (.iload_n 1, 1) := by decide +kernel
theorem dX6_order_21 : decode cX6_order 21 = .ok (.iload_n 2, 1) := by decide +kernel
theorem dX6_order_22 : decode cX6_order 22 = .ok (.invokevirtual 97, 3) := by decide +kernel
theorem dX6_order_25 : decode cX6_order 25 = .ok (.istore_n 3, 1) := by decide +kernel
theorem dX6_order_26 : decode cX6_order 26 = .ok (.iload_n 3, 1) := by decide +kernel
theorem dX6_order_27 : decode cX6_order 27 = .ok (.ifCond .ge 7, 3) := by decide +kernel
theorem dX6_order_30 : decode cX6_order 30 = .ok (.iload_n 3, 1) := by decide +kernel
theorem dX6_order_31 : decode cX6_order 31 = .ok (.goto 31, 3) := by decide +kernel
theorem dX6_order_34 : decode cX6_order 34 = .ok (.iconst 2, 1) := by decide +kernel
theorem dX6_order_35 : decode cX6_order 35 = .ok (.aload_n 0, 1) := by decide +kernel
theorem dX6_order_36 : decode cX6_order 36 = .ok (.aload_n 0, 1) := by decide +kernel
theorem dX6_order_37 : decode cX6_order 37 = .ok (.getfield 19, 3) := by decide +kernel
theorem dX6_order_40 : decode cX6_order 40 = .ok (.bipush 12, 2) := by decide +kernel
theorem dX6_order_42 : decode cX6_order 42 = .ok (.iload_n 1, 1) := by decide +kernel
theorem dX6_order_43 : decode cX6_order 43 = .ok (.imul, 1) := by decide +kernel
theorem dX6_order_44 : decode cX6_order 44 = .ok (.aload_n 0, 1) := by decide +kernel
theorem dX6_order_45 : decode cX6_order 45 = .ok (.getfield 19, 3) := by decide +kernel
theorem dX6_order_48 : decode cX6_order 48 = .ok (.bipush 12, 2) := by decide +kernel
theorem dX6_order_50 : decode cX6_order 50 = .ok (.iload_n 2, 1) := by decide +kernel
theorem dX6_order_51 : decode cX6_order 51 = .ok (.imul, 1) := by decide +kernel
theorem dX6_order_52 : decode cX6_order 52 = .ok (.aload_n 0, 1) := by decide +kernel
theorem dX6_order_53 : decode cX6_order 53 = .ok (.getfield 16, 3) := by decide +kernel
theorem dX6_order_56 : decode cX6_order 56 = .ok (.iload_n 1, 1) := by decide +kernel
theorem dX6_order_57 : decode cX6_order 57 = .ok (.iaload, 1) := by decide +kernel
theorem dX6_order_58 : decode cX6_order 58 = .ok (.invokevirtual 101, 3) := by decide +kernel
theorem dX6_order_61 : decode cX6_order 61 = .ok (.iadd, 1) := by decide +kernel
theorem dX6_order_62 : decode cX6_order 62 = .ok (.ireturn, 1) := by decide +kernel
set_option maxRecDepth 20000 in
theorem ggX6_put_X6_in : GoodIn wsX6_put wsX6_in := goodIn_r _ [7] (by decide +kernel) (by decide +kernel)
set_option maxRecDepth 20000 in
theorem gX6_put_X6_in : GoodIn wsX6_put (va_wsS RX6 48 yX6_in wsX6_in) := goodIn_app (goodIn_of _ (by decide +kernel)) ggX6_put_X6_in
theorem dX6_put_0 : decode cX6_put 0 = .ok (.iload_n 1, 1) := by decide +kernel
theorem dX6_put_1 : decode cX6_put 1 = .ok (.i2l, 1) := by decide +kernel
theorem dX6_put_2 : decode cX6_put 2 = .ok (.lconst 0, 1) := by decide +kernel
theorem dX6_put_3 : decode cX6_put 3 = .ok (.ldc2_w 122, 3) := by decide +kernel
theorem dX6_put_6 : decode cX6_put 6 = .ok (.invokestatic 48, 3) := by decide +kernel
theorem dX6_put_9 : decode cX6_put 9 = .ok (.ifCond .ne 6, 3) := by decide +kernel
theorem dX6_put_12 : decode cX6_put 12 = .ok (.bipush (-3), 2) := by decide +kernel
theorem dX6_put_14 : decode cX6_put 14 = .ok (.ireturn, 1) := by decide +kernel
theorem dX6_put_15 : decode cX6_put 15 = .ok (.aload_n 0, 1) := by decide +kernel
theorem dX6_put_16 : decode cX6_put 16 = .ok (.getfield 124, 3) := by decide +kernel
theorem dX6_put_19 : decode cX6_put 19 = .ok (.sipush 300, 3) := by decide +kernel
theorem dX6_put_22 : decode cX6_put 22 = .ok (.if_icmp .ne 6, 3) := by decide +kernel
theorem dX6_put_25 : decode cX6_put 25 = .ok (.bipush (-4), 2) := by decide +kernel
theorem dX6_put_27 : decode cX6_put 27 = .ok (.ireturn, 1) := by decide +kernel
theorem dX6_put_28 : decode cX6_put 28 = .ok (.aload_n 0, 1) := by decide +kernel
theorem dX6_put_29 : decode cX6_put 29 = .ok (.getfield 36, 3) := by decide +kernel
theorem dX6_put_32 : decode cX6_put 32 = .ok (.aload_n 0, 1) := by decide +kernel
theorem dX6_put_33 : decode cX6_put 33 = .ok (.getfield 124, 3) := by decide +kernel
theorem dX6_put_36 : decode cX6_put 36 = .ok (.iload_n 1, 1) := by decide +kernel
theorem dX6_put_37 : decode cX6_put 37 = .ok (.iastore, 1) := by decide +kernel
theorem dX6_put_38 : decode cX6_put 38 = .ok (.aload_n 0, 1) := by decide +kernel
theorem dX6_put_39 : decode cX6_put 39 = .ok (.dup, 1) := by decide +kernel
theorem dX6_put_40 : decode cX6_put 40 = .ok (.getfield 124, 3) := by decide +kernel
theorem dX6_put_43 : decode cX6_put 43 = .ok (.iconst 1, 1) := by decide +kernel
theorem dX6_put_44 : decode cX6_put 44 = .ok (.iadd, 1) := by decide +kernel
theorem dX6_put_45 : decode cX6_put 45 = .ok (.putfield 124, 3) := by decide +kernel
theorem dX6_put_48 : decode cX6_put 48 = .ok (.aload_n 0, 1) := by decide +kernel
theorem dX6_put_49 : decode cX6_put 49 = .ok (.getfield 124, 3) := by decide +kernel
theorem dX6_put_52 : decode cX6_put 52 = .ok (.ireturn, 1) := by decide +kernel
theorem dX6_here_0 : decode cX6_here 0 = .ok (.aload_n 0, 1) := by decide +kernel
theorem dX6_here_1 : decode cX6_here 1 = .ok (.getfield 127, 3) := by decide +kernel
theorem dX6_here_4 : decode cX6_here 4 = .ok (.aload_n 0, 1) := by decide +kernel
theorem dX6_here_5 : decode cX6_here 5 = .ok (.getfield 124, 3) := by decide +kernel
theorem dX6_here_8 : decode cX6_here 8 = .ok (.if_icmp .ge 15, 3) := by decide +kernel
theorem dX6_here_11 : decode cX6_here 11 = .ok (.aload_n 0, 1) := by decide +kernel
theorem dX6_here_12 : decode cX6_here 12 = .ok (.getfield 36, 3) := by decide +kernel
theorem dX6_here_15 : decode cX6_here 15 = .ok (.aload_n 0, 1) := by decide +kernel
theorem dX6_here_16 : decode cX6_here 16 = .ok (.getfield 127, 3) := by decide +kernel
theorem dX6_here_19 : decode cX6_here 19 = .ok (.iaload, 1) := by decide +kernel
theorem dX6_here_20 : decode cX6_here 20 = .ok (.goto 4, 3) := by decide +kernel
theorem dX6_here_23 : decode cX6_here 23 = .ok (.iconst (-1), 1) := by decide +kernel
theorem dX6_here_24 : decode cX6_here 24 = .ok (.ireturn, 1) := by decide +kernel
set_option maxRecDepth 20000 in
theorem ggX6_isFigure_X6_here : GoodIn wsX6_isFigure wsX6_here := goodIn_r _ [7, 8, 9, 10, 14, 15, 16, 17, 18, 19, 20, 21, 22, 23, 24, 25, 26, 27, 28, 29, 30, 31, 32, 33, 34, 35, 36, 37] (by decide +kernel) (by decide +kernel)
set_option maxRecDepth 20000 in
theorem gX6_isFigure_X6_here : GoodIn wsX6_isFigure (wsV RX6 130 RX6 yX6_here wsX6_here) := goodIn_app (goodIn_of _ (by decide +kernel)) ggX6_isFigure_X6_here
set_option maxRecDepth 20000 in
theorem ggX6_isFigure_X6_in : GoodIn wsX6_isFigure wsX6_in := goodIn_r _ [13] (by decide +kernel) (by decide +kernel)
set_option maxRecDepth 20000 in
theorem gX6_isFigure_X6_in : GoodIn wsX6_isFigure (va_wsS RX6 48 yX6_in wsX6_in) := goodIn_app (goodIn_of _ (by decide +kernel)) ggX6_isFigure_X6_in
theorem dX6_isFigure_0 : decode cX6_isFigure 0 = .ok (.aload_n 0, 1) := by decide +kernel
theorem dX6_isFigure_1 : decode cX6_isFigure 1 = .ok (.invokevirtual 130, 3) := by decide +kernel
theorem dX6_isFigure_4 : decode cX6_isFigure 4 = .ok (.i2l, 1) := by decide +kernel
theorem dX6_isFigure_5 : decode cX6_isFigure 5 = .ok (.ldc2_w 133, 3) := by decide +kernel
theorem dX6_isFigure_8 : decode cX6_isFigure 8 = .ok (.ldc2_w 135, 3) := by decide +kernel
theorem dX6_isFigure_11 : decode cX6_isFigure 11 = .ok (.invokestatic 48, 3) := by decide +kernel
theorem dX6_isFigure_14 : decode cX6_isFigure 14 = .ok (.ireturn, 1) := by decide +kernel
set_option maxRecDepth 20000 in
theorem ggX6_take_X6_here : GoodIn wsX6_take wsX6_here := goodIn_r _ [7, 2, 8, 9, 10, 11, 12, 13, 14, 15, 16, 17, 18, 19, 20, 21, 22, 23, 24, 25, 26, 27, 28, 29, 30, 31, 32, 33] (by decide +kernel) (by decide +kernel)
set_option maxRecDepth 20000 in
theorem gX6_take_X6_here : GoodIn wsX6_take (wsV RX6 130 RX6 yX6_here wsX6_here) := goodIn_app (goodIn_of _ (by decide +kernel)) ggX6_take_X6_here
theorem dX6_take_0 : decode cX6_take 0 = .ok (.aload_n 0, 1) := by decide +kernel
theorem dX6_take_1 : decode cX6_take 1 = .ok (.aload_n 0, 1) := by decide +kernel
theorem dX6_take_2 : decode cX6_take 2 = .ok (.getfield 137, 3) := by decide +kernel
theorem dX6_take_5 : decode cX6_take 5 = .ok (.ifCond .ne 11, 3) := by decide +kernel
theorem dX6_take_8 : decode cX6_take 8 = .ok (.aload_n 0, 1) := by decide +kernel
theorem dX6_take_9 : decode cX6_take 9 = .ok (.invokevirtual 130, 3) := by decide +kernel
theorem dX6_take_12 : decode cX6_take 12 = .ok (.iload_n 1, 1) := by decide +kernel
theorem dX6_take_13 : decode cX6_take 13 = .ok (.if_icmp .eq 7, 3) := by decide +kernel
theorem dX6_take_16 : decode cX6_take 16 = .ok (.iconst 1, 1) := by decide +kernel
theorem dX6_take_17 : decode cX6_take 17 = .ok (.goto 4, 3) := by decide +kernel
theorem dX6_take_20 : decode cX6_take 20 = .ok (.iconst 0, 1) := by decide +kernel
theorem dX6_take_21 : decode cX6_take 21 = .ok (.putfield 137, 3) := by decide +kernel
theorem dX6_take_24 : decode cX6_take 24 = .ok (.aload_n 0, 1) := by decide +kernel
theorem dX6_take_25 : decode cX6_take 25 = .ok (.dup, 1) := by decide +kernel
theorem dX6_take_26 : decode cX6_take 26 = .ok (.getfield 127, 3) := by decide +kernel
theorem dX6_take_29 : decode cX6_take 29 = .ok (.aload_n 0, 1) := by decide +kernel
theorem dX6_take_30 : decode cX6_take 30 = .ok (.getfield 137, 3) := by decide +kernel
theorem dX6_take_33 : decode cX6_take 33 = .ok (.ifCond .eq 7, 3) := by decide +kernel
theorem dX6_take_36 : decode cX6_take 36 = .ok (.iconst 0, 1) := by decide +kernel
theorem dX6_take_37 : decode cX6_take 37 = .ok (.goto 4, 3) := by decide +kernel
theorem dX6_take_40 : decode cX6_take 40 = .ok (.iconst 1, 1) := by decide +kernel
theorem dX6_take_41 : decode cX6_take 41 = .ok (.iadd, 1) := by decide +kernel
theorem dX6_take_42 : decode cX6_take 42 = .ok (.putfield 127, 3) := by decide +kernel
theorem dX6_take_45 : decode cX6_take 45 = .ok (.return_, 1) := by decide +kernel
set_option maxRecDepth 20000 in
theorem ggX6_word_X6_letter : GoodIn wsX6_word wsX6_letter := goodIn_r _ [5] (by decide +kernel) (by decide +kernel)
set_option maxRecDepth 20000 in
theorem gX6_word_X6_letter : GoodIn wsX6_word (va_wsS RX6 141 yX6_letter wsX6_letter) := goodIn_app (goodIn_of _ (by decide +kernel)) ggX6_word_X6_letter
set_option maxRecDepth 20000 in
theorem ggX6_word_X6_take : GoodIn wsX6_word wsX6_take := goodIn_r _ [9, 10, 11, 12, 13, 14, 4, 15, 16, 17, 18, 19, 20, 21, 22, 23, 24, 25, 26, 27, 28, 29, 30, 31, 32, 33, 34, 35, 36, 37, 38, 39, 40, 41] (by decide +kernel) (by decide +kernel)
set_option maxRecDepth 20000 in
theorem gX6_word_X6_take : GoodIn wsX6_word (wsV RX6 145 RX6 yX6_take wsX6_take) := goodIn_app (goodIn_of _ (by decide +kernel)) ggX6_word_X6_take
theorem dX6_word_0 : decode cX6_word 0 = .ok (.iload_n 1, 1) := by decide +kernel
theorem dX6_word_1 : decode cX6_word 1 = .ok (.ifCond .ne 7, 3) := by decide +kernel
theorem dX6_word_4 : decode cX6_word 4 = .ok (.iconst 5, 1) := by decide +kernel
theorem dX6_word_5 : decode cX6_word 5 = .ok (.goto 14, 3) := by decide +kernel
theorem dX6_word_8 : decode cX6_word 8 = .ok (.iload_n 1, 1) := by decide +kernel
theorem dX6_word_9 : decode cX6_word 9 = .ok (.iconst 1, 1) := by decide +kernel
theorem dX6_word_10 : decode cX6_word 10 = .ok (.if_icmp .ne 8, 3) := by decide +kernel
theorem dX6_word_13 : decode cX6_word 13 = .ok (.bipush 7, 2) := by decide +kernel
theorem dX6_word_15 : decode cX6_word 15 = .ok (.goto 4, 3) := by decide +kernel
theorem dX6_word_18 : decode cX6_word 18 = .ok (.iconst 4, 1) := by decide +kernel
theorem dX6_word_19 : decode cX6_word 19 = .ok (.istore_n 2, 1) := by decide +kernel
theorem dX6_word_20 : decode cX6_word 20 = .ok (.iload_n 1, 1) := by decide +kernel
theorem dX6_word_21 : decode cX6_word 21 = .ok (.ifCond .ne 40, 3) := by decide +kernel
theorem dX6_word_24 : decode cX6_word 24 = .ok (.bipush 104, 2) := by decide +kernel
theorem dX6_word_26 : decode cX6_word 26 = .ok (.iconst 0, 1) := by decide +kernel
theorem dX6_word_27 : decode cX6_word 27 = .ok (.invokestatic 141, 3) := by decide +kernel
theorem dX6_word_30 : decode cX6_word 30 = .ok (.bipush 97, 2) := by decide +kernel
theorem dX6_word_32 : decode cX6_word 32 = .ok (.iconst 1, 1) := by decide +kernel
theorem dX6_word_33 : decode cX6_word 33 = .ok (.invokestatic 141, 3) := by decide +kernel
theorem dX6_word_36 : decode cX6_word 36 = .ok (.lor, 1) := by decide +kernel
theorem dX6_word_37 : decode cX6_word 37 = .ok (.bipush 114, 2) := by decide +kernel
theorem dX6_word_39 : decode cX6_word 39 = .ok (.iconst 2, 1) := by decide +kernel
theorem dX6_word_40 : decode cX6_word 40 = .ok (.invokestatic 141, 3) := by decide +kernel
theorem dX6_word_43 : decode cX6_word 43 = .ok (.lor, 1) := by decide +kernel
theorem dX6_word_44 : decode cX6_word 44 = .ok (.bipush 100, 2) := by decide +kernel
theorem dX6_word_46 : decode cX6_word 46 = .ok (.iconst 3, 1) := by decide +kernel
theorem dX6_word_47 : decode cX6_word 47 = .ok (.invokestatic 141, 3) := by decide +kernel
theorem dX6_word_50 : decode cX6_word 50 = .ok (.lor, 1) := by decide +kernel
theorem dX6_word_51 : decode cX6_word 51 = .ok (.bipush 47, 2) := by decide +kernel
theorem dX6_word_53 : decode cX6_word 53 = .ok (.iconst 4, 1) := by decide +kernel
theorem dX6_word_54 : decode cX6_word 54 = .ok (.invokestatic 141, 3) := by decide +kernel
theorem dX6_word_57 : decode cX6_word 57 = .ok (.lor, 1) := by decide +kernel
theorem dX6_word_58 : decode cX6_word 58 = .ok (.goto 87, 3) := by decide +kernel
theorem dX6_word_61 : decode cX6_word 61 = .ok (.iload_n 1, 1) := by decide +kernel
theorem dX6_word_62 : decode cX6_word 62 = .ok (.iconst 1, 1) := by decide +kernel
theorem dX6_word_63 : decode cX6_word 63 = .ok (.if_icmp .ne 55, 3) := by decide +kernel
theorem dX6_word_66 : decode cX6_word 66 = .ok (.bipush 109, 2) := by decide +kernel
theorem dX6_word_68 : decode cX6_word 68 = .ok (.iconst 0, 1) := by decide +kernel
theorem dX6_word_69 : decode cX6_word 69 = .ok (.invokestatic 141, 3) := by decide +kernel
theorem dX6_word_72 : decode cX6_word 72 = .ok (.bipush 101, 2) := by decide +kernel
theorem dX6_word_74 : decode cX6_word 74 = .ok (.iconst 1, 1) := by decide +kernel
theorem dX6_word_75 : decode cX6_word 75 = .ok (.invokestatic 141, 3) := by decide +kernel
theorem dX6_word_78 : decode cX6_word 78 = .ok (.lor, 1) := by decide +kernel
theorem dX6_word_79 : decode cX6_word 79 = .ok (.bipush 100, 2) := by decide +kernel
theorem dX6_word_81 : decode cX6_word 81 = .ok (.iconst 2, 1) := by decide +kernel
theorem dX6_word_82 : decode cX6_word 82 = .ok (.invokestatic 141, 3) := by decide +kernel
theorem dX6_word_85 : decode cX6_word 85 = .ok (.lor, 1) := by decide +kernel
theorem dX6_word_86 : decode cX6_word 86 = .ok (.bipush 105, 2) := by decide +kernel
theorem dX6_word_88 : decode cX6_word 88 = .ok (.iconst 3, 1) := by decide +kernel
theorem dX6_word_89 : decode cX6_word 89 = .ok (.invokestatic 141, 3) := by decide +kernel
theorem dX6_word_92 : decode cX6_word 92 = .ok (.lor, 1) := by decide +kernel
theorem dX6_word_93 : decode cX6_word 93 = .ok (.bipush 117, 2) := by decide +kernel
theorem dX6_word_95 : decode cX6_word 95 = .ok (.iconst 4, 1) := by decide +kernel
theorem dX6_word_96 : decode cX6_word 96 = .ok (.invokestatic 141, 3) := by decide +kernel
theorem dX6_word_99 : decode cX6_word 99 = .ok (.lor, 1) := by decide +kernel
theorem dX6_word_100 : decode cX6_word 100 = .ok (.bipush 109, 2) := by decide +kernel
theorem dX6_word_102 : decode cX6_word 102 = .ok (.iconst 5, 1) := by decide +kernel
theorem dX6_word_103 : decode cX6_word 103 = .ok (.invokestatic 141, 3) := by decide +kernel
theorem dX6_word_106 : decode cX6_word 106 = .ok (.lor, 1) := by decide +kernel
theorem dX6_word_107 : decode cX6_word 107 = .ok (.bipush 47, 2) := by decide +kernel
theorem dX6_word_109 : decode cX6_word 109 = .ok (.bipush 6, 2) := by decide +kernel
theorem dX6_word_111 : decode cX6_word 111 = .ok (.invokestatic 141, 3) := by decide +kernel
theorem dX6_word_114 : decode cX6_word 114 = .ok (.lor, 1) := by decide +kernel
theorem dX6_word_115 : decode cX6_word 115 = .ok (.goto 30, 3) := by decide +kernel
theorem dX6_word_118 : decode cX6_word 118 = .ok (.bipush 115, 2) := by decide +kernel
theorem dX6_word_120 : decode cX6_word 120 = .ok (.iconst 0, 1) := by decide +kernel
theorem dX6_word_121 : decode cX6_word 121 = .ok (.invokestatic 141, 3) := by decide +kernel
theorem dX6_word_124 : decode cX6_word 124 = .ok (.bipush 111, 2) := by decide +kernel
theorem dX6_word_126 : decode cX6_word 126 = .ok (.iconst 1, 1) := by decide +kernel
theorem dX6_word_127 : decode cX6_word 127 = .ok (.invokestatic 141, 3) := by decide +kernel
theorem dX6_word_130 : decode cX6_word 130 = .ok (.lor, 1) := by decide +kernel
theorem dX6_word_131 : decode cX6_word 131 = .ok (.bipush 102, 2) := by decide +kernel
theorem dX6_word_133 : decode cX6_word 133 = .ok (.iconst 2, 1) := by decide +kernel
theorem dX6_word_134 : decode cX6_word 134 = .ok (.invokestatic 141, 3) := by decide +kernel
theorem dX6_word_137 : decode cX6_word 137 = .ok (.lor, 1) := by decide +kernel
theorem dX6_word_138 : decode cX6_word 138 = .ok (.bipush 116, 2) := by decide +kernel
theorem dX6_word_140 : decode cX6_word 140 = .ok (.iconst 3, 1) := by decide +kernel
theorem dX6_word_141 : decode cX6_word 141 = .ok (.invokestatic 141, 3) := by decide +kernel
theorem dX6_word_144 : decode cX6_word 144 = .ok (.lor, 1) := by decide +kernel
theorem dX6_word_145 : decode cX6_word 145 = .ok (.lstore_n 3, 1) := by decide +kernel
theorem dX6_word_146 : decode cX6_word 146 = .ok (.iconst 0, 1) := by decide +kernel
theorem dX6_word_147 : decode cX6_word 147 = .ok (.istore 5, 2) := by decide +kernel
theorem dX6_word_149 : decode cX6_word 149 = .ok (.iload 5, 2) := by decide +kernel
theorem dX6_word_151 : decode cX6_word 151 = .ok (.iload_n 2, 1) := by decide +kernel
theorem dX6_word_152 : decode cX6_word 152 = .ok (.if_icmp .ge 25, 3) := by decide +kernel
theorem dX6_word_155 : decode cX6_word 155 = .ok (.aload_n 0, 1) := by decide +kernel
theorem dX6_word_156 : decode cX6_word 156 = .ok (.lload_n 3, 1) := by decide +kernel
theorem dX6_word_157 : decode cX6_word 157 = .ok (.bipush 7, 2) := by decide +kernel
theorem dX6_word_159 : decode cX6_word 159 = .ok (.iload 5, 2) := by decide +kernel
theorem dX6_word_161 : decode cX6_word 161 = .ok (.imul, 1) := by decide +kernel
theorem dX6_word_162 : decode cX6_word 162 = .ok (.lshr, 1) := by decide +kernel
theorem dX6_word_163 : decode cX6_word 163 = .ok (.ldc2_w 122, 3) := by decide +kernel
theorem dX6_word_166 : decode cX6_word 166 = .ok (.land, 1) := by decide +kernel
theorem dX6_word_167 : decode cX6_word 167 = .ok (.l2i, 1) := by decide +kernel
theorem dX6_word_168 : decode cX6_word 168 = .ok (.invokevirtual 145, 3) := by decide +kernel
theorem dX6_word_171 : decode cX6_word 171 = .ok (.iinc 5 1, 3) := by decide +kernel
theorem dX6_word_174 : decode cX6_word 174 = .ok (.goto (-25), 3) := by decide +kernel
theorem dX6_word_177 : decode cX6_word 177 = .ok (.return_, 1) := by decide +kernel
theorem dX6_letter_0 : decode cX6_letter 0 = .ok (.iload_n 0, 1) := by decide +kernel
theorem dX6_letter_1 : decode cX6_letter 1 = .ok (.i2l, 1) := by decide +kernel
theorem dX6_letter_2 : decode cX6_letter 2 = .ok (.bipush 7, 2) := by decide +kernel
theorem dX6_letter_4 : decode cX6_letter 4 = .ok (.iload_n 1, 1) := by decide +kernel
theorem dX6_letter_5 : decode cX6_letter 5 = .ok (.imul, 1) := by decide +kernel
theorem dX6_letter_6 : decode cX6_letter 6 = .ok (.lshl, 1) := by decide +kernel
theorem dX6_letter_7 : decode cX6_letter 7 = .ok (.lreturn, 1) := by decide +kernel
set_option maxRecDepth 20000 in
theorem ggX6_figure_X6_here : GoodIn wsX6_figure wsX6_here := goodIn_r _ [10, 2, 11, 12, 22, 23, 24, 25, 26, 27, 28, 29, 30, 31, 32, 33, 34, 35, 36, 37, 38, 39, 40, 41, 42, 43, 44, 45] (by decide +kernel) (by decide +kernel)
set_option maxRecDepth 20000 in
theorem gX6_figure_X6_here : GoodIn wsX6_figure (wsV RX6 130 RX6 yX6_here wsX6_here) := goodIn_app (goodIn_of _ (by decide +kernel)) ggX6_figure_X6_here
set_option maxRecDepth 20000 in
theorem ggX6_figure_X6_isFigure : GoodIn wsX6_figure wsX6_isFigure := goodIn_r _ [16, 17, 18, 6, 7, 8, 9, 10, 2, 11, 12, 19, 20, 21, 22, 23, 24, 25, 26, 27, 28, 29, 30, 31, 32, 33, 34, 35, 36, 37, 38, 39, 40, 41, 42, 43, 44, 45] (by decide +kernel) (by decide +kernel)
set_option maxRecDepth 20000 in
theorem gX6_figure_X6_isFigure : GoodIn wsX6_figure (wsV RX6 149 RX6 yX6_isFigure wsX6_isFigure) := goodIn_app (goodIn_of _ (by decide +kernel)) ggX6_figure_X6_isFigure
theorem dX6_figure_0 : decode cX6_figure 0 = .ok (.aload_n 0, 1) := by decide +kernel
theorem dX6_figure_1 : decode cX6_figure 1 = .ok (.getfield 137, 3) := by decide +kernel
theorem dX6_figure_4 : decode cX6_figure 4 = .ok (.ifCond .eq 4, 3) := by decide +kernel
theorem dX6_figure_7 : decode cX6_figure 7 = .ok (.return_, 1) := by decide +kernel
theorem dX6_figure_8 : decode cX6_figure 8 = .ok (.aload_n 0, 1) := by decide +kernel
theorem dX6_figure_9 : decode cX6_figure 9 = .ok (.invokevirtual 130, 3) := by decide +kernel
theorem dX6_figure_12 : decode cX6_figure 12 = .ok (.bipush 45, 2) := by decide +kernel
theorem dX6_figure_14 : decode cX6_figure 14 = .ok (.if_icmp .ne 7, 3) := by decide +kernel
theorem dX6_figure_17 : decode cX6_figure 17 = .ok (.iconst 1, 1) := by decide +kernel
theorem dX6_figure_18 : decode cX6_figure 18 = .ok (.goto 4, 3) := by decide +kernel
theorem dX6_figure_21 : decode cX6_figure 21 = .ok (.iconst 0, 1) := by decide +kernel
theorem dX6_figure_22 : decode cX6_figure 22 = .ok (.istore_n 1, 1) := by decide +kernel
theorem dX6_figure_23 : decode cX6_figure 23 = .ok (.aload_n 0, 1) := by decide +kernel
theorem dX6_figure_24 : decode cX6_figure 24 = .ok (.dup, 1) := by decide +kernel
theorem dX6_figure_25 : decode cX6_figure 25 = .ok (.getfield 127, 3) := by decide +kernel
theorem dX6_figure_28 : decode cX6_figure 28 = .ok (.iload_n 1, 1) := by decide +kernel
theorem dX6_figure_29 : decode cX6_figure 29 = .ok (.ifCond .eq 7, 3) := by decide +kernel
theorem dX6_figure_32 : decode cX6_figure 32 = .ok (.iconst 1, 1) := by decide +kernel
theorem dX6_figure_33 : decode cX6_figure 33 = .ok (.goto 4, 3) := by decide +kernel
theorem dX6_figure_36 : decode cX6_figure 36 = .ok (.iconst 0, 1) := by decide +kernel
theorem dX6_figure_37 : decode cX6_figure 37 = .ok (.iadd, 1) := by decide +kernel
theorem dX6_figure_38 : decode cX6_figure 38 = .ok (.putfield 127, 3) := by decide +kernel
theorem dX6_figure_41 : decode cX6_figure 41 = .ok (.aload_n 0, 1) := by decide +kernel
theorem dX6_figure_42 : decode cX6_figure 42 = .ok (.invokevirtual 149, 3) := by decide +kernel
theorem dX6_figure_45 : decode cX6_figure 45 = .ok (.ifCond .eq 16, 3) := by decide +kernel
theorem dX6_figure_48 : decode cX6_figure 48 = .ok (.iload_n 1, 1) := by decide +kernel
theorem dX6_figure_49 : decode cX6_figure 49 = .ok (.ifCond .eq 18, 3) := by decide +kernel
theorem dX6_figure_52 : decode cX6_figure 52 = .ok (.aload_n 0, 1) := by decide +kernel
theorem dX6_figure_53 : decode cX6_figure 53 = .ok (.invokevirtual 130, 3) := by decide +kernel
theorem dX6_figure_56 : decode cX6_figure 56 = .ok (.bipush 48, 2) := by decide +kernel
theorem dX6_figure_58 : decode cX6_figure 58 = .ok (.if_icmp .ne 9, 3) := by decide +kernel
theorem dX6_figure_61 : decode cX6_figure 61 = .ok (.aload_n 0, 1) := by decide +kernel
theorem dX6_figure_62 : decode cX6_figure 62 = .ok (.iconst 1, 1) := by decide +kernel
theorem dX6_figure_63 : decode cX6_figure 63 = .ok (.putfield 137, 3) := by decide +kernel
theorem dX6_figure_66 : decode cX6_figure 66 = .ok (.return_, 1) := by decide +kernel
theorem dX6_figure_67 : decode cX6_figure 67 = .ok (.aload_n 0, 1) := by decide +kernel
theorem dX6_figure_68 : decode cX6_figure 68 = .ok (.invokevirtual 130, 3) := by decide +kernel
theorem dX6_figure_71 : decode cX6_figure 71 = .ok (.bipush 48, 2) := by decide +kernel
theorem dX6_figure_73 : decode cX6_figure 73 = .ok (.if_icmp .ne 7, 3) := by decide +kernel
theorem dX6_figure_76 : decode cX6_figure 76 = .ok (.iconst 1, 1) := by decide +kernel
theorem dX6_figure_77 : decode cX6_figure 77 = .ok (.goto 4, 3) := by decide +kernel
theorem dX6_figure_80 : decode cX6_figure 80 = .ok (.iconst 0, 1) := by decide +kernel
theorem dX6_figure_81 : decode cX6_figure 81 = .ok (.istore_n 2, 1) := by decide +kernel
theorem dX6_figure_82 : decode cX6_figure 82 = .ok (.aload_n 0, 1) := by decide +kernel
theorem dX6_figure_83 : decode cX6_figure 83 = .ok (.invokevirtual 130, 3) := by decide +kernel
theorem dX6_figure_86 : decode cX6_figure 86 = .ok (.bipush 48, 2) := by decide +kernel
theorem dX6_figure_88 : decode cX6_figure 88 = .ok (.isub, 1) := by decide +kernel
theorem dX6_figure_89 : decode cX6_figure 89 = .ok (.ineg, 1) := by decide +kernel
theorem dX6_figure_90 : decode cX6_figure 90 = .ok (.i2l, 1) := by decide +kernel
theorem dX6_figure_91 : decode cX6_figure 91 = .ok (.lstore_n 3, 1) := by decide +kernel
theorem dX6_figure_92 : decode cX6_figure 92 = .ok (.aload_n 0, 1) := by decide +kernel
theorem dX6_figure_93 : decode cX6_figure 93 = .ok (.dup, 1) := by decide +kernel
theorem dX6_figure_94 : decode cX6_figure 94 = .ok (.getfield 127, 3) := by decide +kernel
theorem dX6_figure_97 : decode cX6_figure 97 = .ok (.iconst 1, 1) := by decide +kernel
theorem dX6_figure_98 : decode cX6_figure 98 = .ok (.iadd, 1) := by decide +kernel
theorem dX6_figure_99 : decode cX6_figure 99 = .ok (.putfield 127, 3) := by decide +kernel
theorem dX6_figure_102 : decode cX6_figure 102 = .ok (.aload_n 0, 1) := by decide +kernel
theorem dX6_figure_103 : decode cX6_figure 103 = .ok (.invokevirtual 149, 3) := by decide +kernel
theorem dX6_figure_106 : decode cX6_figure 106 = .ok (.ifCond .eq 96, 3) := by decide +kernel
theorem dX6_figure_109 : decode cX6_figure 109 = .ok (.iload_n 2, 1) := by decide +kernel
theorem dX6_figure_110 : decode cX6_figure 110 = .ok (.ifCond .ne 92, 3) := by decide +kernel
theorem dX6_figure_113 : decode cX6_figure 113 = .ok (.aload_n 0, 1) := by decide +kernel
theorem dX6_figure_114 : decode cX6_figure 114 = .ok (.getfield 137, 3) := by decide +kernel
theorem dX6_figure_117 : decode cX6_figure 117 = .ok (.ifCond .ne 85, 3) := by decide +kernel
theorem dX6_figure_120 : decode cX6_figure 120 = .ok (.aload_n 0, 1) := by decide +kernel
theorem dX6_figure_121 : decode cX6_figure 121 = .ok (.invokevirtual 130, 3) := by decide +kernel
theorem dX6_figure_124 : decode cX6_figure 124 = .ok (.bipush 48, 2) := by decide +kernel
theorem dX6_figure_126 : decode cX6_figure 126 = .ok (.isub, 1) := by decide +kernel
theorem dX6_figure_127 : decode cX6_figure 127 = .ok (.istore 5, 2) := by decide +kernel
theorem dX6_figure_129 : decode cX6_figure 129 = .ok (.lload_n 3, 1) := by decide +kernel
theorem dX6_figure_130 : decode cX6_figure 130 = .ok (.ldc2_w 152, 3) := by decide +kernel
theorem dX6_figure_133 : decode cX6_figure 133 = .ok (.lcmp, 1) := by decide +kernel
theorem dX6_figure_134 : decode cX6_figure 134 = .ok (.ifCond .lt 27, 3) := by decide +kernel
theorem dX6_figure_137 : decode cX6_figure 137 = .ok (.lload_n 3, 1) := by decide +kernel
theorem dX6_figure_138 : decode cX6_figure 138 = .ok (.ldc2_w 152, 3) := by decide +kernel
theorem dX6_figure_141 : decode cX6_figure 141 = .ok (.lcmp, 1) := by decide +kernel
theorem dX6_figure_142 : decode cX6_figure 142 = .ok (.ifCond .ne 23, 3) := by decide +kernel
theorem dX6_figure_145 : decode cX6_figure 145 = .ok (.iload 5, 2) := by decide +kernel
theorem dX6_figure_147 : decode cX6_figure 147 = .ok (.iload_n 1, 1) := by decide +kernel
theorem dX6_figure_148 : decode cX6_figure 148 = .ok (.ifCond .eq 8, 3) := by decide +kernel
theorem dX6_figure_151 : decode cX6_figure 151 = .ok (.bipush 8, 2) := by decide +kernel
theorem dX6_figure_153 : decode cX6_figure 153 = .ok (.goto 5, 3) := by decide +kernel
theorem dX6_figure_156 : decode cX6_figure 156 = .ok (.bipush 7, 2) := by decide +kernel
theorem dX6_figure_158 : decode cX6_figure 158 = .ok (.if_icmp .le 7, 3) := by decide +kernel
theorem dX6_figure_161 : decode cX6_figure 161 = .ok (.iconst 1, 1) := by decide +kernel
theorem dX6_figure_162 : decode cX6_figure 162 = .ok (.goto 4, 3) := by decide +kernel
theorem dX6_figure_165 : decode cX6_figure 165 = .ok (.iconst 0, 1) := by decide +kernel
theorem dX6_figure_166 : decode cX6_figure 166 = .ok (.istore 6, 2) := by decide +kernel
theorem dX6_figure_168 : decode cX6_figure 168 = .ok (.aload_n 0, 1) := by decide +kernel
theorem dX6_figure_169 : decode cX6_figure 169 = .ok (.iload 6, 2) := by decide +kernel
theorem dX6_figure_171 : decode cX6_figure 171 = .ok (.putfield 137, 3) := by decide +kernel
theorem dX6_figure_174 : decode cX6_figure 174 = .ok (.iload 6, 2) := by decide +kernel
theorem dX6_figure_176 : decode cX6_figure 176 = .ok (.ifCond .ne 23, 3) := by decide +kernel
theorem dX6_figure_179 : decode cX6_figure 179 = .ok (.ldc2_w 154, 3) := by decide +kernel
theorem dX6_figure_182 : decode cX6_figure 182 = .ok (.lload_n 3, 1) := by decide +kernel
theorem dX6_figure_183 : decode cX6_figure 183 = .ok (.lmul, 1) := by decide +kernel
theorem dX6_figure_184 : decode cX6_figure 184 = .ok (.iload 5, 2) := by decide +kernel
theorem dX6_figure_186 : decode cX6_figure 186 = .ok (.i2l, 1) := by decide +kernel
theorem dX6_figure_187 : decode cX6_figure 187 = .ok (.lsub, 1) := by decide +kernel
theorem dX6_figure_188 : decode cX6_figure 188 = .ok (.lstore_n 3, 1) := by decide +kernel
theorem dX6_figure_189 : decode cX6_figure 189 = .ok (.aload_n 0, 1) := by decide +kernel
theorem dX6_figure_190 : decode cX6_figure 190 = .ok (.dup, 1) := by decide +kernel
theorem dX6_figure_191 : decode cX6_figure 191 = .ok (.getfield 127, 3) := by decide +kernel
theorem dX6_figure_194 : decode cX6_figure 194 = .ok (.iconst 1, 1) := by decide +kernel
theorem dX6_figure_195 : decode cX6_figure 195 = .ok (.iadd, 1) := by decide +kernel
theorem dX6_figure_196 : decode cX6_figure 196 = .ok (.putfield 127, 3) := by decide +kernel
theorem dX6_figure_199 : decode cX6_figure 199 = .ok (.goto (-97), 3) := by decide +kernel
theorem dX6_figure_202 : decode cX6_figure 202 = .ok (.aload_n 0, 1) := by decide +kernel
theorem dX6_figure_203 : decode cX6_figure 203 = .ok (.iload_n 1, 1) := by decide +kernel
theorem dX6_figure_204 : decode cX6_figure 204 = .ok (.ifCond .eq 7, 3) := by decide +kernel
theorem dX6_figure_207 : decode cX6_figure 207 = .ok (.lload_n 3, 1) := by decide +kernel
theorem dX6_figure_208 : decode cX6_figure 208 = .ok (.goto 5, 3) := by decide +kernel
theorem dX6_figure_211 : decode cX6_figure 211 = .ok (.lload_n 3, 1) := by decide +kernel
theorem dX6_figure_212 : decode cX6_figure 212 = .ok (.lneg, 1) := by decide +kernel
theorem dX6_figure_213 : decode cX6_figure 213 = .ok (.putfield 156, 3) := by decide +kernel
theorem dX6_figure_216 : decode cX6_figure 216 = .ok (.return_, 1) := by decide +kernel
theorem dX6_level_0 : decode cX6_level 0 = .ok (.aload_n 0, 1) := by decide +kernel
theorem dX6_level_1 : decode cX6_level 1 = .ok (.getfield 137, 3) := by decide +kernel
theorem dX6_level_4 : decode cX6_level 4 = .ok (.ifCond .ne 21, 3) := by decide +kernel
theorem dX6_level_7 : decode cX6_level 7 = .ok (.aload_n 0, 1) := by decide +kernel
theorem dX6_level_8 : decode cX6_level 8 = .ok (.getfield 19, 3) := by decide +kernel
theorem dX6_level_11 : decode cX6_level 11 = .ok (.bipush 12, 2) := by decide +kernel
theorem dX6_level_13 : decode cX6_level 13 = .ok (.aload_n 0, 1) := by decide +kernel
theorem dX6_level_14 : decode cX6_level 14 = .ok (.getfield 45, 3) := by decide +kernel
theorem dX6_level_17 : decode cX6_level 17 = .ok (.imul, 1) := by decide +kernel
theorem dX6_level_18 : decode cX6_level 18 = .ok (.iload_n 1, 1) := by decide +kernel
theorem dX6_level_19 : decode cX6_level 19 = .ok (.iadd, 1) := by decide +kernel
theorem dX6_level_20 : decode cX6_level 20 = .ok (.aload_n 0, 1) := by decide +kernel
theorem dX6_level_21 : decode cX6_level 21 = .ok (.getfield 156, 3) := by decide +kernel
theorem dX6_level_24 : decode cX6_level 24 = .ok (.lastore, 1) := by decide +kernel
theorem dX6_level_25 : decode cX6_level 25 = .ok (.return_, 1) := by decide +kernel
set_option maxRecDepth 20000 in
theorem ggX6_row_X6_here : GoodIn wsX6_row wsX6_here := goodIn_r _ [7, 2, 8, 9, 32, 33, 34, 35, 36, 37, 38, 39, 40, 41, 42, 43, 44, 45, 46, 47, 48, 49, 50, 51, 52, 53, 54, 55] (by decide +kernel) (by decide +kernel)
set_option maxRecDepth 20000 in
theorem gX6_row_X6_here : GoodIn wsX6_row (wsV RX6 130 RX6 yX6_here wsX6_here) := goodIn_app (goodIn_of _ (by decide +kernel)) ggX6_row_X6_here
set_option maxRecDepth 20000 in
theorem ggX6_row_X6_figure : GoodIn wsX6_row wsX6_figure := goodIn_r _ [13, 1, 2, 14, 15, 16, 3, 4, 5, 6, 7, 8, 9, 17, 18, 19, 20, 21, 22, 23, 24, 25, 32, 33, 34, 35, 36, 37, 38, 39, 40, 41, 42, 43, 44, 45, 46, 47, 48, 49, 50, 51, 52, 53, 54, 55] (by decide +kernel) (by decide +kernel)
set_option maxRecDepth 20000 in
theorem gX6_row_X6_figure : GoodIn wsX6_row (wsV RX6 159 RX6 yX6_figure wsX6_figure) := goodIn_app (goodIn_of _ (by decide +kernel)) ggX6_row_X6_figure
set_option maxRecDepth 20000 in
theorem ggX6_row_X6_level : GoodIn wsX6_row wsX6_level := goodIn_r _ [29, 1, 30, 31, 16, 32, 33, 34, 35, 36, 37, 38, 39, 40, 41, 42, 43, 44, 45, 46, 47, 48, 49, 50, 51, 52, 53, 54, 55] (by decide +kernel) (by decide +kernel)
set_option maxRecDepth 20000 in
theorem gX6_row_X6_level : GoodIn wsX6_row (wsV RX6 162 RX6 yX6_level wsX6_level) := goodIn_app (goodIn_of _ (by decide +kernel)) ggX6_row_X6_level
theorem dX6_row_0 : decode cX6_row 0 = .ok (.iconst 0, 1) := by decide +kernel
theorem dX6_row_1 : decode cX6_row 1 = .ok (.istore_n 2, 1) := by decide +kernel
theorem dX6_row_2 : decode cX6_row 2 = .ok (.aload_n 0, 1) := by decide +kernel
theorem dX6_row_3 : decode cX6_row 3 = .ok (.getfield 137, 3) := by decide +kernel
theorem dX6_row_6 : decode cX6_row 6 = .ok (.ifCond .ne 14, 3) := by decide +kernel
theorem dX6_row_9 : decode cX6_row 9 = .ok (.aload_n 0, 1) := by decide +kernel
theorem dX6_row_10 : decode cX6_row 10 = .ok (.invokevirtual 130, 3) := by decide +kernel
theorem dX6_row_13 : decode cX6_row 13 = .ok (.bipush 93, 2) := by decide +kernel
theorem dX6_row_15 : decode cX6_row 15 = .ok (.if_icmp .ne 5, 3) := by decide +kernel
theorem dX6_row_18 : decode cX6_row 18 = .ok (.iconst 0, 1) := by decide +kernel
theorem dX6_row_19 : decode cX6_row 19 = .ok (.ireturn, 1) := by decide +kernel
theorem dX6_row_20 : decode cX6_row 20 = .ok (.aload_n 0, 1) := by decide +kernel
theorem dX6_row_21 : decode cX6_row 21 = .ok (.invokevirtual 159, 3) := by decide +kernel
theorem dX6_row_24 : decode cX6_row 24 = .ok (.aload_n 0, 1) := by decide +kernel
theorem dX6_row_25 : decode cX6_row 25 = .ok (.iload_n 1, 1) := by decide +kernel
theorem dX6_row_26 : decode cX6_row 26 = .ok (.invokevirtual 162, 3) := by decide +kernel
theorem dX6_row_29 : decode cX6_row 29 = .ok (.iconst 1, 1) := by decide +kernel
theorem dX6_row_30 : decode cX6_row 30 = .ok (.istore_n 2, 1) := by decide +kernel
theorem dX6_row_31 : decode cX6_row 31 = .ok (.aload_n 0, 1) := by decide +kernel
theorem dX6_row_32 : decode cX6_row 32 = .ok (.getfield 137, 3) := by decide +kernel
theorem dX6_row_35 : decode cX6_row 35 = .ok (.ifCond .ne 45, 3) := by decide +kernel
theorem dX6_row_38 : decode cX6_row 38 = .ok (.aload_n 0, 1) := by decide +kernel
theorem dX6_row_39 : decode cX6_row 39 = .ok (.invokevirtual 130, 3) := by decide +kernel
theorem dX6_row_42 : decode cX6_row 42 = .ok (.bipush 47, 2) := by decide +kernel
theorem dX6_row_44 : decode cX6_row 44 = .ok (.if_icmp .ne 36, 3) := by decide +kernel
theorem dX6_row_47 : decode cX6_row 47 = .ok (.iload_n 2, 1) := by decide +kernel
theorem dX6_row_48 : decode cX6_row 48 = .ok (.bipush 6, 2) := by decide +kernel
theorem dX6_row_50 : decode cX6_row 50 = .ok (.if_icmp .ge 30, 3) := by decide +kernel
end
section
theorem dX6_row_53 : decode cX6_row 53 = .ok (.aload_n 0, 1) := by decide +kernel
theorem dX6_row_54 : decode cX6_row 54 = .ok (.dup, 1) := by decide +kernel
theorem dX6_row_55 : decode cX6_row 55 = .ok (.getfield 127, 3) := by decide +kernel
theorem dX6_row_58 : decode cX6_row 58 = .ok (.iconst 1, 1) := by decide +kernel
theorem dX6_row_59 : decode cX6_row 59 = .ok (.iadd, 1) := by decide +kernel
theorem dX6_row_60 : decode cX6_row 60 = .ok (.putfield 127, 3) := by decide +kernel
theorem dX6_row_63 : decode cX6_row 63 = .ok (.aload_n 0, 1) := by decide +kernel
theorem dX6_row_64 : decode cX6_row 64 = .ok (.invokevirtual 159, 3) := by decide +kernel
theorem dX6_row_67 : decode cX6_row 67 = .ok (.aload_n 0, 1) := by decide +kernel
theorem dX6_row_68 : decode cX6_row 68 = .ok (.iload_n 1, 1) := by decide +kernel
theorem dX6_row_69 : decode cX6_row 69 = .ok (.iload_n 2, 1) := by decide +kernel
theorem dX6_row_70 : decode cX6_row 70 = .ok (.iadd, 1) := by decide +kernel
theorem dX6_row_71 : decode cX6_row 71 = .ok (.invokevirtual 162, 3) := by decide +kernel
theorem dX6_row_74 : decode cX6_row 74 = .ok (.iinc 2 1, 3) := by decide +kernel
theorem dX6_row_77 : decode cX6_row 77 = .ok (.goto (-46), 3) := by decide +kernel
theorem dX6_row_80 : decode cX6_row 80 = .ok (.iload_n 2, 1) := by decide +kernel
theorem dX6_row_81 : decode cX6_row 81 = .ok (.ireturn, 1) := by decide +kernel
set_option maxRecDepth 20000 in
theorem ggX6_bent_X6_take : GoodIn wsX6_bent wsX6_take := goodIn_r _ [10, 1, 11, 12, 13, 14, 9, 15, 16, 17, 51, 52, 53, 54, 55, 56, 57, 58, 59, 60, 61, 62, 63, 64, 65, 66, 67, 68, 69, 70, 71, 72, 73, 74] (by decide +kernel) (by decide +kernel)
set_option maxRecDepth 20000 in
theorem gX6_bent_X6_take : GoodIn wsX6_bent (wsV RX6 145 RX6 yX6_take wsX6_take) := goodIn_app (goodIn_of _ (by decide +kernel)) ggX6_bent_X6_take
set_option maxRecDepth 20000 in
theorem ggX6_bent_X6_row : GoodIn wsX6_bent wsX6_row := goodIn_r _ [21, 1, 11, 12, 13, 14, 9, 15, 16, 17, 22, 23, 24, 25, 26, 27, 28, 29, 30, 31, 32, 33, 34, 35, 36, 37, 38, 39, 40, 41, 42, 3, 51, 52, 53, 54, 55, 56, 57, 58, 59, 60, 61, 62, 63, 64, 65, 66, 67, 68, 69, 70, 71, 72, 73, 74] (by decide +kernel) (by decide +kernel)
set_option maxRecDepth 20000 in
theorem gX6_bent_X6_row : GoodIn wsX6_bent (wsV RX6 165 RX6 yX6_row wsX6_row) := goodIn_app (goodIn_of _ (by decide +kernel)) ggX6_bent_X6_row
set_option maxRecDepth 20000 in
theorem ggX6_bent_X6_word : GoodIn wsX6_bent wsX6_word := goodIn_r _ [46, 47, 48, 49, 9, 50, 6, 7, 8, 10, 1, 11, 12, 13, 14, 15, 16, 17, 51, 52, 53, 54, 55, 56, 57, 58, 59, 60, 61, 62, 63, 64, 65, 66, 67, 68, 69, 70, 71, 72, 73, 74] (by decide +kernel) (by decide +kernel)
set_option maxRecDepth 20000 in
theorem gX6_bent_X6_word : GoodIn wsX6_bent (wsV RX6 169 RX6 yX6_word wsX6_word) := goodIn_app (goodIn_of _ (by decide +kernel)) ggX6_bent_X6_word
theorem dX6_bent_0 : decode cX6_bent 0 = .ok (.aload_n 0, 1) := by decide +kernel
theorem dX6_bent_1 : decode cX6_bent 1 = .ok (.bipush 91, 2) := by decide +kernel
theorem dX6_bent_3 : decode cX6_bent 3 = .ok (.invokevirtual 145, 3) := by decide +kernel
theorem dX6_bent_6 : decode cX6_bent 6 = .ok (.aload_n 0, 1) := by decide +kernel
theorem dX6_bent_7 : decode cX6_bent 7 = .ok (.iconst 0, 1) := by decide +kernel
theorem dX6_bent_8 : decode cX6_bent 8 = .ok (.invokevirtual 165, 3) := by decide +kernel
theorem dX6_bent_11 : decode cX6_bent 11 = .ok (.istore_n 1, 1) := by decide +kernel
theorem dX6_bent_12 : decode cX6_bent 12 = .ok (.aload_n 0, 1) := by decide +kernel
theorem dX6_bent_13 : decode cX6_bent 13 = .ok (.bipush 93, 2) := by decide +kernel
theorem dX6_bent_15 : decode cX6_bent 15 = .ok (.invokevirtual 145, 3) := by decide +kernel
theorem dX6_bent_18 : decode cX6_bent 18 = .ok (.aload_n 0, 1) := by decide +kernel
theorem dX6_bent_19 : decode cX6_bent 19 = .ok (.iconst 0, 1) := by decide +kernel
theorem dX6_bent_20 : decode cX6_bent 20 = .ok (.invokevirtual 169, 3) := by decide +kernel
theorem dX6_bent_23 : decode cX6_bent 23 = .ok (.aload_n 0, 1) := by decide +kernel
theorem dX6_bent_24 : decode cX6_bent 24 = .ok (.bipush 91, 2) := by decide +kernel
theorem dX6_bent_26 : decode cX6_bent 26 = .ok (.invokevirtual 145, 3) := by decide +kernel
theorem dX6_bent_29 : decode cX6_bent 29 = .ok (.aload_n 0, 1) := by decide +kernel
theorem dX6_bent_30 : decode cX6_bent 30 = .ok (.iload_n 1, 1) := by decide +kernel
theorem dX6_bent_31 : decode cX6_bent 31 = .ok (.invokevirtual 165, 3) := by decide +kernel
theorem dX6_bent_34 : decode cX6_bent 34 = .ok (.istore_n 2, 1) := by decide +kernel
theorem dX6_bent_35 : decode cX6_bent 35 = .ok (.aload_n 0, 1) := by decide +kernel
theorem dX6_bent_36 : decode cX6_bent 36 = .ok (.aload_n 0, 1) := by decide +kernel
theorem dX6_bent_37 : decode cX6_bent 37 = .ok (.getfield 137, 3) := by decide +kernel
theorem dX6_bent_40 : decode cX6_bent 40 = .ok (.ifCond .ne 9, 3) := by decide +kernel
theorem dX6_bent_43 : decode cX6_bent 43 = .ok (.iload_n 1, 1) := by decide +kernel
theorem dX6_bent_44 : decode cX6_bent 44 = .ok (.iload_n 2, 1) := by decide +kernel
theorem dX6_bent_45 : decode cX6_bent 45 = .ok (.iadd, 1) := by decide +kernel
theorem dX6_bent_46 : decode cX6_bent 46 = .ok (.ifCond .ne 7, 3) := by decide +kernel
theorem dX6_bent_49 : decode cX6_bent 49 = .ok (.iconst 1, 1) := by decide +kernel
theorem dX6_bent_50 : decode cX6_bent 50 = .ok (.goto 4, 3) := by decide +kernel
theorem dX6_bent_53 : decode cX6_bent 53 = .ok (.iconst 0, 1) := by decide +kernel
theorem dX6_bent_54 : decode cX6_bent 54 = .ok (.putfield 137, 3) := by decide +kernel
theorem dX6_bent_57 : decode cX6_bent 57 = .ok (.aload_n 0, 1) := by decide +kernel
theorem dX6_bent_58 : decode cX6_bent 58 = .ok (.bipush 93, 2) := by decide +kernel
theorem dX6_bent_60 : decode cX6_bent 60 = .ok (.invokevirtual 145, 3) := by decide +kernel
theorem dX6_bent_63 : decode cX6_bent 63 = .ok (.aload_n 0, 1) := by decide +kernel
theorem dX6_bent_64 : decode cX6_bent 64 = .ok (.iconst 2, 1) := by decide +kernel
theorem dX6_bent_65 : decode cX6_bent 65 = .ok (.invokevirtual 169, 3) := by decide +kernel
theorem dX6_bent_68 : decode cX6_bent 68 = .ok (.aload_n 0, 1) := by decide +kernel
theorem dX6_bent_69 : decode cX6_bent 69 = .ok (.getfield 7, 3) := by decide +kernel
theorem dX6_bent_72 : decode cX6_bent 72 = .ok (.aload_n 0, 1) := by decide +kernel
theorem dX6_bent_73 : decode cX6_bent 73 = .ok (.getfield 45, 3) := by decide +kernel
theorem dX6_bent_76 : decode cX6_bent 76 = .ok (.iconst 3, 1) := by decide +kernel
theorem dX6_bent_77 : decode cX6_bent 77 = .ok (.iastore, 1) := by decide +kernel
theorem dX6_bent_78 : decode cX6_bent 78 = .ok (.aload_n 0, 1) := by decide +kernel
theorem dX6_bent_79 : decode cX6_bent 79 = .ok (.getfield 13, 3) := by decide +kernel
theorem dX6_bent_82 : decode cX6_bent 82 = .ok (.aload_n 0, 1) := by decide +kernel
theorem dX6_bent_83 : decode cX6_bent 83 = .ok (.getfield 45, 3) := by decide +kernel
theorem dX6_bent_86 : decode cX6_bent 86 = .ok (.iload_n 1, 1) := by decide +kernel
theorem dX6_bent_87 : decode cX6_bent 87 = .ok (.iastore, 1) := by decide +kernel
theorem dX6_bent_88 : decode cX6_bent 88 = .ok (.aload_n 0, 1) := by decide +kernel
theorem dX6_bent_89 : decode cX6_bent 89 = .ok (.getfield 16, 3) := by decide +kernel
theorem dX6_bent_92 : decode cX6_bent 92 = .ok (.aload_n 0, 1) := by decide +kernel
theorem dX6_bent_93 : decode cX6_bent 93 = .ok (.getfield 45, 3) := by decide +kernel
theorem dX6_bent_96 : decode cX6_bent 96 = .ok (.iload_n 1, 1) := by decide +kernel
theorem dX6_bent_97 : decode cX6_bent 97 = .ok (.iload_n 2, 1) := by decide +kernel
theorem dX6_bent_98 : decode cX6_bent 98 = .ok (.iadd, 1) := by decide +kernel
theorem dX6_bent_99 : decode cX6_bent 99 = .ok (.iastore, 1) := by decide +kernel
theorem dX6_bent_100 : decode cX6_bent 100 = .ok (.return_, 1) := by decide +kernel
set_option maxRecDepth 20000 in
theorem ggX6_plain_X6_figure : GoodIn wsX6_plain wsX6_figure := goodIn_r _ [12, 1, 2, 13, 14, 15, 16, 17, 18, 11, 19, 3, 20, 21, 22, 23, 24, 25, 26, 27, 28, 29, 47, 48, 49, 50, 51, 52, 53, 54, 55, 56, 57, 58, 59, 60, 61, 62, 63, 64, 65, 66, 67, 68, 69, 70] (by decide +kernel) (by decide +kernel)
set_option maxRecDepth 20000 in
theorem gX6_plain_X6_figure : GoodIn wsX6_plain (wsV RX6 159 RX6 yX6_figure wsX6_figure) := goodIn_app (goodIn_of _ (by decide +kernel)) ggX6_plain_X6_figure
set_option maxRecDepth 20000 in
theorem ggX6_plain_X6_level : GoodIn wsX6_plain wsX6_level := goodIn_r _ [33, 1, 34, 5, 15, 47, 48, 49, 50, 51, 52, 53, 54, 55, 56, 57, 58, 59, 60, 61, 62, 63, 64, 65, 66, 67, 68, 69, 70] (by decide +kernel) (by decide +kernel)
set_option maxRecDepth 20000 in
theorem gX6_plain_X6_level : GoodIn wsX6_plain (wsV RX6 162 RX6 yX6_level wsX6_level) := goodIn_app (goodIn_of _ (by decide +kernel)) ggX6_plain_X6_level
set_option maxRecDepth 20000 in
theorem ggX6_plain_X6_word : GoodIn wsX6_plain wsX6_word := goodIn_r _ [38, 39, 40, 41, 11, 42, 43, 44, 45, 46, 1, 2, 16, 17, 18, 19, 3, 20, 47, 48, 49, 50, 51, 52, 53, 54, 55, 56, 57, 58, 59, 60, 61, 62, 63, 64, 65, 66, 67, 68, 69, 70] (by decide +kernel) (by decide +kernel)
set_option maxRecDepth 20000 in
theorem gX6_plain_X6_word : GoodIn wsX6_plain (wsV RX6 169 RX6 yX6_word wsX6_word) := goodIn_app (goodIn_of _ (by decide +kernel)) ggX6_plain_X6_word
set_option maxRecDepth 20000 in
theorem ggX6_plain_X6_here : GoodIn wsX6_plain wsX6_here := goodIn_r _ [19, 2, 3, 20, 47, 48, 49, 50, 51, 52, 53, 54, 55, 56, 57, 58, 59, 60, 61, 62, 63, 64, 65, 66, 67, 68, 69, 70] (by decide +kernel) (by decide +kernel)
set_option maxRecDepth 20000 in
theorem gX6_plain_X6_here : GoodIn wsX6_plain (wsV RX6 130 RX6 yX6_here wsX6_here) := goodIn_app (goodIn_of _ (by decide +kernel)) ggX6_plain_X6_here
theorem dX6_plain_0 : decode cX6_plain 0 = .ok (.aload_n 0, 1) := by decide +kernel
theorem dX6_plain_1 : decode cX6_plain 1 = .ok (.invokevirtual 159, 3) := by decide +kernel
theorem dX6_plain_4 : decode cX6_plain 4 = .ok (.aload_n 0, 1) := by decide +kernel
theorem dX6_plain_5 : decode cX6_plain 5 = .ok (.iconst 0, 1) := by decide +kernel
theorem dX6_plain_6 : decode cX6_plain 6 = .ok (.invokevirtual 162, 3) := by decide +kernel
theorem dX6_plain_9 : decode cX6_plain 9 = .ok (.iconst 0, 1) := by decide +kernel
theorem dX6_plain_10 : decode cX6_plain 10 = .ok (.istore_n 1, 1) := by decide +kernel
theorem dX6_plain_11 : decode cX6_plain 11 = .ok (.aload_n 0, 1) := by decide +kernel
theorem dX6_plain_12 : decode cX6_plain 12 = .ok (.getfield 137, 3) := by decide +kernel
theorem dX6_plain_15 : decode cX6_plain 15 = .ok (.ifCond .ne 67, 3) := by decide +kernel
theorem dX6_plain_18 : decode cX6_plain 18 = .ok (.aload_n 0, 1) := by decide +kernel
theorem dX6_plain_19 : decode cX6_plain 19 = .ok (.getfield 127, 3) := by decide +kernel
theorem dX6_plain_22 : decode cX6_plain 22 = .ok (.aload_n 0, 1) := by decide +kernel
theorem dX6_plain_23 : decode cX6_plain 23 = .ok (.getfield 124, 3) := by decide +kernel
theorem dX6_plain_26 : decode cX6_plain 26 = .ok (.if_icmp .ge 56, 3) := by decide +kernel
theorem dX6_plain_29 : decode cX6_plain 29 = .ok (.aload_n 0, 1) := by decide +kernel
theorem dX6_plain_30 : decode cX6_plain 30 = .ok (.iconst 0, 1) := by decide +kernel
theorem dX6_plain_31 : decode cX6_plain 31 = .ok (.invokevirtual 169, 3) := by decide +kernel
theorem dX6_plain_34 : decode cX6_plain 34 = .ok (.aload_n 0, 1) := by decide +kernel
theorem dX6_plain_35 : decode cX6_plain 35 = .ok (.invokevirtual 159, 3) := by decide +kernel
theorem dX6_plain_38 : decode cX6_plain 38 = .ok (.aload_n 0, 1) := by decide +kernel
theorem dX6_plain_39 : decode cX6_plain 39 = .ok (.iconst 1, 1) := by decide +kernel
theorem dX6_plain_40 : decode cX6_plain 40 = .ok (.invokevirtual 162, 3) := by decide +kernel
theorem dX6_plain_43 : decode cX6_plain 43 = .ok (.iconst 1, 1) := by decide +kernel
theorem dX6_plain_44 : decode cX6_plain 44 = .ok (.istore_n 1, 1) := by decide +kernel
theorem dX6_plain_45 : decode cX6_plain 45 = .ok (.aload_n 0, 1) := by decide +kernel
theorem dX6_plain_46 : decode cX6_plain 46 = .ok (.getfield 137, 3) := by decide +kernel
theorem dX6_plain_49 : decode cX6_plain 49 = .ok (.ifCond .ne 28, 3) := by decide +kernel
theorem dX6_plain_52 : decode cX6_plain 52 = .ok (.aload_n 0, 1) := by decide +kernel
theorem dX6_plain_53 : decode cX6_plain 53 = .ok (.invokevirtual 130, 3) := by decide +kernel
theorem dX6_plain_56 : decode cX6_plain 56 = .ok (.bipush 109, 2) := by decide +kernel
theorem dX6_plain_58 : decode cX6_plain 58 = .ok (.if_icmp .ne 19, 3) := by decide +kernel
theorem dX6_plain_61 : decode cX6_plain 61 = .ok (.aload_n 0, 1) := by decide +kernel
theorem dX6_plain_62 : decode cX6_plain 62 = .ok (.iconst 1, 1) := by decide +kernel
theorem dX6_plain_63 : decode cX6_plain 63 = .ok (.invokevirtual 169, 3) := by decide +kernel
theorem dX6_plain_66 : decode cX6_plain 66 = .ok (.aload_n 0, 1) := by decide +kernel
theorem dX6_plain_67 : decode cX6_plain 67 = .ok (.invokevirtual 159, 3) := by decide +kernel
theorem dX6_plain_70 : decode cX6_plain 70 = .ok (.aload_n 0, 1) := by decide +kernel
theorem dX6_plain_71 : decode cX6_plain 71 = .ok (.iconst 2, 1) := by decide +kernel
theorem dX6_plain_72 : decode cX6_plain 72 = .ok (.invokevirtual 162, 3) := by decide +kernel
theorem dX6_plain_75 : decode cX6_plain 75 = .ok (.iconst 2, 1) := by decide +kernel
theorem dX6_plain_76 : decode cX6_plain 76 = .ok (.istore_n 1, 1) := by decide +kernel
theorem dX6_plain_77 : decode cX6_plain 77 = .ok (.aload_n 0, 1) := by decide +kernel
theorem dX6_plain_78 : decode cX6_plain 78 = .ok (.iconst 2, 1) := by decide +kernel
theorem dX6_plain_79 : decode cX6_plain 79 = .ok (.invokevirtual 169, 3) := by decide +kernel
theorem dX6_plain_82 : decode cX6_plain 82 = .ok (.aload_n 0, 1) := by decide +kernel
theorem dX6_plain_83 : decode cX6_plain 83 = .ok (.getfield 7, 3) := by decide +kernel
theorem dX6_plain_86 : decode cX6_plain 86 = .ok (.aload_n 0, 1) := by decide +kernel
theorem dX6_plain_87 : decode cX6_plain 87 = .ok (.getfield 45, 3) := by decide +kernel
theorem dX6_plain_90 : decode cX6_plain 90 = .ok (.iload_n 1, 1) := by decide +kernel
theorem dX6_plain_91 : decode cX6_plain 91 = .ok (.iastore, 1) := by decide +kernel
theorem dX6_plain_92 : decode cX6_plain 92 = .ok (.aload_n 0, 1) := by decide +kernel
theorem dX6_plain_93 : decode cX6_plain 93 = .ok (.getfield 13, 3) := by decide +kernel
theorem dX6_plain_96 : decode cX6_plain 96 = .ok (.aload_n 0, 1) := by decide +kernel
theorem dX6_plain_97 : decode cX6_plain 97 = .ok (.getfield 45, 3) := by decide +kernel
theorem dX6_plain_100 : decode cX6_plain 100 = .ok (.iload_n 1, 1) := by decide +kernel
theorem dX6_plain_101 : decode cX6_plain 101 = .ok (.ifCond .ne 7, 3) := by decide +kernel
theorem dX6_plain_104 : decode cX6_plain 104 = .ok (.iconst 0, 1) := by decide +kernel
theorem dX6_plain_105 : decode cX6_plain 105 = .ok (.goto 4, 3) := by decide +kernel
theorem dX6_plain_108 : decode cX6_plain 108 = .ok (.iconst 1, 1) := by decide +kernel
theorem dX6_plain_109 : decode cX6_plain 109 = .ok (.iastore, 1) := by decide +kernel
theorem dX6_plain_110 : decode cX6_plain 110 = .ok (.aload_n 0, 1) := by decide +kernel
theorem dX6_plain_111 : decode cX6_plain 111 = .ok (.getfield 16, 3) := by decide +kernel
theorem dX6_plain_114 : decode cX6_plain 114 = .ok (.aload_n 0, 1) := by decide +kernel
theorem dX6_plain_115 : decode cX6_plain 115 = .ok (.getfield 45, 3) := by decide +kernel
theorem dX6_plain_118 : decode cX6_plain 118 = .ok (.iload_n 1, 1) := by decide +kernel
theorem dX6_plain_119 : decode cX6_plain 119 = .ok (.iconst 1, 1) := by decide +kernel
theorem dX6_plain_120 : decode cX6_plain 120 = .ok (.iadd, 1) := by decide +kernel
theorem dX6_plain_121 : decode cX6_plain 121 = .ok (.iastore, 1) := by decide +kernel
theorem dX6_plain_122 : decode cX6_plain 122 = .ok (.return_, 1) := by decide +kernel
set_option maxRecDepth 20000 in
theorem ggX6_read_X6_lay : GoodIn wsX6_read wsX6_lay := goodIn_r _ [10, 11, 1, 12, 5, 13, 67, 68, 69, 70, 71, 72, 73, 74, 75, 76, 77, 78, 79, 80, 81, 82, 83, 84, 85, 86, 87, 88, 89, 90] (by decide +kernel) (by decide +kernel)
set_option maxRecDepth 20000 in
theorem gX6_read_X6_lay : GoodIn wsX6_read (wsV RX6 60 RX6 yX6_lay wsX6_lay) := goodIn_app (goodIn_of _ (by decide +kernel)) ggX6_read_X6_lay
set_option maxRecDepth 20000 in
theorem ggX6_read_X6_here : GoodIn wsX6_read wsX6_here := goodIn_r _ [17, 3, 2, 18, 67, 68, 69, 70, 71, 72, 73, 74, 75, 76, 77, 78, 79, 80, 81, 82, 83, 84, 85, 86, 87, 88, 89, 90] (by decide +kernel) (by decide +kernel)
set_option maxRecDepth 20000 in
theorem gX6_read_X6_here : GoodIn wsX6_read (wsV RX6 130 RX6 yX6_here wsX6_here) := goodIn_app (goodIn_of _ (by decide +kernel)) ggX6_read_X6_here
set_option maxRecDepth 20000 in
theorem ggX6_read_X6_bent : GoodIn wsX6_read wsX6_bent := goodIn_r _ [22, 4, 11, 1, 12, 5, 23, 24, 25, 9, 26, 3, 14, 15, 16, 17, 2, 18, 27, 28, 29, 30, 31, 32, 33, 34, 35, 36, 37, 38, 39, 40, 41, 42, 43, 44, 45, 46, 47, 48, 49, 50, 13, 51, 52, 53, 54, 55, 56, 57, 58, 67, 68, 69, 70, 71, 72, 73, 74, 75, 76, 77, 78, 79, 80, 81, 82, 83, 84, 85, 86, 87, 88, 89, 90] (by decide +kernel) (by decide +kernel)
set_option maxRecDepth 20000 in
theorem gX6_read_X6_bent : GoodIn wsX6_read (wsV RX6 172 RX6 yX6_bent wsX6_bent) := goodIn_app (goodIn_of _ (by decide +kernel)) ggX6_read_X6_bent
set_option maxRecDepth 20000 in
theorem ggX6_read_X6_plain : GoodIn wsX6_read wsX6_plain := goodIn_r _ [62, 4, 3, 2, 11, 1, 12, 5, 31, 32, 33, 9, 34, 35, 36, 37, 14, 15, 16, 17, 18, 38, 39, 40, 41, 42, 43, 44, 45, 46, 47, 48, 49, 50, 13, 51, 52, 53, 54, 55, 56, 57, 58, 23, 24, 25, 26, 67, 68, 69, 70, 71, 72, 73, 74, 75, 76, 77, 78, 79, 80, 81, 82, 83, 84, 85, 86, 87, 88, 89, 90] (by decide +kernel) (by decide +kernel)
set_option maxRecDepth 20000 in
theorem gX6_read_X6_plain : GoodIn wsX6_read (wsV RX6 175 RX6 yX6_plain wsX6_plain) := goodIn_app (goodIn_of _ (by decide +kernel)) ggX6_read_X6_plain
set_option maxRecDepth 20000 in
theorem ggX6_read_X6_keepScore : GoodIn wsX6_read wsX6_keepScore := goodIn_r _ [66, 1, 67, 68, 69, 70, 71, 72, 73, 74, 75, 76, 77, 78, 79, 80, 81, 82, 83, 84, 85, 86, 87, 88, 89, 90] (by decide +kernel) (by decide +kernel)
set_option maxRecDepth 20000 in
theorem gX6_read_X6_keepScore : GoodIn wsX6_read (wsV RX6 64 RX6 yX6_keepScore wsX6_keepScore) := goodIn_app (goodIn_of _ (by decide +kernel)) ggX6_read_X6_keepScore
theorem dX6_read_0 : decode cX6_read 0 = .ok (.aload_n 0, 1) := by decide +kernel
theorem dX6_read_1 : decode cX6_read 1 = .ok (.getfield 45, 3) := by decide +kernel
theorem dX6_read_4 : decode cX6_read 4 = .ok (.bipush 60, 2) := by decide +kernel
theorem dX6_read_6 : decode cX6_read 6 = .ok (.if_icmp .ne 11, 3) := by decide +kernel
theorem dX6_read_9 : decode cX6_read 9 = .ok (.aload_n 0, 1) := by decide +kernel
theorem dX6_read_10 : decode cX6_read 10 = .ok (.iconst 0, 1) := by decide +kernel
theorem dX6_read_11 : decode cX6_read 11 = .ok (.putfield 124, 3) := by decide +kernel
theorem dX6_read_14 : decode cX6_read 14 = .ok (.bipush (-4), 2) := by decide +kernel
theorem dX6_read_16 : decode cX6_read 16 = .ok (.ireturn, 1) := by decide +kernel
theorem dX6_read_17 : decode cX6_read 17 = .ok (.aload_n 0, 1) := by decide +kernel
theorem dX6_read_18 : decode cX6_read 18 = .ok (.iconst 0, 1) := by decide +kernel
theorem dX6_read_19 : decode cX6_read 19 = .ok (.putfield 127, 3) := by decide +kernel
theorem dX6_read_22 : decode cX6_read 22 = .ok (.aload_n 0, 1) := by decide +kernel
theorem dX6_read_23 : decode cX6_read 23 = .ok (.iconst 0, 1) := by decide +kernel
theorem dX6_read_24 : decode cX6_read 24 = .ok (.putfield 137, 3) := by decide +kernel
theorem dX6_read_27 : decode cX6_read 27 = .ok (.aload_n 0, 1) := by decide +kernel
theorem dX6_read_28 : decode cX6_read 28 = .ok (.iconst 0, 1) := by decide +kernel
theorem dX6_read_29 : decode cX6_read 29 = .ok (.iconst 0, 1) := by decide +kernel
theorem dX6_read_30 : decode cX6_read 30 = .ok (.iconst 0, 1) := by decide +kernel
theorem dX6_read_31 : decode cX6_read 31 = .ok (.invokevirtual 60, 3) := by decide +kernel
theorem dX6_read_34 : decode cX6_read 34 = .ok (.aload_n 0, 1) := by decide +kernel
theorem dX6_read_35 : decode cX6_read 35 = .ok (.invokevirtual 130, 3) := by decide +kernel
theorem dX6_read_38 : decode cX6_read 38 = .ok (.bipush 91, 2) := by decide +kernel
theorem dX6_read_40 : decode cX6_read 40 = .ok (.if_icmp .ne 10, 3) := by decide +kernel
theorem dX6_read_43 : decode cX6_read 43 = .ok (.aload_n 0, 1) := by decide +kernel
theorem dX6_read_44 : decode cX6_read 44 = .ok (.invokevirtual 172, 3) := by decide +kernel
theorem dX6_read_47 : decode cX6_read 47 = .ok (.goto 7, 3) := by decide +kernel
theorem dX6_read_50 : decode cX6_read 50 = .ok (.aload_n 0, 1) := by decide +kernel
theorem dX6_read_51 : decode cX6_read 51 = .ok (.invokevirtual 175, 3) := by decide +kernel
theorem dX6_read_54 : decode cX6_read 54 = .ok (.aload_n 0, 1) := by decide +kernel
theorem dX6_read_55 : decode cX6_read 55 = .ok (.getfield 137, 3) := by decide +kernel
theorem dX6_read_58 : decode cX6_read 58 = .ok (.ifCond .ne 30, 3) := by decide +kernel
theorem dX6_read_61 : decode cX6_read 61 = .ok (.aload_n 0, 1) := by decide +kernel
theorem dX6_read_62 : decode cX6_read 62 = .ok (.getfield 127, 3) := by decide +kernel
theorem dX6_read_65 : decode cX6_read 65 = .ok (.aload_n 0, 1) := by decide +kernel
theorem dX6_read_66 : decode cX6_read 66 = .ok (.getfield 124, 3) := by decide +kernel
theorem dX6_read_69 : decode cX6_read 69 = .ok (.if_icmp .ne 19, 3) := by decide +kernel
theorem dX6_read_72 : decode cX6_read 72 = .ok (.aload_n 0, 1) := by decide +kernel
theorem dX6_read_73 : decode cX6_read 73 = .ok (.getfield 16, 3) := by decide +kernel
theorem dX6_read_76 : decode cX6_read 76 = .ok (.aload_n 0, 1) := by decide +kernel
theorem dX6_read_77 : decode cX6_read 77 = .ok (.getfield 45, 3) := by decide +kernel
theorem dX6_read_80 : decode cX6_read 80 = .ok (.iaload, 1) := by decide +kernel
theorem dX6_read_81 : decode cX6_read 81 = .ok (.ifCond .le 7, 3) := by decide +kernel
theorem dX6_read_84 : decode cX6_read 84 = .ok (.iconst 1, 1) := by decide +kernel
theorem dX6_read_85 : decode cX6_read 85 = .ok (.goto 4, 3) := by decide +kernel
theorem dX6_read_88 : decode cX6_read 88 = .ok (.iconst 0, 1) := by decide +kernel
theorem dX6_read_89 : decode cX6_read 89 = .ok (.istore_n 1, 1) := by decide +kernel
theorem dX6_read_90 : decode cX6_read 90 = .ok (.aload_n 0, 1) := by decide +kernel
theorem dX6_read_91 : decode cX6_read 91 = .ok (.getfield 127, 3) := by decide +kernel
theorem dX6_read_94 : decode cX6_read 94 = .ok (.istore_n 2, 1) := by decide +kernel
theorem dX6_read_95 : decode cX6_read 95 = .ok (.aload_n 0, 1) := by decide +kernel
theorem dX6_read_96 : decode cX6_read 96 = .ok (.iconst 0, 1) := by decide +kernel
theorem dX6_read_97 : decode cX6_read 97 = .ok (.putfield 124, 3) := by decide +kernel
theorem dX6_read_100 : decode cX6_read 100 = .ok (.iload_n 1, 1) := by decide +kernel
theorem dX6_read_101 : decode cX6_read 101 = .ok (.ifCond .eq 10, 3) := by decide +kernel
theorem dX6_read_104 : decode cX6_read 104 = .ok (.aload_n 0, 1) := by decide +kernel
theorem dX6_read_105 : decode cX6_read 105 = .ok (.invokevirtual 64, 3) := by decide +kernel
theorem dX6_read_108 : decode cX6_read 108 = .ok (.goto 7, 3) := by decide +kernel
theorem dX6_read_111 : decode cX6_read 111 = .ok (.bipush (-100), 2) := by decide +kernel
theorem dX6_read_113 : decode cX6_read 113 = .ok (.iload_n 2, 1) := by decide +kernel
theorem dX6_read_114 : decode cX6_read 114 = .ok (.isub, 1) := by decide +kernel
theorem dX6_read_115 : decode cX6_read 115 = .ok (.ireturn, 1) := by decide +kernel
theorem dX6_write_0 : decode cX6_write 0 = .ok (.aload_n 0, 1) := by decide +kernel
theorem dX6_write_1 : decode cX6_write 1 = .ok (.getfield 39, 3) := by decide +kernel
theorem dX6_write_4 : decode cX6_write 4 = .ok (.aload_n 0, 1) := by decide +kernel
theorem dX6_write_5 : decode cX6_write 5 = .ok (.getfield 178, 3) := by decide +kernel
theorem dX6_write_8 : decode cX6_write 8 = .ok (.iload_n 1, 1) := by decide +kernel
theorem dX6_write_9 : decode cX6_write 9 = .ok (.iastore, 1) := by decide +kernel
theorem dX6_write_10 : decode cX6_write 10 = .ok (.aload_n 0, 1) := by decide +kernel
theorem dX6_write_11 : decode cX6_write 11 = .ok (.dup, 1) := by decide +kernel
theorem dX6_write_12 : decode cX6_write 12 = .ok (.getfield 178, 3) := by decide +kernel
theorem dX6_write_15 : decode cX6_write 15 = .ok (.iconst 1, 1) := by decide +kernel
theorem dX6_write_16 : decode cX6_write 16 = .ok (.iadd, 1) := by decide +kernel
theorem dX6_write_17 : decode cX6_write 17 = .ok (.putfield 178, 3) := by decide +kernel
theorem dX6_write_20 : decode cX6_write 20 = .ok (.return_, 1) := by decide +kernel
set_option maxRecDepth 20000 in
theorem ggX6_writeNumber_X6_write : GoodIn wsX6_writeNumber wsX6_write := goodIn_r _ [8, 9, 10, 11, 12, 13, 14, 15, 16, 17, 18, 19, 20, 21, 22, 23, 24, 25, 26, 27, 28, 29, 30, 31, 32, 33, 34] (by decide +kernel) (by decide +kernel)
set_option maxRecDepth 20000 in
theorem gX6_writeNumber_X6_write : GoodIn wsX6_writeNumber (wsV RX6 181 RX6 yX6_write wsX6_write) := goodIn_app (goodIn_of _ (by decide +kernel)) ggX6_writeNumber_X6_write
theorem dX6_writeNumber_0 : decode cX6_writeNumber 0 = .ok (.lload_n 1, 1) := by decide +kernel
theorem dX6_writeNumber_1 : decode cX6_writeNumber 1 = .ok (.lconst 0, 1) := by decide +kernel
theorem dX6_writeNumber_2 : decode cX6_writeNumber 2 = .ok (.lcmp, 1) := by decide +kernel
theorem dX6_writeNumber_3 : decode cX6_writeNumber 3 = .ok (.ifCond .ge 9, 3) := by decide +kernel
theorem dX6_writeNumber_6 : decode cX6_writeNumber 6 = .ok (.aload_n 0, 1) := by decide +kernel
theorem dX6_writeNumber_7 : decode cX6_writeNumber 7 = .ok (.bipush 45, 2) := by decide +kernel
theorem dX6_writeNumber_9 : decode cX6_writeNumber 9 = .ok (.invokevirtual 181, 3) := by decide +kernel
theorem dX6_writeNumber_12 : decode cX6_writeNumber 12 = .ok (.lconst 1, 1) := by decide +kernel
theorem dX6_writeNumber_13 : decode cX6_writeNumber 13 = .ok (.lstore_n 3, 1) := by decide +kernel
theorem dX6_writeNumber_14 : decode cX6_writeNumber 14 = .ok (.lload_n 1, 1) := by decide +kernel
theorem dX6_writeNumber_15 : decode cX6_writeNumber 15 = .ok (.lload_n 3, 1) := by decide +kernel
theorem dX6_writeNumber_16 : decode cX6_writeNumber 16 = .ok (.ldiv, 1) := by decide +kernel
theorem dX6_writeNumber_17 : decode cX6_writeNumber 17 = .ok (.ldc2_w 184, 3) := by decide +kernel
theorem dX6_writeNumber_20 : decode cX6_writeNumber 20 = .ok (.lcmp, 1) := by decide +kernel
theorem dX6_writeNumber_21 : decode cX6_writeNumber 21 = .ok (.ifCond .gt 13, 3) := by decide +kernel
theorem dX6_writeNumber_24 : decode cX6_writeNumber 24 = .ok (.lload_n 1, 1) := by decide +kernel
theorem dX6_writeNumber_25 : decode cX6_writeNumber 25 = .ok (.lload_n 3, 1) := by decide +kernel
theorem dX6_writeNumber_26 : decode cX6_writeNumber 26 = .ok (.ldiv, 1) := by decide +kernel
theorem dX6_writeNumber_27 : decode cX6_writeNumber 27 = .ok (.ldc2_w 186, 3) := by decide +kernel
theorem dX6_writeNumber_30 : decode cX6_writeNumber 30 = .ok (.lcmp, 1) := by decide +kernel
theorem dX6_writeNumber_31 : decode cX6_writeNumber 31 = .ok (.ifCond .ge 12, 3) := by decide +kernel
theorem dX6_writeNumber_34 : decode cX6_writeNumber 34 = .ok (.lload_n 3, 1) := by decide +kernel
theorem dX6_writeNumber_35 : decode cX6_writeNumber 35 = .ok (.ldc2_w 154, 3) := by decide +kernel
theorem dX6_writeNumber_38 : decode cX6_writeNumber 38 = .ok (.lmul, 1) := by decide +kernel
theorem dX6_writeNumber_39 : decode cX6_writeNumber 39 = .ok (.lstore_n 3, 1) := by decide +kernel
theorem dX6_writeNumber_40 : decode cX6_writeNumber 40 = .ok (.goto (-26), 3) := by decide +kernel
theorem dX6_writeNumber_43 : decode cX6_writeNumber 43 = .ok (.lload_n 3, 1) := by decide +kernel
theorem dX6_writeNumber_44 : decode cX6_writeNumber 44 = .ok (.lstore 5, 2) := by decide +kernel
theorem dX6_writeNumber_46 : decode cX6_writeNumber 46 = .ok (.lload 5, 2) := by decide +kernel
theorem dX6_writeNumber_48 : decode cX6_writeNumber 48 = .ok (.lconst 0, 1) := by decide +kernel
theorem dX6_writeNumber_49 : decode cX6_writeNumber 49 = .ok (.lcmp, 1) := by decide +kernel
theorem dX6_writeNumber_50 : decode cX6_writeNumber 50 = .ok (.ifCond .le 47, 3) := by decide +kernel
theorem dX6_writeNumber_53 : decode cX6_writeNumber 53 = .ok (.lload_n 1, 1) := by decide +kernel
theorem dX6_writeNumber_54 : decode cX6_writeNumber 54 = .ok (.lload 5, 2) := by decide +kernel
theorem dX6_writeNumber_56 : decode cX6_writeNumber 56 = .ok (.ldiv, 1) := by decide +kernel
theorem dX6_writeNumber_57 : decode cX6_writeNumber 57 = .ok (.ldc2_w 154, 3) := by decide +kernel
theorem dX6_writeNumber_60 : decode cX6_writeNumber 60 = .ok (.lrem, 1) := by decide +kernel
theorem dX6_writeNumber_61 : decode cX6_writeNumber 61 = .ok (.lstore 7, 2) := by decide +kernel
theorem dX6_writeNumber_63 : decode cX6_writeNumber 63 = .ok (.aload_n 0, 1) := by decide +kernel
theorem dX6_writeNumber_64 : decode cX6_writeNumber 64 = .ok (.bipush 48, 2) := by decide +kernel
theorem dX6_writeNumber_66 : decode cX6_writeNumber 66 = .ok (.lload 7, 2) := by decide +kernel
theorem dX6_writeNumber_68 : decode cX6_writeNumber 68 = .ok (.lconst 0, 1) := by decide +kernel
theorem dX6_writeNumber_69 : decode cX6_writeNumber 69 = .ok (.lcmp, 1) := by decide +kernel
theorem dX6_writeNumber_70 : decode cX6_writeNumber 70 = .ok (.ifCond .ge 9, 3) := by decide +kernel
theorem dX6_writeNumber_73 : decode cX6_writeNumber 73 = .ok (.lload 7, 2) := by decide +kernel
theorem dX6_writeNumber_75 : decode cX6_writeNumber 75 = .ok (.lneg, 1) := by decide +kernel
theorem dX6_writeNumber_76 : decode cX6_writeNumber 76 = .ok (.goto 5, 3) := by decide +kernel
theorem dX6_writeNumber_79 : decode cX6_writeNumber 79 = .ok (.lload 7, 2) := by decide +kernel
theorem dX6_writeNumber_81 : decode cX6_writeNumber 81 = .ok (.l2i, 1) := by decide +kernel
theorem dX6_writeNumber_82 : decode cX6_writeNumber 82 = .ok (.iadd, 1) := by decide +kernel
theorem dX6_writeNumber_83 : decode cX6_writeNumber 83 = .ok (.invokevirtual 181, 3) := by decide +kernel
theorem dX6_writeNumber_86 : decode cX6_writeNumber 86 = .ok (.lload 5, 2) := by decide +kernel
theorem dX6_writeNumber_88 : decode cX6_writeNumber 88 = .ok (.ldc2_w 154, 3) := by decide +kernel
theorem dX6_writeNumber_91 : decode cX6_writeNumber 91 = .ok (.ldiv, 1) := by decide +kernel
theorem dX6_writeNumber_92 : decode cX6_writeNumber 92 = .ok (.lstore 5, 2) := by decide +kernel
theorem dX6_writeNumber_94 : decode cX6_writeNumber 94 = .ok (.goto (-48), 3) := by decide +kernel
theorem dX6_writeNumber_97 : decode cX6_writeNumber 97 = .ok (.return_, 1) := by decide +kernel
set_option maxRecDepth 20000 in
theorem ggX6_writeWord_X6_letter : GoodIn wsX6_writeWord wsX6_letter := goodIn_r _ [5] (by decide +kernel) (by decide +kernel)
set_option maxRecDepth 20000 in
theorem gX6_writeWord_X6_letter : GoodIn wsX6_writeWord (va_wsS RX6 141 yX6_letter wsX6_letter) := goodIn_app (goodIn_of _ (by decide +kernel)) ggX6_writeWord_X6_letter
set_option maxRecDepth 20000 in
theorem ggX6_writeWord_X6_write : GoodIn wsX6_writeWord wsX6_write := goodIn_r _ [9, 10, 11, 12, 13, 14, 15, 16, 17, 18, 19, 20, 21, 22, 23, 24, 25, 26, 27, 28, 29, 30, 31, 32, 33, 34, 35] (by decide +kernel) (by decide +kernel)
set_option maxRecDepth 20000 in
theorem gX6_writeWord_X6_write : GoodIn wsX6_writeWord (wsV RX6 181 RX6 yX6_write wsX6_write) := goodIn_app (goodIn_of _ (by decide +kernel)) ggX6_writeWord_X6_write
theorem dX6_writeWord_0 : decode cX6_writeWord 0 = .ok (.iload_n 1, 1) := by decide +kernel
theorem dX6_writeWord_1 : decode cX6_writeWord 1 = .ok (.ifCond .ne 7, 3) := by decide +kernel
theorem dX6_writeWord_4 : decode cX6_writeWord 4 = .ok (.iconst 4, 1) := by decide +kernel
theorem dX6_writeWord_5 : decode cX6_writeWord 5 = .ok (.goto 14, 3) := by decide +kernel
theorem dX6_writeWord_8 : decode cX6_writeWord 8 = .ok (.iload_n 1, 1) := by decide +kernel
theorem dX6_writeWord_9 : decode cX6_writeWord 9 = .ok (.iconst 1, 1) := by decide +kernel
theorem dX6_writeWord_10 : decode cX6_writeWord 10 = .ok (.if_icmp .ne 8, 3) := by decide +kernel
theorem dX6_writeWord_13 : decode cX6_writeWord 13 = .ok (.bipush 6, 2) := by decide +kernel
theorem dX6_writeWord_15 : decode cX6_writeWord 15 = .ok (.goto 4, 3) := by decide +kernel
theorem dX6_writeWord_18 : decode cX6_writeWord 18 = .ok (.iconst 4, 1) := by decide +kernel
theorem dX6_writeWord_19 : decode cX6_writeWord 19 = .ok (.istore_n 2, 1) := by decide +kernel
theorem dX6_writeWord_20 : decode cX6_writeWord 20 = .ok (.iload_n 1, 1) := by decide +kernel
theorem dX6_writeWord_21 : decode cX6_writeWord 21 = .ok (.ifCond .ne 33, 3) := by decide +kernel
theorem dX6_writeWord_24 : decode cX6_writeWord 24 = .ok (.bipush 104, 2) := by decide +kernel
theorem dX6_writeWord_26 : decode cX6_writeWord 26 = .ok (.iconst 0, 1) := by decide +kernel
theorem dX6_writeWord_27 : decode cX6_writeWord 27 = .ok (.invokestatic 141, 3) := by decide +kernel
theorem dX6_writeWord_30 : decode cX6_writeWord 30 = .ok (.bipush 97, 2) := by decide +kernel
theorem dX6_writeWord_32 : decode cX6_writeWord 32 = .ok (.iconst 1, 1) := by decide +kernel
theorem dX6_writeWord_33 : decode cX6_writeWord 33 = .ok (.invokestatic 141, 3) := by decide +kernel
theorem dX6_writeWord_36 : decode cX6_writeWord 36 = .ok (.lor, 1) := by decide +kernel
theorem dX6_writeWord_37 : decode cX6_writeWord 37 = .ok (.bipush 114, 2) := by decide +kernel
theorem dX6_writeWord_39 : decode cX6_writeWord 39 = .ok (.iconst 2, 1) := by decide +kernel
theorem dX6_writeWord_40 : decode cX6_writeWord 40 = .ok (.invokestatic 141, 3) := by decide +kernel
theorem dX6_writeWord_43 : decode cX6_writeWord 43 = .ok (.lor, 1) := by decide +kernel
theorem dX6_writeWord_44 : decode cX6_writeWord 44 = .ok (.bipush 100, 2) := by decide +kernel
theorem dX6_writeWord_46 : decode cX6_writeWord 46 = .ok (.iconst 3, 1) := by decide +kernel
theorem dX6_writeWord_47 : decode cX6_writeWord 47 = .ok (.invokestatic 141, 3) := by decide +kernel
theorem dX6_writeWord_50 : decode cX6_writeWord 50 = .ok (.lor, 1) := by decide +kernel
theorem dX6_writeWord_51 : decode cX6_writeWord 51 = .ok (.goto 79, 3) := by decide +kernel
theorem dX6_writeWord_54 : decode cX6_writeWord 54 = .ok (.iload_n 1, 1) := by decide +kernel
theorem dX6_writeWord_55 : decode cX6_writeWord 55 = .ok (.iconst 1, 1) := by decide +kernel
theorem dX6_writeWord_56 : decode cX6_writeWord 56 = .ok (.if_icmp .ne 47, 3) := by decide +kernel
theorem dX6_writeWord_59 : decode cX6_writeWord 59 = .ok (.bipush 109, 2) := by decide +kernel
theorem dX6_writeWord_61 : decode cX6_writeWord 61 = .ok (.iconst 0, 1) := by decide +kernel
theorem dX6_writeWord_62 : decode cX6_writeWord 62 = .ok (.invokestatic 141, 3) := by decide +kernel
theorem dX6_writeWord_65 : decode cX6_writeWord 65 = .ok (.bipush 101, 2) := by decide +kernel
theorem dX6_writeWord_67 : decode cX6_writeWord 67 = .ok (.iconst 1, 1) := by decide +kernel
theorem dX6_writeWord_68 : decode cX6_writeWord 68 = .ok (.invokestatic 141, 3) := by decide +kernel
theorem dX6_writeWord_71 : decode cX6_writeWord 71 = .ok (.lor, 1) := by decide +kernel
theorem dX6_writeWord_72 : decode cX6_writeWord 72 = .ok (.bipush 100, 2) := by decide +kernel
theorem dX6_writeWord_74 : decode cX6_writeWord 74 = .ok (.iconst 2, 1) := by decide +kernel
theorem dX6_writeWord_75 : decode cX6_writeWord 75 = .ok (.invokestatic 141, 3) := by decide +kernel
theorem dX6_writeWord_78 : decode cX6_writeWord 78 = .ok (.lor, 1) := by decide +kernel
theorem dX6_writeWord_79 : decode cX6_writeWord 79 = .ok (.bipush 105, 2) := by decide +kernel
theorem dX6_writeWord_81 : decode cX6_writeWord 81 = .ok (.iconst 3, 1) := by decide +kernel
theorem dX6_writeWord_82 : decode cX6_writeWord 82 = .ok (.invokestatic 141, 3) := by decide +kernel
theorem dX6_writeWord_85 : decode cX6_writeWord 85 = .ok (.lor, 1) := by decide +kernel
theorem dX6_writeWord_86 : decode cX6_writeWord 86 = .ok (.bipush 117, 2) := by decide +kernel
theorem dX6_writeWord_88 : decode cX6_writeWord 88 = .ok (.iconst 4, 1) := by decide +kernel
theorem dX6_writeWord_89 : decode cX6_writeWord 89 = .ok (.invokestatic 141, 3) := by decide +kernel
theorem dX6_writeWord_92 : decode cX6_writeWord 92 = .ok (.lor, 1) := by decide +kernel
theorem dX6_writeWord_93 : decode cX6_writeWord 93 = .ok (.bipush 109, 2) := by decide +kernel
theorem dX6_writeWord_95 : decode cX6_writeWord 95 = .ok (.iconst 5, 1) := by decide +kernel
theorem dX6_writeWord_96 : decode cX6_writeWord 96 = .ok (.invokestatic 141, 3) := by decide +kernel
theorem dX6_writeWord_99 : decode cX6_writeWord 99 = .ok (.lor, 1) := by decide +kernel
theorem dX6_writeWord_100 : decode cX6_writeWord 100 = .ok (.goto 30, 3) := by decide +kernel
theorem dX6_writeWord_103 : decode cX6_writeWord 103 = .ok (.bipush 115, 2) := by decide +kernel
theorem dX6_writeWord_105 : decode cX6_writeWord 105 = .ok (.iconst 0, 1) := by decide +kernel
theorem dX6_writeWord_106 : decode cX6_writeWord 106 = .ok (.invokestatic 141, 3) := by decide +kernel
theorem dX6_writeWord_109 : decode cX6_writeWord 109 = .ok (.bipush 111, 2) := by decide +kernel
theorem dX6_writeWord_111 : decode cX6_writeWord 111 = .ok (.iconst 1, 1) := by decide +kernel
theorem dX6_writeWord_112 : decode cX6_writeWord 112 = .ok (.invokestatic 141, 3) := by decide +kernel
theorem dX6_writeWord_115 : decode cX6_writeWord 115 = .ok (.lor, 1) := by decide +kernel
theorem dX6_writeWord_116 : decode cX6_writeWord 116 = .ok (.bipush 102, 2) := by decide +kernel
theorem dX6_writeWord_118 : decode cX6_writeWord 118 = .ok (.iconst 2, 1) := by decide +kernel
theorem dX6_writeWord_119 : decode cX6_writeWord 119 = .ok (.invokestatic 141, 3) := by decide +kernel
theorem dX6_writeWord_122 : decode cX6_writeWord 122 = .ok (.lor, 1) := by decide +kernel
theorem dX6_writeWord_123 : decode cX6_writeWord 123 = .ok (.bipush 116, 2) := by decide +kernel
theorem dX6_writeWord_125 : decode cX6_writeWord 125 = .ok (.iconst 3, 1) := by decide +kernel
theorem dX6_writeWord_126 : decode cX6_writeWord 126 = .ok (.invokestatic 141, 3) := by decide +kernel
theorem dX6_writeWord_129 : decode cX6_writeWord 129 = .ok (.lor, 1) := by decide +kernel
theorem dX6_writeWord_130 : decode cX6_writeWord 130 = .ok (.lstore_n 3, 1) := by decide +kernel
theorem dX6_writeWord_131 : decode cX6_writeWord 131 = .ok (.iconst 0, 1) := by decide +kernel
theorem dX6_writeWord_132 : decode cX6_writeWord 132 = .ok (.istore 5, 2) := by decide +kernel
theorem dX6_writeWord_134 : decode cX6_writeWord 134 = .ok (.iload 5, 2) := by decide +kernel
theorem dX6_writeWord_136 : decode cX6_writeWord 136 = .ok (.iload_n 2, 1) := by decide +kernel
theorem dX6_writeWord_137 : decode cX6_writeWord 137 = .ok (.if_icmp .ge 25, 3) := by decide +kernel
theorem dX6_writeWord_140 : decode cX6_writeWord 140 = .ok (.aload_n 0, 1) := by decide +kernel
theorem dX6_writeWord_141 : decode cX6_writeWord 141 = .ok (.lload_n 3, 1) := by decide +kernel
theorem dX6_writeWord_142 : decode cX6_writeWord 142 = .ok (.bipush 7, 2) := by decide +kernel
theorem dX6_writeWord_144 : decode cX6_writeWord 144 = .ok (.iload 5, 2) := by decide +kernel
theorem dX6_writeWord_146 : decode cX6_writeWord 146 = .ok (.imul, 1) := by decide +kernel
theorem dX6_writeWord_147 : decode cX6_writeWord 147 = .ok (.lshr, 1) := by decide +kernel
theorem dX6_writeWord_148 : decode cX6_writeWord 148 = .ok (.ldc2_w 122, 3) := by decide +kernel
theorem dX6_writeWord_151 : decode cX6_writeWord 151 = .ok (.land, 1) := by decide +kernel
theorem dX6_writeWord_152 : decode cX6_writeWord 152 = .ok (.l2i, 1) := by decide +kernel
theorem dX6_writeWord_153 : decode cX6_writeWord 153 = .ok (.invokevirtual 181, 3) := by decide +kernel
theorem dX6_writeWord_156 : decode cX6_writeWord 156 = .ok (.iinc 5 1, 3) := by decide +kernel
theorem dX6_writeWord_159 : decode cX6_writeWord 159 = .ok (.goto (-25), 3) := by decide +kernel
theorem dX6_writeWord_162 : decode cX6_writeWord 162 = .ok (.return_, 1) := by decide +kernel
set_option maxRecDepth 20000 in
theorem ggX6_writeRow_X6_write : GoodIn wsX6_writeRow wsX6_write := goodIn_r _ [6, 7, 8, 16, 17, 18, 19, 20, 21, 22, 23, 24, 25, 26, 27, 28, 29, 30, 31, 32, 33, 34, 35, 36, 37, 38, 39] (by decide +kernel) (by decide +kernel)
set_option maxRecDepth 20000 in
theorem gX6_writeRow_X6_write : GoodIn wsX6_writeRow (wsV RX6 181 RX6 yX6_write wsX6_write) := goodIn_app (goodIn_of _ (by decide +kernel)) ggX6_writeRow_X6_write
set_option maxRecDepth 20000 in
theorem ggX6_writeRow_X6_writeNumber : GoodIn wsX6_writeRow wsX6_writeNumber := goodIn_r _ [12, 13, 14, 15, 2, 3, 4, 5, 6, 7, 8, 16, 17, 18, 19, 20, 21, 22, 23, 24, 25, 26, 27, 28, 29, 30, 31, 32, 33, 34, 35, 36, 37, 38, 39] (by decide +kernel) (by decide +kernel)
set_option maxRecDepth 20000 in
theorem gX6_writeRow_X6_writeNumber : GoodIn wsX6_writeRow (wsV RX6 188 RX6 yX6_writeNumber wsX6_writeNumber) := goodIn_app (goodIn_of _ (by decide +kernel)) ggX6_writeRow_X6_writeNumber
theorem dX6_writeRow_0 : decode cX6_writeRow 0 = .ok (.aload_n 0, 1) := by decide +kernel
theorem dX6_writeRow_1 : decode cX6_writeRow 1 = .ok (.bipush 91, 2) := by decide +kernel
theorem dX6_writeRow_3 : decode cX6_writeRow 3 = .ok (.invokevirtual 181, 3) := by decide +kernel
theorem dX6_writeRow_6 : decode cX6_writeRow 6 = .ok (.iload_n 2, 1) := by decide +kernel
theorem dX6_writeRow_7 : decode cX6_writeRow 7 = .ok (.istore 4, 2) := by decide +kernel
theorem dX6_writeRow_9 : decode cX6_writeRow 9 = .ok (.iload 4, 2) := by decide +kernel
theorem dX6_writeRow_11 : decode cX6_writeRow 11 = .ok (.iload_n 3, 1) := by decide +kernel
theorem dX6_writeRow_12 : decode cX6_writeRow 12 = .ok (.if_icmp .ge 37, 3) := by decide +kernel
theorem dX6_writeRow_15 : decode cX6_writeRow 15 = .ok (.iload 4, 2) := by decide +kernel
theorem dX6_writeRow_17 : decode cX6_writeRow 17 = .ok (.iload_n 2, 1) := by decide +kernel
theorem dX6_writeRow_18 : decode cX6_writeRow 18 = .ok (.if_icmp .le 9, 3) := by decide +kernel
theorem dX6_writeRow_21 : decode cX6_writeRow 21 = .ok (.aload_n 0, 1) := by decide +kernel
theorem dX6_writeRow_22 : decode cX6_writeRow 22 = .ok (.bipush 47, 2) := by decide +kernel
theorem dX6_writeRow_24 : decode cX6_writeRow 24 = .ok (.invokevirtual 181, 3) := by decide +kernel
theorem dX6_writeRow_27 : decode cX6_writeRow 27 = .ok (.aload_n 0, 1) := by decide +kernel
theorem dX6_writeRow_28 : decode cX6_writeRow 28 = .ok (.aload_n 0, 1) := by decide +kernel
theorem dX6_writeRow_29 : decode cX6_writeRow 29 = .ok (.getfield 19, 3) := by decide +kernel
theorem dX6_writeRow_32 : decode cX6_writeRow 32 = .ok (.bipush 12, 2) := by decide +kernel
theorem dX6_writeRow_34 : decode cX6_writeRow 34 = .ok (.iload_n 1, 1) := by decide +kernel
theorem dX6_writeRow_35 : decode cX6_writeRow 35 = .ok (.imul, 1) := by decide +kernel
theorem dX6_writeRow_36 : decode cX6_writeRow 36 = .ok (.iload 4, 2) := by decide +kernel
theorem dX6_writeRow_38 : decode cX6_writeRow 38 = .ok (.iadd, 1) := by decide +kernel
theorem dX6_writeRow_39 : decode cX6_writeRow 39 = .ok (.laload, 1) := by decide +kernel
theorem dX6_writeRow_40 : decode cX6_writeRow 40 = .ok (.invokevirtual 188, 3) := by decide +kernel
theorem dX6_writeRow_43 : decode cX6_writeRow 43 = .ok (.iinc 4 1, 3) := by decide +kernel
theorem dX6_writeRow_46 : decode cX6_writeRow 46 = .ok (.goto (-37), 3) := by decide +kernel
theorem dX6_writeRow_49 : decode cX6_writeRow 49 = .ok (.aload_n 0, 1) := by decide +kernel
theorem dX6_writeRow_50 : decode cX6_writeRow 50 = .ok (.bipush 93, 2) := by decide +kernel
theorem dX6_writeRow_52 : decode cX6_writeRow 52 = .ok (.invokevirtual 181, 3) := by decide +kernel
theorem dX6_writeRow_55 : decode cX6_writeRow 55 = .ok (.return_, 1) := by decide +kernel
set_option maxRecDepth 20000 in
theorem ggX6_print_X6_isNumber : GoodIn wsX6_print wsX6_isNumber := goodIn_r _ [10, 11, 12, 13, 9, 14, 43, 44, 45, 46, 47, 48, 49, 50, 51, 52, 53, 54, 55, 56, 57, 58, 59, 60, 61, 62, 63, 64, 65, 66] (by decide +kernel) (by decide +kernel)
set_option maxRecDepth 20000 in
theorem gX6_print_X6_isNumber : GoodIn wsX6_print (wsV RX6 68 RX6 yX6_isNumber wsX6_isNumber) := goodIn_app (goodIn_of _ (by decide +kernel)) ggX6_print_X6_isNumber
set_option maxRecDepth 20000 in
theorem ggX6_print_X6_isNothing : GoodIn wsX6_print wsX6_isNothing := goodIn_r _ [18, 2, 43, 44, 45, 46, 47, 48, 49, 50, 51, 52, 53, 54, 55, 56, 57, 58, 59, 60, 61, 62, 63, 64, 65, 66] (by decide +kernel) (by decide +kernel)
set_option maxRecDepth 20000 in
theorem gX6_print_X6_isNothing : GoodIn wsX6_print (wsV RX6 72 RX6 yX6_isNothing wsX6_isNothing) := goodIn_app (goodIn_of _ (by decide +kernel)) ggX6_print_X6_isNothing
set_option maxRecDepth 20000 in
theorem ggX6_print_X6_writeRow : GoodIn wsX6_print wsX6_writeRow := goodIn_r _ [22, 5, 23, 24, 25, 9, 26, 27, 1, 28, 29, 30, 31, 32, 33, 34, 43, 44, 45, 46, 47, 48, 49, 50, 51, 52, 53, 54, 55, 56, 57, 58, 59, 60, 61, 62, 63, 64, 65, 66] (by decide +kernel) (by decide +kernel)
set_option maxRecDepth 20000 in
theorem gX6_print_X6_writeRow : GoodIn wsX6_print (wsV RX6 192 RX6 yX6_writeRow wsX6_writeRow) := goodIn_app (goodIn_of _ (by decide +kernel)) ggX6_print_X6_writeRow
set_option maxRecDepth 20000 in
theorem ggX6_print_X6_writeWord : GoodIn wsX6_print wsX6_writeWord := goodIn_r _ [38, 39, 40, 41, 9, 42, 23, 24, 25, 26, 27, 1, 43, 44, 45, 46, 47, 48, 49, 50, 51, 52, 53, 54, 55, 56, 57, 58, 59, 60, 61, 62, 63, 64, 65, 66] (by decide +kernel) (by decide +kernel)
set_option maxRecDepth 20000 in
theorem gX6_print_X6_writeWord : GoodIn wsX6_print (wsV RX6 195 RX6 yX6_writeWord wsX6_writeWord) := goodIn_app (goodIn_of _ (by decide +kernel)) ggX6_print_X6_writeWord
set_option maxRecDepth 20000 in
theorem ggX6_print_X6_write : GoodIn wsX6_print wsX6_write := goodIn_r _ [26, 27, 1, 43, 44, 45, 46, 47, 48, 49, 50, 51, 52, 53, 54, 55, 56, 57, 58, 59, 60, 61, 62, 63, 64, 65, 66] (by decide +kernel) (by decide +kernel)
set_option maxRecDepth 20000 in
theorem gX6_print_X6_write : GoodIn wsX6_print (wsV RX6 181 RX6 yX6_write wsX6_write) := goodIn_app (goodIn_of _ (by decide +kernel)) ggX6_print_X6_write
set_option maxRecDepth 20000 in
theorem ggX6_print_X6_writeNumber : GoodIn wsX6_print wsX6_writeNumber := goodIn_r _ [31, 32, 33, 34, 23, 24, 25, 9, 26, 27, 1, 43, 44, 45, 46, 47, 48, 49, 50, 51, 52, 53, 54, 55, 56, 57, 58, 59, 60, 61, 62, 63, 64, 65, 66] (by decide +kernel) (by decide +kernel)
set_option maxRecDepth 20000 in
theorem gX6_print_X6_writeNumber : GoodIn wsX6_print (wsV RX6 188 RX6 yX6_writeNumber wsX6_writeNumber) := goodIn_app (goodIn_of _ (by decide +kernel)) ggX6_print_X6_writeNumber
theorem dX6_print_0 : decode cX6_print 0 = .ok (.aload_n 0, 1) := by decide +kernel
theorem dX6_print_1 : decode cX6_print 1 = .ok (.iload_n 1, 1) := by decide +kernel
theorem dX6_print_2 : decode cX6_print 2 = .ok (.invokevirtual 68, 3) := by decide +kernel
theorem dX6_print_5 : decode cX6_print 5 = .ok (.ifCond .ne 6, 3) := by decide +kernel
theorem dX6_print_8 : decode cX6_print 8 = .ok (.bipush (-2), 2) := by decide +kernel
theorem dX6_print_10 : decode cX6_print 10 = .ok (.ireturn, 1) := by decide +kernel
theorem dX6_print_11 : decode cX6_print 11 = .ok (.aload_n 0, 1) := by decide +kernel
theorem dX6_print_12 : decode cX6_print 12 = .ok (.iload_n 1, 1) := by decide +kernel
theorem dX6_print_13 : decode cX6_print 13 = .ok (.invokevirtual 72, 3) := by decide +kernel
theorem dX6_print_16 : decode cX6_print 16 = .ok (.ifCond .eq 6, 3) := by decide +kernel
theorem dX6_print_19 : decode cX6_print 19 = .ok (.bipush (-11), 2) := by decide +kernel
theorem dX6_print_21 : decode cX6_print 21 = .ok (.ireturn, 1) := by decide +kernel
theorem dX6_print_22 : decode cX6_print 22 = .ok (.aload_n 0, 1) := by decide +kernel
theorem dX6_print_23 : decode cX6_print 23 = .ok (.iconst 0, 1) := by decide +kernel
theorem dX6_print_24 : decode cX6_print 24 = .ok (.putfield 178, 3) := by decide +kernel
theorem dX6_print_27 : decode cX6_print 27 = .ok (.aload_n 0, 1) := by decide +kernel
theorem dX6_print_28 : decode cX6_print 28 = .ok (.getfield 7, 3) := by decide +kernel
theorem dX6_print_31 : decode cX6_print 31 = .ok (.iload_n 1, 1) := by decide +kernel
theorem dX6_print_32 : decode cX6_print 32 = .ok (.iaload, 1) := by decide +kernel
theorem dX6_print_33 : decode cX6_print 33 = .ok (.iconst 3, 1) := by decide +kernel
theorem dX6_print_34 : decode cX6_print 34 = .ok (.if_icmp .ne 53, 3) := by decide +kernel
theorem dX6_print_37 : decode cX6_print 37 = .ok (.aload_n 0, 1) := by decide +kernel
theorem dX6_print_38 : decode cX6_print 38 = .ok (.iload_n 1, 1) := by decide +kernel
theorem dX6_print_39 : decode cX6_print 39 = .ok (.iconst 0, 1) := by decide +kernel
theorem dX6_print_40 : decode cX6_print 40 = .ok (.aload_n 0, 1) := by decide +kernel
theorem dX6_print_41 : decode cX6_print 41 = .ok (.getfield 13, 3) := by decide +kernel
theorem dX6_print_44 : decode cX6_print 44 = .ok (.iload_n 1, 1) := by decide +kernel
theorem dX6_print_45 : decode cX6_print 45 = .ok (.iaload, 1) := by decide +kernel
theorem dX6_print_46 : decode cX6_print 46 = .ok (.invokevirtual 192, 3) := by decide +kernel
theorem dX6_print_49 : decode cX6_print 49 = .ok (.aload_n 0, 1) := by decide +kernel
theorem dX6_print_50 : decode cX6_print 50 = .ok (.iconst 0, 1) := by decide +kernel
theorem dX6_print_51 : decode cX6_print 51 = .ok (.invokevirtual 195, 3) := by decide +kernel
theorem dX6_print_54 : decode cX6_print 54 = .ok (.aload_n 0, 1) := by decide +kernel
theorem dX6_print_55 : decode cX6_print 55 = .ok (.bipush 47, 2) := by decide +kernel
theorem dX6_print_57 : decode cX6_print 57 = .ok (.invokevirtual 181, 3) := by decide +kernel
theorem dX6_print_60 : decode cX6_print 60 = .ok (.aload_n 0, 1) := by decide +kernel
theorem dX6_print_61 : decode cX6_print 61 = .ok (.iload_n 1, 1) := by decide +kernel
theorem dX6_print_62 : decode cX6_print 62 = .ok (.aload_n 0, 1) := by decide +kernel
theorem dX6_print_63 : decode cX6_print 63 = .ok (.getfield 13, 3) := by decide +kernel
theorem dX6_print_66 : decode cX6_print 66 = .ok (.iload_n 1, 1) := by decide +kernel
theorem dX6_print_67 : decode cX6_print 67 = .ok (.iaload, 1) := by decide +kernel
theorem dX6_print_68 : decode cX6_print 68 = .ok (.aload_n 0, 1) := by decide +kernel
theorem dX6_print_69 : decode cX6_print 69 = .ok (.getfield 16, 3) := by decide +kernel
theorem dX6_print_72 : decode cX6_print 72 = .ok (.iload_n 1, 1) := by decide +kernel
theorem dX6_print_73 : decode cX6_print 73 = .ok (.iaload, 1) := by decide +kernel
theorem dX6_print_74 : decode cX6_print 74 = .ok (.invokevirtual 192, 3) := by decide +kernel
theorem dX6_print_77 : decode cX6_print 77 = .ok (.aload_n 0, 1) := by decide +kernel
theorem dX6_print_78 : decode cX6_print 78 = .ok (.iconst 2, 1) := by decide +kernel
theorem dX6_print_79 : decode cX6_print 79 = .ok (.invokevirtual 195, 3) := by decide +kernel
theorem dX6_print_82 : decode cX6_print 82 = .ok (.aload_n 0, 1) := by decide +kernel
theorem dX6_print_83 : decode cX6_print 83 = .ok (.getfield 178, 3) := by decide +kernel
theorem dX6_print_86 : decode cX6_print 86 = .ok (.ireturn, 1) := by decide +kernel
theorem dX6_print_87 : decode cX6_print 87 = .ok (.aload_n 0, 1) := by decide +kernel
theorem dX6_print_88 : decode cX6_print 88 = .ok (.aload_n 0, 1) := by decide +kernel
theorem dX6_print_89 : decode cX6_print 89 = .ok (.getfield 19, 3) := by decide +kernel
theorem dX6_print_92 : decode cX6_print 92 = .ok (.bipush 12, 2) := by decide +kernel
theorem dX6_print_94 : decode cX6_print 94 = .ok (.iload_n 1, 1) := by decide +kernel
theorem dX6_print_95 : decode cX6_print 95 = .ok (.imul, 1) := by decide +kernel
theorem dX6_print_96 : decode cX6_print 96 = .ok (.laload, 1) := by decide +kernel
theorem dX6_print_97 : decode cX6_print 97 = .ok (.invokevirtual 188, 3) := by decide +kernel
theorem dX6_print_100 : decode cX6_print 100 = .ok (.aload_n 0, 1) := by decide +kernel
theorem dX6_print_101 : decode cX6_print 101 = .ok (.getfield 7, 3) := by decide +kernel
theorem dX6_print_104 : decode cX6_print 104 = .ok (.iload_n 1, 1) := by decide +kernel
theorem dX6_print_105 : decode cX6_print 105 = .ok (.iaload, 1) := by decide +kernel
theorem dX6_print_106 : decode cX6_print 106 = .ok (.ifCond .le 70, 3) := by decide +kernel
theorem dX6_print_109 : decode cX6_print 109 = .ok (.aload_n 0, 1) := by decide +kernel
theorem dX6_print_110 : decode cX6_print 110 = .ok (.iconst 0, 1) := by decide +kernel
theorem dX6_print_111 : decode cX6_print 111 = .ok (.invokevirtual 195, 3) := by decide +kernel
theorem dX6_print_114 : decode cX6_print 114 = .ok (.aload_n 0, 1) := by decide +kernel
theorem dX6_print_115 : decode cX6_print 115 = .ok (.bipush 47, 2) := by decide +kernel
theorem dX6_print_117 : decode cX6_print 117 = .ok (.invokevirtual 181, 3) := by decide +kernel
theorem dX6_print_120 : decode cX6_print 120 = .ok (.aload_n 0, 1) := by decide +kernel
theorem dX6_print_121 : decode cX6_print 121 = .ok (.aload_n 0, 1) := by decide +kernel
theorem dX6_print_122 : decode cX6_print 122 = .ok (.getfield 19, 3) := by decide +kernel
theorem dX6_print_125 : decode cX6_print 125 = .ok (.bipush 12, 2) := by decide +kernel
theorem dX6_print_127 : decode cX6_print 127 = .ok (.iload_n 1, 1) := by decide +kernel
theorem dX6_print_128 : decode cX6_print 128 = .ok (.imul, 1) := by decide +kernel
theorem dX6_print_129 : decode cX6_print 129 = .ok (.iconst 1, 1) := by decide +kernel
theorem dX6_print_130 : decode cX6_print 130 = .ok (.iadd, 1) := by decide +kernel
theorem dX6_print_131 : decode cX6_print 131 = .ok (.laload, 1) := by decide +kernel
theorem dX6_print_132 : decode cX6_print 132 = .ok (.invokevirtual 188, 3) := by decide +kernel
theorem dX6_print_135 : decode cX6_print 135 = .ok (.aload_n 0, 1) := by decide +kernel
theorem dX6_print_136 : decode cX6_print 136 = .ok (.getfield 7, 3) := by decide +kernel
theorem dX6_print_139 : decode cX6_print 139 = .ok (.iload_n 1, 1) := by decide +kernel
theorem dX6_print_140 : decode cX6_print 140 = .ok (.iaload, 1) := by decide +kernel
theorem dX6_print_141 : decode cX6_print 141 = .ok (.iconst 2, 1) := by decide +kernel
theorem dX6_print_142 : decode cX6_print 142 = .ok (.if_icmp .ne 29, 3) := by decide +kernel
theorem dX6_print_145 : decode cX6_print 145 = .ok (.aload_n 0, 1) := by decide +kernel
theorem dX6_print_146 : decode cX6_print 146 = .ok (.iconst 1, 1) := by decide +kernel
theorem dX6_print_147 : decode cX6_print 147 = .ok (.invokevirtual 195, 3) := by decide +kernel
theorem dX6_print_150 : decode cX6_print 150 = .ok (.aload_n 0, 1) := by decide +kernel
theorem dX6_print_151 : decode cX6_print 151 = .ok (.bipush 47, 2) := by decide +kernel
theorem dX6_print_153 : decode cX6_print 153 = .ok (.invokevirtual 181, 3) := by decide +kernel
theorem dX6_print_156 : decode cX6_print 156 = .ok (.aload_n 0, 1) := by decide +kernel
theorem dX6_print_157 : decode cX6_print 157 = .ok (.aload_n 0, 1) := by decide +kernel
theorem dX6_print_158 : decode cX6_print 158 = .ok (.getfield 19, 3) := by decide +kernel
theorem dX6_print_161 : decode cX6_print 161 = .ok (.bipush 12, 2) := by decide +kernel
theorem dX6_print_163 : decode cX6_print 163 = .ok (.iload_n 1, 1) := by decide +kernel
theorem dX6_print_164 : decode cX6_print 164 = .ok (.imul, 1) := by decide +kernel
theorem dX6_print_165 : decode cX6_print 165 = .ok (.iconst 2, 1) := by decide +kernel
theorem dX6_print_166 : decode cX6_print 166 = .ok (.iadd, 1) := by decide +kernel
theorem dX6_print_167 : decode cX6_print 167 = .ok (.laload, 1) := by decide +kernel
theorem dX6_print_168 : decode cX6_print 168 = .ok (.invokevirtual 188, 3) := by decide +kernel
theorem dX6_print_171 : decode cX6_print 171 = .ok (.aload_n 0, 1) := by decide +kernel
theorem dX6_print_172 : decode cX6_print 172 = .ok (.iconst 2, 1) := by decide +kernel
theorem dX6_print_173 : decode cX6_print 173 = .ok (.invokevirtual 195, 3) := by decide +kernel
theorem dX6_print_176 : decode cX6_print 176 = .ok (.aload_n 0, 1) := by decide +kernel
theorem dX6_print_177 : decode cX6_print 177 = .ok (.getfield 178, 3) := by decide +kernel
theorem dX6_print_180 : decode cX6_print 180 = .ok (.ireturn, 1) := by decide +kernel
set_option maxRecDepth 20000 in
theorem ggX6_out_X6_in : GoodIn wsX6_out wsX6_in := goodIn_r _ [6] (by decide +kernel) (by decide +kernel)
set_option maxRecDepth 20000 in
theorem gX6_out_X6_in : GoodIn wsX6_out (va_wsS RX6 48 yX6_in wsX6_in) := goodIn_app (goodIn_of _ (by decide +kernel)) ggX6_out_X6_in
theorem dX6_out_0 : decode cX6_out 0 = .ok (.iload_n 1, 1) := by decide +kernel
theorem dX6_out_1 : decode cX6_out 1 = .ok (.i2l, 1) := by decide +kernel
theorem dX6_out_2 : decode cX6_out 2 = .ok (.lconst 0, 1) := by decide +kernel
theorem dX6_out_3 : decode cX6_out 3 = .ok (.aload_n 0, 1) := by decide +kernel
theorem dX6_out_4 : decode cX6_out 4 = .ok (.getfield 178, 3) := by decide +kernel
theorem dX6_out_7 : decode cX6_out 7 = .ok (.iconst 1, 1) := by decide +kernel
theorem dX6_out_8 : decode cX6_out 8 = .ok (.isub, 1) := by decide +kernel
theorem dX6_out_9 : decode cX6_out 9 = .ok (.i2l, 1) := by decide +kernel
theorem dX6_out_10 : decode cX6_out 10 = .ok (.invokestatic 48, 3) := by decide +kernel
theorem dX6_out_13 : decode cX6_out 13 = .ok (.ifCond .eq 12, 3) := by decide +kernel
theorem dX6_out_16 : decode cX6_out 16 = .ok (.aload_n 0, 1) := by decide +kernel
theorem dX6_out_17 : decode cX6_out 17 = .ok (.getfield 39, 3) := by decide +kernel
theorem dX6_out_20 : decode cX6_out 20 = .ok (.iload_n 1, 1) := by decide +kernel
theorem dX6_out_21 : decode cX6_out 21 = .ok (.iaload, 1) := by decide +kernel
theorem dX6_out_22 : decode cX6_out 22 = .ok (.goto 4, 3) := by decide +kernel
theorem dX6_out_25 : decode cX6_out 25 = .ok (.iconst (-1), 1) := by decide +kernel
theorem dX6_out_26 : decode cX6_out 26 = .ok (.ireturn, 1) := by decide +kernel
set_option maxRecDepth 20000 in
theorem ggX6_plan_X6_isNumber : GoodIn wsX6_plan wsX6_isNumber := goodIn_r _ [13, 14, 15, 16, 12, 17, 22, 23, 24, 25, 26, 27, 28, 29, 30, 31, 32, 33, 34, 35, 36, 37, 38, 39, 40, 41, 42, 43, 44, 45] (by decide +kernel) (by decide +kernel)
set_option maxRecDepth 20000 in
theorem gX6_plan_X6_isNumber : GoodIn wsX6_plan (wsV RX6 68 RX6 yX6_isNumber wsX6_isNumber) := goodIn_app (goodIn_of _ (by decide +kernel)) ggX6_plan_X6_isNumber
set_option maxRecDepth 20000 in
theorem ggX6_plan_X6_isNothing : GoodIn wsX6_plan wsX6_isNothing := goodIn_r _ [21, 2, 22, 23, 24, 25, 26, 27, 28, 29, 30, 31, 32, 33, 34, 35, 36, 37, 38, 39, 40, 41, 42, 43, 44, 45] (by decide +kernel) (by decide +kernel)
set_option maxRecDepth 20000 in
theorem gX6_plan_X6_isNothing : GoodIn wsX6_plan (wsV RX6 72 RX6 yX6_isNothing wsX6_isNothing) := goodIn_app (goodIn_of _ (by decide +kernel)) ggX6_plan_X6_isNothing
theorem dX6_plan_0 : decode cX6_plan 0 = .ok (.aload_n 0, 1) := by decide +kernel
theorem dX6_plan_1 : decode cX6_plan 1 = .ok (.iload_n 1, 1) := by decide +kernel
theorem dX6_plan_2 : decode cX6_plan 2 = .ok (.invokevirtual 68, 3) := by decide +kernel
theorem dX6_plan_5 : decode cX6_plan 5 = .ok (.ifCond .ne 6, 3) := by decide +kernel
theorem dX6_plan_8 : decode cX6_plan 8 = .ok (.bipush (-2), 2) := by decide +kernel
theorem dX6_plan_10 : decode cX6_plan 10 = .ok (.ireturn, 1) := by decide +kernel
theorem dX6_plan_11 : decode cX6_plan 11 = .ok (.aload_n 0, 1) := by decide +kernel
theorem dX6_plan_12 : decode cX6_plan 12 = .ok (.iload_n 1, 1) := by decide +kernel
theorem dX6_plan_13 : decode cX6_plan 13 = .ok (.invokevirtual 72, 3) := by decide +kernel
theorem dX6_plan_16 : decode cX6_plan 16 = .ok (.ifCond .eq 6, 3) := by decide +kernel
theorem dX6_plan_19 : decode cX6_plan 19 = .ok (.bipush (-11), 2) := by decide +kernel
theorem dX6_plan_21 : decode cX6_plan 21 = .ok (.ireturn, 1) := by decide +kernel
theorem dX6_plan_22 : decode cX6_plan 22 = .ok (.aload_n 0, 1) := by decide +kernel
theorem dX6_plan_23 : decode cX6_plan 23 = .ok (.getfield 198, 3) := by decide +kernel
theorem dX6_plan_26 : decode cX6_plan 26 = .ok (.istore_n 2, 1) := by decide +kernel
theorem dX6_plan_27 : decode cX6_plan 27 = .ok (.aload_n 0, 1) := by decide +kernel
theorem dX6_plan_28 : decode cX6_plan 28 = .ok (.aload_n 0, 1) := by decide +kernel
theorem dX6_plan_29 : decode cX6_plan 29 = .ok (.getfield 7, 3) := by decide +kernel
theorem dX6_plan_32 : decode cX6_plan 32 = .ok (.iload_n 1, 1) := by decide +kernel
theorem dX6_plan_33 : decode cX6_plan 33 = .ok (.iaload, 1) := by decide +kernel
theorem dX6_plan_34 : decode cX6_plan 34 = .ok (.putfield 52, 3) := by decide +kernel
theorem dX6_plan_37 : decode cX6_plan 37 = .ok (.aload_n 0, 1) := by decide +kernel
theorem dX6_plan_38 : decode cX6_plan 38 = .ok (.aload_n 0, 1) := by decide +kernel
theorem dX6_plan_39 : decode cX6_plan 39 = .ok (.getfield 13, 3) := by decide +kernel
theorem dX6_plan_42 : decode cX6_plan 42 = .ok (.iload_n 1, 1) := by decide +kernel
theorem dX6_plan_43 : decode cX6_plan 43 = .ok (.iaload, 1) := by decide +kernel
theorem dX6_plan_44 : decode cX6_plan 44 = .ok (.putfield 55, 3) := by decide +kernel
theorem dX6_plan_47 : decode cX6_plan 47 = .ok (.aload_n 0, 1) := by decide +kernel
theorem dX6_plan_48 : decode cX6_plan 48 = .ok (.aload_n 0, 1) := by decide +kernel
theorem dX6_plan_49 : decode cX6_plan 49 = .ok (.getfield 16, 3) := by decide +kernel
theorem dX6_plan_52 : decode cX6_plan 52 = .ok (.iload_n 1, 1) := by decide +kernel
theorem dX6_plan_53 : decode cX6_plan 53 = .ok (.iaload, 1) := by decide +kernel
theorem dX6_plan_54 : decode cX6_plan 54 = .ok (.putfield 23, 3) := by decide +kernel
theorem dX6_plan_57 : decode cX6_plan 57 = .ok (.aload_n 0, 1) := by decide +kernel
theorem dX6_plan_58 : decode cX6_plan 58 = .ok (.iconst 0, 1) := by decide +kernel
theorem dX6_plan_59 : decode cX6_plan 59 = .ok (.putfield 198, 3) := by decide +kernel
theorem dX6_plan_62 : decode cX6_plan 62 = .ok (.aload_n 0, 1) := by decide +kernel
theorem dX6_plan_63 : decode cX6_plan 63 = .ok (.iconst 0, 1) := by decide +kernel
theorem dX6_plan_64 : decode cX6_plan 64 = .ok (.putfield 201, 3) := by decide +kernel
theorem dX6_plan_67 : decode cX6_plan 67 = .ok (.iload_n 2, 1) := by decide +kernel
theorem dX6_plan_68 : decode cX6_plan 68 = .ok (.ireturn, 1) := by decide +kernel
set_option maxRecDepth 20000 in
theorem ggX6_rule_X6_isNumber : GoodIn wsX6_rule wsX6_isNumber := goodIn_r _ [9, 10, 11, 12, 8, 13, 28, 29, 30, 31, 32, 33, 34, 35, 36, 37, 38, 39, 40, 41, 42, 43, 44, 45, 46, 47, 48, 49, 50, 51] (by decide +kernel) (by decide +kernel)
set_option maxRecDepth 20000 in
theorem gX6_rule_X6_isNumber : GoodIn wsX6_rule (wsV RX6 68 RX6 yX6_isNumber wsX6_isNumber) := goodIn_app (goodIn_of _ (by decide +kernel)) ggX6_rule_X6_isNumber
set_option maxRecDepth 20000 in
theorem ggX6_rule_X6_isNothing : GoodIn wsX6_rule wsX6_isNothing := goodIn_r _ [17, 18, 28, 29, 30, 31, 32, 33, 34, 35, 36, 37, 38, 39, 40, 41, 42, 43, 44, 45, 46, 47, 48, 49, 50, 51] (by decide +kernel) (by decide +kernel)
set_option maxRecDepth 20000 in
theorem gX6_rule_X6_isNothing : GoodIn wsX6_rule (wsV RX6 72 RX6 yX6_isNothing wsX6_isNothing) := goodIn_app (goodIn_of _ (by decide +kernel)) ggX6_rule_X6_isNothing
set_option maxRecDepth 20000 in
theorem ggX6_rule_X6_isLikePlan : GoodIn wsX6_rule wsX6_isLikePlan := goodIn_r _ [22, 18, 23, 24, 25, 26, 27, 28, 29, 30, 31, 32, 33, 34, 35, 36, 37, 38, 39, 40, 41, 42, 43, 44, 45, 46, 47, 48, 49, 50, 51] (by decide +kernel) (by decide +kernel)
set_option maxRecDepth 20000 in
theorem gX6_rule_X6_isLikePlan : GoodIn wsX6_rule (wsV RX6 204 RX6 yX6_isLikePlan wsX6_isLikePlan) := goodIn_app (goodIn_of _ (by decide +kernel)) ggX6_rule_X6_isLikePlan
theorem dX6_rule_0 : decode cX6_rule 0 = .ok (.aload_n 0, 1) := by decide +kernel
theorem dX6_rule_1 : decode cX6_rule 1 = .ok (.iload_n 1, 1) := by decide +kernel
theorem dX6_rule_2 : decode cX6_rule 2 = .ok (.invokevirtual 68, 3) := by decide +kernel
theorem dX6_rule_5 : decode cX6_rule 5 = .ok (.ifCond .ne 6, 3) := by decide +kernel
theorem dX6_rule_8 : decode cX6_rule 8 = .ok (.bipush (-2), 2) := by decide +kernel
theorem dX6_rule_10 : decode cX6_rule 10 = .ok (.ireturn, 1) := by decide +kernel
theorem dX6_rule_11 : decode cX6_rule 11 = .ok (.aload_n 0, 1) := by decide +kernel
theorem dX6_rule_12 : decode cX6_rule 12 = .ok (.getfield 198, 3) := by decide +kernel
theorem dX6_rule_15 : decode cX6_rule 15 = .ok (.bipush 12, 2) := by decide +kernel
theorem dX6_rule_17 : decode cX6_rule 17 = .ok (.if_icmp .ne 6, 3) := by decide +kernel
theorem dX6_rule_20 : decode cX6_rule 20 = .ok (.bipush (-4), 2) := by decide +kernel
theorem dX6_rule_22 : decode cX6_rule 22 = .ok (.ireturn, 1) := by decide +kernel
theorem dX6_rule_23 : decode cX6_rule 23 = .ok (.aload_n 0, 1) := by decide +kernel
theorem dX6_rule_24 : decode cX6_rule 24 = .ok (.iload_n 1, 1) := by decide +kernel
theorem dX6_rule_25 : decode cX6_rule 25 = .ok (.invokevirtual 72, 3) := by decide +kernel
theorem dX6_rule_28 : decode cX6_rule 28 = .ok (.ifCond .eq 6, 3) := by decide +kernel
theorem dX6_rule_31 : decode cX6_rule 31 = .ok (.bipush (-11), 2) := by decide +kernel
theorem dX6_rule_33 : decode cX6_rule 33 = .ok (.ireturn, 1) := by decide +kernel
theorem dX6_rule_34 : decode cX6_rule 34 = .ok (.aload_n 0, 1) := by decide +kernel
theorem dX6_rule_35 : decode cX6_rule 35 = .ok (.iload_n 1, 1) := by decide +kernel
theorem dX6_rule_36 : decode cX6_rule 36 = .ok (.invokevirtual 204, 3) := by decide +kernel
theorem dX6_rule_39 : decode cX6_rule 39 = .ok (.ifCond .ne 6, 3) := by decide +kernel
theorem dX6_rule_42 : decode cX6_rule 42 = .ok (.bipush (-12), 2) := by decide +kernel
theorem dX6_rule_44 : decode cX6_rule 44 = .ok (.ireturn, 1) := by decide +kernel
theorem dX6_rule_45 : decode cX6_rule 45 = .ok (.iconst 0, 1) := by decide +kernel
theorem dX6_rule_46 : decode cX6_rule 46 = .ok (.istore_n 2, 1) := by decide +kernel
theorem dX6_rule_47 : decode cX6_rule 47 = .ok (.iload_n 2, 1) := by decide +kernel
theorem dX6_rule_48 : decode cX6_rule 48 = .ok (.bipush 12, 2) := by decide +kernel
theorem dX6_rule_50 : decode cX6_rule 50 = .ok (.if_icmp .ge 34, 3) := by decide +kernel
theorem dX6_rule_53 : decode cX6_rule 53 = .ok (.aload_n 0, 1) := by decide +kernel
theorem dX6_rule_54 : decode cX6_rule 54 = .ok (.getfield 27, 3) := by decide +kernel
theorem dX6_rule_57 : decode cX6_rule 57 = .ok (.bipush 12, 2) := by decide +kernel
theorem dX6_rule_59 : decode cX6_rule 59 = .ok (.aload_n 0, 1) := by decide +kernel
theorem dX6_rule_60 : decode cX6_rule 60 = .ok (.getfield 198, 3) := by decide +kernel
theorem dX6_rule_63 : decode cX6_rule 63 = .ok (.imul, 1) := by decide +kernel
theorem dX6_rule_64 : decode cX6_rule 64 = .ok (.iload_n 2, 1) := by decide +kernel
end
section
theorem dX6_rule_65 : decode cX6_rule 65 = .ok (.iadd, 1) := by decide +kernel
theorem dX6_rule_66 : decode cX6_rule 66 = .ok (.aload_n 0, 1) := by decide +kernel
theorem dX6_rule_67 : decode cX6_rule 67 = .ok (.getfield 19, 3) := by decide +kernel
theorem dX6_rule_70 : decode cX6_rule 70 = .ok (.bipush 12, 2) := by decide +kernel
theorem dX6_rule_72 : decode cX6_rule 72 = .ok (.iload_n 1, 1) := by decide +kernel
theorem dX6_rule_73 : decode cX6_rule 73 = .ok (.imul, 1) := by decide +kernel
theorem dX6_rule_74 : decode cX6_rule 74 = .ok (.iload_n 2, 1) := by decide +kernel
theorem dX6_rule_75 : decode cX6_rule 75 = .ok (.iadd, 1) := by decide +kernel
theorem dX6_rule_76 : decode cX6_rule 76 = .ok (.laload, 1) := by decide +kernel
theorem dX6_rule_77 : decode cX6_rule 77 = .ok (.lastore, 1) := by decide +kernel
theorem dX6_rule_78 : decode cX6_rule 78 = .ok (.iinc 2 1, 3) := by decide +kernel
theorem dX6_rule_81 : decode cX6_rule 81 = .ok (.goto (-34), 3) := by decide +kernel
theorem dX6_rule_84 : decode cX6_rule 84 = .ok (.aload_n 0, 1) := by decide +kernel
theorem dX6_rule_85 : decode cX6_rule 85 = .ok (.getfield 30, 3) := by decide +kernel
theorem dX6_rule_88 : decode cX6_rule 88 = .ok (.aload_n 0, 1) := by decide +kernel
theorem dX6_rule_89 : decode cX6_rule 89 = .ok (.getfield 198, 3) := by decide +kernel
theorem dX6_rule_92 : decode cX6_rule 92 = .ok (.iconst 0, 1) := by decide +kernel
theorem dX6_rule_93 : decode cX6_rule 93 = .ok (.iastore, 1) := by decide +kernel
theorem dX6_rule_94 : decode cX6_rule 94 = .ok (.aload_n 0, 1) := by decide +kernel
theorem dX6_rule_95 : decode cX6_rule 95 = .ok (.dup, 1) := by decide +kernel
theorem dX6_rule_96 : decode cX6_rule 96 = .ok (.getfield 198, 3) := by decide +kernel
theorem dX6_rule_99 : decode cX6_rule 99 = .ok (.iconst 1, 1) := by decide +kernel
theorem dX6_rule_100 : decode cX6_rule 100 = .ok (.iadd, 1) := by decide +kernel
theorem dX6_rule_101 : decode cX6_rule 101 = .ok (.putfield 198, 3) := by decide +kernel
theorem dX6_rule_104 : decode cX6_rule 104 = .ok (.aload_n 0, 1) := by decide +kernel
theorem dX6_rule_105 : decode cX6_rule 105 = .ok (.getfield 198, 3) := by decide +kernel
theorem dX6_rule_108 : decode cX6_rule 108 = .ok (.iconst 1, 1) := by decide +kernel
theorem dX6_rule_109 : decode cX6_rule 109 = .ok (.isub, 1) := by decide +kernel
theorem dX6_rule_110 : decode cX6_rule 110 = .ok (.ireturn, 1) := by decide +kernel
set_option maxRecDepth 20000 in
theorem ggX6_layPart_X6_zero : GoodIn wsX6_layPart wsX6_zero := goodIn_r _ [7, 8, 9, 15, 16, 17, 18, 19, 20, 21, 22, 23, 24, 25, 26, 27, 28, 29, 30, 31, 32, 33, 34, 35, 36, 37, 38] (by decide +kernel) (by decide +kernel)
set_option maxRecDepth 20000 in
theorem gX6_layPart_X6_zero : GoodIn wsX6_layPart (wsV RX6 105 RX6 yX6_zero wsX6_zero) := goodIn_app (goodIn_of _ (by decide +kernel)) ggX6_layPart_X6_zero
set_option maxRecDepth 20000 in
theorem ggX6_layPart_X6_add : GoodIn wsX6_layPart wsX6_add := goodIn_r _ [13, 8, 9, 14, 15, 16, 17, 18, 19, 20, 21, 22, 23, 24, 25, 26, 27, 28, 29, 30, 31, 32, 33, 34, 35, 36, 37, 38] (by decide +kernel) (by decide +kernel)
set_option maxRecDepth 20000 in
theorem gX6_layPart_X6_add : GoodIn wsX6_layPart (wsV RX6 108 RX6 yX6_add wsX6_add) := goodIn_app (goodIn_of _ (by decide +kernel)) ggX6_layPart_X6_add
theorem dX6_layPart_0 : decode cX6_layPart 0 = .ok (.aload_n 0, 1) := by decide +kernel
theorem dX6_layPart_1 : decode cX6_layPart 1 = .ok (.invokevirtual 105, 3) := by decide +kernel
theorem dX6_layPart_4 : decode cX6_layPart 4 = .ok (.aload_n 0, 1) := by decide +kernel
theorem dX6_layPart_5 : decode cX6_layPart 5 = .ok (.aload_n 0, 1) := by decide +kernel
theorem dX6_layPart_6 : decode cX6_layPart 6 = .ok (.getfield 27, 3) := by decide +kernel
theorem dX6_layPart_9 : decode cX6_layPart 9 = .ok (.bipush 12, 2) := by decide +kernel
theorem dX6_layPart_11 : decode cX6_layPart 11 = .ok (.iload_n 1, 1) := by decide +kernel
theorem dX6_layPart_12 : decode cX6_layPart 12 = .ok (.imul, 1) := by decide +kernel
theorem dX6_layPart_13 : decode cX6_layPart 13 = .ok (.iload_n 2, 1) := by decide +kernel
theorem dX6_layPart_14 : decode cX6_layPart 14 = .ok (.iadd, 1) := by decide +kernel
theorem dX6_layPart_15 : decode cX6_layPart 15 = .ok (.laload, 1) := by decide +kernel
theorem dX6_layPart_16 : decode cX6_layPart 16 = .ok (.aload_n 0, 1) := by decide +kernel
theorem dX6_layPart_17 : decode cX6_layPart 17 = .ok (.getfield 30, 3) := by decide +kernel
theorem dX6_layPart_20 : decode cX6_layPart 20 = .ok (.iload_n 1, 1) := by decide +kernel
theorem dX6_layPart_21 : decode cX6_layPart 21 = .ok (.iaload, 1) := by decide +kernel
theorem dX6_layPart_22 : decode cX6_layPart 22 = .ok (.i2l, 1) := by decide +kernel
theorem dX6_layPart_23 : decode cX6_layPart 23 = .ok (.invokevirtual 108, 3) := by decide +kernel
theorem dX6_layPart_26 : decode cX6_layPart 26 = .ok (.return_, 1) := by decide +kernel
set_option maxRecDepth 20000 in
theorem ggX6_hasRoom_X6_layPart : GoodIn wsX6_hasRoom wsX6_layPart := goodIn_r _ [9, 3, 4, 10, 11, 12, 8, 13, 14, 15, 16, 17, 18, 19, 20, 30, 31, 32, 33, 34, 35, 36, 37, 38, 39, 40, 41, 42, 43, 44, 45, 46, 47, 48, 49, 50, 51, 52, 53] (by decide +kernel) (by decide +kernel)
set_option maxRecDepth 20000 in
theorem gX6_hasRoom_X6_layPart : GoodIn wsX6_hasRoom (wsV RX6 207 RX6 yX6_layPart wsX6_layPart) := goodIn_app (goodIn_of _ (by decide +kernel)) ggX6_hasRoom_X6_layPart
set_option maxRecDepth 20000 in
theorem ggX6_hasRoom_X6_fits : GoodIn wsX6_hasRoom wsX6_fits := goodIn_r _ [24, 14, 25, 26, 27, 28, 8, 29, 30, 31, 32, 33, 34, 35, 36, 37, 38, 39, 40, 41, 42, 43, 44, 45, 46, 47, 48, 49, 50, 51, 52, 53] (by decide +kernel) (by decide +kernel)
set_option maxRecDepth 20000 in
theorem gX6_hasRoom_X6_fits : GoodIn wsX6_hasRoom (wsV RX6 114 RX6 yX6_fits wsX6_fits) := goodIn_app (goodIn_of _ (by decide +kernel)) ggX6_hasRoom_X6_fits
set_option maxRecDepth 20000 in
theorem ggX6_hasRoom_X6_zero : GoodIn wsX6_hasRoom wsX6_zero := goodIn_r _ [13, 14, 15, 30, 31, 32, 33, 34, 35, 36, 37, 38, 39, 40, 41, 42, 43, 44, 45, 46, 47, 48, 49, 50, 51, 52, 53] (by decide +kernel) (by decide +kernel)
set_option maxRecDepth 20000 in
theorem gX6_hasRoom_X6_zero : GoodIn wsX6_hasRoom (wsV RX6 105 RX6 yX6_zero wsX6_zero) := goodIn_app (goodIn_of _ (by decide +kernel)) ggX6_hasRoom_X6_zero
set_option maxRecDepth 20000 in
theorem ggX6_hasRoom_X6_add : GoodIn wsX6_hasRoom wsX6_add := goodIn_r _ [19, 14, 15, 20, 30, 31, 32, 33, 34, 35, 36, 37, 38, 39, 40, 41, 42, 43, 44, 45, 46, 47, 48, 49, 50, 51, 52, 53] (by decide +kernel) (by decide +kernel)
set_option maxRecDepth 20000 in
theorem gX6_hasRoom_X6_add : GoodIn wsX6_hasRoom (wsV RX6 108 RX6 yX6_add wsX6_add) := goodIn_app (goodIn_of _ (by decide +kernel)) ggX6_hasRoom_X6_add
theorem dX6_hasRoom_0 : decode cX6_hasRoom 0 = .ok (.iconst 1, 1) := by decide +kernel
theorem dX6_hasRoom_1 : decode cX6_hasRoom 1 = .ok (.istore_n 1, 1) := by decide +kernel
theorem dX6_hasRoom_2 : decode cX6_hasRoom 2 = .ok (.iconst 0, 1) := by decide +kernel
theorem dX6_hasRoom_3 : decode cX6_hasRoom 3 = .ok (.istore_n 2, 1) := by decide +kernel
theorem dX6_hasRoom_4 : decode cX6_hasRoom 4 = .ok (.iload_n 2, 1) := by decide +kernel
theorem dX6_hasRoom_5 : decode cX6_hasRoom 5 = .ok (.aload_n 0, 1) := by decide +kernel
theorem dX6_hasRoom_6 : decode cX6_hasRoom 6 = .ok (.getfield 23, 3) := by decide +kernel
theorem dX6_hasRoom_9 : decode cX6_hasRoom 9 = .ok (.if_icmp .ge 111, 3) := by decide +kernel
theorem dX6_hasRoom_12 : decode cX6_hasRoom 12 = .ok (.iload_n 1, 1) := by decide +kernel
theorem dX6_hasRoom_13 : decode cX6_hasRoom 13 = .ok (.ifCond .eq 107, 3) := by decide +kernel
theorem dX6_hasRoom_16 : decode cX6_hasRoom 16 = .ok (.iconst 0, 1) := by decide +kernel
theorem dX6_hasRoom_17 : decode cX6_hasRoom 17 = .ok (.istore_n 3, 1) := by decide +kernel
theorem dX6_hasRoom_18 : decode cX6_hasRoom 18 = .ok (.iload_n 3, 1) := by decide +kernel
theorem dX6_hasRoom_19 : decode cX6_hasRoom 19 = .ok (.aload_n 0, 1) := by decide +kernel
theorem dX6_hasRoom_20 : decode cX6_hasRoom 20 = .ok (.getfield 198, 3) := by decide +kernel
theorem dX6_hasRoom_23 : decode cX6_hasRoom 23 = .ok (.if_icmp .ge 32, 3) := by decide +kernel
theorem dX6_hasRoom_26 : decode cX6_hasRoom 26 = .ok (.aload_n 0, 1) := by decide +kernel
theorem dX6_hasRoom_27 : decode cX6_hasRoom 27 = .ok (.iload_n 3, 1) := by decide +kernel
theorem dX6_hasRoom_28 : decode cX6_hasRoom 28 = .ok (.iload_n 2, 1) := by decide +kernel
theorem dX6_hasRoom_29 : decode cX6_hasRoom 29 = .ok (.invokevirtual 207, 3) := by decide +kernel
theorem dX6_hasRoom_32 : decode cX6_hasRoom 32 = .ok (.iload_n 1, 1) := by decide +kernel
theorem dX6_hasRoom_33 : decode cX6_hasRoom 33 = .ok (.ifCond .eq 14, 3) := by decide +kernel
theorem dX6_hasRoom_36 : decode cX6_hasRoom 36 = .ok (.aload_n 0, 1) := by decide +kernel
theorem dX6_hasRoom_37 : decode cX6_hasRoom 37 = .ok (.invokevirtual 114, 3) := by decide +kernel
theorem dX6_hasRoom_40 : decode cX6_hasRoom 40 = .ok (.ifCond .eq 7, 3) := by decide +kernel
theorem dX6_hasRoom_43 : decode cX6_hasRoom 43 = .ok (.iconst 1, 1) := by decide +kernel
theorem dX6_hasRoom_44 : decode cX6_hasRoom 44 = .ok (.goto 4, 3) := by decide +kernel
theorem dX6_hasRoom_47 : decode cX6_hasRoom 47 = .ok (.iconst 0, 1) := by decide +kernel
theorem dX6_hasRoom_48 : decode cX6_hasRoom 48 = .ok (.istore_n 1, 1) := by decide +kernel
theorem dX6_hasRoom_49 : decode cX6_hasRoom 49 = .ok (.iinc 3 1, 3) := by decide +kernel
theorem dX6_hasRoom_52 : decode cX6_hasRoom 52 = .ok (.goto (-34), 3) := by decide +kernel
theorem dX6_hasRoom_55 : decode cX6_hasRoom 55 = .ok (.aload_n 0, 1) := by decide +kernel
theorem dX6_hasRoom_56 : decode cX6_hasRoom 56 = .ok (.invokevirtual 105, 3) := by decide +kernel
theorem dX6_hasRoom_59 : decode cX6_hasRoom 59 = .ok (.iconst 0, 1) := by decide +kernel
theorem dX6_hasRoom_60 : decode cX6_hasRoom 60 = .ok (.istore_n 3, 1) := by decide +kernel
theorem dX6_hasRoom_61 : decode cX6_hasRoom 61 = .ok (.iload_n 3, 1) := by decide +kernel
theorem dX6_hasRoom_62 : decode cX6_hasRoom 62 = .ok (.aload_n 0, 1) := by decide +kernel
theorem dX6_hasRoom_63 : decode cX6_hasRoom 63 = .ok (.getfield 198, 3) := by decide +kernel
theorem dX6_hasRoom_66 : decode cX6_hasRoom 66 = .ok (.if_icmp .ge 31, 3) := by decide +kernel
theorem dX6_hasRoom_69 : decode cX6_hasRoom 69 = .ok (.aload_n 0, 1) := by decide +kernel
theorem dX6_hasRoom_70 : decode cX6_hasRoom 70 = .ok (.aload_n 0, 1) := by decide +kernel
theorem dX6_hasRoom_71 : decode cX6_hasRoom 71 = .ok (.getfield 27, 3) := by decide +kernel
theorem dX6_hasRoom_74 : decode cX6_hasRoom 74 = .ok (.bipush 12, 2) := by decide +kernel
theorem dX6_hasRoom_76 : decode cX6_hasRoom 76 = .ok (.iload_n 3, 1) := by decide +kernel
theorem dX6_hasRoom_77 : decode cX6_hasRoom 77 = .ok (.imul, 1) := by decide +kernel
theorem dX6_hasRoom_78 : decode cX6_hasRoom 78 = .ok (.iload_n 2, 1) := by decide +kernel
theorem dX6_hasRoom_79 : decode cX6_hasRoom 79 = .ok (.iadd, 1) := by decide +kernel
theorem dX6_hasRoom_80 : decode cX6_hasRoom 80 = .ok (.laload, 1) := by decide +kernel
theorem dX6_hasRoom_81 : decode cX6_hasRoom 81 = .ok (.aload_n 0, 1) := by decide +kernel
theorem dX6_hasRoom_82 : decode cX6_hasRoom 82 = .ok (.getfield 30, 3) := by decide +kernel
theorem dX6_hasRoom_85 : decode cX6_hasRoom 85 = .ok (.iload_n 3, 1) := by decide +kernel
theorem dX6_hasRoom_86 : decode cX6_hasRoom 86 = .ok (.iaload, 1) := by decide +kernel
theorem dX6_hasRoom_87 : decode cX6_hasRoom 87 = .ok (.i2l, 1) := by decide +kernel
theorem dX6_hasRoom_88 : decode cX6_hasRoom 88 = .ok (.invokevirtual 108, 3) := by decide +kernel
theorem dX6_hasRoom_91 : decode cX6_hasRoom 91 = .ok (.iinc 3 1, 3) := by decide +kernel
theorem dX6_hasRoom_94 : decode cX6_hasRoom 94 = .ok (.goto (-33), 3) := by decide +kernel
theorem dX6_hasRoom_97 : decode cX6_hasRoom 97 = .ok (.iload_n 1, 1) := by decide +kernel
theorem dX6_hasRoom_98 : decode cX6_hasRoom 98 = .ok (.ifCond .eq 14, 3) := by decide +kernel
theorem dX6_hasRoom_101 : decode cX6_hasRoom 101 = .ok (.aload_n 0, 1) := by decide +kernel
theorem dX6_hasRoom_102 : decode cX6_hasRoom 102 = .ok (.invokevirtual 114, 3) := by decide +kernel
theorem dX6_hasRoom_105 : decode cX6_hasRoom 105 = .ok (.ifCond .eq 7, 3) := by decide +kernel
theorem dX6_hasRoom_108 : decode cX6_hasRoom 108 = .ok (.iconst 1, 1) := by decide +kernel
theorem dX6_hasRoom_109 : decode cX6_hasRoom 109 = .ok (.goto 4, 3) := by decide +kernel
theorem dX6_hasRoom_112 : decode cX6_hasRoom 112 = .ok (.iconst 0, 1) := by decide +kernel
theorem dX6_hasRoom_113 : decode cX6_hasRoom 113 = .ok (.istore_n 1, 1) := by decide +kernel
theorem dX6_hasRoom_114 : decode cX6_hasRoom 114 = .ok (.iinc 2 1, 3) := by decide +kernel
theorem dX6_hasRoom_117 : decode cX6_hasRoom 117 = .ok (.goto (-113), 3) := by decide +kernel
theorem dX6_hasRoom_120 : decode cX6_hasRoom 120 = .ok (.iload_n 1, 1) := by decide +kernel
theorem dX6_hasRoom_121 : decode cX6_hasRoom 121 = .ok (.ireturn, 1) := by decide +kernel
set_option maxRecDepth 20000 in
theorem ggX6_count_X6_in : GoodIn wsX6_count wsX6_in := goodIn_r _ [7] (by decide +kernel) (by decide +kernel)
set_option maxRecDepth 20000 in
theorem gX6_count_X6_in : GoodIn wsX6_count (va_wsS RX6 48 yX6_in wsX6_in) := goodIn_app (goodIn_of _ (by decide +kernel)) ggX6_count_X6_in
set_option maxRecDepth 20000 in
theorem ggX6_count_X6_hasRoom : GoodIn wsX6_count wsX6_hasRoom := goodIn_r _ [11, 12, 1, 13, 3, 14, 15, 16, 6, 17, 18, 19, 20, 21, 22, 23, 24, 25, 26, 27, 28, 29, 30, 31, 32, 33, 34, 4, 5, 7, 35, 36, 37, 38, 39, 40, 41, 42, 43, 44, 45, 46, 47, 48, 49, 50, 51, 52, 53, 54, 55, 56, 57, 58] (by decide +kernel) (by decide +kernel)
set_option maxRecDepth 20000 in
theorem gX6_count_X6_hasRoom : GoodIn wsX6_count (wsV RX6 213 RX6 yX6_hasRoom wsX6_hasRoom) := goodIn_app (goodIn_of _ (by decide +kernel)) ggX6_count_X6_hasRoom
theorem dX6_count_0 : decode cX6_count 0 = .ok (.iload_n 1, 1) := by decide +kernel
theorem dX6_count_1 : decode cX6_count 1 = .ok (.i2l, 1) := by decide +kernel
theorem dX6_count_2 : decode cX6_count 2 = .ok (.lconst 0, 1) := by decide +kernel
theorem dX6_count_3 : decode cX6_count 3 = .ok (.aload_n 0, 1) := by decide +kernel
theorem dX6_count_4 : decode cX6_count 4 = .ok (.getfield 198, 3) := by decide +kernel
theorem dX6_count_7 : decode cX6_count 7 = .ok (.iconst 1, 1) := by decide +kernel
theorem dX6_count_8 : decode cX6_count 8 = .ok (.isub, 1) := by decide +kernel
theorem dX6_count_9 : decode cX6_count 9 = .ok (.i2l, 1) := by decide +kernel
theorem dX6_count_10 : decode cX6_count 10 = .ok (.invokestatic 48, 3) := by decide +kernel
theorem dX6_count_13 : decode cX6_count 13 = .ok (.ifCond .ne 6, 3) := by decide +kernel
theorem dX6_count_16 : decode cX6_count 16 = .ok (.bipush (-2), 2) := by decide +kernel
theorem dX6_count_18 : decode cX6_count 18 = .ok (.ireturn, 1) := by decide +kernel
theorem dX6_count_19 : decode cX6_count 19 = .ok (.iload_n 2, 1) := by decide +kernel
theorem dX6_count_20 : decode cX6_count 20 = .ok (.i2l, 1) := by decide +kernel
theorem dX6_count_21 : decode cX6_count 21 = .ok (.lconst 0, 1) := by decide +kernel
theorem dX6_count_22 : decode cX6_count 22 = .ok (.ldc2_w 211, 3) := by decide +kernel
theorem dX6_count_25 : decode cX6_count 25 = .ok (.invokestatic 48, 3) := by decide +kernel
theorem dX6_count_28 : decode cX6_count 28 = .ok (.ifCond .ne 6, 3) := by decide +kernel
theorem dX6_count_31 : decode cX6_count 31 = .ok (.bipush (-3), 2) := by decide +kernel
theorem dX6_count_33 : decode cX6_count 33 = .ok (.ireturn, 1) := by decide +kernel
theorem dX6_count_34 : decode cX6_count 34 = .ok (.aload_n 0, 1) := by decide +kernel
theorem dX6_count_35 : decode cX6_count 35 = .ok (.getfield 30, 3) := by decide +kernel
theorem dX6_count_38 : decode cX6_count 38 = .ok (.iload_n 1, 1) := by decide +kernel
theorem dX6_count_39 : decode cX6_count 39 = .ok (.iaload, 1) := by decide +kernel
theorem dX6_count_40 : decode cX6_count 40 = .ok (.istore_n 3, 1) := by decide +kernel
theorem dX6_count_41 : decode cX6_count 41 = .ok (.aload_n 0, 1) := by decide +kernel
theorem dX6_count_42 : decode cX6_count 42 = .ok (.getfield 30, 3) := by decide +kernel
theorem dX6_count_45 : decode cX6_count 45 = .ok (.iload_n 1, 1) := by decide +kernel
theorem dX6_count_46 : decode cX6_count 46 = .ok (.iload_n 2, 1) := by decide +kernel
theorem dX6_count_47 : decode cX6_count 47 = .ok (.iastore, 1) := by decide +kernel
theorem dX6_count_48 : decode cX6_count 48 = .ok (.aload_n 0, 1) := by decide +kernel
theorem dX6_count_49 : decode cX6_count 49 = .ok (.invokevirtual 213, 3) := by decide +kernel
theorem dX6_count_52 : decode cX6_count 52 = .ok (.ifCond .ne 13, 3) := by decide +kernel
theorem dX6_count_55 : decode cX6_count 55 = .ok (.aload_n 0, 1) := by decide +kernel
theorem dX6_count_56 : decode cX6_count 56 = .ok (.getfield 30, 3) := by decide +kernel
theorem dX6_count_59 : decode cX6_count 59 = .ok (.iload_n 1, 1) := by decide +kernel
theorem dX6_count_60 : decode cX6_count 60 = .ok (.iload_n 3, 1) := by decide +kernel
theorem dX6_count_61 : decode cX6_count 61 = .ok (.iastore, 1) := by decide +kernel
theorem dX6_count_62 : decode cX6_count 62 = .ok (.bipush (-16), 2) := by decide +kernel
theorem dX6_count_64 : decode cX6_count 64 = .ok (.ireturn, 1) := by decide +kernel
theorem dX6_count_65 : decode cX6_count 65 = .ok (.iload_n 3, 1) := by decide +kernel
theorem dX6_count_66 : decode cX6_count 66 = .ok (.ireturn, 1) := by decide +kernel
set_option maxRecDepth 20000 in
theorem ggX6_weight_X6_in : GoodIn wsX6_weight wsX6_in := goodIn_r _ [8] (by decide +kernel) (by decide +kernel)
set_option maxRecDepth 20000 in
theorem gX6_weight_X6_in : GoodIn wsX6_weight (va_wsS RX6 48 yX6_in wsX6_in) := goodIn_app (goodIn_of _ (by decide +kernel)) ggX6_weight_X6_in
set_option maxRecDepth 20000 in
theorem ggX6_weight_X6_isNumber : GoodIn wsX6_weight wsX6_isNumber := goodIn_r _ [12, 13, 5, 6, 7, 8, 54, 55, 56, 57, 58, 59, 60, 61, 62, 63, 64, 65, 66, 67, 68, 69, 70, 71, 72, 73, 74, 75, 76, 77] (by decide +kernel) (by decide +kernel)
set_option maxRecDepth 20000 in
theorem gX6_weight_X6_isNumber : GoodIn wsX6_weight (wsV RX6 68 RX6 yX6_isNumber wsX6_isNumber) := goodIn_app (goodIn_of _ (by decide +kernel)) ggX6_weight_X6_isNumber
set_option maxRecDepth 20000 in
theorem ggX6_weight_X6_isNothing : GoodIn wsX6_weight wsX6_isNothing := goodIn_r _ [17, 18, 54, 55, 56, 57, 58, 59, 60, 61, 62, 63, 64, 65, 66, 67, 68, 69, 70, 71, 72, 73, 74, 75, 76, 77] (by decide +kernel) (by decide +kernel)
set_option maxRecDepth 20000 in
theorem gX6_weight_X6_isNothing : GoodIn wsX6_weight (wsV RX6 72 RX6 yX6_isNothing wsX6_isNothing) := goodIn_app (goodIn_of _ (by decide +kernel)) ggX6_weight_X6_isNothing
set_option maxRecDepth 20000 in
theorem ggX6_weight_X6_isLikePlan : GoodIn wsX6_weight wsX6_isLikePlan := goodIn_r _ [22, 18, 23, 24, 25, 26, 27, 54, 55, 56, 57, 58, 59, 60, 61, 62, 63, 64, 65, 66, 67, 68, 69, 70, 71, 72, 73, 74, 75, 76, 77] (by decide +kernel) (by decide +kernel)
set_option maxRecDepth 20000 in
theorem gX6_weight_X6_isLikePlan : GoodIn wsX6_weight (wsV RX6 204 RX6 yX6_isLikePlan wsX6_isLikePlan) := goodIn_app (goodIn_of _ (by decide +kernel)) ggX6_weight_X6_isLikePlan
set_option maxRecDepth 20000 in
theorem ggX6_weight_X6_hasRoom : GoodIn wsX6_weight wsX6_hasRoom := goodIn_r _ [31, 27, 1, 3, 32, 33, 34, 35, 7, 36, 37, 38, 39, 40, 41, 42, 43, 44, 45, 46, 47, 48, 49, 50, 51, 52, 53, 5, 6, 8, 54, 55, 56, 57, 58, 59, 60, 61, 62, 63, 64, 65, 66, 67, 68, 69, 70, 71, 72, 73, 74, 75, 76, 77] (by decide +kernel) (by decide +kernel)
set_option maxRecDepth 20000 in
theorem gX6_weight_X6_hasRoom : GoodIn wsX6_weight (wsV RX6 213 RX6 yX6_hasRoom wsX6_hasRoom) := goodIn_app (goodIn_of _ (by decide +kernel)) ggX6_weight_X6_hasRoom
theorem dX6_weight_0 : decode cX6_weight 0 = .ok (.iload_n 1, 1) := by decide +kernel
theorem dX6_weight_1 : decode cX6_weight 1 = .ok (.i2l, 1) := by decide +kernel
theorem dX6_weight_2 : decode cX6_weight 2 = .ok (.lconst 0, 1) := by decide +kernel
theorem dX6_weight_3 : decode cX6_weight 3 = .ok (.aload_n 0, 1) := by decide +kernel
theorem dX6_weight_4 : decode cX6_weight 4 = .ok (.getfield 198, 3) := by decide +kernel
theorem dX6_weight_7 : decode cX6_weight 7 = .ok (.iconst 1, 1) := by decide +kernel
theorem dX6_weight_8 : decode cX6_weight 8 = .ok (.isub, 1) := by decide +kernel
theorem dX6_weight_9 : decode cX6_weight 9 = .ok (.i2l, 1) := by decide +kernel
theorem dX6_weight_10 : decode cX6_weight 10 = .ok (.invokestatic 48, 3) := by decide +kernel
theorem dX6_weight_13 : decode cX6_weight 13 = .ok (.ifCond .eq 11, 3) := by decide +kernel
theorem dX6_weight_16 : decode cX6_weight 16 = .ok (.aload_n 0, 1) := by decide +kernel
theorem dX6_weight_17 : decode cX6_weight 17 = .ok (.iload_n 2, 1) := by decide +kernel
theorem dX6_weight_18 : decode cX6_weight 18 = .ok (.invokevirtual 68, 3) := by decide +kernel
theorem dX6_weight_21 : decode cX6_weight 21 = .ok (.ifCond .ne 6, 3) := by decide +kernel
theorem dX6_weight_24 : decode cX6_weight 24 = .ok (.bipush (-2), 2) := by decide +kernel
theorem dX6_weight_26 : decode cX6_weight 26 = .ok (.ireturn, 1) := by decide +kernel
theorem dX6_weight_27 : decode cX6_weight 27 = .ok (.aload_n 0, 1) := by decide +kernel
theorem dX6_weight_28 : decode cX6_weight 28 = .ok (.iload_n 2, 1) := by decide +kernel
theorem dX6_weight_29 : decode cX6_weight 29 = .ok (.invokevirtual 72, 3) := by decide +kernel
theorem dX6_weight_32 : decode cX6_weight 32 = .ok (.ifCond .eq 6, 3) := by decide +kernel
theorem dX6_weight_35 : decode cX6_weight 35 = .ok (.bipush (-11), 2) := by decide +kernel
theorem dX6_weight_37 : decode cX6_weight 37 = .ok (.ireturn, 1) := by decide +kernel
theorem dX6_weight_38 : decode cX6_weight 38 = .ok (.aload_n 0, 1) := by decide +kernel
theorem dX6_weight_39 : decode cX6_weight 39 = .ok (.iload_n 2, 1) := by decide +kernel
theorem dX6_weight_40 : decode cX6_weight 40 = .ok (.invokevirtual 204, 3) := by decide +kernel
theorem dX6_weight_43 : decode cX6_weight 43 = .ok (.ifCond .ne 6, 3) := by decide +kernel
theorem dX6_weight_46 : decode cX6_weight 46 = .ok (.bipush (-12), 2) := by decide +kernel
theorem dX6_weight_48 : decode cX6_weight 48 = .ok (.ireturn, 1) := by decide +kernel
theorem dX6_weight_49 : decode cX6_weight 49 = .ok (.iconst 0, 1) := by decide +kernel
theorem dX6_weight_50 : decode cX6_weight 50 = .ok (.istore_n 3, 1) := by decide +kernel
theorem dX6_weight_51 : decode cX6_weight 51 = .ok (.iload_n 3, 1) := by decide +kernel
theorem dX6_weight_52 : decode cX6_weight 52 = .ok (.bipush 12, 2) := by decide +kernel
theorem dX6_weight_54 : decode cX6_weight 54 = .ok (.if_icmp .ge 48, 3) := by decide +kernel
theorem dX6_weight_57 : decode cX6_weight 57 = .ok (.aload_n 0, 1) := by decide +kernel
theorem dX6_weight_58 : decode cX6_weight 58 = .ok (.getfield 42, 3) := by decide +kernel
theorem dX6_weight_61 : decode cX6_weight 61 = .ok (.iload_n 3, 1) := by decide +kernel
theorem dX6_weight_62 : decode cX6_weight 62 = .ok (.aload_n 0, 1) := by decide +kernel
theorem dX6_weight_63 : decode cX6_weight 63 = .ok (.getfield 27, 3) := by decide +kernel
theorem dX6_weight_66 : decode cX6_weight 66 = .ok (.bipush 12, 2) := by decide +kernel
theorem dX6_weight_68 : decode cX6_weight 68 = .ok (.iload_n 1, 1) := by decide +kernel
theorem dX6_weight_69 : decode cX6_weight 69 = .ok (.imul, 1) := by decide +kernel
theorem dX6_weight_70 : decode cX6_weight 70 = .ok (.iload_n 3, 1) := by decide +kernel
theorem dX6_weight_71 : decode cX6_weight 71 = .ok (.iadd, 1) := by decide +kernel
theorem dX6_weight_72 : decode cX6_weight 72 = .ok (.laload, 1) := by decide +kernel
theorem dX6_weight_73 : decode cX6_weight 73 = .ok (.lastore, 1) := by decide +kernel
theorem dX6_weight_74 : decode cX6_weight 74 = .ok (.aload_n 0, 1) := by decide +kernel
theorem dX6_weight_75 : decode cX6_weight 75 = .ok (.getfield 27, 3) := by decide +kernel
theorem dX6_weight_78 : decode cX6_weight 78 = .ok (.bipush 12, 2) := by decide +kernel
theorem dX6_weight_80 : decode cX6_weight 80 = .ok (.iload_n 1, 1) := by decide +kernel
theorem dX6_weight_81 : decode cX6_weight 81 = .ok (.imul, 1) := by decide +kernel
theorem dX6_weight_82 : decode cX6_weight 82 = .ok (.iload_n 3, 1) := by decide +kernel
theorem dX6_weight_83 : decode cX6_weight 83 = .ok (.iadd, 1) := by decide +kernel
theorem dX6_weight_84 : decode cX6_weight 84 = .ok (.aload_n 0, 1) := by decide +kernel
theorem dX6_weight_85 : decode cX6_weight 85 = .ok (.getfield 19, 3) := by decide +kernel
theorem dX6_weight_88 : decode cX6_weight 88 = .ok (.bipush 12, 2) := by decide +kernel
theorem dX6_weight_90 : decode cX6_weight 90 = .ok (.iload_n 2, 1) := by decide +kernel
theorem dX6_weight_91 : decode cX6_weight 91 = .ok (.imul, 1) := by decide +kernel
theorem dX6_weight_92 : decode cX6_weight 92 = .ok (.iload_n 3, 1) := by decide +kernel
theorem dX6_weight_93 : decode cX6_weight 93 = .ok (.iadd, 1) := by decide +kernel
theorem dX6_weight_94 : decode cX6_weight 94 = .ok (.laload, 1) := by decide +kernel
theorem dX6_weight_95 : decode cX6_weight 95 = .ok (.lastore, 1) := by decide +kernel
theorem dX6_weight_96 : decode cX6_weight 96 = .ok (.iinc 3 1, 3) := by decide +kernel
theorem dX6_weight_99 : decode cX6_weight 99 = .ok (.goto (-48), 3) := by decide +kernel
theorem dX6_weight_102 : decode cX6_weight 102 = .ok (.aload_n 0, 1) := by decide +kernel
theorem dX6_weight_103 : decode cX6_weight 103 = .ok (.invokevirtual 213, 3) := by decide +kernel
theorem dX6_weight_106 : decode cX6_weight 106 = .ok (.ifCond .eq 5, 3) := by decide +kernel
theorem dX6_weight_109 : decode cX6_weight 109 = .ok (.iconst 1, 1) := by decide +kernel
theorem dX6_weight_110 : decode cX6_weight 110 = .ok (.ireturn, 1) := by decide +kernel
theorem dX6_weight_111 : decode cX6_weight 111 = .ok (.iconst 0, 1) := by decide +kernel
theorem dX6_weight_112 : decode cX6_weight 112 = .ok (.istore_n 3, 1) := by decide +kernel
theorem dX6_weight_113 : decode cX6_weight 113 = .ok (.iload_n 3, 1) := by decide +kernel
theorem dX6_weight_114 : decode cX6_weight 114 = .ok (.bipush 12, 2) := by decide +kernel
theorem dX6_weight_116 : decode cX6_weight 116 = .ok (.if_icmp .ge 26, 3) := by decide +kernel
theorem dX6_weight_119 : decode cX6_weight 119 = .ok (.aload_n 0, 1) := by decide +kernel
theorem dX6_weight_120 : decode cX6_weight 120 = .ok (.getfield 27, 3) := by decide +kernel
theorem dX6_weight_123 : decode cX6_weight 123 = .ok (.bipush 12, 2) := by decide +kernel
theorem dX6_weight_125 : decode cX6_weight 125 = .ok (.iload_n 1, 1) := by decide +kernel
theorem dX6_weight_126 : decode cX6_weight 126 = .ok (.imul, 1) := by decide +kernel
theorem dX6_weight_127 : decode cX6_weight 127 = .ok (.iload_n 3, 1) := by decide +kernel
theorem dX6_weight_128 : decode cX6_weight 128 = .ok (.iadd, 1) := by decide +kernel
theorem dX6_weight_129 : decode cX6_weight 129 = .ok (.aload_n 0, 1) := by decide +kernel
theorem dX6_weight_130 : decode cX6_weight 130 = .ok (.getfield 42, 3) := by decide +kernel
theorem dX6_weight_133 : decode cX6_weight 133 = .ok (.iload_n 3, 1) := by decide +kernel
theorem dX6_weight_134 : decode cX6_weight 134 = .ok (.laload, 1) := by decide +kernel
theorem dX6_weight_135 : decode cX6_weight 135 = .ok (.lastore, 1) := by decide +kernel
theorem dX6_weight_136 : decode cX6_weight 136 = .ok (.iinc 3 1, 3) := by decide +kernel
theorem dX6_weight_139 : decode cX6_weight 139 = .ok (.goto (-26), 3) := by decide +kernel
theorem dX6_weight_142 : decode cX6_weight 142 = .ok (.bipush (-16), 2) := by decide +kernel
theorem dX6_weight_144 : decode cX6_weight 144 = .ok (.ireturn, 1) := by decide +kernel
set_option maxRecDepth 20000 in
theorem ggX6_total_X6_in : GoodIn wsX6_total wsX6_in := goodIn_r _ [13] (by decide +kernel) (by decide +kernel)
set_option maxRecDepth 20000 in
theorem gX6_total_X6_in : GoodIn wsX6_total (va_wsS RX6 48 yX6_in wsX6_in) := goodIn_app (goodIn_of _ (by decide +kernel)) ggX6_total_X6_in
set_option maxRecDepth 20000 in
theorem ggX6_total_X6_lay : GoodIn wsX6_total wsX6_lay := goodIn_r _ [17, 18, 3, 19, 20, 9, 40, 41, 42, 43, 44, 45, 46, 47, 48, 49, 50, 51, 52, 53, 54, 55, 56, 57, 58, 59, 60, 61, 62, 63] (by decide +kernel) (by decide +kernel)
set_option maxRecDepth 20000 in
theorem gX6_total_X6_lay : GoodIn wsX6_total (wsV RX6 60 RX6 yX6_lay wsX6_lay) := goodIn_app (goodIn_of _ (by decide +kernel)) ggX6_total_X6_lay
set_option maxRecDepth 20000 in
theorem ggX6_total_X6_zero : GoodIn wsX6_total wsX6_zero := goodIn_r _ [24, 25, 26, 40, 41, 42, 43, 44, 45, 46, 47, 48, 49, 50, 51, 52, 53, 54, 55, 56, 57, 58, 59, 60, 61, 62, 63] (by decide +kernel) (by decide +kernel)
set_option maxRecDepth 20000 in
theorem gX6_total_X6_zero : GoodIn wsX6_total (wsV RX6 105 RX6 yX6_zero wsX6_zero) := goodIn_app (goodIn_of _ (by decide +kernel)) ggX6_total_X6_zero
set_option maxRecDepth 20000 in
theorem ggX6_total_X6_add : GoodIn wsX6_total wsX6_add := goodIn_r _ [30, 25, 26, 31, 40, 41, 42, 43, 44, 45, 46, 47, 48, 49, 50, 51, 52, 53, 54, 55, 56, 57, 58, 59, 60, 61, 62, 63] (by decide +kernel) (by decide +kernel)
set_option maxRecDepth 20000 in
theorem gX6_total_X6_add : GoodIn wsX6_total (wsV RX6 108 RX6 yX6_add wsX6_add) := goodIn_app (goodIn_of _ (by decide +kernel)) ggX6_total_X6_add
set_option maxRecDepth 20000 in
theorem ggX6_total_X6_number : GoodIn wsX6_total wsX6_number := goodIn_r _ [35, 25, 26, 40, 41, 42, 43, 44, 45, 46, 47, 48, 49, 50, 51, 52, 53, 54, 55, 56, 57, 58, 59, 60, 61, 62, 63] (by decide +kernel) (by decide +kernel)
set_option maxRecDepth 20000 in
theorem gX6_total_X6_number : GoodIn wsX6_total (wsV RX6 118 RX6 yX6_number wsX6_number) := goodIn_app (goodIn_of _ (by decide +kernel)) ggX6_total_X6_number
set_option maxRecDepth 20000 in
theorem ggX6_total_X6_keepScore : GoodIn wsX6_total wsX6_keepScore := goodIn_r _ [39, 3, 40, 41, 42, 43, 44, 45, 46, 47, 48, 49, 50, 51, 52, 53, 54, 55, 56, 57, 58, 59, 60, 61, 62, 63] (by decide +kernel) (by decide +kernel)
set_option maxRecDepth 20000 in
theorem gX6_total_X6_keepScore : GoodIn wsX6_total (wsV RX6 64 RX6 yX6_keepScore wsX6_keepScore) := goodIn_app (goodIn_of _ (by decide +kernel)) ggX6_total_X6_keepScore
theorem dX6_total_0 : decode cX6_total 0 = .ok (.iload_n 1, 1) := by decide +kernel
theorem dX6_total_1 : decode cX6_total 1 = .ok (.i2l, 1) := by decide +kernel
theorem dX6_total_2 : decode cX6_total 2 = .ok (.ldc2_w 112, 3) := by decide +kernel
theorem dX6_total_5 : decode cX6_total 5 = .ok (.aload_n 0, 1) := by decide +kernel
theorem dX6_total_6 : decode cX6_total 6 = .ok (.getfield 198, 3) := by decide +kernel
theorem dX6_total_9 : decode cX6_total 9 = .ok (.iconst 1, 1) := by decide +kernel
theorem dX6_total_10 : decode cX6_total 10 = .ok (.isub, 1) := by decide +kernel
theorem dX6_total_11 : decode cX6_total 11 = .ok (.i2l, 1) := by decide +kernel
theorem dX6_total_12 : decode cX6_total 12 = .ok (.invokestatic 48, 3) := by decide +kernel
theorem dX6_total_15 : decode cX6_total 15 = .ok (.ifCond .ne 6, 3) := by decide +kernel
theorem dX6_total_18 : decode cX6_total 18 = .ok (.bipush (-2), 2) := by decide +kernel
theorem dX6_total_20 : decode cX6_total 20 = .ok (.ireturn, 1) := by decide +kernel
theorem dX6_total_21 : decode cX6_total 21 = .ok (.aload_n 0, 1) := by decide +kernel
theorem dX6_total_22 : decode cX6_total 22 = .ok (.getfield 45, 3) := by decide +kernel
theorem dX6_total_25 : decode cX6_total 25 = .ok (.bipush 60, 2) := by decide +kernel
theorem dX6_total_27 : decode cX6_total 27 = .ok (.if_icmp .ne 6, 3) := by decide +kernel
theorem dX6_total_30 : decode cX6_total 30 = .ok (.bipush (-4), 2) := by decide +kernel
theorem dX6_total_32 : decode cX6_total 32 = .ok (.ireturn, 1) := by decide +kernel
theorem dX6_total_33 : decode cX6_total 33 = .ok (.aload_n 0, 1) := by decide +kernel
theorem dX6_total_34 : decode cX6_total 34 = .ok (.aload_n 0, 1) := by decide +kernel
theorem dX6_total_35 : decode cX6_total 35 = .ok (.getfield 52, 3) := by decide +kernel
theorem dX6_total_38 : decode cX6_total 38 = .ok (.aload_n 0, 1) := by decide +kernel
theorem dX6_total_39 : decode cX6_total 39 = .ok (.getfield 55, 3) := by decide +kernel
theorem dX6_total_42 : decode cX6_total 42 = .ok (.aload_n 0, 1) := by decide +kernel
theorem dX6_total_43 : decode cX6_total 43 = .ok (.getfield 23, 3) := by decide +kernel
theorem dX6_total_46 : decode cX6_total 46 = .ok (.invokevirtual 60, 3) := by decide +kernel
theorem dX6_total_49 : decode cX6_total 49 = .ok (.iconst 0, 1) := by decide +kernel
theorem dX6_total_50 : decode cX6_total 50 = .ok (.istore_n 2, 1) := by decide +kernel
theorem dX6_total_51 : decode cX6_total 51 = .ok (.iload_n 2, 1) := by decide +kernel
theorem dX6_total_52 : decode cX6_total 52 = .ok (.aload_n 0, 1) := by decide +kernel
theorem dX6_total_53 : decode cX6_total 53 = .ok (.getfield 23, 3) := by decide +kernel
theorem dX6_total_56 : decode cX6_total 56 = .ok (.if_icmp .ge 79, 3) := by decide +kernel
theorem dX6_total_59 : decode cX6_total 59 = .ok (.aload_n 0, 1) := by decide +kernel
theorem dX6_total_60 : decode cX6_total 60 = .ok (.invokevirtual 105, 3) := by decide +kernel
theorem dX6_total_63 : decode cX6_total 63 = .ok (.iconst 0, 1) := by decide +kernel
theorem dX6_total_64 : decode cX6_total 64 = .ok (.istore_n 3, 1) := by decide +kernel
theorem dX6_total_65 : decode cX6_total 65 = .ok (.iload_n 3, 1) := by decide +kernel
theorem dX6_total_66 : decode cX6_total 66 = .ok (.aload_n 0, 1) := by decide +kernel
theorem dX6_total_67 : decode cX6_total 67 = .ok (.getfield 198, 3) := by decide +kernel
theorem dX6_total_70 : decode cX6_total 70 = .ok (.if_icmp .ge 41, 3) := by decide +kernel
theorem dX6_total_73 : decode cX6_total 73 = .ok (.iload_n 1, 1) := by decide +kernel
theorem dX6_total_74 : decode cX6_total 74 = .ok (.iconst (-1), 1) := by decide +kernel
theorem dX6_total_75 : decode cX6_total 75 = .ok (.if_icmp .eq 8, 3) := by decide +kernel
theorem dX6_total_78 : decode cX6_total 78 = .ok (.iload_n 1, 1) := by decide +kernel
theorem dX6_total_79 : decode cX6_total 79 = .ok (.iload_n 3, 1) := by decide +kernel
theorem dX6_total_80 : decode cX6_total 80 = .ok (.if_icmp .ne 25, 3) := by decide +kernel
theorem dX6_total_83 : decode cX6_total 83 = .ok (.aload_n 0, 1) := by decide +kernel
theorem dX6_total_84 : decode cX6_total 84 = .ok (.aload_n 0, 1) := by decide +kernel
theorem dX6_total_85 : decode cX6_total 85 = .ok (.getfield 27, 3) := by decide +kernel
theorem dX6_total_88 : decode cX6_total 88 = .ok (.bipush 12, 2) := by decide +kernel
theorem dX6_total_90 : decode cX6_total 90 = .ok (.iload_n 3, 1) := by decide +kernel
theorem dX6_total_91 : decode cX6_total 91 = .ok (.imul, 1) := by decide +kernel
theorem dX6_total_92 : decode cX6_total 92 = .ok (.iload_n 2, 1) := by decide +kernel
theorem dX6_total_93 : decode cX6_total 93 = .ok (.iadd, 1) := by decide +kernel
theorem dX6_total_94 : decode cX6_total 94 = .ok (.laload, 1) := by decide +kernel
theorem dX6_total_95 : decode cX6_total 95 = .ok (.aload_n 0, 1) := by decide +kernel
theorem dX6_total_96 : decode cX6_total 96 = .ok (.getfield 30, 3) := by decide +kernel
theorem dX6_total_99 : decode cX6_total 99 = .ok (.iload_n 3, 1) := by decide +kernel
theorem dX6_total_100 : decode cX6_total 100 = .ok (.iaload, 1) := by decide +kernel
theorem dX6_total_101 : decode cX6_total 101 = .ok (.i2l, 1) := by decide +kernel
theorem dX6_total_102 : decode cX6_total 102 = .ok (.invokevirtual 108, 3) := by decide +kernel
theorem dX6_total_105 : decode cX6_total 105 = .ok (.iinc 3 1, 3) := by decide +kernel
theorem dX6_total_108 : decode cX6_total 108 = .ok (.goto (-43), 3) := by decide +kernel
theorem dX6_total_111 : decode cX6_total 111 = .ok (.aload_n 0, 1) := by decide +kernel
theorem dX6_total_112 : decode cX6_total 112 = .ok (.getfield 19, 3) := by decide +kernel
theorem dX6_total_115 : decode cX6_total 115 = .ok (.bipush 12, 2) := by decide +kernel
theorem dX6_total_117 : decode cX6_total 117 = .ok (.aload_n 0, 1) := by decide +kernel
theorem dX6_total_118 : decode cX6_total 118 = .ok (.getfield 45, 3) := by decide +kernel
theorem dX6_total_121 : decode cX6_total 121 = .ok (.imul, 1) := by decide +kernel
theorem dX6_total_122 : decode cX6_total 122 = .ok (.iload_n 2, 1) := by decide +kernel
theorem dX6_total_123 : decode cX6_total 123 = .ok (.iadd, 1) := by decide +kernel
theorem dX6_total_124 : decode cX6_total 124 = .ok (.aload_n 0, 1) := by decide +kernel
theorem dX6_total_125 : decode cX6_total 125 = .ok (.invokevirtual 118, 3) := by decide +kernel
theorem dX6_total_128 : decode cX6_total 128 = .ok (.lastore, 1) := by decide +kernel
theorem dX6_total_129 : decode cX6_total 129 = .ok (.iinc 2 1, 3) := by decide +kernel
theorem dX6_total_132 : decode cX6_total 132 = .ok (.goto (-81), 3) := by decide +kernel
theorem dX6_total_135 : decode cX6_total 135 = .ok (.aload_n 0, 1) := by decide +kernel
theorem dX6_total_136 : decode cX6_total 136 = .ok (.invokevirtual 64, 3) := by decide +kernel
theorem dX6_total_139 : decode cX6_total 139 = .ok (.ireturn, 1) := by decide +kernel
set_option maxRecDepth 20000 in
theorem ggX6_safe_X6_in : GoodIn wsX6_safe wsX6_in := goodIn_r _ [8] (by decide +kernel) (by decide +kernel)
set_option maxRecDepth 20000 in
theorem gX6_safe_X6_in : GoodIn wsX6_safe (va_wsS RX6 48 yX6_in wsX6_in) := goodIn_app (goodIn_of _ (by decide +kernel)) ggX6_safe_X6_in
set_option maxRecDepth 20000 in
theorem ggX6_safe_X6_zero : GoodIn wsX6_safe wsX6_zero := goodIn_r _ [12, 13, 14, 26, 27, 28, 29, 30, 31, 32, 33, 34, 35, 36, 37, 38, 39, 40, 41, 42, 43, 44, 45, 46, 47, 48, 49] (by decide +kernel) (by decide +kernel)
set_option maxRecDepth 20000 in
theorem gX6_safe_X6_zero : GoodIn wsX6_safe (wsV RX6 105 RX6 yX6_zero wsX6_zero) := goodIn_app (goodIn_of _ (by decide +kernel)) ggX6_safe_X6_zero
set_option maxRecDepth 20000 in
theorem ggX6_safe_X6_add : GoodIn wsX6_safe wsX6_add := goodIn_r _ [18, 13, 14, 19, 26, 27, 28, 29, 30, 31, 32, 33, 34, 35, 36, 37, 38, 39, 40, 41, 42, 43, 44, 45, 46, 47, 48, 49] (by decide +kernel) (by decide +kernel)
set_option maxRecDepth 20000 in
theorem gX6_safe_X6_add : GoodIn wsX6_safe (wsV RX6 108 RX6 yX6_add wsX6_add) := goodIn_app (goodIn_of _ (by decide +kernel)) ggX6_safe_X6_add
set_option maxRecDepth 20000 in
theorem ggX6_safe_X6_fits : GoodIn wsX6_safe wsX6_fits := goodIn_r _ [23, 13, 24, 25, 5, 6, 7, 8, 26, 27, 28, 29, 30, 31, 32, 33, 34, 35, 36, 37, 38, 39, 40, 41, 42, 43, 44, 45, 46, 47, 48, 49] (by decide +kernel) (by decide +kernel)
set_option maxRecDepth 20000 in
theorem gX6_safe_X6_fits : GoodIn wsX6_safe (wsV RX6 114 RX6 yX6_fits wsX6_fits) := goodIn_app (goodIn_of _ (by decide +kernel)) ggX6_safe_X6_fits
theorem dX6_safe_0 : decode cX6_safe 0 = .ok (.iload_n 1, 1) := by decide +kernel
theorem dX6_safe_1 : decode cX6_safe 1 = .ok (.i2l, 1) := by decide +kernel
theorem dX6_safe_2 : decode cX6_safe 2 = .ok (.lconst 0, 1) := by decide +kernel
theorem dX6_safe_3 : decode cX6_safe 3 = .ok (.ldc2_w 211, 3) := by decide +kernel
theorem dX6_safe_6 : decode cX6_safe 6 = .ok (.invokestatic 48, 3) := by decide +kernel
theorem dX6_safe_9 : decode cX6_safe 9 = .ok (.ifCond .ne 6, 3) := by decide +kernel
theorem dX6_safe_12 : decode cX6_safe 12 = .ok (.bipush (-3), 2) := by decide +kernel
theorem dX6_safe_14 : decode cX6_safe 14 = .ok (.ireturn, 1) := by decide +kernel
theorem dX6_safe_15 : decode cX6_safe 15 = .ok (.iconst 1, 1) := by decide +kernel
theorem dX6_safe_16 : decode cX6_safe 16 = .ok (.istore_n 2, 1) := by decide +kernel
theorem dX6_safe_17 : decode cX6_safe 17 = .ok (.iconst 0, 1) := by decide +kernel
theorem dX6_safe_18 : decode cX6_safe 18 = .ok (.istore_n 3, 1) := by decide +kernel
theorem dX6_safe_19 : decode cX6_safe 19 = .ok (.iload_n 3, 1) := by decide +kernel
theorem dX6_safe_20 : decode cX6_safe 20 = .ok (.aload_n 0, 1) := by decide +kernel
theorem dX6_safe_21 : decode cX6_safe 21 = .ok (.getfield 23, 3) := by decide +kernel
theorem dX6_safe_24 : decode cX6_safe 24 = .ok (.if_icmp .ge 114, 3) := by decide +kernel
theorem dX6_safe_27 : decode cX6_safe 27 = .ok (.iconst 0, 1) := by decide +kernel
theorem dX6_safe_28 : decode cX6_safe 28 = .ok (.istore 4, 2) := by decide +kernel
theorem dX6_safe_30 : decode cX6_safe 30 = .ok (.iload 4, 2) := by decide +kernel
theorem dX6_safe_32 : decode cX6_safe 32 = .ok (.iconst 2, 1) := by decide +kernel
theorem dX6_safe_33 : decode cX6_safe 33 = .ok (.if_icmp .ge 99, 3) := by decide +kernel
theorem dX6_safe_36 : decode cX6_safe 36 = .ok (.aload_n 0, 1) := by decide +kernel
theorem dX6_safe_37 : decode cX6_safe 37 = .ok (.invokevirtual 105, 3) := by decide +kernel
theorem dX6_safe_40 : decode cX6_safe 40 = .ok (.iconst 0, 1) := by decide +kernel
theorem dX6_safe_41 : decode cX6_safe 41 = .ok (.istore 5, 2) := by decide +kernel
theorem dX6_safe_43 : decode cX6_safe 43 = .ok (.iload 5, 2) := by decide +kernel
theorem dX6_safe_45 : decode cX6_safe 45 = .ok (.aload_n 0, 1) := by decide +kernel
theorem dX6_safe_46 : decode cX6_safe 46 = .ok (.getfield 198, 3) := by decide +kernel
theorem dX6_safe_49 : decode cX6_safe 49 = .ok (.if_icmp .ge 60, 3) := by decide +kernel
theorem dX6_safe_52 : decode cX6_safe 52 = .ok (.aload_n 0, 1) := by decide +kernel
theorem dX6_safe_53 : decode cX6_safe 53 = .ok (.getfield 27, 3) := by decide +kernel
theorem dX6_safe_56 : decode cX6_safe 56 = .ok (.bipush 12, 2) := by decide +kernel
theorem dX6_safe_58 : decode cX6_safe 58 = .ok (.iload 5, 2) := by decide +kernel
theorem dX6_safe_60 : decode cX6_safe 60 = .ok (.imul, 1) := by decide +kernel
theorem dX6_safe_61 : decode cX6_safe 61 = .ok (.iload_n 3, 1) := by decide +kernel
theorem dX6_safe_62 : decode cX6_safe 62 = .ok (.iadd, 1) := by decide +kernel
theorem dX6_safe_63 : decode cX6_safe 63 = .ok (.laload, 1) := by decide +kernel
theorem dX6_safe_64 : decode cX6_safe 64 = .ok (.lstore 6, 2) := by decide +kernel
theorem dX6_safe_66 : decode cX6_safe 66 = .ok (.aload_n 0, 1) := by decide +kernel
theorem dX6_safe_67 : decode cX6_safe 67 = .ok (.iload 4, 2) := by decide +kernel
theorem dX6_safe_69 : decode cX6_safe 69 = .ok (.ifCond .ne 7, 3) := by decide +kernel
theorem dX6_safe_72 : decode cX6_safe 72 = .ok (.iconst 1, 1) := by decide +kernel
theorem dX6_safe_73 : decode cX6_safe 73 = .ok (.goto 4, 3) := by decide +kernel
theorem dX6_safe_76 : decode cX6_safe 76 = .ok (.iconst 0, 1) := by decide +kernel
theorem dX6_safe_77 : decode cX6_safe 77 = .ok (.lload 6, 2) := by decide +kernel
theorem dX6_safe_79 : decode cX6_safe 79 = .ok (.lconst 0, 1) := by decide +kernel
theorem dX6_safe_80 : decode cX6_safe 80 = .ok (.lcmp, 1) := by decide +kernel
theorem dX6_safe_81 : decode cX6_safe 81 = .ok (.ifCond .le 7, 3) := by decide +kernel
theorem dX6_safe_84 : decode cX6_safe 84 = .ok (.iconst 1, 1) := by decide +kernel
theorem dX6_safe_85 : decode cX6_safe 85 = .ok (.goto 4, 3) := by decide +kernel
theorem dX6_safe_88 : decode cX6_safe 88 = .ok (.iconst 0, 1) := by decide +kernel
theorem dX6_safe_89 : decode cX6_safe 89 = .ok (.if_icmp .ne 8, 3) := by decide +kernel
theorem dX6_safe_92 : decode cX6_safe 92 = .ok (.lload 6, 2) := by decide +kernel
theorem dX6_safe_94 : decode cX6_safe 94 = .ok (.goto 4, 3) := by decide +kernel
theorem dX6_safe_97 : decode cX6_safe 97 = .ok (.lconst 0, 1) := by decide +kernel
theorem dX6_safe_98 : decode cX6_safe 98 = .ok (.iload_n 1, 1) := by decide +kernel
theorem dX6_safe_99 : decode cX6_safe 99 = .ok (.i2l, 1) := by decide +kernel
theorem dX6_safe_100 : decode cX6_safe 100 = .ok (.invokevirtual 108, 3) := by decide +kernel
theorem dX6_safe_103 : decode cX6_safe 103 = .ok (.iinc 5 1, 3) := by decide +kernel
theorem dX6_safe_106 : decode cX6_safe 106 = .ok (.goto (-63), 3) := by decide +kernel
theorem dX6_safe_109 : decode cX6_safe 109 = .ok (.iload_n 2, 1) := by decide +kernel
theorem dX6_safe_110 : decode cX6_safe 110 = .ok (.ifCond .eq 14, 3) := by decide +kernel
theorem dX6_safe_113 : decode cX6_safe 113 = .ok (.aload_n 0, 1) := by decide +kernel
theorem dX6_safe_114 : decode cX6_safe 114 = .ok (.invokevirtual 114, 3) := by decide +kernel
theorem dX6_safe_117 : decode cX6_safe 117 = .ok (.ifCond .eq 7, 3) := by decide +kernel
theorem dX6_safe_120 : decode cX6_safe 120 = .ok (.iconst 1, 1) := by decide +kernel
theorem dX6_safe_121 : decode cX6_safe 121 = .ok (.goto 4, 3) := by decide +kernel
theorem dX6_safe_124 : decode cX6_safe 124 = .ok (.iconst 0, 1) := by decide +kernel
theorem dX6_safe_125 : decode cX6_safe 125 = .ok (.istore_n 2, 1) := by decide +kernel
theorem dX6_safe_126 : decode cX6_safe 126 = .ok (.iinc 4 1, 3) := by decide +kernel
theorem dX6_safe_129 : decode cX6_safe 129 = .ok (.goto (-99), 3) := by decide +kernel
theorem dX6_safe_132 : decode cX6_safe 132 = .ok (.iinc 3 1, 3) := by decide +kernel
theorem dX6_safe_135 : decode cX6_safe 135 = .ok (.goto (-116), 3) := by decide +kernel
theorem dX6_safe_138 : decode cX6_safe 138 = .ok (.iload_n 2, 1) := by decide +kernel
theorem dX6_safe_139 : decode cX6_safe 139 = .ok (.ifCond .eq 7, 3) := by decide +kernel
theorem dX6_safe_142 : decode cX6_safe 142 = .ok (.iconst 1, 1) := by decide +kernel
theorem dX6_safe_143 : decode cX6_safe 143 = .ok (.goto 4, 3) := by decide +kernel
theorem dX6_safe_146 : decode cX6_safe 146 = .ok (.iconst 0, 1) := by decide +kernel
theorem dX6_safe_147 : decode cX6_safe 147 = .ok (.ireturn, 1) := by decide +kernel
set_option maxRecDepth 20000 in
theorem ggX6_keep_X6_isNumber : GoodIn wsX6_keep wsX6_isNumber := goodIn_r _ [9, 10, 11, 12, 8, 13, 31, 32, 33, 34, 35, 36, 37, 38, 39, 40, 41, 42, 43, 44, 45, 46, 47, 48, 49, 50, 51, 52, 53, 54] (by decide +kernel) (by decide +kernel)
set_option maxRecDepth 20000 in
theorem gX6_keep_X6_isNumber : GoodIn wsX6_keep (wsV RX6 68 RX6 yX6_isNumber wsX6_isNumber) := goodIn_app (goodIn_of _ (by decide +kernel)) ggX6_keep_X6_isNumber
set_option maxRecDepth 20000 in
theorem ggX6_keep_X6_isNothing : GoodIn wsX6_keep wsX6_isNothing := goodIn_r _ [17, 18, 31, 32, 33, 34, 35, 36, 37, 38, 39, 40, 41, 42, 43, 44, 45, 46, 47, 48, 49, 50, 51, 52, 53, 54] (by decide +kernel) (by decide +kernel)
set_option maxRecDepth 20000 in
theorem gX6_keep_X6_isNothing : GoodIn wsX6_keep (wsV RX6 72 RX6 yX6_isNothing wsX6_isNothing) := goodIn_app (goodIn_of _ (by decide +kernel)) ggX6_keep_X6_isNothing
set_option maxRecDepth 20000 in
theorem ggX6_keep_X6_isLikePlan : GoodIn wsX6_keep wsX6_isLikePlan := goodIn_r _ [22, 18, 23, 24, 25, 26, 4, 31, 32, 33, 34, 35, 36, 37, 38, 39, 40, 41, 42, 43, 44, 45, 46, 47, 48, 49, 50, 51, 52, 53, 54] (by decide +kernel) (by decide +kernel)
set_option maxRecDepth 20000 in
theorem gX6_keep_X6_isLikePlan : GoodIn wsX6_keep (wsV RX6 204 RX6 yX6_isLikePlan wsX6_isLikePlan) := goodIn_app (goodIn_of _ (by decide +kernel)) ggX6_keep_X6_isLikePlan
set_option maxRecDepth 20000 in
theorem ggX6_keep_X6_compare : GoodIn wsX6_keep wsX6_compare := goodIn_r _ [30] (by decide +kernel) (by decide +kernel)
set_option maxRecDepth 20000 in
theorem gX6_keep_X6_compare : GoodIn wsX6_keep (wsV RX6 101 RX6 yX6_compare wsX6_compare) := goodIn_app (goodIn_of _ (by decide +kernel)) ggX6_keep_X6_compare
theorem dX6_keep_0 : decode cX6_keep 0 = .ok (.aload_n 0, 1) := by decide +kernel
theorem dX6_keep_1 : decode cX6_keep 1 = .ok (.iload_n 1, 1) := by decide +kernel
theorem dX6_keep_2 : decode cX6_keep 2 = .ok (.invokevirtual 68, 3) := by decide +kernel
theorem dX6_keep_5 : decode cX6_keep 5 = .ok (.ifCond .ne 6, 3) := by decide +kernel
theorem dX6_keep_8 : decode cX6_keep 8 = .ok (.bipush (-2), 2) := by decide +kernel
theorem dX6_keep_10 : decode cX6_keep 10 = .ok (.ireturn, 1) := by decide +kernel
theorem dX6_keep_11 : decode cX6_keep 11 = .ok (.aload_n 0, 1) := by decide +kernel
theorem dX6_keep_12 : decode cX6_keep 12 = .ok (.iload_n 1, 1) := by decide +kernel
theorem dX6_keep_13 : decode cX6_keep 13 = .ok (.invokevirtual 72, 3) := by decide +kernel
theorem dX6_keep_16 : decode cX6_keep 16 = .ok (.ifCond .eq 6, 3) := by decide +kernel
theorem dX6_keep_19 : decode cX6_keep 19 = .ok (.bipush (-11), 2) := by decide +kernel
theorem dX6_keep_21 : decode cX6_keep 21 = .ok (.ireturn, 1) := by decide +kernel
theorem dX6_keep_22 : decode cX6_keep 22 = .ok (.aload_n 0, 1) := by decide +kernel
theorem dX6_keep_23 : decode cX6_keep 23 = .ok (.iload_n 1, 1) := by decide +kernel
theorem dX6_keep_24 : decode cX6_keep 24 = .ok (.invokevirtual 204, 3) := by decide +kernel
theorem dX6_keep_27 : decode cX6_keep 27 = .ok (.ifCond .ne 6, 3) := by decide +kernel
theorem dX6_keep_30 : decode cX6_keep 30 = .ok (.bipush (-12), 2) := by decide +kernel
theorem dX6_keep_32 : decode cX6_keep 32 = .ok (.ireturn, 1) := by decide +kernel
theorem dX6_keep_33 : decode cX6_keep 33 = .ok (.iconst 0, 1) := by decide +kernel
theorem dX6_keep_34 : decode cX6_keep 34 = .ok (.istore_n 2, 1) := by decide +kernel
theorem dX6_keep_35 : decode cX6_keep 35 = .ok (.iload_n 2, 1) := by decide +kernel
theorem dX6_keep_36 : decode cX6_keep 36 = .ok (.aload_n 0, 1) := by decide +kernel
theorem dX6_keep_37 : decode cX6_keep 37 = .ok (.getfield 201, 3) := by decide +kernel
theorem dX6_keep_40 : decode cX6_keep 40 = .ok (.if_icmp .ge 36, 3) := by decide +kernel
theorem dX6_keep_43 : decode cX6_keep 43 = .ok (.aload_n 0, 1) := by decide +kernel
theorem dX6_keep_44 : decode cX6_keep 44 = .ok (.aload_n 0, 1) := by decide +kernel
theorem dX6_keep_45 : decode cX6_keep 45 = .ok (.getfield 33, 3) := by decide +kernel
theorem dX6_keep_48 : decode cX6_keep 48 = .ok (.bipush 12, 2) := by decide +kernel
theorem dX6_keep_50 : decode cX6_keep 50 = .ok (.iload_n 2, 1) := by decide +kernel
theorem dX6_keep_51 : decode cX6_keep 51 = .ok (.imul, 1) := by decide +kernel
theorem dX6_keep_52 : decode cX6_keep 52 = .ok (.aload_n 0, 1) := by decide +kernel
theorem dX6_keep_53 : decode cX6_keep 53 = .ok (.getfield 19, 3) := by decide +kernel
theorem dX6_keep_56 : decode cX6_keep 56 = .ok (.bipush 12, 2) := by decide +kernel
theorem dX6_keep_58 : decode cX6_keep 58 = .ok (.iload_n 1, 1) := by decide +kernel
theorem dX6_keep_59 : decode cX6_keep 59 = .ok (.imul, 1) := by decide +kernel
theorem dX6_keep_60 : decode cX6_keep 60 = .ok (.aload_n 0, 1) := by decide +kernel
theorem dX6_keep_61 : decode cX6_keep 61 = .ok (.getfield 23, 3) := by decide +kernel
theorem dX6_keep_64 : decode cX6_keep 64 = .ok (.invokevirtual 101, 3) := by decide +kernel
theorem dX6_keep_67 : decode cX6_keep 67 = .ok (.ifCond .lt 9, 3) := by decide +kernel
theorem dX6_keep_70 : decode cX6_keep 70 = .ok (.iinc 2 1, 3) := by decide +kernel
theorem dX6_keep_73 : decode cX6_keep 73 = .ok (.goto (-38), 3) := by decide +kernel
theorem dX6_keep_76 : decode cX6_keep 76 = .ok (.iload_n 2, 1) := by decide +kernel
theorem dX6_keep_77 : decode cX6_keep 77 = .ok (.iconst 5, 1) := by decide +kernel
theorem dX6_keep_78 : decode cX6_keep 78 = .ok (.if_icmp .ne 5, 3) := by decide +kernel
theorem dX6_keep_81 : decode cX6_keep 81 = .ok (.iconst (-1), 1) := by decide +kernel
theorem dX6_keep_82 : decode cX6_keep 82 = .ok (.ireturn, 1) := by decide +kernel
theorem dX6_keep_83 : decode cX6_keep 83 = .ok (.aload_n 0, 1) := by decide +kernel
theorem dX6_keep_84 : decode cX6_keep 84 = .ok (.aload_n 0, 1) := by decide +kernel
theorem dX6_keep_85 : decode cX6_keep 85 = .ok (.getfield 201, 3) := by decide +kernel
theorem dX6_keep_88 : decode cX6_keep 88 = .ok (.iconst 5, 1) := by decide +kernel
theorem dX6_keep_89 : decode cX6_keep 89 = .ok (.if_icmp .ge 12, 3) := by decide +kernel
theorem dX6_keep_92 : decode cX6_keep 92 = .ok (.aload_n 0, 1) := by decide +kernel
theorem dX6_keep_93 : decode cX6_keep 93 = .ok (.getfield 201, 3) := by decide +kernel
theorem dX6_keep_96 : decode cX6_keep 96 = .ok (.iconst 1, 1) := by decide +kernel
theorem dX6_keep_97 : decode cX6_keep 97 = .ok (.iadd, 1) := by decide +kernel
theorem dX6_keep_98 : decode cX6_keep 98 = .ok (.goto 4, 3) := by decide +kernel
theorem dX6_keep_101 : decode cX6_keep 101 = .ok (.iconst 5, 1) := by decide +kernel
theorem dX6_keep_102 : decode cX6_keep 102 = .ok (.putfield 201, 3) := by decide +kernel
theorem dX6_keep_105 : decode cX6_keep 105 = .ok (.bipush 12, 2) := by decide +kernel
theorem dX6_keep_107 : decode cX6_keep 107 = .ok (.aload_n 0, 1) := by decide +kernel
theorem dX6_keep_108 : decode cX6_keep 108 = .ok (.getfield 201, 3) := by decide +kernel
theorem dX6_keep_111 : decode cX6_keep 111 = .ok (.imul, 1) := by decide +kernel
theorem dX6_keep_112 : decode cX6_keep 112 = .ok (.iconst 1, 1) := by decide +kernel
theorem dX6_keep_113 : decode cX6_keep 113 = .ok (.isub, 1) := by decide +kernel
theorem dX6_keep_114 : decode cX6_keep 114 = .ok (.istore_n 3, 1) := by decide +kernel
theorem dX6_keep_115 : decode cX6_keep 115 = .ok (.iload_n 3, 1) := by decide +kernel
theorem dX6_keep_116 : decode cX6_keep 116 = .ok (.bipush 12, 2) := by decide +kernel
theorem dX6_keep_118 : decode cX6_keep 118 = .ok (.iload_n 2, 1) := by decide +kernel
theorem dX6_keep_119 : decode cX6_keep 119 = .ok (.iconst 1, 1) := by decide +kernel
theorem dX6_keep_120 : decode cX6_keep 120 = .ok (.iadd, 1) := by decide +kernel
theorem dX6_keep_121 : decode cX6_keep 121 = .ok (.imul, 1) := by decide +kernel
theorem dX6_keep_122 : decode cX6_keep 122 = .ok (.if_icmp .lt 24, 3) := by decide +kernel
theorem dX6_keep_125 : decode cX6_keep 125 = .ok (.aload_n 0, 1) := by decide +kernel
theorem dX6_keep_126 : decode cX6_keep 126 = .ok (.getfield 33, 3) := by decide +kernel
theorem dX6_keep_129 : decode cX6_keep 129 = .ok (.iload_n 3, 1) := by decide +kernel
theorem dX6_keep_130 : decode cX6_keep 130 = .ok (.aload_n 0, 1) := by decide +kernel
theorem dX6_keep_131 : decode cX6_keep 131 = .ok (.getfield 33, 3) := by decide +kernel
theorem dX6_keep_134 : decode cX6_keep 134 = .ok (.iload_n 3, 1) := by decide +kernel
theorem dX6_keep_135 : decode cX6_keep 135 = .ok (.bipush 12, 2) := by decide +kernel
theorem dX6_keep_137 : decode cX6_keep 137 = .ok (.isub, 1) := by decide +kernel
theorem dX6_keep_138 : decode cX6_keep 138 = .ok (.laload, 1) := by decide +kernel
theorem dX6_keep_139 : decode cX6_keep 139 = .ok (.lastore, 1) := by decide +kernel
theorem dX6_keep_140 : decode cX6_keep 140 = .ok (.iinc 3 (-1), 3) := by decide +kernel
theorem dX6_keep_143 : decode cX6_keep 143 = .ok (.goto (-28), 3) := by decide +kernel
theorem dX6_keep_146 : decode cX6_keep 146 = .ok (.iconst 0, 1) := by decide +kernel
theorem dX6_keep_147 : decode cX6_keep 147 = .ok (.istore_n 3, 1) := by decide +kernel
theorem dX6_keep_148 : decode cX6_keep 148 = .ok (.iload_n 3, 1) := by decide +kernel
theorem dX6_keep_149 : decode cX6_keep 149 = .ok (.bipush 12, 2) := by decide +kernel
theorem dX6_keep_151 : decode cX6_keep 151 = .ok (.if_icmp .ge 31, 3) := by decide +kernel
theorem dX6_keep_154 : decode cX6_keep 154 = .ok (.aload_n 0, 1) := by decide +kernel
theorem dX6_keep_155 : decode cX6_keep 155 = .ok (.getfield 33, 3) := by decide +kernel
theorem dX6_keep_158 : decode cX6_keep 158 = .ok (.bipush 12, 2) := by decide +kernel
theorem dX6_keep_160 : decode cX6_keep 160 = .ok (.iload_n 2, 1) := by decide +kernel
theorem dX6_keep_161 : decode cX6_keep 161 = .ok (.imul, 1) := by decide +kernel
theorem dX6_keep_162 : decode cX6_keep 162 = .ok (.iload_n 3, 1) := by decide +kernel
theorem dX6_keep_163 : decode cX6_keep 163 = .ok (.iadd, 1) := by decide +kernel
theorem dX6_keep_164 : decode cX6_keep 164 = .ok (.aload_n 0, 1) := by decide +kernel
theorem dX6_keep_165 : decode cX6_keep 165 = .ok (.getfield 19, 3) := by decide +kernel
theorem dX6_keep_168 : decode cX6_keep 168 = .ok (.bipush 12, 2) := by decide +kernel
theorem dX6_keep_170 : decode cX6_keep 170 = .ok (.iload_n 1, 1) := by decide +kernel
theorem dX6_keep_171 : decode cX6_keep 171 = .ok (.imul, 1) := by decide +kernel
theorem dX6_keep_172 : decode cX6_keep 172 = .ok (.iload_n 3, 1) := by decide +kernel
theorem dX6_keep_173 : decode cX6_keep 173 = .ok (.iadd, 1) := by decide +kernel
theorem dX6_keep_174 : decode cX6_keep 174 = .ok (.laload, 1) := by decide +kernel
theorem dX6_keep_175 : decode cX6_keep 175 = .ok (.lastore, 1) := by decide +kernel
theorem dX6_keep_176 : decode cX6_keep 176 = .ok (.iinc 3 1, 3) := by decide +kernel
theorem dX6_keep_179 : decode cX6_keep 179 = .ok (.goto (-31), 3) := by decide +kernel
theorem dX6_keep_182 : decode cX6_keep 182 = .ok (.iload_n 2, 1) := by decide +kernel
theorem dX6_keep_183 : decode cX6_keep 183 = .ok (.ireturn, 1) := by decide +kernel
set_option maxRecDepth 20000 in
theorem ggX6_kept_X6_in : GoodIn wsX6_kept wsX6_in := goodIn_r _ [11] (by decide +kernel) (by decide +kernel)
set_option maxRecDepth 20000 in
theorem gX6_kept_X6_in : GoodIn wsX6_kept (va_wsS RX6 48 yX6_in wsX6_in) := goodIn_app (goodIn_of _ (by decide +kernel)) ggX6_kept_X6_in
set_option maxRecDepth 20000 in
theorem ggX6_kept_X6_lay : GoodIn wsX6_kept wsX6_lay := goodIn_r _ [15, 16, 2, 17, 18, 6, 23, 24, 25, 26, 27, 28, 29, 30, 31, 32, 33, 34, 35, 36, 37, 38, 39, 40, 41, 42, 43, 44, 45, 46] (by decide +kernel) (by decide +kernel)
set_option maxRecDepth 20000 in
theorem gX6_kept_X6_lay : GoodIn wsX6_kept (wsV RX6 60 RX6 yX6_lay wsX6_lay) := goodIn_app (goodIn_of _ (by decide +kernel)) ggX6_kept_X6_lay
set_option maxRecDepth 20000 in
theorem ggX6_kept_X6_keepScore : GoodIn wsX6_kept wsX6_keepScore := goodIn_r _ [22, 2, 23, 24, 25, 26, 27, 28, 29, 30, 31, 32, 33, 34, 35, 36, 37, 38, 39, 40, 41, 42, 43, 44, 45, 46] (by decide +kernel) (by decide +kernel)
set_option maxRecDepth 20000 in
theorem gX6_kept_X6_keepScore : GoodIn wsX6_kept (wsV RX6 64 RX6 yX6_keepScore wsX6_keepScore) := goodIn_app (goodIn_of _ (by decide +kernel)) ggX6_kept_X6_keepScore
theorem dX6_kept_0 : decode cX6_kept 0 = .ok (.iload_n 1, 1) := by decide +kernel
theorem dX6_kept_1 : decode cX6_kept 1 = .ok (.i2l, 1) := by decide +kernel
theorem dX6_kept_2 : decode cX6_kept 2 = .ok (.lconst 0, 1) := by decide +kernel
theorem dX6_kept_3 : decode cX6_kept 3 = .ok (.aload_n 0, 1) := by decide +kernel
theorem dX6_kept_4 : decode cX6_kept 4 = .ok (.getfield 201, 3) := by decide +kernel
theorem dX6_kept_7 : decode cX6_kept 7 = .ok (.iconst 1, 1) := by decide +kernel
theorem dX6_kept_8 : decode cX6_kept 8 = .ok (.isub, 1) := by decide +kernel
theorem dX6_kept_9 : decode cX6_kept 9 = .ok (.i2l, 1) := by decide +kernel
theorem dX6_kept_10 : decode cX6_kept 10 = .ok (.invokestatic 48, 3) := by decide +kernel
theorem dX6_kept_13 : decode cX6_kept 13 = .ok (.ifCond .ne 6, 3) := by decide +kernel
theorem dX6_kept_16 : decode cX6_kept 16 = .ok (.bipush (-2), 2) := by decide +kernel
theorem dX6_kept_18 : decode cX6_kept 18 = .ok (.ireturn, 1) := by decide +kernel
theorem dX6_kept_19 : decode cX6_kept 19 = .ok (.aload_n 0, 1) := by decide +kernel
theorem dX6_kept_20 : decode cX6_kept 20 = .ok (.getfield 45, 3) := by decide +kernel
theorem dX6_kept_23 : decode cX6_kept 23 = .ok (.bipush 60, 2) := by decide +kernel
theorem dX6_kept_25 : decode cX6_kept 25 = .ok (.if_icmp .ne 6, 3) := by decide +kernel
theorem dX6_kept_28 : decode cX6_kept 28 = .ok (.bipush (-4), 2) := by decide +kernel
theorem dX6_kept_30 : decode cX6_kept 30 = .ok (.ireturn, 1) := by decide +kernel
theorem dX6_kept_31 : decode cX6_kept 31 = .ok (.aload_n 0, 1) := by decide +kernel
theorem dX6_kept_32 : decode cX6_kept 32 = .ok (.aload_n 0, 1) := by decide +kernel
theorem dX6_kept_33 : decode cX6_kept 33 = .ok (.getfield 52, 3) := by decide +kernel
theorem dX6_kept_36 : decode cX6_kept 36 = .ok (.aload_n 0, 1) := by decide +kernel
theorem dX6_kept_37 : decode cX6_kept 37 = .ok (.getfield 55, 3) := by decide +kernel
theorem dX6_kept_40 : decode cX6_kept 40 = .ok (.aload_n 0, 1) := by decide +kernel
theorem dX6_kept_41 : decode cX6_kept 41 = .ok (.getfield 23, 3) := by decide +kernel
theorem dX6_kept_44 : decode cX6_kept 44 = .ok (.invokevirtual 60, 3) := by decide +kernel
theorem dX6_kept_47 : decode cX6_kept 47 = .ok (.iconst 0, 1) := by decide +kernel
theorem dX6_kept_48 : decode cX6_kept 48 = .ok (.istore_n 2, 1) := by decide +kernel
theorem dX6_kept_49 : decode cX6_kept 49 = .ok (.iload_n 2, 1) := by decide +kernel
theorem dX6_kept_50 : decode cX6_kept 50 = .ok (.bipush 12, 2) := by decide +kernel
theorem dX6_kept_52 : decode cX6_kept 52 = .ok (.if_icmp .ge 34, 3) := by decide +kernel
theorem dX6_kept_55 : decode cX6_kept 55 = .ok (.aload_n 0, 1) := by decide +kernel
theorem dX6_kept_56 : decode cX6_kept 56 = .ok (.getfield 19, 3) := by decide +kernel
theorem dX6_kept_59 : decode cX6_kept 59 = .ok (.bipush 12, 2) := by decide +kernel
theorem dX6_kept_61 : decode cX6_kept 61 = .ok (.aload_n 0, 1) := by decide +kernel
theorem dX6_kept_62 : decode cX6_kept 62 = .ok (.getfield 45, 3) := by decide +kernel
theorem dX6_kept_65 : decode cX6_kept 65 = .ok (.imul, 1) := by decide +kernel
theorem dX6_kept_66 : decode cX6_kept 66 = .ok (.iload_n 2, 1) := by decide +kernel
theorem dX6_kept_67 : decode cX6_kept 67 = .ok (.iadd, 1) := by decide +kernel
theorem dX6_kept_68 : decode cX6_kept 68 = .ok (.aload_n 0, 1) := by decide +kernel
theorem dX6_kept_69 : decode cX6_kept 69 = .ok (.getfield 33, 3) := by decide +kernel
theorem dX6_kept_72 : decode cX6_kept 72 = .ok (.bipush 12, 2) := by decide +kernel
theorem dX6_kept_74 : decode cX6_kept 74 = .ok (.iload_n 1, 1) := by decide +kernel
theorem dX6_kept_75 : decode cX6_kept 75 = .ok (.imul, 1) := by decide +kernel
theorem dX6_kept_76 : decode cX6_kept 76 = .ok (.iload_n 2, 1) := by decide +kernel
theorem dX6_kept_77 : decode cX6_kept 77 = .ok (.iadd, 1) := by decide +kernel
theorem dX6_kept_78 : decode cX6_kept 78 = .ok (.laload, 1) := by decide +kernel
theorem dX6_kept_79 : decode cX6_kept 79 = .ok (.lastore, 1) := by decide +kernel
theorem dX6_kept_80 : decode cX6_kept 80 = .ok (.iinc 2 1, 3) := by decide +kernel
theorem dX6_kept_83 : decode cX6_kept 83 = .ok (.goto (-34), 3) := by decide +kernel
theorem dX6_kept_86 : decode cX6_kept 86 = .ok (.aload_n 0, 1) := by decide +kernel
theorem dX6_kept_87 : decode cX6_kept 87 = .ok (.invokevirtual 64, 3) := by decide +kernel
theorem dX6_kept_90 : decode cX6_kept 90 = .ok (.ireturn, 1) := by decide +kernel
theorem dX6_many_0 : decode cX6_many 0 = .ok (.iload_n 1, 1) := by decide +kernel
theorem dX6_many_1 : decode cX6_many 1 = .ok (.tableswitch 60 0 4 #[35, 40, 45, 50, 55], 35) := by decide +kernel
theorem dX6_many_36 : decode cX6_many 36 = .ok (.aload_n 0, 1) := by decide +kernel
theorem dX6_many_37 : decode cX6_many 37 = .ok (.getfield 45, 3) := by decide +kernel
theorem dX6_many_40 : decode cX6_many 40 = .ok (.ireturn, 1) := by decide +kernel
theorem dX6_many_41 : decode cX6_many 41 = .ok (.aload_n 0, 1) := by decide +kernel
theorem dX6_many_42 : decode cX6_many 42 = .ok (.getfield 198, 3) := by decide +kernel
theorem dX6_many_45 : decode cX6_many 45 = .ok (.ireturn, 1) := by decide +kernel
theorem dX6_many_46 : decode cX6_many 46 = .ok (.aload_n 0, 1) := by decide +kernel
theorem dX6_many_47 : decode cX6_many 47 = .ok (.getfield 201, 3) := by decide +kernel
theorem dX6_many_50 : decode cX6_many 50 = .ok (.ireturn, 1) := by decide +kernel
theorem dX6_many_51 : decode cX6_many 51 = .ok (.aload_n 0, 1) := by decide +kernel
theorem dX6_many_52 : decode cX6_many 52 = .ok (.getfield 124, 3) := by decide +kernel
theorem dX6_many_55 : decode cX6_many 55 = .ok (.ireturn, 1) := by decide +kernel
theorem dX6_many_56 : decode cX6_many 56 = .ok (.aload_n 0, 1) := by decide +kernel
theorem dX6_many_57 : decode cX6_many 57 = .ok (.getfield 178, 3) := by decide +kernel
theorem dX6_many_60 : decode cX6_many 60 = .ok (.ireturn, 1) := by decide +kernel
theorem dX6_many_61 : decode cX6_many 61 = .ok (.bipush (-3), 2) := by decide +kernel
theorem dX6_many_63 : decode cX6_many 63 = .ok (.ireturn, 1) := by decide +kernel
theorem dX6_drop_0 : decode cX6_drop 0 = .ok (.aload_n 0, 1) := by decide +kernel
theorem dX6_drop_1 : decode cX6_drop 1 = .ok (.getfield 45, 3) := by decide +kernel
theorem dX6_drop_4 : decode cX6_drop 4 = .ok (.ifCond .ne 6, 3) := by decide +kernel
theorem dX6_drop_7 : decode cX6_drop 7 = .ok (.bipush (-2), 2) := by decide +kernel
theorem dX6_drop_9 : decode cX6_drop 9 = .ok (.ireturn, 1) := by decide +kernel
theorem dX6_drop_10 : decode cX6_drop 10 = .ok (.aload_n 0, 1) := by decide +kernel
theorem dX6_drop_11 : decode cX6_drop 11 = .ok (.dup, 1) := by decide +kernel
theorem dX6_drop_12 : decode cX6_drop 12 = .ok (.getfield 45, 3) := by decide +kernel
theorem dX6_drop_15 : decode cX6_drop 15 = .ok (.iconst 1, 1) := by decide +kernel
theorem dX6_drop_16 : decode cX6_drop 16 = .ok (.isub, 1) := by decide +kernel
theorem dX6_drop_17 : decode cX6_drop 17 = .ok (.putfield 45, 3) := by decide +kernel
theorem dX6_drop_20 : decode cX6_drop 20 = .ok (.aload_n 0, 1) := by decide +kernel
theorem dX6_drop_21 : decode cX6_drop 21 = .ok (.getfield 45, 3) := by decide +kernel
theorem dX6_drop_24 : decode cX6_drop 24 = .ok (.ireturn, 1) := by decide +kernel
end
section
/-! A pool: things are named by (kind, place). Kinds 0 .. 6 are the classes of vwCl, 7 byte rows, 8 int rows, 9 long rows, 10 rows of scores.
The ghost G of a pool: class ids and slots, array classes, the list of its things, their addresses, the rows' lengths. Its state S: ints, longs, references (as places). -/
abbrev GT : Type := va_G × (ClassId × ClassId × ClassId × ClassId) × List (Nat × Nat) × (Nat → Nat → Nat) × (Nat → Nat → Nat)
def gD (G : GT) : va_G := G.1
def gB (G : GT) : ClassId := G.2.1.1
def gI (G : GT) : ClassId := G.2.1.2.1
def gJ (G : GT) : ClassId := G.2.1.2.2.1
def gO (G : GT) : ClassId := G.2.1.2.2.2
def gP (G : GT) : List (Nat × Nat) := G.2.2.1
def gA (G : GT) : Nat → Nat → Nat := G.2.2.2.1
def gN (G : GT) : Nat → Nat → Nat := G.2.2.2.2
def gT (G : GT) : List (ClassId × FieldType) := [(gB G, .byte), (gI G, .int), (gJ G, .long), (gO G, .object "LevelScores$Score")]
def PS : Type := (Nat → Nat → Nat → Int32) × (Nat → Nat → Nat → Int64) × (Nat → Nat → Nat → Option Nat)
def sI (S : PS) : Nat → Nat → Nat → Int32 := S.1
def sJ (S : PS) : Nat → Nat → Nat → Int64 := S.2.1
def sQ (S : PS) : Nat → Nat → Nat → Option Nat := S.2.2
def uI (S : PS) (c r k : Nat) (v : Int32) : PS := (fun c' r' k' => if c' = c ∧ r' = r ∧ k' = k then v else S.1 c' r' k', S.2.1, S.2.2)
def uJ (S : PS) (c r k : Nat) (v : Int64) : PS := (S.1, fun c' r' k' => if c' = c ∧ r' = r ∧ k' = k then v else S.2.1 c' r' k', S.2.2)
def uQ (S : PS) (c r k : Nat) (v : Option Nat) : PS := (S.1, S.2.1, fun c' r' k' => if c' = c ∧ r' = r ∧ k' = k then v else S.2.2 c' r' k')
theorem sI_uI (S : PS) (c r k : Nat) (v : Int32) (c' r' k' : Nat) : sI (uI S c r k v) c' r' k' = if c' = c ∧ r' = r ∧ k' = k then v else sI S c' r' k' := rfl
theorem sJ_uI (S : PS) (c r k : Nat) (v : Int32) : sJ (uI S c r k v) = sJ S := rfl
theorem sQ_uI (S : PS) (c r k : Nat) (v : Int32) : sQ (uI S c r k v) = sQ S := rfl
theorem sJ_uJ (S : PS) (c r k : Nat) (v : Int64) (c' r' k' : Nat) : sJ (uJ S c r k v) c' r' k' = if c' = c ∧ r' = r ∧ k' = k then v else sJ S c' r' k' := rfl
theorem sI_uJ (S : PS) (c r k : Nat) (v : Int64) : sI (uJ S c r k v) = sI S := rfl
theorem sQ_uJ (S : PS) (c r k : Nat) (v : Int64) : sQ (uJ S c r k v) = sQ S := rfl
theorem sQ_uQ (S : PS) (c r k : Nat) (v : Option Nat) (c' r' k' : Nat) : sQ (uQ S c r k v) c' r' k' = if c' = c ∧ r' = r ∧ k' = k then v else sQ S c' r' k' := rfl
theorem sI_uQ (S : PS) (c r k : Nat) (v : Option Nat) : sI (uQ S c r k v) = sI S := rfl
theorem sJ_uQ (S : PS) (c r k : Nat) (v : Option Nat) : sJ (uQ S c r k v) = sJ S := rfl
theorem PS_ext {S T : PS} (h1 : ∀ c r k, sI S c r k = sI T c r k) (h2 : ∀ c r k, sJ S c r k = sJ T c r k) (h3 : ∀ c r k, sQ S c r k = sQ T c r k) : S = T := by
  obtain ⟨a, b, d⟩ := S
  obtain ⟨a', b', d'⟩ := T
  have e1 : a = a' := funext fun c => funext fun r => funext fun k => h1 c r k
  have e2 : b = b' := funext fun c => funext fun r => funext fun k => h2 c r k
  have e3 : d = d' := funext fun c => funext fun r => funext fun k => h3 c r k
  rw [e1, e2, e3]
/-- the fields of a class by their types: 0 int, 1 long, 2 boolean, k + 3 a reference to kind k -/
def fdT (c : Nat) : List Nat := match c with
  | 0 => [10, 0, 10]
  | 1 => [5, 13, 11, 0, 13, 0, 5, 7, 7]
  | 2 => [0, 0, 0, 12]
  | 3 => [10, 0, 0]
  | 4 => [1, 1]
  | 5 => [13, 0, 6, 3, 4, 7]
  | _ => [0, 11, 11, 11, 12, 0, 0, 0, 0, 12, 11, 0, 12, 0, 11, 0, 11, 0, 1, 1, 0, 2, 1, 12]
def vl (G : GT) (S : PS) (c r k t : Nat) : Value := match t with
  | 0 => .int (sI S c r k)
  | 1 => .long (sJ S c r k)
  | 2 => .int (sI S c r k)
  | t + 3 => va_rf ((sQ S c r k).map (gA G t))
def fv (G : GT) (S : PS) (c r : Nat) : List Value := (fdT c).mapIdx (fun k t => vl G S c r k t)
def en (G : GT) (S : PS) (c r : Nat) : va_E :=
  if c = 7 then .inl (gB G, gN G 7 r, .inl (sI S 7 r)) else if c = 8 then .inl (gI G, gN G 8 r, .inl (sI S 8 r)) else if c = 9 then .inl (gJ G, gN G 9 r, .inr (.inl (sJ S 9 r)))
  else if c = 10 then .inl (gO G, gN G 10 r, .inr (.inr (.inr (.inr (fun k => (sQ S 10 r k).map (gA G 2)))))) else .inr (c, fv G S c r)
def wl (G : GT) (S : PS) : va_W := (gP G).map (fun x => (gA G x.1 x.2, en G S x.1 x.2))
theorem wl_get {G : GT} (S : PS) {c r : Nat} (h : (c, r) ∈ gP G) : ∃ k : Nat, (wl G S)[k]? = some (gA G c r, en G S c r) := by
  obtain ⟨k, hk⟩ := List.getElem?_of_mem h
  exact ⟨k, by rw [wl, List.getElem?_map, hk]; rfl⟩
theorem wl_place {G : GT} {S : PS} {A : Nat → Prop} {c r k : Nat} (hD : va_D A (wl G S)) (h : (c, r) ∈ gP G) {e : va_E} (hk : (wl G S)[k]? = some (gA G c r, e)) : (gP G)[k]? = some (c, r) := by
  obtain ⟨k', hk'⟩ := List.getElem?_of_mem h
  have h2 : (wl G S)[k']? = some (gA G c r, en G S c r) := by rw [wl, List.getElem?_map, hk']; rfl
  have h3 := hD.1 k k' _ _ hk h2 rfl
  rw [h3]; exact hk'
theorem wl_set {G : GT} {S S' : PS} {A : Nat → Prop} {c r k : Nat} {e0 e : va_E} (hD : va_D A (wl G S)) (h : (c, r) ∈ gP G) (hk : (wl G S)[k]? = some (gA G c r, e0)) (he : en G S' c r = e) (hn : ∀ c' r', ¬ (c' = c ∧ r' = r) → en G S' c' r' = en G S c' r') : (wl G S).set k (gA G c r, e) = wl G S' := by
  have hp := wl_place hD h hk
  refine List.ext_getElem? fun j => ?_
  rw [List.getElem?_set]
  by_cases hj : k = j
  · subst hj
    have hlt : k < (wl G S).length := (List.getElem?_eq_some_iff.mp hk).1
    rw [if_pos rfl, if_pos hlt, wl, List.getElem?_map, hp, ← he]; rfl
  · rw [if_neg hj, wl, wl, List.getElem?_map, List.getElem?_map]
    cases hq : (gP G)[j]? with
    | none => rfl
    | some x =>
      obtain ⟨c2, r2⟩ := x
      have hne : ¬ (c2 = c ∧ r2 = r) := by
        rintro ⟨rfl, rfl⟩
        have h2 : (wl G S)[j]? = some (gA G c2 r2, en G S c2 r2) := by rw [wl, List.getElem?_map, hq]; rfl
        exact hj (hD.1 k j _ _ hk h2 rfl)
      show some (gA G c2 r2, en G S c2 r2) = some (gA G c2 r2, en G S' c2 r2)
      rw [hn c2 r2 hne]
theorem fv_get {G : GT} {S : PS} {c r k t : Nat} (h : (fdT c)[k]? = some t) : (fv G S c r)[k]? = some (vl G S c r k t) := by
  rw [fv, List.getElem?_mapIdx, h]; rfl
theorem fv_set {G : GT} {S S' : PS} {c r k t : Nat} (h : (fdT c)[k]? = some t) (hn : ∀ j t', j ≠ k → vl G S' c r j t' = vl G S c r j t') : fv G S' c r = (fv G S c r).set k (vl G S' c r k t) := by
  refine List.ext_getElem? fun j => ?_
  rw [List.getElem?_set]
  by_cases hj : k = j
  · subst hj
    have hlt : k < (fv G S c r).length := (List.getElem?_eq_some_iff.mp (fv_get (G := G) (S := S) (r := r) h)).1
    rw [if_pos rfl, if_pos hlt, fv_get h]
  · rw [if_neg hj, fv, fv, List.getElem?_mapIdx, List.getElem?_mapIdx]
    cases (fdT c)[j]? with
    | none => rfl
    | some t' => show some (vl G S' c r j t') = some (vl G S c r j t'); rw [hn j t' (fun q => hj q.symm)]
theorem en_obj {G : GT} {S : PS} {c r : Nat} (h : c < 7) : en G S c r = .inr (c, fv G S c r) := by
  unfold en
  rw [if_neg (by omega), if_neg (by omega), if_neg (by omega), if_neg (by omega)]
theorem fv_same {G : GT} {S S' : PS} {c r : Nat} (hi : ∀ k, sI S' c r k = sI S c r k) (hj : ∀ k, sJ S' c r k = sJ S c r k) (hq : ∀ k, sQ S' c r k = sQ S c r k) : fv G S' c r = fv G S c r := by
  unfold fv
  refine List.ext_getElem? fun k => ?_
  rw [List.getElem?_mapIdx, List.getElem?_mapIdx]
  cases (fdT c)[k]? with
  | none => rfl
  | some t =>
    show some _ = some _
    congr 1
    match t with
    | 0 => show Value.int _ = Value.int _; rw [hi]
    | 1 => show Value.long _ = Value.long _; rw [hj]
    | 2 => show Value.int _ = Value.int _; rw [hi]
    | t + 3 => show va_rf _ = va_rf _; rw [hq]
theorem en_same {G : GT} {S S' : PS} {c r : Nat} (hi : ∀ k, sI S' c r k = sI S c r k) (hj : ∀ k, sJ S' c r k = sJ S c r k) (hq : ∀ k, sQ S' c r k = sQ S c r k) : en G S' c r = en G S c r := by
  unfold en
  by_cases h7 : c = 7
  · subst h7; rw [if_pos rfl, if_pos rfl, show sI S' 7 r = sI S 7 r from funext hi]
  rw [if_neg h7, if_neg h7]
  by_cases h8 : c = 8
  · subst h8; rw [if_pos rfl, if_pos rfl, show sI S' 8 r = sI S 8 r from funext hi]
  rw [if_neg h8, if_neg h8]
  by_cases h9 : c = 9
  · subst h9; rw [if_pos rfl, if_pos rfl, show sJ S' 9 r = sJ S 9 r from funext hj]
  rw [if_neg h9, if_neg h9]
  by_cases h10 : c = 10
  · subst h10; rw [if_pos rfl, if_pos rfl, show sQ S' 10 r = sQ S 10 r from funext hq]
  rw [if_neg h10, if_neg h10, fv_same hi hj hq]
theorem uI_far {S : PS} {c r k : Nat} {v : Int32} {c' r' : Nat} (h : ¬ (c' = c ∧ r' = r)) {G : GT} : en G (uI S c r k v) c' r' = en G S c' r' :=
  en_same (fun j => by rw [sI_uI, if_neg (fun q => h ⟨q.1, q.2.1⟩)]) (fun _ => rfl) (fun _ => rfl)
theorem uJ_far {S : PS} {c r k : Nat} {v : Int64} {c' r' : Nat} (h : ¬ (c' = c ∧ r' = r)) {G : GT} : en G (uJ S c r k v) c' r' = en G S c' r' :=
  en_same (fun _ => rfl) (fun j => by rw [sJ_uJ, if_neg (fun q => h ⟨q.1, q.2.1⟩)]) (fun _ => rfl)
theorem uQ_far {S : PS} {c r k : Nat} {v : Option Nat} {c' r' : Nat} (h : ¬ (c' = c ∧ r' = r)) {G : GT} : en G (uQ S c r k v) c' r' = en G S c' r' :=
  en_same (fun _ => rfl) (fun _ => rfl) (fun j => by rw [sQ_uQ, if_neg (fun q => h ⟨q.1, q.2.1⟩)])
theorem vl_uI {G : GT} {S : PS} {c r k : Nat} {v : Int32} {j t : Nat} (h : j ≠ k) : vl G (uI S c r k v) c r j t = vl G S c r j t := by
  match t with
  | 0 => show Value.int _ = Value.int _; rw [sI_uI, if_neg (fun q => h q.2.2)]
  | 1 => rfl
  | 2 => show Value.int _ = Value.int _; rw [sI_uI, if_neg (fun q => h q.2.2)]
  | t + 3 => rfl
theorem vl_uJ {G : GT} {S : PS} {c r k : Nat} {v : Int64} {j t : Nat} (h : j ≠ k) : vl G (uJ S c r k v) c r j t = vl G S c r j t := by
  match t with
  | 0 => rfl
  | 1 => show Value.long _ = Value.long _; rw [sJ_uJ, if_neg (fun q => h q.2.2)]
  | 2 => rfl
  | t + 3 => rfl
theorem vl_uQ {G : GT} {S : PS} {c r k : Nat} {v : Option Nat} {j t : Nat} (h : j ≠ k) : vl G (uQ S c r k v) c r j t = vl G S c r j t := by
  match t with
  | 0 => rfl
  | 1 => rfl
  | 2 => rfl
  | t + 3 => show va_rf _ = va_rf _; rw [sQ_uQ, if_neg (fun q => h q.2.2)]
end
section
/-! One row an instruction, over pools. -/
/-- what holds in a method's body all along -/
def Cx (p : Program) (s : State) (m : MethodId) (args : Array Value) (meth : Method) (c : Code) (cc : ByteArray) (own : String) (Ts : List Cond) (nL : Nat) (G : GT) (A : Nat → Prop) : Prop :=
  p.tables.exec = Jvm.exec ∧ c.code = cc ∧ c.maxLocals = nL ∧ s.vm.findClass own = some m.cls ∧ (∀ w ∈ Ts, w.before args s = true) ∧ va_K (gD G) vwCl (gT G) s ∧ (∀ q : Nat, s.heap.size ≤ q → A q)
/-- the pool in the heap -/
def Wd (G : GT) (A : Nat → Prop) (H0 : Heap) (S : PS) (H : Heap) (locs : List Loc) : Prop := va_P (gD G) vwCl (wl G S) H ∧ va_D A (wl G S) ∧ va_S A H0 H locs
/-- the pool behind a call -/
def Wb (G : GT) (A : Nat → Prop) (S' : PS) (t : State) : Prop := va_P (gD G) vwCl (wl G S') t.heap ∧ va_K (gD G) vwCl (gT G) t ∧ va_D A (wl G S')
def Wa (G : GT) (S : PS) (sz : Nat) (U : State) : Prop := U.heap.size = sz ∧ va_P (gD G) vwCl (wl G S) U.heap ∧ va_K (gD G) vwCl (gT G) U ∧ va_D (fun _ => True) (wl G S)
/-- contracts of methods that make nothing: int or boolean, long, void -/
def CtI (l : Launch) (G : GT) (y : MethodName) (ws : List Cond) (rm : Room) (as : List Value) (S : PS) (post : Int32 → PS → Prop) : Prop :=
  ∀ sz : Nat, Met l y ws rm (va_Pc as (Wa G S sz)) (va_Qi post (Wb G (va_A (wl G S) sz)) (va_A (wl G S) sz)) 0 0 (va_A (wl G S) sz)
def CtL (l : Launch) (G : GT) (y : MethodName) (ws : List Cond) (rm : Room) (as : List Value) (S : PS) (post : Int64 → PS → Prop) : Prop :=
  ∀ sz : Nat, Met l y ws rm (va_Pc as (Wa G S sz)) (va_Ql post (Wb G (va_A (wl G S) sz)) (va_A (wl G S) sz)) 0 0 (va_A (wl G S) sz)
def CtV (l : Launch) (G : GT) (y : MethodName) (ws : List Cond) (rm : Room) (as : List Value) (S : PS) (post : PS → Prop) : Prop :=
  ∀ sz : Nat, Met l y ws rm (va_Pc as (Wa G S sz)) (va_Qv post (Wb G (va_A (wl G S) sz)) (va_A (wl G S) sz)) 0 0 (va_A (wl G S) sz)
/-- a method's room: frames below its own, words of their locals -/
def rmK (f n : Nat) : Room := { frames := f, cells := 0, slots := 0, locals := n }
section RL
variable {l : Launch} {G : GT} {y : MethodName} {ws ws' : List Cond} {f n : Nat} {as : List Value} {S : PS} {cc : ByteArray} {nL : Nat} {ret : Option FieldType}
theorem ofCtI {post : Int32 → PS → Prop} (own : String) (hy : plainFor y = true) (hw : ws = Cond.code y cc nL (some .int) :: ws') (hown : y.cls = own) (hlen : (lg_sl as).length ≤ nL)
    (body : ∀ (p : Program) (e : Env) (s : State) (m : MethodId) (args : Array Value) (below : List Frame) (meth : Method) (c : Code) (A : Nat → Prop) (Q : State → Prop) (ls : Array Slot), Cx p s m args meth c cc own ws nL G A → Wd G A s.heap S s.heap [] → lv_has ls nL (lv_args 0 as) →
      (∀ (pc : Nat) (ls : Array Slot) (v : Int32) (S' : PS) (H : Heap) (locs : List Loc), decode cc pc = .ok (.ireturn, 1) → Wd G A s.heap S' H locs → post v S' → W p l e (rmK f n) s m args below meth c H locs 0 0 Q (F0 m pc ls [.int v])) →
      W p l e (rmK f n) s m args below meth c s.heap [] 0 0 Q (F0 m 0 ls [])) : CtI l G y ws (rmK f n) as S post := by
  intro sz
  refine va_MetF (cc := cc) (maxL := nL) (ret := (some .int)) hy hw ?_
  intro p e s m args below meth c s₁ B hml hv
  obtain ⟨rfl, hsz, hP, hK, hD0⟩ := hv
  have hts := atoms_spec (ws := ws) B.pre
  have ho : s.vm.findClass own = some m.cls := hown ▸ findClass_of_methodNamed B.named
  subst hsz
  have hD := hD0.self (sz := s.heap.size)
  have hl := lv_entry as (n := nL) hlen
  rw [lg_entry_eq]
  refine body p e s m _ below meth c _ _ _ ⟨B.exec, B.bytes, hml, ho, hts, hK, fun q h => Or.inr h⟩ ⟨hP, hD, va_S.rf⟩ hl ?_
  intro pc ls v S' H locs hdg w h
  obtain ⟨hP, hD, hS⟩ := w
  exact W.iret B.exec B.bytes B.returns (fun t ht hW => ⟨⟨v, S', rfl, h, by rw [ht]; exact hP, va_K.moved hW.alike hK, hD⟩, hS.F ht⟩) hS.2.2 hdg B.notSynchronized
theorem ofCtZ {post : Int32 → PS → Prop} (own : String) (hy : plainFor y = true) (hw : ws = Cond.code y cc nL (some .boolean) :: ws') (hown : y.cls = own) (hlen : (lg_sl as).length ≤ nL)
    (body : ∀ (p : Program) (e : Env) (s : State) (m : MethodId) (args : Array Value) (below : List Frame) (meth : Method) (c : Code) (A : Nat → Prop) (Q : State → Prop) (ls : Array Slot), Cx p s m args meth c cc own ws nL G A → Wd G A s.heap S s.heap [] → lv_has ls nL (lv_args 0 as) →
      (∀ (pc : Nat) (ls : Array Slot) (v : Int32) (S' : PS) (H : Heap) (locs : List Loc), decode cc pc = .ok (.ireturn, 1) → Wd G A s.heap S' H locs → (v = 0 ∨ v = 1) → post v S' → W p l e (rmK f n) s m args below meth c H locs 0 0 Q (F0 m pc ls [.int v])) →
      W p l e (rmK f n) s m args below meth c s.heap [] 0 0 Q (F0 m 0 ls [])) : CtI l G y ws (rmK f n) as S post := by
  intro sz
  refine va_MetF (cc := cc) (maxL := nL) (ret := (some .boolean)) hy hw ?_
  intro p e s m args below meth c s₁ B hml hv
  obtain ⟨rfl, hsz, hP, hK, hD0⟩ := hv
  have hts := atoms_spec (ws := ws) B.pre
  have ho : s.vm.findClass own = some m.cls := hown ▸ findClass_of_methodNamed B.named
  subst hsz
  have hD := hD0.self (sz := s.heap.size)
  have hl := lv_entry as (n := nL) hlen
  rw [lg_entry_eq]
  refine body p e s m _ below meth c _ _ _ ⟨B.exec, B.bytes, hml, ho, hts, hK, fun q h => Or.inr h⟩ ⟨hP, hD, va_S.rf⟩ hl ?_
  intro pc ls v S' H locs hdg w hz h
  obtain ⟨hP, hD, hS⟩ := w
  exact W.zret B.exec B.bytes B.returns (by rcases hz with rfl | rfl <;> decide) (fun t ht hW => ⟨⟨v, S', rfl, h, by rw [ht]; exact hP, va_K.moved hW.alike hK, hD⟩, hS.F ht⟩) hS.2.2 hdg B.notSynchronized
theorem ofCtL {post : Int64 → PS → Prop} (own : String) (hy : plainFor y = true) (hw : ws = Cond.code y cc nL (some .long) :: ws') (hown : y.cls = own) (hlen : (lg_sl as).length ≤ nL)
    (body : ∀ (p : Program) (e : Env) (s : State) (m : MethodId) (args : Array Value) (below : List Frame) (meth : Method) (c : Code) (A : Nat → Prop) (Q : State → Prop) (ls : Array Slot), Cx p s m args meth c cc own ws nL G A → Wd G A s.heap S s.heap [] → lv_has ls nL (lv_args 0 as) →
      (∀ (pc : Nat) (ls : Array Slot) (v : Int64) (S' : PS) (H : Heap) (locs : List Loc), decode cc pc = .ok (.lreturn, 1) → Wd G A s.heap S' H locs → post v S' → W p l e (rmK f n) s m args below meth c H locs 0 0 Q (F0 m pc ls [.long v])) →
      W p l e (rmK f n) s m args below meth c s.heap [] 0 0 Q (F0 m 0 ls [])) : CtL l G y ws (rmK f n) as S post := by
  intro sz
  refine va_MetF (cc := cc) (maxL := nL) (ret := (some .long)) hy hw ?_
  intro p e s m args below meth c s₁ B hml hv
  obtain ⟨rfl, hsz, hP, hK, hD0⟩ := hv
  have hts := atoms_spec (ws := ws) B.pre
  have ho : s.vm.findClass own = some m.cls := hown ▸ findClass_of_methodNamed B.named
  subst hsz
  have hD := hD0.self (sz := s.heap.size)
  have hl := lv_entry as (n := nL) hlen
  rw [lg_entry_eq]
  refine body p e s m _ below meth c _ _ _ ⟨B.exec, B.bytes, hml, ho, hts, hK, fun q h => Or.inr h⟩ ⟨hP, hD, va_S.rf⟩ hl ?_
  intro pc ls v S' H locs hdg w h
  obtain ⟨hP, hD, hS⟩ := w
  exact W.lret B.exec B.bytes B.returns (fun t ht hW => ⟨⟨v, S', rfl, h, by rw [ht]; exact hP, va_K.moved hW.alike hK, hD⟩, hS.F ht⟩) hS.2.2 hdg B.notSynchronized
theorem ofCtV {post : PS → Prop} (own : String) (hy : plainFor y = true) (hw : ws = Cond.code y cc nL none :: ws') (hown : y.cls = own) (hlen : (lg_sl as).length ≤ nL)
    (body : ∀ (p : Program) (e : Env) (s : State) (m : MethodId) (args : Array Value) (below : List Frame) (meth : Method) (c : Code) (A : Nat → Prop) (Q : State → Prop) (ls : Array Slot), Cx p s m args meth c cc own ws nL G A → Wd G A s.heap S s.heap [] → lv_has ls nL (lv_args 0 as) →
      (∀ (pc : Nat) (ls : Array Slot) (S' : PS) (H : Heap) (locs : List Loc), decode cc pc = .ok (.return_, 1) → Wd G A s.heap S' H locs → post S' → W p l e (rmK f n) s m args below meth c H locs 0 0 Q (F0 m pc ls [])) →
      W p l e (rmK f n) s m args below meth c s.heap [] 0 0 Q (F0 m 0 ls [])) : CtV l G y ws (rmK f n) as S post := by
  intro sz
  refine va_MetF (cc := cc) (maxL := nL) (ret := none) hy hw ?_
  intro p e s m args below meth c s₁ B hml hv
  obtain ⟨rfl, hsz, hP, hK, hD0⟩ := hv
  have hts := atoms_spec (ws := ws) B.pre
  have ho : s.vm.findClass own = some m.cls := hown ▸ findClass_of_methodNamed B.named
  subst hsz
  have hD := hD0.self (sz := s.heap.size)
  have hl := lv_entry as (n := nL) hlen
  rw [lg_entry_eq]
  refine body p e s m _ below meth c _ _ _ ⟨B.exec, B.bytes, hml, ho, hts, hK, fun q h => Or.inr h⟩ ⟨hP, hD, va_S.rf⟩ hl ?_
  intro pc ls S' H locs hdg w h
  obtain ⟨hP, hD, hS⟩ := w
  exact W.vret B.exec B.bytes B.returns (fun t ht hW => ⟨⟨S', rfl, h, by rw [ht]; exact hP, va_K.moved hW.alike hK, hD⟩, hS.F ht⟩) hS.2.2 hdg B.notSynchronized
end RL
section RW
variable {p : Program} {l : Launch} {e : Env} {R : Room} {s : State} {m : MethodId} {args : Array Value} {below : List Frame} {meth : Method} {c : Code} {H : Heap} {locs : List Loc} {cells slots : Nat} {Q : State → Prop}
variable {cc : ByteArray} {own : String} {Ts : List Cond} {nL : Nat} {G : GT} {A : Nat → Prop} {S : PS} {pc : Nat} {ls : Array Slot} {rest : List Value}
/-- reading a field -/
theorem pgI (c0 k : Nat) {r index : Nat} {Cn ref : String} {T : u_T} {N : Nat} (hc7 : c0 < 7) (hc : vwCl[c0]? = some (Cn, T, N)) (hk : k < N) (ht : (fdT c0)[k]? = some 0 ∨ (fdT c0)[k]? = some 2) (hsame : ref = (T k).1)
    (C : Cx p s m args meth c cc own Ts nL G A) (w : Wd G A s.heap S H locs) (hin : ∀ w ∈ u_ws Cn T N, w ∈ Ts) (hlink : (Cond.fieldLink own index ref (T k).2.1 (T k).2.2.1) ∈ Ts) (hdg : decode cc pc = .ok (.getfield index, 3)) (hP : (c0, r) ∈ gP G) {v : Int32} (hv : sI S c0 r k = v)
    (kk : W p l e R s m args below meth c H locs cells slots Q (F0 m (pc + 3) ls (.int v :: rest))) : W p l e R s m args below meth c H locs cells slots Q (F0 m pc ls (.ref (gA G c0 r) :: rest)) := by
  obtain ⟨hx, hb, -, hown, hts, hK, -⟩ := C
  obtain ⟨q, hq⟩ := wl_get S hP
  rw [en_obj hc7] at hq
  have hf : (fv G S c0 r)[k]? = some (.int v) := by
    rcases ht with ht | ht <;> rw [fv_get ht, ← hv] <;> rfl
  exact va_get hx hb hts hin hown hK w.1 q hq hc k hk (hts _ hlink) (fun x h => by rw [hsame]; exact h) hf hdg kk
theorem pgJ (c0 k : Nat) {r index : Nat} {Cn ref : String} {T : u_T} {N : Nat} (hc7 : c0 < 7) (hc : vwCl[c0]? = some (Cn, T, N)) (hk : k < N) (ht : (fdT c0)[k]? = some 1) (hsame : ref = (T k).1)
    (C : Cx p s m args meth c cc own Ts nL G A) (w : Wd G A s.heap S H locs) (hin : ∀ w ∈ u_ws Cn T N, w ∈ Ts) (hlink : (Cond.fieldLink own index ref (T k).2.1 (T k).2.2.1) ∈ Ts) (hdg : decode cc pc = .ok (.getfield index, 3)) (hP : (c0, r) ∈ gP G) {v : Int64} (hv : sJ S c0 r k = v)
    (kk : W p l e R s m args below meth c H locs cells slots Q (F0 m (pc + 3) ls (.long v :: rest))) : W p l e R s m args below meth c H locs cells slots Q (F0 m pc ls (.ref (gA G c0 r) :: rest)) := by
  obtain ⟨hx, hb, -, hown, hts, hK, -⟩ := C
  obtain ⟨q, hq⟩ := wl_get S hP
  rw [en_obj hc7] at hq
  have hf : (fv G S c0 r)[k]? = some (.long v) := by rw [fv_get ht, ← hv]; rfl
  exact va_get hx hb hts hin hown hK w.1 q hq hc k hk (hts _ hlink) (fun x h => by rw [hsame]; exact h) hf hdg kk
theorem pgQ (c0 k c1 : Nat) {r index : Nat} {Cn ref : String} {T : u_T} {N : Nat} (hc7 : c0 < 7) (hc : vwCl[c0]? = some (Cn, T, N)) (hk : k < N) (ht : (fdT c0)[k]? = some (c1 + 3)) (hsame : ref = (T k).1)
    (C : Cx p s m args meth c cc own Ts nL G A) (w : Wd G A s.heap S H locs) (hin : ∀ w ∈ u_ws Cn T N, w ∈ Ts) (hlink : (Cond.fieldLink own index ref (T k).2.1 (T k).2.2.1) ∈ Ts) (hdg : decode cc pc = .ok (.getfield index, 3)) (hP : (c0, r) ∈ gP G) {r1 : Nat} (hv : sQ S c0 r k = some r1)
    (kk : W p l e R s m args below meth c H locs cells slots Q (F0 m (pc + 3) ls (.ref (gA G c1 r1) :: rest))) : W p l e R s m args below meth c H locs cells slots Q (F0 m pc ls (.ref (gA G c0 r) :: rest)) := by
  obtain ⟨hx, hb, -, hown, hts, hK, -⟩ := C
  obtain ⟨q, hq⟩ := wl_get S hP
  rw [en_obj hc7] at hq
  have hf : (fv G S c0 r)[k]? = some (.ref (gA G c1 r1)) := by
    rw [fv_get ht]
    show some (va_rf ((sQ S c0 r k).map (gA G c1))) = _
    rw [hv]; rfl
  exact va_get hx hb hts hin hown hK w.1 q hq hc k hk (hts _ hlink) (fun x h => by rw [hsame]; exact h) hf hdg kk
/-- writing a field -/
theorem ppI (c0 k : Nat) {r index : Nat} {Cn ref : String} {T : u_T} {N : Nat} {ty0 : Nat → FieldType} (hc7 : c0 < 7) (hc : vwCl[c0]? = some (Cn, T, N)) (hk : k < N) (ht : (fdT c0)[k]? = some 0) (hsame : ref = (T k).1) (hty : ∀ k, k < N → parseFieldDescriptor (T k).2.2.1 = some (ty0 k)) (hnm : ∀ a, a < N → ∀ b, b < N → a ≠ b → (T a).2.1 ≠ (T b).2.1) (hfin : (T k).2.2.2 = false) (hd : parseFieldDescriptor (T k).2.2.1 = some .int)
    (C : Cx p s m args meth c cc own Ts nL G A) (w : Wd G A s.heap S H locs) (hin : ∀ w ∈ u_ws Cn T N, w ∈ Ts) (hlink : (Cond.fieldLink own index ref (T k).2.1 (T k).2.2.1) ∈ Ts) (hdg : decode cc pc = .ok (.putfield index, 3)) (hP : (c0, r) ∈ gP G) {v : Int32}
    (kk : ∀ (H1 : Heap) (locs1 : List Loc), Wd G A s.heap (uI S c0 r k v) H1 locs1 → W p l e R s m args below meth c H1 locs1 cells slots Q (F0 m (pc + 3) ls rest)) : W p l e R s m args below meth c H locs cells slots Q (F0 m pc ls (.int v :: .ref (gA G c0 r) :: rest)) := by
  obtain ⟨hx, hb, -, hown, hts, hK, -⟩ := C
  obtain ⟨q, hq⟩ := wl_get S hP
  have he : en G (uI S c0 r k v) c0 r = .inr (c0, (fv G S c0 r).set k (.int v)) := by
    rw [en_obj hc7, fv_set (S := S) ht (fun j t' hj => vl_uI hj)]
    have h9 : vl G (uI S c0 r k v) c0 r k 0 = .int v := by show Value.int _ = Value.int _; rw [sI_uI, if_pos ⟨rfl, rfl, rfl⟩]
    rw [h9]
  have hset := wl_set (S' := uI S c0 r k v) w.2.1 hP hq he (fun c' r' h => uI_far h)
  rw [en_obj hc7] at hq
  have hl : k < (fv G S c0 r).length := (List.getElem?_eq_some_iff.mp (fv_get (G := G) (S := S) (r := r) ht)).1
  refine va_put hx hb hts hin ty0 hty hnm hown hK w.1 w.2.1 w.2.2 q hq hc k hk (hts _ hlink) (fun x h => by rw [hsame]; exact h) hfin hd rfl rfl hl hdg fun H1 locs1 h1 h2 h3 => ?_
  rw [hset] at h1 h2
  exact kk H1 locs1 ⟨h1, h2, h3⟩
theorem ppZ (c0 k : Nat) {r index : Nat} {Cn ref : String} {T : u_T} {N : Nat} {ty0 : Nat → FieldType} (hc7 : c0 < 7) (hc : vwCl[c0]? = some (Cn, T, N)) (hk : k < N) (ht : (fdT c0)[k]? = some 2) (hsame : ref = (T k).1) (hty : ∀ k, k < N → parseFieldDescriptor (T k).2.2.1 = some (ty0 k)) (hnm : ∀ a, a < N → ∀ b, b < N → a ≠ b → (T a).2.1 ≠ (T b).2.1) (hfin : (T k).2.2.2 = false) (hd : parseFieldDescriptor (T k).2.2.1 = some .boolean)
    (C : Cx p s m args meth c cc own Ts nL G A) (w : Wd G A s.heap S H locs) (hin : ∀ w ∈ u_ws Cn T N, w ∈ Ts) (hlink : (Cond.fieldLink own index ref (T k).2.1 (T k).2.2.1) ∈ Ts) (hdg : decode cc pc = .ok (.putfield index, 3)) (hP : (c0, r) ∈ gP G) {v : Int32} (hv : v = 0 ∨ v = 1)
    (kk : ∀ (H1 : Heap) (locs1 : List Loc), Wd G A s.heap (uI S c0 r k v) H1 locs1 → W p l e R s m args below meth c H1 locs1 cells slots Q (F0 m (pc + 3) ls rest)) : W p l e R s m args below meth c H locs cells slots Q (F0 m pc ls (.int v :: .ref (gA G c0 r) :: rest)) := by
  obtain ⟨hx, hb, -, hown, hts, hK, -⟩ := C
  obtain ⟨q, hq⟩ := wl_get S hP
  have he : en G (uI S c0 r k v) c0 r = .inr (c0, (fv G S c0 r).set k (.int v)) := by
    rw [en_obj hc7, fv_set (S := S) ht (fun j t' hj => vl_uI hj)]
    have h9 : vl G (uI S c0 r k v) c0 r k 2 = .int v := by show Value.int _ = Value.int _; rw [sI_uI, if_pos ⟨rfl, rfl, rfl⟩]
    rw [h9]
  have hset := wl_set (S' := uI S c0 r k v) w.2.1 hP hq he (fun c' r' h => uI_far h)
  rw [en_obj hc7] at hq
  have hl : k < (fv G S c0 r).length := (List.getElem?_eq_some_iff.mp (fv_get (G := G) (S := S) (r := r) ht)).1
  refine va_put hx hb hts hin ty0 hty hnm hown hK w.1 w.2.1 w.2.2 q hq hc k hk (hts _ hlink) (fun x h => by rw [hsame]; exact h) hfin hd (by rcases hv with rfl | rfl <;> decide) (by rcases hv with rfl | rfl <;> decide) hl hdg fun H1 locs1 h1 h2 h3 => ?_
  rw [hset] at h1 h2
  exact kk H1 locs1 ⟨h1, h2, h3⟩
theorem ppJ (c0 k : Nat) {r index : Nat} {Cn ref : String} {T : u_T} {N : Nat} {ty0 : Nat → FieldType} (hc7 : c0 < 7) (hc : vwCl[c0]? = some (Cn, T, N)) (hk : k < N) (ht : (fdT c0)[k]? = some 1) (hsame : ref = (T k).1) (hty : ∀ k, k < N → parseFieldDescriptor (T k).2.2.1 = some (ty0 k)) (hnm : ∀ a, a < N → ∀ b, b < N → a ≠ b → (T a).2.1 ≠ (T b).2.1) (hfin : (T k).2.2.2 = false) (hd : parseFieldDescriptor (T k).2.2.1 = some .long)
    (C : Cx p s m args meth c cc own Ts nL G A) (w : Wd G A s.heap S H locs) (hin : ∀ w ∈ u_ws Cn T N, w ∈ Ts) (hlink : (Cond.fieldLink own index ref (T k).2.1 (T k).2.2.1) ∈ Ts) (hdg : decode cc pc = .ok (.putfield index, 3)) (hP : (c0, r) ∈ gP G) {v : Int64}
    (kk : ∀ (H1 : Heap) (locs1 : List Loc), Wd G A s.heap (uJ S c0 r k v) H1 locs1 → W p l e R s m args below meth c H1 locs1 cells slots Q (F0 m (pc + 3) ls rest)) : W p l e R s m args below meth c H locs cells slots Q (F0 m pc ls (.long v :: .ref (gA G c0 r) :: rest)) := by
  obtain ⟨hx, hb, -, hown, hts, hK, -⟩ := C
  obtain ⟨q, hq⟩ := wl_get S hP
  have he : en G (uJ S c0 r k v) c0 r = .inr (c0, (fv G S c0 r).set k (.long v)) := by
    rw [en_obj hc7, fv_set (S := S) ht (fun j t' hj => vl_uJ hj)]
    have h9 : vl G (uJ S c0 r k v) c0 r k 1 = .long v := by show Value.long _ = Value.long _; rw [sJ_uJ, if_pos ⟨rfl, rfl, rfl⟩]
    rw [h9]
  have hset := wl_set (S' := uJ S c0 r k v) w.2.1 hP hq he (fun c' r' h => uJ_far h)
  rw [en_obj hc7] at hq
  have hl : k < (fv G S c0 r).length := (List.getElem?_eq_some_iff.mp (fv_get (G := G) (S := S) (r := r) ht)).1
  refine va_put hx hb hts hin ty0 hty hnm hown hK w.1 w.2.1 w.2.2 q hq hc k hk (hts _ hlink) (fun x h => by rw [hsame]; exact h) hfin hd rfl rfl hl hdg fun H1 locs1 h1 h2 h3 => ?_
  rw [hset] at h1 h2
  exact kk H1 locs1 ⟨h1, h2, h3⟩
theorem ppQ (c0 k c1 : Nat) {r index : Nat} {Cn ref D : String} {T : u_T} {N : Nat} {ty0 : Nat → FieldType} (hc7 : c0 < 7) (hc : vwCl[c0]? = some (Cn, T, N)) (hk : k < N) (ht : (fdT c0)[k]? = some (c1 + 3)) (hsame : ref = (T k).1) (hty : ∀ k, k < N → parseFieldDescriptor (T k).2.2.1 = some (ty0 k)) (hnm : ∀ a, a < N → ∀ b, b < N → a ≠ b → (T a).2.1 ≠ (T b).2.1) (hfin : (T k).2.2.2 = false) (hd : parseFieldDescriptor (T k).2.2.1 = some (.object D))
    (C : Cx p s m args meth c cc own Ts nL G A) (w : Wd G A s.heap S H locs) (hin : ∀ w ∈ u_ws Cn T N, w ∈ Ts) (hlink : (Cond.fieldLink own index ref (T k).2.1 (T k).2.2.1) ∈ Ts) (hdg : decode cc pc = .ok (.putfield index, 3)) (hP : (c0, r) ∈ gP G) {r1 : Nat}
    (kk : ∀ (H1 : Heap) (locs1 : List Loc), Wd G A s.heap (uQ S c0 r k (some r1)) H1 locs1 → W p l e R s m args below meth c H1 locs1 cells slots Q (F0 m (pc + 3) ls rest)) : W p l e R s m args below meth c H locs cells slots Q (F0 m pc ls (.ref (gA G c1 r1) :: .ref (gA G c0 r) :: rest)) := by
  obtain ⟨hx, hb, -, hown, hts, hK, -⟩ := C
  obtain ⟨q, hq⟩ := wl_get S hP
  have he : en G (uQ S c0 r k (some r1)) c0 r = .inr (c0, (fv G S c0 r).set k (.ref (gA G c1 r1))) := by
    rw [en_obj hc7, fv_set (S := S) ht (fun j t' hj => vl_uQ hj)]
    have h9 : vl G (uQ S c0 r k (some r1)) c0 r k (c1 + 3) = .ref (gA G c1 r1) := by
      show va_rf ((sQ (uQ S c0 r k (some r1)) c0 r k).map (gA G c1)) = _
      rw [sQ_uQ, if_pos ⟨rfl, rfl, rfl⟩]; rfl
    rw [h9]
  have hset := wl_set (S' := uQ S c0 r k (some r1)) w.2.1 hP hq he (fun c' r' h => uQ_far h)
  rw [en_obj hc7] at hq
  have hl : k < (fv G S c0 r).length := (List.getElem?_eq_some_iff.mp (fv_get (G := G) (S := S) (r := r) ht)).1
  refine va_put hx hb hts hin ty0 hty hnm hown hK w.1 w.2.1 w.2.2 q hq hc k hk (hts _ hlink) (fun x h => by rw [hsame]; exact h) hfin hd rfl rfl hl hdg fun H1 locs1 h1 h2 h3 => ?_
  rw [hset] at h1 h2
  exact kk H1 locs1 ⟨h1, h2, h3⟩
end RW
end
section
/-! Rows (arrays) and calls, over pools. -/
section RA
variable {p : Program} {l : Launch} {e : Env} {R : Room} {s : State} {m : MethodId} {args : Array Value} {below : List Frame} {meth : Method} {c : Code} {H : Heap} {locs : List Loc} {cells slots : Nat} {Q : State → Prop}
variable {cc : ByteArray} {own : String} {Ts : List Cond} {nL : Nat} {G : GT} {A : Nat → Prop} {S : PS} {pc : Nat} {ls : Array Slot} {rest : List Value}
theorem paI {r n : Nat} {i v : Int32} (C : Cx p s m args meth c cc own Ts nL G A) (w : Wd G A s.heap S H locs) (hdg : decode cc pc = .ok (.iaload, 1)) (hP : (8, r) ∈ gP G) (hi : i = nI n) {N0 : Nat} (hN0 : gN G 8 r = N0) (hn : n < N0) (hN : N0 < 2 ^ 31) (hv : sI S 8 r n = v)
    (kk : W p l e R s m args below meth c H locs cells slots Q (F0 m (pc + 1) ls (.int v :: rest))) : W p l e R s m args below meth c H locs cells slots Q (F0 m pc ls (.int i :: .ref (gA G 8 r) :: rest)) := by
  obtain ⟨q, hq⟩ := wl_get S hP
  subst hi
  subst hN0
  refine va_iald C.1 C.2.1 C.2.2.2.2.2.1 w.1 q 1 (cA := gI G) (n := gN G 8 r) (f := sI S 8 r) hq rfl (vp_in_nI hn hN) hdg ?_
  rw [nI_clamp (Nat.lt_trans hn hN), hv]; exact kk
theorem paB {r n : Nat} {i v : Int32} (C : Cx p s m args meth c cc own Ts nL G A) (w : Wd G A s.heap S H locs) (hdg : decode cc pc = .ok (.baload, 1)) (hP : (7, r) ∈ gP G) (hi : i = nI n) {N0 : Nat} (hN0 : gN G 7 r = N0) (hn : n < N0) (hN : N0 < 2 ^ 31) (hv : sI S 7 r n = v)
    (kk : W p l e R s m args below meth c H locs cells slots Q (F0 m (pc + 1) ls (.int v :: rest))) : W p l e R s m args below meth c H locs cells slots Q (F0 m pc ls (.int i :: .ref (gA G 7 r) :: rest)) := by
  obtain ⟨q, hq⟩ := wl_get S hP
  subst hi
  subst hN0
  refine va_bald C.1 C.2.1 C.2.2.2.2.2.1 w.1 q 0 (cA := gB G) (n := gN G 7 r) (f := sI S 7 r) hq rfl (vp_in_nI hn hN) hdg ?_
  rw [nI_clamp (Nat.lt_trans hn hN), hv]; exact kk
theorem paJ {r n : Nat} {i : Int32} {v : Int64} (C : Cx p s m args meth c cc own Ts nL G A) (w : Wd G A s.heap S H locs) (hdg : decode cc pc = .ok (.laload, 1)) (hP : (9, r) ∈ gP G) (hi : i = nI n) {N0 : Nat} (hN0 : gN G 9 r = N0) (hn : n < N0) (hN : N0 < 2 ^ 31) (hv : sJ S 9 r n = v)
    (kk : W p l e R s m args below meth c H locs cells slots Q (F0 m (pc + 1) ls (.long v :: rest))) : W p l e R s m args below meth c H locs cells slots Q (F0 m pc ls (.int i :: .ref (gA G 9 r) :: rest)) := by
  obtain ⟨q, hq⟩ := wl_get S hP
  subst hi
  subst hN0
  refine va_lald C.1 C.2.1 C.2.2.2.2.2.1 w.1 q 2 (cA := gJ G) (n := gN G 9 r) (f := sJ S 9 r) hq rfl (vp_in_nI hn hN) hdg ?_
  rw [nI_clamp (Nat.lt_trans hn hN), hv]; exact kk
theorem paQ {r n : Nat} {i : Int32} {r1 : Nat} (C : Cx p s m args meth c cc own Ts nL G A) (w : Wd G A s.heap S H locs) (hdg : decode cc pc = .ok (.aaload, 1)) (hP : (10, r) ∈ gP G) (hi : i = nI n) {N0 : Nat} (hN0 : gN G 10 r = N0) (hn : n < N0) (hN : N0 < 2 ^ 31) (hv : sQ S 10 r n = some r1)
    (kk : W p l e R s m args below meth c H locs cells slots Q (F0 m (pc + 1) ls (.ref (gA G 2 r1) :: rest))) : W p l e R s m args below meth c H locs cells slots Q (F0 m pc ls (.int i :: .ref (gA G 10 r) :: rest)) := by
  obtain ⟨q, hq⟩ := wl_get S hP
  subst hi
  subst hN0
  refine va_aldq C.1 C.2.1 C.2.2.2.2.2.1 w.1 q 3 (cA := gO G) (C := "LevelScores$Score") (n := gN G 10 r) (f := fun k => (sQ S 10 r k).map (gA G 2)) hq rfl (vp_in_nI hn hN) hdg ?_
  rw [nI_clamp (Nat.lt_trans hn hN)]
  show W p l e R s m args below meth c H locs cells slots Q (F0 m (pc + 1) ls (va_rf ((sQ S 10 r n).map (gA G 2)) :: rest))
  rw [hv]; exact kk
theorem plen (c0 : Nat) {r n : Nat} (h7 : c0 = 7 ∨ c0 = 8 ∨ c0 = 9 ∨ c0 = 10) (C : Cx p s m args meth c cc own Ts nL G A) (w : Wd G A s.heap S H locs) (hdg : decode cc pc = .ok (.arraylength, 1)) (hP : (c0, r) ∈ gP G) (hn : gN G c0 r = n)
    (kk : W p l e R s m args below meth c H locs cells slots Q (F0 m (pc + 1) ls (.int (nI n) :: rest))) : W p l e R s m args below meth c H locs cells slots Q (F0 m pc ls (.ref (gA G c0 r) :: rest)) := by
  obtain ⟨q, hq⟩ := wl_get S hP
  subst hn
  rcases h7 with rfl | rfl | rfl | rfl
  · exact va_alen C.1 C.2.1 C.2.2.2.2.2.1 w.1 q 0 (cA := gB G) (x := (gN G 7 r, .inl (sI S 7 r))) hq rfl rfl hdg kk
  · exact va_alen C.1 C.2.1 C.2.2.2.2.2.1 w.1 q 1 (cA := gI G) (x := (gN G 8 r, .inl (sI S 8 r))) hq rfl rfl hdg kk
  · exact va_alen C.1 C.2.1 C.2.2.2.2.2.1 w.1 q 2 (cA := gJ G) (x := (gN G 9 r, .inr (.inl (sJ S 9 r)))) hq rfl rfl hdg kk
  · exact va_alen C.1 C.2.1 C.2.2.2.2.2.1 w.1 q 3 (cA := gO G) (x := (gN G 10 r, .inr (.inr (.inr (.inr (fun k => (sQ S 10 r k).map (gA G 2))))))) hq rfl rfl hdg kk
theorem psI {r n : Nat} {i v : Int32} (C : Cx p s m args meth c cc own Ts nL G A) (w : Wd G A s.heap S H locs) (hdg : decode cc pc = .ok (.iastore, 1)) (hP : (8, r) ∈ gP G) (hi : i = nI n) {N0 : Nat} (hN0 : gN G 8 r = N0) (hn : n < N0) (hN : N0 < 2 ^ 31)
    (kk : ∀ (H1 : Heap) (locs1 : List Loc), Wd G A s.heap (uI S 8 r n v) H1 locs1 → W p l e R s m args below meth c H1 locs1 cells slots Q (F0 m (pc + 1) ls rest)) : W p l e R s m args below meth c H locs cells slots Q (F0 m pc ls (.int v :: .int i :: .ref (gA G 8 r) :: rest)) := by
  obtain ⟨q, hq⟩ := wl_get S hP
  subst hi
  subst hN0
  have he : en G (uI S 8 r n v) 8 r = .inl (gI G, gN G 8 r, .inl (upd (sI S 8 r) n v)) := by
    show Sum.inl (gI G, gN G 8 r, Sum.inl (sI (uI S 8 r n v) 8 r)) = _
    have : sI (uI S 8 r n v) 8 r = upd (sI S 8 r) n v := by
      funext j; rw [sI_uI]; unfold upd
      by_cases h : j = n
      · rw [if_pos ⟨rfl, rfl, h⟩, if_pos h]
      · rw [if_neg (fun q => h q.2.2), if_neg h]
    rw [this]
  have hset := wl_set (S' := uI S 8 r n v) w.2.1 hP hq he (fun c' r' h => uI_far h)
  refine va_iast C.1 C.2.1 C.2.2.2.2.2.1 w.1 w.2.1 w.2.2 q 1 (cA := gI G) (n := gN G 8 r) (f := sI S 8 r) hq rfl (vp_in_nI hn hN) hdg fun H1 locs1 h1 h2 h3 => ?_
  rw [nI_clamp (Nat.lt_trans hn hN), hset] at h1 h2
  exact kk H1 locs1 ⟨h1, h2, h3⟩
theorem psB {r n : Nat} {i v : Int32} (C : Cx p s m args meth c cc own Ts nL G A) (w : Wd G A s.heap S H locs) (hdg : decode cc pc = .ok (.bastore, 1)) (hP : (7, r) ∈ gP G) (hi : i = nI n) {N0 : Nat} (hN0 : gN G 7 r = N0) (hn : n < N0) (hN : N0 < 2 ^ 31)
    (kk : ∀ (H1 : Heap) (locs1 : List Loc), Wd G A s.heap (uI S 7 r n (vp_nar .byte v)) H1 locs1 → W p l e R s m args below meth c H1 locs1 cells slots Q (F0 m (pc + 1) ls rest)) : W p l e R s m args below meth c H locs cells slots Q (F0 m pc ls (.int v :: .int i :: .ref (gA G 7 r) :: rest)) := by
  obtain ⟨q, hq⟩ := wl_get S hP
  subst hi
  subst hN0
  have he : en G (uI S 7 r n (vp_nar .byte v)) 7 r = .inl (gB G, gN G 7 r, .inl (upd (sI S 7 r) n (vp_nar .byte v))) := by
    show Sum.inl (gB G, gN G 7 r, Sum.inl (sI (uI S 7 r n (vp_nar .byte v)) 7 r)) = _
    have : sI (uI S 7 r n (vp_nar .byte v)) 7 r = upd (sI S 7 r) n (vp_nar .byte v) := by
      funext j; rw [sI_uI]; unfold upd
      by_cases h : j = n
      · rw [if_pos ⟨rfl, rfl, h⟩, if_pos h]
      · rw [if_neg (fun q => h q.2.2), if_neg h]
    rw [this]
  have hset := wl_set (S' := uI S 7 r n (vp_nar .byte v)) w.2.1 hP hq he (fun c' r' h => uI_far h)
  refine va_bast C.1 C.2.1 C.2.2.2.2.2.1 w.1 w.2.1 w.2.2 q 0 (cA := gB G) (n := gN G 7 r) (f := sI S 7 r) hq rfl (vp_in_nI hn hN) hdg fun H1 locs1 h1 h2 h3 => ?_
  rw [nI_clamp (Nat.lt_trans hn hN), hset] at h1 h2
  exact kk H1 locs1 ⟨h1, h2, h3⟩
theorem psJ {r n : Nat} {i : Int32} {v : Int64} (C : Cx p s m args meth c cc own Ts nL G A) (w : Wd G A s.heap S H locs) (hdg : decode cc pc = .ok (.lastore, 1)) (hP : (9, r) ∈ gP G) (hi : i = nI n) {N0 : Nat} (hN0 : gN G 9 r = N0) (hn : n < N0) (hN : N0 < 2 ^ 31)
    (kk : ∀ (H1 : Heap) (locs1 : List Loc), Wd G A s.heap (uJ S 9 r n v) H1 locs1 → W p l e R s m args below meth c H1 locs1 cells slots Q (F0 m (pc + 1) ls rest)) : W p l e R s m args below meth c H locs cells slots Q (F0 m pc ls (.long v :: .int i :: .ref (gA G 9 r) :: rest)) := by
  obtain ⟨q, hq⟩ := wl_get S hP
  subst hi
  subst hN0
  have he : en G (uJ S 9 r n v) 9 r = .inl (gJ G, gN G 9 r, .inr (.inl (vp_updL (sJ S 9 r) n v))) := by
    show Sum.inl (gJ G, gN G 9 r, Sum.inr (Sum.inl (sJ (uJ S 9 r n v) 9 r))) = _
    have : sJ (uJ S 9 r n v) 9 r = vp_updL (sJ S 9 r) n v := by
      funext j; rw [sJ_uJ]; unfold vp_updL
      by_cases h : j = n
      · rw [if_pos ⟨rfl, rfl, h⟩, if_pos h]
      · rw [if_neg (fun q => h q.2.2), if_neg h]
    rw [this]
  have hset := wl_set (S' := uJ S 9 r n v) w.2.1 hP hq he (fun c' r' h => uJ_far h)
  refine va_last C.1 C.2.1 C.2.2.2.2.2.1 w.1 w.2.1 w.2.2 q 2 (cA := gJ G) (n := gN G 9 r) (f := sJ S 9 r) hq rfl (vp_in_nI hn hN) hdg fun H1 locs1 h1 h2 h3 => ?_
  rw [nI_clamp (Nat.lt_trans hn hN), hset] at h1 h2
  exact kk H1 locs1 ⟨h1, h2, h3⟩
theorem psQ {r n : Nat} {i : Int32} {r1 : Nat} (C : Cx p s m args meth c cc own Ts nL G A) (w : Wd G A s.heap S H locs) (hdg : decode cc pc = .ok (.aastore, 1)) (hP : (10, r) ∈ gP G) (hP1 : (2, r1) ∈ gP G) (hi : i = nI n) {N0 : Nat} (hN0 : gN G 10 r = N0) (hn : n < N0) (hN : N0 < 2 ^ 31)
    (kk : ∀ (H1 : Heap) (locs1 : List Loc), Wd G A s.heap (uQ S 10 r n (some r1)) H1 locs1 → W p l e R s m args below meth c H1 locs1 cells slots Q (F0 m (pc + 1) ls rest)) : W p l e R s m args below meth c H locs cells slots Q (F0 m pc ls (.ref (gA G 2 r1) :: .int i :: .ref (gA G 10 r) :: rest)) := by
  obtain ⟨q, hq⟩ := wl_get S hP
  obtain ⟨q1, hq1⟩ := wl_get S hP1
  rw [en_obj (by decide)] at hq1
  subst hi
  subst hN0
  have he : en G (uQ S 10 r n (some r1)) 10 r = .inl (gO G, gN G 10 r, .inr (.inr (.inr (.inr (va_up (fun k => (sQ S 10 r k).map (gA G 2)) n (some (gA G 2 r1))))))) := by
    show Sum.inl (gO G, gN G 10 r, Sum.inr (Sum.inr (Sum.inr (Sum.inr (fun k => (sQ (uQ S 10 r n (some r1)) 10 r k).map (gA G 2)))))) = _
    have : (fun k => (sQ (uQ S 10 r n (some r1)) 10 r k).map (gA G 2)) = va_up (fun k => (sQ S 10 r k).map (gA G 2)) n (some (gA G 2 r1)) := by
      funext j; rw [sQ_uQ]; unfold va_up
      by_cases h : j = n
      · rw [if_pos ⟨rfl, rfl, h⟩, if_pos h]; rfl
      · rw [if_neg (fun q => h q.2.2), if_neg h]
    rw [this]
  have hset := wl_set (S' := uQ S 10 r n (some r1)) w.2.1 hP hq he (fun c' r' h => uQ_far h)
  refine va_astq C.1 C.2.1 C.2.2.2.2.2.1 w.1 w.2.1 w.2.2 q 3 q1 2 (cA := gO G) (n := gN G 10 r) (r := (RX2, TX2, 4)) (f := fun k => (sQ S 10 r k).map (gA G 2)) hq rfl hq1 rfl (vp_in_nI hn hN) hdg fun H1 locs1 h1 h2 h3 => ?_
  rw [nI_clamp (Nat.lt_trans hn hN), hset] at h1 h2
  exact kk H1 locs1 ⟨h1, h2, h3⟩
end RA
theorem Wd.free {G : GT} {A : Nat → Prop} {H0 H : Heap} {S : PS} {locs : List Loc} (w : Wd G A H0 S H locs) (hA : ∀ q : Nat, H0.size ≤ q → A q) : ∀ q, va_A (wl G S) H.size q → A q := by
  intro q h
  rcases h with ⟨k, e, h⟩ | h
  · exact w.2.1.2 k _ h
  · exact hA q (Nat.le_trans w.2.2.1 h)
theorem Wa_blind {G : GT} {S : PS} {sz : Nat} {as : List Value} : FrameBlind (va_Pc as (Wa G S sz)) := fun a U g mk q => by
  obtain ⟨q0, q1, qP, qK, qD⟩ := q
  exact ⟨q0, q1, qP, va_K.moved (u := U) (U := U.calling g mk a) (Vm.Alike.refl U.vm) qK, qD⟩
theorem Wa_pre {G : GT} {A : Nat → Prop} {S : PS} {s : State} {H : Heap} {locs : List Loc} {as : List Value} (hK : va_K (gD G) vwCl (gT G) s) (w : Wd G A s.heap S H locs) : ∀ U : State, U.heap = H → s.WarmedH U.vm → va_Pc as (Wa G S H.size) as.toArray U :=
  fun U hU hW => ⟨rfl, by rw [hU], by rw [hU]; exact w.1, va_K.moved hW.alike hK, w.2.1.weaken (fun _ _ _ _ => trivial)⟩
theorem Wb_wd {G : GT} {A : Nat → Prop} {S S' : PS} {s t : State} {H H1 : Heap} {locs locs1 : List Loc} (w : Wd G A s.heap S H locs) (hA : ∀ q : Nat, s.heap.size ≤ q → A q) (ht : t.heap = H1) (hB : Wb G (va_A (wl G S) H.size) S' t) (hS : va_S A s.heap H1 locs1) : Wd G A s.heap S' H1 locs1 := by
  obtain ⟨h1, -, h3⟩ := hB
  rw [ht] at h1
  exact ⟨h1, h3.weaken (fun k q _ h => w.free hA q.1 h), hS⟩
section RC
variable {p : Program} {l : Launch} {e : Env} {R : Room} {s : State} {m : MethodId} {args : Array Value} {below : List Frame} {meth : Method} {c : Code} {H : Heap} {locs : List Loc} {cells slots : Nat} {Q : State → Prop}
variable {cc : ByteArray} {own : String} {Ts : List Cond} {nL : Nat} {G : GT} {A : Nat → Prop} {S : PS} {pc : Nat} {ls : Array Slot} {rest st : List Value} {lv : List (Nat × Value)}
variable {c0 r index n f fn : Nat} {Cn : String} {T : u_T} {N maxL : Nat} {y : MethodName} {bytes : ByteArray} {ret' : Option FieldType} {ws ws' : List Cond} {As : List Value}
/-- invokevirtual: an int or a boolean comes back -/
theorem cvI {post : Int32 → PS → Prop} (C : Cx p s m args meth c cc own Ts nL G A) (w : Wd G A s.heap S H locs) (hl : lv_has ls nL lv) (hdg : decode cc pc = .ok (.invokevirtual index, 3)) (hM : CtI l G y ws (rmK f fn) (.ref (gA G c0 r) :: As) S post) (hT : GoodIn Ts (wsV own index Cn y ws)) (hw : ws = Cond.code y bytes maxL ret' :: ws')
    (hd : y.cls = Cn ∧ y.cls ≠ "java/lang/invoke/MethodHandle" ∧ y.cls ≠ "java/lang/invoke/VarHandle" ∧ (parseMethodDescriptor y.desc).map (fun d => d.parameters.length) = some n) (hn : As.length = n) (hst : st = As.reverse ++ .ref (gA G c0 r) :: rest) (hrest : (rest.map fun v => v.category).sum ≤ 8)
    (hR : f + 1 ≤ R.frames ∧ 8 + (maxL + 11) + fn ≤ R.locals) (hc7 : c0 < 7) (hc : vwCl[c0]? = some (Cn, T, N)) (hP : (c0, r) ∈ gP G)
    (kk : ∀ (v : Int32) (S' : PS) (H1 : Heap) (locs1 : List Loc), post v S' → Wd G A s.heap S' H1 locs1 → W p l e R s m args below meth c H1 locs1 cells slots Q (F0 m (pc + 3) ls (.int v :: rest))) (hf : cells ≤ R.cells ∧ slots ≤ R.slots := by exact ⟨Nat.zero_le _, Nat.zero_le _⟩) : W p l e R s m args below meth c H locs cells slots Q (F0 m pc ls st) := by
  obtain ⟨q, hq⟩ := wl_get S hP
  rw [en_obj hc7] at hq
  subst hst
  have hA := C.2.2.2.2.2.2
  refine va_calli (va_runV (As := As) (rest := rest) ⟨C.1, C.2.1, C.2.2.1, C.2.2.2.1, C.2.2.2.2.1⟩ (hM H.size) (cwV n C.2.2.2.2.1 hT hw rfl rfl hd hR) ⟨Wa_blind, va_recv C.2.2.2.2.2.1 w.1 hc hq, Wa_pre C.2.2.2.2.2.1 w⟩ rfl hn hl.1 rfl (lv_room hrest) hdg hf) w.2.2 (fun q _ h => w.free hA q h) (w.free hA) (fun v u t H1 locs1 ht hvm hp hB hz1 hk1 hS => kk v u H1 locs1 hp (Wb_wd w hA ht hB hS))
theorem cvL {post : Int64 → PS → Prop} (C : Cx p s m args meth c cc own Ts nL G A) (w : Wd G A s.heap S H locs) (hl : lv_has ls nL lv) (hdg : decode cc pc = .ok (.invokevirtual index, 3)) (hM : CtL l G y ws (rmK f fn) (.ref (gA G c0 r) :: As) S post) (hT : GoodIn Ts (wsV own index Cn y ws)) (hw : ws = Cond.code y bytes maxL ret' :: ws')
    (hd : y.cls = Cn ∧ y.cls ≠ "java/lang/invoke/MethodHandle" ∧ y.cls ≠ "java/lang/invoke/VarHandle" ∧ (parseMethodDescriptor y.desc).map (fun d => d.parameters.length) = some n) (hn : As.length = n) (hst : st = As.reverse ++ .ref (gA G c0 r) :: rest) (hrest : (rest.map fun v => v.category).sum ≤ 8)
    (hR : f + 1 ≤ R.frames ∧ 8 + (maxL + 11) + fn ≤ R.locals) (hc7 : c0 < 7) (hc : vwCl[c0]? = some (Cn, T, N)) (hP : (c0, r) ∈ gP G)
    (kk : ∀ (v : Int64) (S' : PS) (H1 : Heap) (locs1 : List Loc), post v S' → Wd G A s.heap S' H1 locs1 → W p l e R s m args below meth c H1 locs1 cells slots Q (F0 m (pc + 3) ls (.long v :: rest))) (hf : cells ≤ R.cells ∧ slots ≤ R.slots := by exact ⟨Nat.zero_le _, Nat.zero_le _⟩) : W p l e R s m args below meth c H locs cells slots Q (F0 m pc ls st) := by
  obtain ⟨q, hq⟩ := wl_get S hP
  rw [en_obj hc7] at hq
  subst hst
  have hA := C.2.2.2.2.2.2
  refine va_calll (va_runV (As := As) (rest := rest) ⟨C.1, C.2.1, C.2.2.1, C.2.2.2.1, C.2.2.2.2.1⟩ (hM H.size) (cwV n C.2.2.2.2.1 hT hw rfl rfl hd hR) ⟨Wa_blind, va_recv C.2.2.2.2.2.1 w.1 hc hq, Wa_pre C.2.2.2.2.2.1 w⟩ rfl hn hl.1 rfl (lv_room hrest) hdg hf) w.2.2 (fun q _ h => w.free hA q h) (w.free hA) (fun v u t H1 locs1 ht hvm hp hB hz1 hk1 hS => kk v u H1 locs1 hp (Wb_wd w hA ht hB hS))
theorem cvV {post : PS → Prop} (C : Cx p s m args meth c cc own Ts nL G A) (w : Wd G A s.heap S H locs) (hl : lv_has ls nL lv) (hdg : decode cc pc = .ok (.invokevirtual index, 3)) (hM : CtV l G y ws (rmK f fn) (.ref (gA G c0 r) :: As) S post) (hT : GoodIn Ts (wsV own index Cn y ws)) (hw : ws = Cond.code y bytes maxL ret' :: ws')
    (hd : y.cls = Cn ∧ y.cls ≠ "java/lang/invoke/MethodHandle" ∧ y.cls ≠ "java/lang/invoke/VarHandle" ∧ (parseMethodDescriptor y.desc).map (fun d => d.parameters.length) = some n) (hn : As.length = n) (hst : st = As.reverse ++ .ref (gA G c0 r) :: rest) (hrest : (rest.map fun v => v.category).sum ≤ 8)
    (hR : f + 1 ≤ R.frames ∧ 8 + (maxL + 11) + fn ≤ R.locals) (hc7 : c0 < 7) (hc : vwCl[c0]? = some (Cn, T, N)) (hP : (c0, r) ∈ gP G)
    (kk : ∀ (S' : PS) (H1 : Heap) (locs1 : List Loc), post S' → Wd G A s.heap S' H1 locs1 → W p l e R s m args below meth c H1 locs1 cells slots Q (F0 m (pc + 3) ls rest)) (hf : cells ≤ R.cells ∧ slots ≤ R.slots := by exact ⟨Nat.zero_le _, Nat.zero_le _⟩) : W p l e R s m args below meth c H locs cells slots Q (F0 m pc ls st) := by
  obtain ⟨q, hq⟩ := wl_get S hP
  rw [en_obj hc7] at hq
  subst hst
  have hA := C.2.2.2.2.2.2
  refine va_callv (va_runV (As := As) (rest := rest) ⟨C.1, C.2.1, C.2.2.1, C.2.2.2.1, C.2.2.2.2.1⟩ (hM H.size) (cwV n C.2.2.2.2.1 hT hw rfl rfl hd hR) ⟨Wa_blind, va_recv C.2.2.2.2.2.1 w.1 hc hq, Wa_pre C.2.2.2.2.2.1 w⟩ rfl hn hl.1 rfl (lv_room hrest) hdg hf) w.2.2 (fun q _ h => w.free hA q h) (w.free hA) (fun u t H1 locs1 ht hvm hp hB hz1 hk1 hS => kk u H1 locs1 hp (Wb_wd w hA ht hB hS))
theorem csI {post : Int32 → PS → Prop} (C : Cx p s m args meth c cc own Ts nL G A) (w : Wd G A s.heap S H locs) (hl : lv_has ls nL lv) (hdg : decode cc pc = .ok (.invokestatic index, 3)) (hM : CtI l G y ws (rmK f fn) As S post) (hT : GoodIn Ts (va_wsS own index y ws)) (hw : ws = Cond.code y bytes maxL ret' :: ws')
    (hd : y.cls ≠ "java/lang/invoke/MethodHandle" ∧ y.cls ≠ "java/lang/invoke/VarHandle" ∧ (parseMethodDescriptor y.desc).map (fun d => d.parameters.length) = some n) (hn : As.length = n) (hst : st = As.reverse ++ rest) (hrest : (rest.map fun v => v.category).sum ≤ 8)
    (hR : f + 1 ≤ R.frames ∧ 8 + (maxL + 11) + fn ≤ R.locals)
    (kk : ∀ (v : Int32) (S' : PS) (H1 : Heap) (locs1 : List Loc), post v S' → Wd G A s.heap S' H1 locs1 → W p l e R s m args below meth c H1 locs1 cells slots Q (F0 m (pc + 3) ls (.int v :: rest))) (hf : cells ≤ R.cells ∧ slots ≤ R.slots := by exact ⟨Nat.zero_le _, Nat.zero_le _⟩) : W p l e R s m args below meth c H locs cells slots Q (F0 m pc ls st) := by
  subst hst
  have hA := C.2.2.2.2.2.2
  refine va_calli (va_runS (As := As) (rest := rest) ⟨C.1, C.2.1, C.2.2.1, C.2.2.2.1, C.2.2.2.2.1⟩ (hM H.size) (va_cwS n C.2.2.2.2.1 hT hw rfl rfl hd hR) ⟨Wa_blind, Wa_pre C.2.2.2.2.2.1 w⟩ rfl hn hl.1 rfl (lv_room hrest) hdg hf) w.2.2 (fun q _ h => w.free hA q h) (w.free hA) (fun v u t H1 locs1 ht hvm hp hB hz1 hk1 hS => kk v u H1 locs1 hp (Wb_wd w hA ht hB hS))
theorem csL {post : Int64 → PS → Prop} (C : Cx p s m args meth c cc own Ts nL G A) (w : Wd G A s.heap S H locs) (hl : lv_has ls nL lv) (hdg : decode cc pc = .ok (.invokestatic index, 3)) (hM : CtL l G y ws (rmK f fn) As S post) (hT : GoodIn Ts (va_wsS own index y ws)) (hw : ws = Cond.code y bytes maxL ret' :: ws')
    (hd : y.cls ≠ "java/lang/invoke/MethodHandle" ∧ y.cls ≠ "java/lang/invoke/VarHandle" ∧ (parseMethodDescriptor y.desc).map (fun d => d.parameters.length) = some n) (hn : As.length = n) (hst : st = As.reverse ++ rest) (hrest : (rest.map fun v => v.category).sum ≤ 8)
    (hR : f + 1 ≤ R.frames ∧ 8 + (maxL + 11) + fn ≤ R.locals)
    (kk : ∀ (v : Int64) (S' : PS) (H1 : Heap) (locs1 : List Loc), post v S' → Wd G A s.heap S' H1 locs1 → W p l e R s m args below meth c H1 locs1 cells slots Q (F0 m (pc + 3) ls (.long v :: rest))) (hf : cells ≤ R.cells ∧ slots ≤ R.slots := by exact ⟨Nat.zero_le _, Nat.zero_le _⟩) : W p l e R s m args below meth c H locs cells slots Q (F0 m pc ls st) := by
  subst hst
  have hA := C.2.2.2.2.2.2
  refine va_calll (va_runS (As := As) (rest := rest) ⟨C.1, C.2.1, C.2.2.1, C.2.2.2.1, C.2.2.2.2.1⟩ (hM H.size) (va_cwS n C.2.2.2.2.1 hT hw rfl rfl hd hR) ⟨Wa_blind, Wa_pre C.2.2.2.2.2.1 w⟩ rfl hn hl.1 rfl (lv_room hrest) hdg hf) w.2.2 (fun q _ h => w.free hA q h) (w.free hA) (fun v u t H1 locs1 ht hvm hp hB hz1 hk1 hS => kk v u H1 locs1 hp (Wb_wd w hA ht hB hS))
end RC
end
section
/-! The class's pool: scores are the places 0 .. 59 of kind 2, the plan's weights, best ones, spare and pattern 60 .. 78; a score's levels have its own place in kind 9. Wide 0 is the object's, 1 the plan's sum, 2 its part. Byte rows: 0 the tape's, 1 the page's, 2 its digits. Rows of scores: 0 the scores, 1 the weights, 2 the best. -/
def okX (G : GT) : Prop := (∀ r, r < 79 → (2, r) ∈ gP G ∧ (9, r) ∈ gP G ∧ gN G 9 r = 12) ∧ ((0, 0) ∈ gP G ∧ (1, 0) ∈ gP G ∧ (3, 0) ∈ gP G ∧ (5, 0) ∈ gP G ∧ (8, 0) ∈ gP G) ∧ (∀ r, r < 3 → (4, r) ∈ gP G ∧ (7, r) ∈ gP G ∧ (10, r) ∈ gP G) ∧ gN G 7 0 = 300 ∧ gN G 7 1 = 263 ∧ gN G 7 2 = 19 ∧ gN G 8 0 = 12 ∧ gN G 10 0 = 60 ∧ gN G 10 1 = 12 ∧ gN G 10 2 = 5
theorem oP2 {G : GT} (h : okX G) {r : Nat} (hr : r < 79) : (2, r) ∈ gP G := (h.1 r hr).1
theorem oP9 {G : GT} (h : okX G) {r : Nat} (hr : r < 79) : (9, r) ∈ gP G := (h.1 r hr).2.1
theorem oN9 {G : GT} (h : okX G) {r : Nat} (hr : r < 79) : gN G 9 r = 12 := (h.1 r hr).2.2
theorem oP0 {G : GT} (h : okX G) : (0, 0) ∈ gP G := h.2.1.1
theorem oP1 {G : GT} (h : okX G) : (1, 0) ∈ gP G := h.2.1.2.1
theorem oP3 {G : GT} (h : okX G) : (3, 0) ∈ gP G := h.2.1.2.2.1
theorem oP5 {G : GT} (h : okX G) : (5, 0) ∈ gP G := h.2.1.2.2.2.1
theorem oP8 {G : GT} (h : okX G) : (8, 0) ∈ gP G := h.2.1.2.2.2.2
theorem oP4 {G : GT} (h : okX G) {r : Nat} (hr : r < 3) : (4, r) ∈ gP G := (h.2.2.1 r hr).1
theorem oP7 {G : GT} (h : okX G) {r : Nat} (hr : r < 3) : (7, r) ∈ gP G := (h.2.2.1 r hr).2.1
theorem oP10 {G : GT} (h : okX G) {r : Nat} (hr : r < 3) : (10, r) ∈ gP G := (h.2.2.1 r hr).2.2
theorem oN70 {G : GT} (h : okX G) : gN G 7 0 = 300 := h.2.2.2.1
theorem oN71 {G : GT} (h : okX G) : gN G 7 1 = 263 := h.2.2.2.2.1
theorem oN72 {G : GT} (h : okX G) : gN G 7 2 = 19 := h.2.2.2.2.2.1
theorem oN8 {G : GT} (h : okX G) : gN G 8 0 = 12 := h.2.2.2.2.2.2.1
theorem oN100 {G : GT} (h : okX G) : gN G 10 0 = 60 := h.2.2.2.2.2.2.2.1
theorem oN101 {G : GT} (h : okX G) : gN G 10 1 = 12 := h.2.2.2.2.2.2.2.2.1
theorem oN102 {G : GT} (h : okX G) : gN G 10 2 = 5 := h.2.2.2.2.2.2.2.2.2
/-- the references that never change -/
def lkX (S : PS) : Prop := (∀ r, r < 79 → sQ S 2 r 3 = some r) ∧ (∀ i, i < 60 → sQ S 10 0 i = some i) ∧ sQ S 5 0 0 = some 0 ∧ sQ S 5 0 2 = some 0 ∧ sQ S 5 0 3 = some 0 ∧ sQ S 5 0 4 = some 0 ∧ sQ S 5 0 5 = some 0 ∧ sQ S 3 0 0 = some 0 ∧ sQ S 0 0 0 = some 1 ∧ sQ S 0 0 2 = some 2
  ∧ sQ S 1 0 0 = some 78 ∧ sQ S 1 0 1 = some 1 ∧ sQ S 1 0 2 = some 0 ∧ sQ S 1 0 4 = some 2 ∧ sQ S 1 0 7 = some 1 ∧ sQ S 1 0 8 = some 2
theorem lk2 {S : PS} (h : lkX S) {r : Nat} (hr : r < 79) : sQ S 2 r 3 = some r := h.1 r hr
theorem lk10 {S : PS} (h : lkX S) {i : Nat} (hi : i < 60) : sQ S 10 0 i = some i := h.2.1 i hi
theorem lkX_of {S S' : PS} (h : lkX S) (e : sQ S' = sQ S) : lkX S' := by unfold lkX; rw [e]; exact h
/-- a score's head; a whole row of levels -/
def fm (S : PS) (r : Nat) (a b z : Int32) : PS := uI (uI (uI S 2 r 0 a) 2 r 1 b) 2 r 2 z
def rw9 (S : PS) (r : Nat) (f : Nat → Int64) : PS := (S.1, fun c' r' k' => if c' = 9 ∧ r' = r then f k' else S.2.1 c' r' k', S.2.2)
theorem sJ_rw9 (S : PS) (r : Nat) (f : Nat → Int64) (c' r' k' : Nat) : sJ (rw9 S r f) c' r' k' = if c' = 9 ∧ r' = r then f k' else sJ S c' r' k' := rfl
theorem sI_rw9 (S : PS) (r : Nat) (f : Nat → Int64) : sI (rw9 S r f) = sI S := rfl
theorem sQ_rw9 (S : PS) (r : Nat) (f : Nat → Int64) : sQ (rw9 S r f) = sQ S := rfl
theorem sJ_fm (S : PS) (r : Nat) (a b z : Int32) : sJ (fm S r a b z) = sJ S := rfl
theorem sQ_fm (S : PS) (r : Nat) (a b z : Int32) : sQ (fm S r a b z) = sQ S := rfl
theorem sI_fm0 (S : PS) (r : Nat) (a b z : Int32) : sI (fm S r a b z) 2 r 0 = a := by simp [fm, sI_uI]
theorem sI_fm1 (S : PS) (r : Nat) (a b z : Int32) : sI (fm S r a b z) 2 r 1 = b := by simp [fm, sI_uI]
theorem sI_fm2 (S : PS) (r : Nat) (a b z : Int32) : sI (fm S r a b z) 2 r 2 = z := by simp [fm, sI_uI]
theorem sI_fm_r {S : PS} {r : Nat} {a b z : Int32} {c' r' k' : Nat} (h : ¬ (c' = 2 ∧ r' = r)) : sI (fm S r a b z) c' r' k' = sI S c' r' k' := by
  unfold fm
  rw [sI_uI, if_neg (fun q => h ⟨q.1, q.2.1⟩), sI_uI, if_neg (fun q => h ⟨q.1, q.2.1⟩), sI_uI, if_neg (fun q => h ⟨q.1, q.2.1⟩)]
theorem sJ_rw9_s (S : PS) (r : Nat) (f : Nat → Int64) (k : Nat) : sJ (rw9 S r f) 9 r k = f k := by rw [sJ_rw9, if_pos ⟨rfl, rfl⟩]
theorem sJ_rw9_n {S : PS} {r : Nat} {f : Nat → Int64} {r' k : Nat} (h : r' ≠ r) : sJ (rw9 S r f) 9 r' k = sJ S 9 r' k := by rw [sJ_rw9, if_neg (fun q => h q.2)]
theorem uJ_rw9 (S : PS) (r : Nat) (f : Nat → Int64) (k : Nat) (v : Int64) : uJ (rw9 S r f) 9 r k v = rw9 S r (fun j => if j = k then v else f j) := by
  refine PS_ext (fun _ _ _ => rfl) (fun c' r' k' => ?_) (fun _ _ _ => rfl)
  rw [sJ_uJ, sJ_rw9, sJ_rw9]
  by_cases h1 : c' = 9 ∧ r' = r
  · obtain ⟨rfl, rfl⟩ := h1
    by_cases h2 : k' = k
    · rw [if_pos ⟨rfl, rfl, h2⟩, if_pos ⟨rfl, rfl⟩, if_pos h2]
    · rw [if_neg (fun q => h2 q.2.2), if_pos ⟨rfl, rfl⟩, if_pos ⟨rfl, rfl⟩, if_neg h2]
  · rw [if_neg (fun q => h1 ⟨q.1, q.2.1⟩), if_neg h1, if_neg h1]
theorem rw9_self (S : PS) (r : Nat) : rw9 S r (fun k => sJ S 9 r k) = S := by
  refine PS_ext (fun _ _ _ => rfl) (fun c' r' k' => ?_) (fun _ _ _ => rfl)
  rw [sJ_rw9]
  by_cases h : c' = 9 ∧ r' = r
  · obtain ⟨rfl, rfl⟩ := h; rw [if_pos ⟨rfl, rfl⟩]
  · rw [if_neg h]
theorem rw9_eq {S : PS} {r : Nat} {f g : Nat → Int64} (h : ∀ k, f k = g k) : rw9 S r f = rw9 S r g := by rw [show f = g from funext h]
/-- the order of two rows from place k on, n levels -/
def cmpG (x y : Nat → Int64) : Nat → Nat → Int32
  | 0, _ => 0
  | n + 1, k => if x k = y k then cmpG x y n (k + 1) else if x k < y k then -1 else 1
theorem cmpG_eq {x y x' y' : Nat → Int64} : ∀ (n k : Nat), (∀ j, k ≤ j → j < k + n → x j = x' j ∧ y j = y' j) → cmpG x y n k = cmpG x' y' n k := by
  intro n
  induction n with
  | zero => intro k _; rfl
  | succ n ih =>
    intro k h
    obtain ⟨h1, h2⟩ := h k (Nat.le_refl _) (by omega)
    unfold cmpG
    rw [h1, h2, ih (k + 1) (fun j a b => h j (by omega) (by omega))]
/-- a row of levels of which the first k are g's, the others o's -/
def rwk (S : PS) (r : Nat) (g o : Nat → Int64) (k : Nat) : PS := rw9 S r (fun j => if j < k then g j else o j)
theorem rwk_s {S : PS} {r : Nat} {g o : Nat → Int64} {k : Nat} {v : Int64} (hv : v = g k) : uJ (rwk S r g o k) 9 r k v = rwk S r g o (k + 1) := by
  unfold rwk
  rw [uJ_rw9]
  refine rw9_eq fun j => ?_
  by_cases h1 : j = k
  · subst h1; rw [if_pos rfl, if_pos (Nat.lt_succ_self _), hv]
  · rw [if_neg h1]
    by_cases h2 : j < k
    · rw [if_pos h2, if_pos (by omega)]
    · rw [if_neg h2, if_neg (by omega)]
theorem rwk_0 {S : PS} {r : Nat} {g o : Nat → Int64} (h : ∀ k, o k = sJ S 9 r k) : rwk S r g o 0 = S := by
  unfold rwk
  rw [rw9_eq (g := fun k => sJ S 9 r k), rw9_self]
  intro k; rw [if_neg (Nat.not_lt_zero _), h]
theorem sI_rwk (S : PS) (r : Nat) (g o : Nat → Int64) (k : Nat) : sI (rwk S r g o k) = sI S := rfl
theorem sQ_rwk (S : PS) (r : Nat) (g o : Nat → Int64) (k : Nat) : sQ (rwk S r g o k) = sQ S := rfl
theorem sJ_rwk_n {S : PS} {r : Nat} {g o : Nat → Int64} {k r' j : Nat} (h : r' ≠ r) : sJ (rwk S r g o k) 9 r' j = sJ S 9 r' j := sJ_rw9_n h
theorem sJ_rwk_s (S : PS) (r : Nat) (g o : Nat → Int64) (k j : Nat) : sJ (rwk S r g o k) 9 r j = if j < k then g j else o j := sJ_rw9_s _ _ _ _
end
section
/-! Whole numbers of more than 64 bits, in two halves: high and low of V. -/
def hiL (V : Int) : Int64 := Int64.ofInt (V / 4294967296)
def loL (V : Int) : Int64 := Int64.ofInt (V % 4294967296)
/-- within 64 bits -/
def in64 (V : Int) : Prop := -9223372036854775808 ≤ V ∧ V < 9223372036854775808
theorem i64_small {n : Int} (h1 : -9223372036854775808 ≤ n) (h2 : n < 9223372036854775808) : (Int64.ofInt n).toInt = n := Int64.toInt_ofInt_of_le (by omega) (by omega)
theorem i64_lo (x : Int64) : -9223372036854775808 ≤ x.toInt := by have := x.le_toInt; omega
theorem i64_hi (x : Int64) : x.toInt < 9223372036854775808 := by have := x.toInt_lt; omega
theorem shr32 (x : Int64) : x >>> ((32 : Int32).toInt64 &&& 63) = Int64.ofInt (x.toInt / 4294967296) := by
  apply Int64.toInt_inj.mp
  have h1 := i64_lo x
  have h2 := i64_hi x
  have hD : (((32 : Int32).toInt64 &&& 63).toBitVec.smod 64).toNat = 32 := by decide
  have e : (x >>> ((32 : Int32).toInt64 &&& 63)).toInt = x.toInt >>> 32 := by
    show (x.toBitVec.sshiftRight (((32 : Int32).toInt64 &&& 63).toBitVec.smod 64).toNat).toInt = _
    rw [hD, BitVec.toInt_sshiftRight]
    rfl
  rw [e, Int.shiftRight_eq_div_pow, i64_small (by omega) (by omega)]
  rfl
theorem toInt_cond (x : Int64) : x.toInt = if 2 * x.toBitVec.toNat < 2 ^ 64 then (x.toBitVec.toNat : Int) else (x.toBitVec.toNat : Int) - ((2 ^ 64 : Nat) : Int) := BitVec.toInt_eq_toNat_cond _
theorem and32 (x : Int64) : x &&& 4294967295 = Int64.ofInt (x.toInt % 4294967296) := by
  apply Int64.toBitVec_inj.mp
  apply BitVec.eq_of_toNat_eq
  show (x.toBitVec &&& 4294967295#64).toNat = (BitVec.ofInt 64 (x.toInt % 4294967296)).toNat
  rw [BitVec.toNat_and, show (4294967295#64).toNat = 2 ^ 32 - 1 from by decide, Nat.and_two_pow_sub_one_eq_mod, BitVec.toNat_ofInt]
  have h := toInt_cond x
  have h3 := x.toBitVec.isLt
  split at h <;> omega
theorem shl32 (x : Int64) : x <<< ((32 : Int32).toInt64 &&& 63) = x * Int64.ofInt 4294967296 := by
  have e : x * Int64.ofInt 4294967296 = Int64.ofInt (x.toInt * 4294967296) := by rw [Int64.ofInt_mul, Int64.ofInt_toInt]
  rw [e]
  apply Int64.toBitVec_inj.mp
  apply BitVec.eq_of_toNat_eq
  have hD : (((32 : Int32).toInt64 &&& 63).toBitVec.smod 64).toNat = 32 := by decide
  show (x.toBitVec <<< (((32 : Int32).toInt64 &&& 63).toBitVec.smod 64).toNat).toNat = (BitVec.ofInt 64 (x.toInt * 4294967296)).toNat
  rw [hD, BitVec.toNat_shiftLeft, Nat.shiftLeft_eq, BitVec.toNat_ofInt]
  have h := toInt_cond x
  have h3 := x.toBitVec.isLt
  split at h <;> omega
theorem hl_add (V : Int) : hiL V * Int64.ofInt 4294967296 + loL V = Int64.ofInt V := by
  unfold hiL loL
  rw [← Int64.ofInt_mul, ← Int64.ofInt_add]
  congr 1; omega
theorem shladd (V : Int) : hiL V <<< ((32 : Int32).toInt64 &&& 63) + loL V = Int64.ofInt V := by rw [shl32, hl_add]
theorem or_low {x y : Int64} {n : Nat} (hy : y.toBitVec.toNat = n) (hn : n < 4294967296) : (x <<< ((32 : Int32).toInt64 &&& 63)) ||| y = x <<< ((32 : Int32).toInt64 &&& 63) + y := by
  apply Int64.toBitVec_inj.mp
  have hD : (((32 : Int32).toInt64 &&& 63).toBitVec.smod 64).toNat = 32 := by decide
  show (x.toBitVec <<< (((32 : Int32).toInt64 &&& 63).toBitVec.smod 64).toNat) ||| y.toBitVec = (x.toBitVec <<< (((32 : Int32).toInt64 &&& 63).toBitVec.smod 64).toNat) + y.toBitVec
  rw [hD]
  apply BitVec.eq_of_toNat_eq
  rw [BitVec.toNat_or, BitVec.toNat_add, BitVec.toNat_shiftLeft, Nat.shiftLeft_eq, hy]
  have h3 := x.toBitVec.isLt
  have e : x.toBitVec.toNat * 2 ^ 32 % 2 ^ 64 = (x.toBitVec.toNat % 4294967296) <<< 32 := by rw [Nat.shiftLeft_eq]; omega
  have hlt : (x.toBitVec.toNat % 4294967296) <<< 32 + n < 2 ^ 64 := by rw [Nat.shiftLeft_eq]; omega
  rw [e, Nat.mod_eq_of_lt hlt]
  exact (Nat.shiftLeft_add_eq_or_of_lt (by omega) _).symm
theorem loL_nat (V : Int) : (loL V).toBitVec.toNat = (V % 4294967296).toNat := by
  show (BitVec.ofInt 64 (V % 4294967296)).toNat = _
  rw [BitVec.toNat_ofInt]; omega
theorem shlor (V : Int) : hiL V <<< ((32 : Int32).toInt64 &&& 63) ||| loL V = Int64.ofInt V := by
  rw [or_low (loL_nat V) (by omega), shladd]
theorem hiL_0 : hiL 0 = 0 := by decide
theorem loL_0 : loL 0 = 0 := by decide
theorem loL_int (V : Int) : (loL V).toInt = V % 4294967296 := i64_small (by omega) (by omega)
theorem hiL_int {V : Int} (h1 : -19807040628566084398385987584 ≤ V) (h2 : V < 19807040628566084398385987584) : (hiL V).toInt = V / 4294967296 := i64_small (by omega) (by omega)
theorem mul_bd {a F : Int} (h0 : 0 ≤ a) (h1 : a < 4294967296) (hF : -2147483648 ≤ F ∧ F ≤ 2147483648) : -9223372034707292160 ≤ a * F ∧ a * F ≤ 9223372034707292160 := by
  have e1 := Int.mul_le_mul_of_nonneg_left hF.1 h0
  have e2 := Int.mul_le_mul_of_nonneg_left hF.2 h0
  omega
theorem ofI_mulR (a : Int) (f : Int64) : Int64.ofInt a * f = Int64.ofInt (a * f.toInt) := by rw [Int64.ofInt_mul, Int64.ofInt_toInt]
theorem mul_split (v F : Int) : v * F = v / 4294967296 * F * 4294967296 + v % 4294967296 * F := by
  have h : v = v / 4294967296 * 4294967296 + v % 4294967296 := by omega
  have e : v * F = (v / 4294967296 * 4294967296 + v % 4294967296) * F := congrArg (· * F) h
  rw [e, Int.add_mul, Int.mul_right_comm]
/-- Wide.addProduct -/
theorem aP_hi (V : Int) (v f : Int64) (hf : -2147483648 ≤ f.toInt ∧ f.toInt ≤ 2147483648) : hiL V + (((v >>> ((32 : Int32).toInt64 &&& 63)) * f + (((v &&& 4294967295) * f) >>> ((32 : Int32).toInt64 &&& 63))) + ((loL V + (((v &&& 4294967295) * f) &&& 4294967295)) >>> ((32 : Int32).toInt64 &&& 63))) = hiL (V + v.toInt * f.toInt) := by
  have hb := mul_bd (a := v.toInt % 4294967296) (by omega) (by omega) hf
  rw [and32 v, ofI_mulR, shr32 v, ofI_mulR, shr32 (Int64.ofInt _), and32 (Int64.ofInt _), i64_small (by omega) (by omega)]
  unfold hiL loL
  rw [← Int64.ofInt_add (V % 4294967296), shr32, i64_small (by omega) (by omega), ← Int64.ofInt_add, ← Int64.ofInt_add, ← Int64.ofInt_add, mul_split v.toInt]
  congr 1
  omega
theorem aP_lo (V : Int) (v f : Int64) (hf : -2147483648 ≤ f.toInt ∧ f.toInt ≤ 2147483648) : (loL V + (((v &&& 4294967295) * f) &&& 4294967295)) &&& 4294967295 = loL (V + v.toInt * f.toInt) := by
  have hb := mul_bd (a := v.toInt % 4294967296) (by omega) (by omega) hf
  rw [and32 v, ofI_mulR, and32 (Int64.ofInt _), i64_small (by omega) (by omega)]
  unfold loL
  rw [← Int64.ofInt_add, and32, i64_small (by omega) (by omega), mul_split v.toInt]
  congr 1
  omega
/-- the model's add -/
theorem aM_hi (V : Int) (v f : Int64) (hb : -9223372036854775808 ≤ V % 4294967296 + v.toInt % 4294967296 * f.toInt ∧ V % 4294967296 + v.toInt % 4294967296 * f.toInt < 9223372036854775808) (hf : -2147483648 ≤ f.toInt ∧ f.toInt ≤ 2147483648) : (hiL V + (v >>> ((32 : Int32).toInt64 &&& 63)) * f) + ((loL V + (v &&& 4294967295) * f) >>> ((32 : Int32).toInt64 &&& 63)) = hiL (V + v.toInt * f.toInt) := by
  have hb2 := mul_bd (a := v.toInt % 4294967296) (by omega) (by omega) hf
  rw [and32 v, ofI_mulR, shr32 v, ofI_mulR]
  unfold hiL loL
  rw [← Int64.ofInt_add (V % 4294967296), shr32, i64_small (by omega) (by omega), ← Int64.ofInt_add, ← Int64.ofInt_add, mul_split v.toInt]
  congr 1
  omega
theorem aM_lo (V : Int) (v f : Int64) (hb : -9223372036854775808 ≤ V % 4294967296 + v.toInt % 4294967296 * f.toInt ∧ V % 4294967296 + v.toInt % 4294967296 * f.toInt < 9223372036854775808) : (loL V + (v &&& 4294967295) * f) &&& 4294967295 = loL (V + v.toInt * f.toInt) := by
  rw [and32 v, ofI_mulR]
  unfold loL
  rw [← Int64.ofInt_add (V % 4294967296), and32, i64_small (by omega) (by omega), mul_split v.toInt]
  congr 1
  omega
/-- fits -/
theorem fit_iff {V : Int} (h1 : -19807040628566084398385987584 ≤ V) (h2 : V < 19807040628566084398385987584) : (¬ hiL V < -2147483648 ∧ ¬ 2147483647 < hiL V) ↔ in64 V := by
  rw [Int64.lt_iff_toInt_lt, Int64.lt_iff_toInt_lt, hiL_int h1 h2, show (-2147483648 : Int64).toInt = -2147483648 from by decide, show (2147483647 : Int64).toInt = 2147483647 from by decide]
  unfold in64
  omega
theorem neg_msb (x : Int64) : x < 0 ↔ x.toBitVec.msb = true := by
  rw [Int64.lt_iff_toInt_lt, BitVec.msb_eq_toInt, decide_eq_true_eq]
  exact Iff.rfl
theorem xor_neg (x y : Int64) : x ^^^ y < 0 ↔ ¬ (x < 0 ↔ y < 0) := by
  rw [neg_msb, neg_msb, neg_msb]
  show (x.toBitVec ^^^ y.toBitVec).msb = true ↔ _
  rw [BitVec.msb_xor]
  cases x.toBitVec.msb <;> cases y.toBitVec.msb <;> simp
theorem and_neg (x y : Int64) : x &&& y < 0 ↔ (x < 0 ∧ y < 0) := by
  rw [neg_msb, neg_msb, neg_msb]
  show (x.toBitVec &&& y.toBitVec).msb = true ↔ _
  rw [BitVec.msb_and]
  cases x.toBitVec.msb <;> cases y.toBitVec.msb <;> simp
theorem i64_neg (x : Int64) : x < 0 ↔ x.toInt < 0 := by rw [Int64.lt_iff_toInt_lt]; exact Iff.rfl
theorem i64_add (x y : Int64) : x + y = Int64.ofInt (x.toInt + y.toInt) := by rw [Int64.ofInt_add, Int64.ofInt_toInt, Int64.ofInt_toInt]
theorem i64_sub (x y : Int64) : x - y = Int64.ofInt (x.toInt - y.toInt) := by rw [Int64.ofInt_sub, Int64.ofInt_toInt, Int64.ofInt_toInt]
theorem i64_mul (x y : Int64) : x * y = Int64.ofInt (x.toInt * y.toInt) := by rw [Int64.ofInt_mul, Int64.ofInt_toInt, Int64.ofInt_toInt]
theorem i64_bmod (n : Int) : (Int64.ofInt n).toInt = n.bmod 18446744073709551616 := Int64.toInt_ofInt
/-- a sum that has neither one's sign has wrapped -/
theorem ov_add (x y : Int64) : (x ^^^ (x + y)) &&& (y ^^^ (x + y)) < 0 ↔ ¬ in64 (x.toInt + y.toInt) := by
  rw [and_neg, xor_neg, xor_neg, i64_add, i64_neg, i64_neg, i64_neg, i64_bmod]
  have a1 := i64_lo x
  have a2 := i64_hi x
  have a3 := i64_lo y
  have a4 := i64_hi y
  unfold in64
  generalize x.toInt = a at *
  generalize y.toInt = b at *
  have hb : (a + b).bmod 18446744073709551616 = if a + b < -9223372036854775808 then a + b + 18446744073709551616 else if a + b < 9223372036854775808 then a + b else a + b - 18446744073709551616 := by
    rw [Int.bmod_def]; split <;> split <;> (try split) <;> omega
  rw [hb]
  split <;> (try split) <;> omega
theorem ov_sub (x y : Int64) : (x ^^^ y) &&& (x ^^^ (x - y)) < 0 ↔ ¬ in64 (x.toInt - y.toInt) := by
  rw [and_neg, xor_neg, xor_neg, i64_sub, i64_neg, i64_neg, i64_neg, i64_bmod]
  have a1 := i64_lo x
  have a2 := i64_hi x
  have a3 := i64_lo y
  have a4 := i64_hi y
  unfold in64
  generalize x.toInt = a at *
  generalize y.toInt = b at *
  have hb : (a - b).bmod 18446744073709551616 = if a - b < -9223372036854775808 then a - b + 18446744073709551616 else if a - b < 9223372036854775808 then a - b else a - b - 18446744073709551616 := by
    rw [Int.bmod_def]; split <;> split <;> (try split) <;> omega
  rw [hb]
  split <;> (try split) <;> omega
theorem div_pos_int {x y : Int64} (hy : 0 < y.toInt) : (x / y).toInt = x.toInt.tdiv y.toInt := Int64.toInt_div_of_ne_right x y (fun h => by rw [h] at hy; exact absurd hy (by decide))
theorem tdiv_facts (a : Int) {b : Int} (hb : 0 < b) : a.tdiv b * b + a.tmod b = a ∧ -b < a.tmod b ∧ a.tmod b < b ∧ (0 ≤ a → 0 ≤ a.tmod b) ∧ (a ≤ 0 → a.tmod b ≤ 0) := by
  have h1 := Int.tdiv_mul_add_tmod a b
  have h2 : a.tmod b < b := Int.tmod_lt_of_pos a hb
  have h3 : -b < a.tmod b := by
    have := Int.tmod_lt_of_pos (-a) hb
    rw [Int.neg_tmod] at this
    omega
  refine ⟨h1, h3, h2, fun h => Int.tmod_nonneg b h, fun h => ?_⟩
  have := Int.tmod_nonneg b (show 0 ≤ -a by omega)
  rw [Int.neg_tmod] at this
  omega
theorem rem_int {x y : Int64} (hy : 0 < y.toInt) : x - x / y * y = Int64.ofInt (x.toInt.tmod y.toInt) := by
  have h := (tdiv_facts x.toInt hy).1
  rw [i64_mul, div_pos_int hy, i64_sub, i64_small]
  · congr 1; omega
  · have := tdiv_facts x.toInt hy; have a1 := i64_lo x; have a2 := i64_hi x; have a3 := i64_hi y; omega
  · have := tdiv_facts x.toInt hy; have a1 := i64_lo x; have a2 := i64_hi x; have a3 := i64_hi y; omega
end
section
set_option maxHeartbeats 4000000 in
set_option maxRecDepth 100000 in
/-- Score.form -/
theorem c_X2_form (l : Launch) (G : GT) (hX : okX G) (S : PS) (r : Nat) (a b z : Int32) (hr : r < 79) : CtV l G yX2_form wsX2_form (rmK 0 0) [.ref (gA G 2 r), .int a, .int b, .int z] S (fun S2 => S2 = fm S r a b z) := by
  refine ofCtV (cc := cX2_form) (nL := 4) RX2 (by decide +kernel) rfl rfl (Nat.le_of_ble_eq_true rfl) ?_
  intro p e s m args below meth c A Q ls C w hl hret
  have hx := C.1
  have hb := C.2.1
  have hown := C.2.2.2.1
  have hts := C.2.2.2.2.1
  have hi2 : ∀ w ∈ wsX20, w ∈ wsX2_form := by decide +kernel
  refine lv_aload_n hx hb dX2_form_0 rfl (lv_at hl 0 rfl) ?_
  refine lv_iload_n hx hb dX2_form_1 rfl (lv_at hl 1 rfl) ?_
  refine ppI 2 0 (by decide) rfl (by decide) rfl rfl tyX2_ok nmX2 rfl (by decide +kernel) C w hi2 (by decide +kernel) dX2_form_2 (oP2 hX (by assumption)) (fun H locs w => ?_)
  refine lv_aload_n hx hb dX2_form_5 rfl (lv_at hl 0 rfl) ?_
  refine lv_iload_n hx hb dX2_form_6 rfl (lv_at hl 2 rfl) ?_
  refine ppI 2 1 (by decide) rfl (by decide) rfl rfl tyX2_ok nmX2 rfl (by decide +kernel) C w hi2 (by decide +kernel) dX2_form_7 (oP2 hX (by assumption)) (fun H locs w => ?_)
  refine lv_aload_n hx hb dX2_form_10 rfl (lv_at hl 0 rfl) ?_
  refine lv_iload_n hx hb dX2_form_11 rfl (lv_at hl 3 rfl) ?_
  refine ppI 2 2 (by decide) rfl (by decide) rfl rfl tyX2_ok nmX2 rfl (by decide +kernel) C w hi2 (by decide +kernel) dX2_form_12 (oP2 hX (by assumption)) (fun H locs w => ?_)
  exact hret _ _ _ _ _ dX2_form_15 w rfl

set_option maxHeartbeats 4000000 in
set_option maxRecDepth 100000 in
/-- Score.formLike -/
theorem c_X2_formLike (l : Launch) (G : GT) (hX : okX G) (S : PS) (r o : Nat) (hr : r < 79) (ho : o < 79) : CtV l G yX2_formLike wsX2_formLike (rmK 1 23) [.ref (gA G 2 r), .ref (gA G 2 o)] S (fun S2 => S2 = fm S r (sI S 2 o 0) (sI S 2 o 1) (sI S 2 o 2)) := by
  refine ofCtV (cc := cX2_formLike) (nL := 2) RX2 (by decide +kernel) rfl rfl (Nat.le_of_ble_eq_true rfl) ?_
  intro p e s m args below meth c A Q ls C w hl hret
  have hx := C.1
  have hb := C.2.1
  have hown := C.2.2.2.1
  have hts := C.2.2.2.2.1
  have hi2 : ∀ w ∈ wsX20, w ∈ wsX2_formLike := by decide +kernel
  refine lv_aload_n hx hb dX2_formLike_0 rfl (lv_at hl 0 rfl) ?_
  refine lv_aload_n hx hb dX2_formLike_1 rfl (lv_at hl 1 rfl) ?_
  refine pgI 2 0 (by decide) rfl (by decide) (Or.inl rfl) rfl C w hi2 (by decide +kernel) dX2_formLike_2 (oP2 hX (by assumption)) rfl ?_
  refine lv_aload_n hx hb dX2_formLike_5 rfl (lv_at hl 1 rfl) ?_
  refine pgI 2 1 (by decide) rfl (by decide) (Or.inl rfl) rfl C w hi2 (by decide +kernel) dX2_formLike_6 (oP2 hX (by assumption)) rfl ?_
  refine lv_aload_n hx hb dX2_formLike_9 rfl (lv_at hl 1 rfl) ?_
  refine pgI 2 2 (by decide) rfl (by decide) (Or.inl rfl) rfl C w hi2 (by decide +kernel) dX2_formLike_10 (oP2 hX (by assumption)) rfl ?_
  refine cvV (n := 3) C w hl dX2_formLike_13 (c_X2_form l G hX S _ _ _ _ (by assumption)) gX2_formLike_X2_form rfl (by decide +kernel) rfl rfl (Nat.le_of_ble_eq_true rfl) ⟨by decide, by decide⟩ (by decide) rfl (oP2 hX (by assumption)) (fun S2 H locs hp w => ?_)
  exact hret _ _ _ _ _ dX2_formLike_16 w hp

set_option maxHeartbeats 4000000 in
set_option maxRecDepth 100000 in
/-- Score.clear -/
theorem c_X2_clear (l : Launch) (G : GT) (hX : okX G) (S : PS) (hS : lkX S) (r z : Nat) (hr : r < 79) (hz : sI S 2 r 2 = nI z) (hz12 : z ≤ 12) : CtV l G yX2_clear wsX2_clear (rmK 0 0) [.ref (gA G 2 r)] S (fun S2 => S2 = rwk S r (fun _ => 0) (sJ S 9 r) z) := by
  refine ofCtV (cc := cX2_clear) (nL := 2) RX2 (by decide +kernel) rfl rfl (Nat.le_of_ble_eq_true rfl) ?_
  intro p e s m args below meth c A Q ls C w hl hret
  have hx := C.1
  have hb := C.2.1
  have hown := C.2.2.2.1
  have hts := C.2.2.2.2.1
  have hi2 : ∀ w ∈ wsX20, w ∈ wsX2_clear := by decide +kernel
  refine lv_iconst (v := 0) hx hb dX2_clear_0 (by decide) ?_
  refine lv_istore_n hx hb dX2_clear_1 rfl hl (by decide) rfl (fun ls hl => ?_)
  have loop_2 : ∀ (n : Nat) (k : Nat) (H : Heap) (locs : List Loc) (ls : Array Slot), k + n = z → Wd G A s.heap (rwk S r (fun _ => 0) (sJ S 9 r) k) H locs → lv_has ls 2 [(0, .ref (gA G 2 r)), (1, .int (nI k))] → W p l e (rmK 0 0) s m args below meth c H locs 0 0 Q (F0 m 2 ls []) := by
    intro n
    induction n with
    | zero =>
      intro k H locs ls hk w hl
      refine lv_iload_n hx hb dX2_clear_2 rfl (lv_at hl 1 rfl) ?_
      refine lv_aload_n hx hb dX2_clear_3 rfl (lv_at hl 0 rfl) ?_
      refine pgI 2 2 (by decide) rfl (by decide) (Or.inl rfl) rfl C w hi2 (by decide +kernel) dX2_clear_4 (oP2 hX (by assumption)) hz ?_
      refine lv_icmp_ge (tgt := 23) hx hb dX2_clear_7 (by decide) (fun c_7 => ?_) (fun c_7 => absurd (nI_le (by omega) (by omega)) c_7)
      have e : k = z := by omega
      subst e
      exact hret _ _ _ _ _ dX2_clear_23 w rfl
    | succ n ih =>
      intro k H locs ls hk w hl
      refine lv_iload_n hx hb dX2_clear_2 rfl (lv_at hl 1 rfl) ?_
      refine lv_aload_n hx hb dX2_clear_3 rfl (lv_at hl 0 rfl) ?_
      refine pgI 2 2 (by decide) rfl (by decide) (Or.inl rfl) rfl C w hi2 (by decide +kernel) dX2_clear_4 (oP2 hX (by assumption)) hz ?_
      refine lv_icmp_ge (tgt := 23) hx hb dX2_clear_7 (by decide) (fun c_7 => absurd c_7 (nI_ge (by omega) (by omega))) (fun c_7 => ?_)
      refine lv_aload_n hx hb dX2_clear_10 rfl (lv_at hl 0 rfl) ?_
      refine pgQ 2 3 9 (by decide) rfl (by decide) rfl rfl C w hi2 (by decide +kernel) dX2_clear_11 (oP2 hX (by assumption)) (lk2 hS (by assumption)) ?_
      refine lv_iload_n hx hb dX2_clear_14 rfl (lv_at hl 1 rfl) ?_
      refine lv_lconst (v := 0) hx hb dX2_clear_15 (by decide) ?_
      refine psJ C w dX2_clear_16 (oP9 hX (by assumption)) rfl (oN9 hX (by assumption)) (by omega) (by decide) (fun H locs w => ?_)
      refine lv_iinc (v := nI (k + 1)) hx hb dX2_clear_17 hl (k := 1) rfl (nI_1 k) (by decide) rfl (fun ls hl => ?_)
      refine lv_goto (tgt := 2) hx hb dX2_clear_20 (by decide) ?_
      rw [rwk_s rfl] at w
      exact ih (k + 1) _ _ _ (by omega) w (lv_sub hl [1, 0] rfl)
  exact loop_2 z 0 _ _ _ (by omega) (by rw [rwk_0 (fun _ => rfl)]; exact w) (lv_sub hl [1, 0] rfl)

set_option maxHeartbeats 4000000 in
set_option maxRecDepth 100000 in
/-- Score.copy -/
theorem c_X2_copy (l : Launch) (G : GT) (hX : okX G) (S : PS) (hS : lkX S) (r o z : Nat) (hr : r < 79) (ho : o < 79) (hne : o ≠ r) (hz : sI S 2 o 2 = nI z) (hz12 : z ≤ 12) : CtV l G yX2_copy wsX2_copy (rmK 2 44) [.ref (gA G 2 r), .ref (gA G 2 o)] S (fun S2 => S2 = (rwk (fm S r (sI S 2 o 0) (sI S 2 o 1) (sI S 2 o 2)) r (sJ S 9 o) (sJ S 9 r) z)) := by
  refine ofCtV (cc := cX2_copy) (nL := 3) RX2 (by decide +kernel) rfl rfl (Nat.le_of_ble_eq_true rfl) ?_
  intro p e s m args below meth c A Q ls C w hl hret
  have hx := C.1
  have hb := C.2.1
  have hown := C.2.2.2.1
  have hts := C.2.2.2.2.1
  have hi2 : ∀ w ∈ wsX20, w ∈ wsX2_copy := by decide +kernel
  refine lv_aload_n hx hb dX2_copy_0 rfl (lv_at hl 0 rfl) ?_
  refine lv_aload_n hx hb dX2_copy_1 rfl (lv_at hl 1 rfl) ?_
  refine cvV (n := 1) C w hl dX2_copy_2 (c_X2_formLike l G hX S _ _ (by assumption) (by assumption)) gX2_copy_X2_formLike rfl (by decide +kernel) rfl rfl (Nat.le_of_ble_eq_true rfl) ⟨by decide, by decide⟩ (by decide) rfl (oP2 hX (by assumption)) (fun S2 H locs hp w => ?_)
  subst hp
  refine lv_iconst (v := 0) hx hb dX2_copy_5 (by decide) ?_
  refine lv_istore_n hx hb dX2_copy_6 rfl hl (by decide) rfl (fun ls hl => ?_)
  have loop_7 : ∀ (n : Nat) (k : Nat) (H : Heap) (locs : List Loc) (ls : Array Slot), k + n = z → Wd G A s.heap (rwk (fm S r (sI S 2 o 0) (sI S 2 o 1) (sI S 2 o 2)) r (sJ S 9 o) (sJ S 9 r) k) H locs → lv_has ls 3 [(0, .ref (gA G 2 r)), (1, .ref (gA G 2 o)), (2, .int (nI k))] → W p l e (rmK 2 44) s m args below meth c H locs 0 0 Q (F0 m 7 ls []) := by
    intro n
    induction n with
    | zero =>
      intro k H locs ls hk w hl
      refine lv_iload_n hx hb dX2_copy_7 rfl (lv_at hl 2 rfl) ?_
      refine lv_aload_n hx hb dX2_copy_8 rfl (lv_at hl 0 rfl) ?_
      refine pgI 2 2 (by decide) rfl (by decide) (Or.inl rfl) rfl C w hi2 (by decide +kernel) dX2_copy_9 (oP2 hX (by assumption)) (v := nI z) (by rw [sI_rwk, sI_fm2]; exact hz) ?_
      refine lv_icmp_ge (tgt := 33) hx hb dX2_copy_12 (by decide) (fun c_12 => ?_) (fun c_12 => absurd (nI_le (by omega) (by omega)) c_12)
      have e : k = z := by omega
      subst e
      exact hret _ _ _ _ _ dX2_copy_33 w rfl
    | succ n ih =>
      intro k H locs ls hk w hl
      refine lv_iload_n hx hb dX2_copy_7 rfl (lv_at hl 2 rfl) ?_
      refine lv_aload_n hx hb dX2_copy_8 rfl (lv_at hl 0 rfl) ?_
      refine pgI 2 2 (by decide) rfl (by decide) (Or.inl rfl) rfl C w hi2 (by decide +kernel) dX2_copy_9 (oP2 hX (by assumption)) (v := nI z) (by rw [sI_rwk, sI_fm2]; exact hz) ?_
      refine lv_icmp_ge (tgt := 33) hx hb dX2_copy_12 (by decide) (fun c_12 => absurd c_12 (nI_ge (by omega) (by omega))) (fun c_12 => ?_)
      refine lv_aload_n hx hb dX2_copy_15 rfl (lv_at hl 0 rfl) ?_
      refine pgQ 2 3 9 (by decide) rfl (by decide) rfl rfl C w hi2 (by decide +kernel) dX2_copy_16 (oP2 hX (by assumption)) (lk2 hS (by assumption)) ?_
      refine lv_iload_n hx hb dX2_copy_19 rfl (lv_at hl 2 rfl) ?_
      refine lv_aload_n hx hb dX2_copy_20 rfl (lv_at hl 1 rfl) ?_
      refine pgQ 2 3 9 (by decide) rfl (by decide) rfl rfl C w hi2 (by decide +kernel) dX2_copy_21 (oP2 hX (by assumption)) (lk2 hS (by assumption)) ?_
      refine lv_iload_n hx hb dX2_copy_24 rfl (lv_at hl 2 rfl) ?_
      refine paJ C w dX2_copy_25 (oP9 hX (by assumption)) rfl (oN9 hX (by assumption)) (by omega) (by decide) (v := sJ S 9 o k) (by rw [sJ_rwk_n hne]; rfl) ?_
      refine psJ C w dX2_copy_26 (oP9 hX (by assumption)) rfl (oN9 hX (by assumption)) (by omega) (by decide) (fun H locs w => ?_)
      refine lv_iinc (v := nI (k + 1)) hx hb dX2_copy_27 hl (k := 2) rfl (nI_1 k) (by decide) rfl (fun ls hl => ?_)
      refine lv_goto (tgt := 7) hx hb dX2_copy_30 (by decide) ?_
      rw [rwk_s rfl] at w
      exact ih (k + 1) _ _ _ (by omega) w (lv_sub hl [1, 2, 0] rfl)
  exact loop_7 z 0 _ _ _ (by omega) (by rw [rwk_0 (S := fm S r _ _ _) (o := sJ S 9 r) (fun _ => rfl)]; exact w) (lv_sub hl [1, 2, 0] rfl)

set_option maxHeartbeats 4000000 in
set_option maxRecDepth 100000 in
/-- Score.isNothing -/
theorem c_X2_isNothing (l : Launch) (G : GT) (hX : okX G) (S : PS) (r : Nat) (hr : r < 79) : CtI l G yX2_isNothing wsX2_isNothing (rmK 0 0) [.ref (gA G 2 r)] S (fun v S2 => v = (if sI S 2 r 0 = -1 then 1 else 0) ∧ S2 = S) := by
  refine ofCtZ (cc := cX2_isNothing) (nL := 1) RX2 (by decide +kernel) rfl rfl (Nat.le_of_ble_eq_true rfl) ?_
  intro p e s m args below meth c A Q ls C w hl hret
  have hx := C.1
  have hb := C.2.1
  have hown := C.2.2.2.1
  have hts := C.2.2.2.2.1
  have hi2 : ∀ w ∈ wsX20, w ∈ wsX2_isNothing := by decide +kernel
  refine lv_aload_n hx hb dX2_isNothing_0 rfl (lv_at hl 0 rfl) ?_
  refine pgI 2 0 (by decide) rfl (by decide) (Or.inl rfl) rfl C w hi2 (by decide +kernel) dX2_isNothing_1 (oP2 hX (by assumption)) rfl ?_
  refine lv_iconst (v := (-1)) hx hb dX2_isNothing_4 (by decide) ?_
  refine lv_icmp_ne (tgt := 12) hx hb dX2_isNothing_5 (by decide) (fun c_5 => ?_) (fun c_5 => ?_)
  · refine lv_iconst (v := 0) hx hb dX2_isNothing_12 (by decide) ?_
    exact hret _ _ _ _ _ _ dX2_isNothing_13 w (by decide) ⟨by simp [c_5], rfl⟩
  · refine lv_iconst (v := 1) hx hb dX2_isNothing_8 (by decide) ?_
    refine lv_goto (tgt := 13) hx hb dX2_isNothing_9 (by decide) ?_
    exact hret _ _ _ _ _ _ dX2_isNothing_13 w (by decide) ⟨by simp [c_5], rfl⟩

set_option maxHeartbeats 4000000 in
set_option maxRecDepth 100000 in
/-- Score.isLike -/
theorem c_X2_isLike (l : Launch) (G : GT) (hX : okX G) (S : PS) (r o : Nat) (hr : r < 79) (ho : o < 79) : CtI l G yX2_isLike wsX2_isLike (rmK 0 0) [.ref (gA G 2 r), .ref (gA G 2 o)] S (fun v S2 => v = (if sI S 2 r 0 = sI S 2 o 0 ∧ sI S 2 r 1 = sI S 2 o 1 ∧ sI S 2 r 2 = sI S 2 o 2 then 1 else 0) ∧ S2 = S) := by
  refine ofCtZ (cc := cX2_isLike) (nL := 2) RX2 (by decide +kernel) rfl rfl (Nat.le_of_ble_eq_true rfl) ?_
  intro p e s m args below meth c A Q ls C w hl hret
  have hx := C.1
  have hb := C.2.1
  have hown := C.2.2.2.1
  have hts := C.2.2.2.2.1
  have hi2 : ∀ w ∈ wsX20, w ∈ wsX2_isLike := by decide +kernel
  refine lv_aload_n hx hb dX2_isLike_0 rfl (lv_at hl 0 rfl) ?_
  refine pgI 2 0 (by decide) rfl (by decide) (Or.inl rfl) rfl C w hi2 (by decide +kernel) dX2_isLike_1 (oP2 hX (by assumption)) rfl ?_
  refine lv_aload_n hx hb dX2_isLike_4 rfl (lv_at hl 1 rfl) ?_
  refine pgI 2 0 (by decide) rfl (by decide) (Or.inl rfl) rfl C w hi2 (by decide +kernel) dX2_isLike_5 (oP2 hX (by assumption)) rfl ?_
  refine lv_icmp_ne (tgt := 37) hx hb dX2_isLike_8 (by decide) (fun c_8 => ?_) (fun c_8 => ?_)
  · refine lv_iconst (v := 0) hx hb dX2_isLike_37 (by decide) ?_
    exact hret _ _ _ _ _ _ dX2_isLike_38 w (by decide) ⟨by simp_all, rfl⟩
  · refine lv_aload_n hx hb dX2_isLike_11 rfl (lv_at hl 0 rfl) ?_
    refine pgI 2 1 (by decide) rfl (by decide) (Or.inl rfl) rfl C w hi2 (by decide +kernel) dX2_isLike_12 (oP2 hX (by assumption)) rfl ?_
    refine lv_aload_n hx hb dX2_isLike_15 rfl (lv_at hl 1 rfl) ?_
    refine pgI 2 1 (by decide) rfl (by decide) (Or.inl rfl) rfl C w hi2 (by decide +kernel) dX2_isLike_16 (oP2 hX (by assumption)) rfl ?_
    refine lv_icmp_ne (tgt := 37) hx hb dX2_isLike_19 (by decide) (fun c_19 => ?_) (fun c_19 => ?_)
    · refine lv_iconst (v := 0) hx hb dX2_isLike_37 (by decide) ?_
      exact hret _ _ _ _ _ _ dX2_isLike_38 w (by decide) ⟨by simp_all, rfl⟩
    · refine lv_aload_n hx hb dX2_isLike_22 rfl (lv_at hl 0 rfl) ?_
      refine pgI 2 2 (by decide) rfl (by decide) (Or.inl rfl) rfl C w hi2 (by decide +kernel) dX2_isLike_23 (oP2 hX (by assumption)) rfl ?_
      refine lv_aload_n hx hb dX2_isLike_26 rfl (lv_at hl 1 rfl) ?_
      refine pgI 2 2 (by decide) rfl (by decide) (Or.inl rfl) rfl C w hi2 (by decide +kernel) dX2_isLike_27 (oP2 hX (by assumption)) rfl ?_
      refine lv_icmp_ne (tgt := 37) hx hb dX2_isLike_30 (by decide) (fun c_30 => ?_) (fun c_30 => ?_)
      · refine lv_iconst (v := 0) hx hb dX2_isLike_37 (by decide) ?_
        exact hret _ _ _ _ _ _ dX2_isLike_38 w (by decide) ⟨by simp_all, rfl⟩
      · refine lv_iconst (v := 1) hx hb dX2_isLike_33 (by decide) ?_
        refine lv_goto (tgt := 38) hx hb dX2_isLike_34 (by decide) ?_
        exact hret _ _ _ _ _ _ dX2_isLike_38 w (by decide) ⟨by simp_all, rfl⟩

set_option maxHeartbeats 4000000 in
set_option maxRecDepth 100000 in
/-- Score.hasLevel -/
theorem c_X2_hasLevel (l : Launch) (G : GT) (hX : okX G) (S : PS) (r : Nat) (k : Int32) (hr : r < 79) : CtI l G yX2_hasLevel wsX2_hasLevel (rmK 0 0) [.ref (gA G 2 r), .int k] S (fun v S2 => v = (if k < 0 ∨ sI S 2 r 2 ≤ k then 0 else 1) ∧ S2 = S) := by
  refine ofCtZ (cc := cX2_hasLevel) (nL := 2) RX2 (by decide +kernel) rfl rfl (Nat.le_of_ble_eq_true rfl) ?_
  intro p e s m args below meth c A Q ls C w hl hret
  have hx := C.1
  have hb := C.2.1
  have hown := C.2.2.2.1
  have hts := C.2.2.2.2.1
  have hi2 : ∀ w ∈ wsX20, w ∈ wsX2_hasLevel := by decide +kernel
  refine lv_iload_n hx hb dX2_hasLevel_0 rfl (lv_at hl 1 rfl) ?_
  refine lv_if_lt (tgt := 16) hx hb dX2_hasLevel_1 (by decide) (fun c_1 => ?_) (fun c_1 => ?_)
  · refine lv_iconst (v := 0) hx hb dX2_hasLevel_16 (by decide) ?_
    exact hret _ _ _ _ _ _ dX2_hasLevel_17 w (by decide) ⟨by simp_all, rfl⟩
  · refine lv_iload_n hx hb dX2_hasLevel_4 rfl (lv_at hl 1 rfl) ?_
    refine lv_aload_n hx hb dX2_hasLevel_5 rfl (lv_at hl 0 rfl) ?_
    refine pgI 2 2 (by decide) rfl (by decide) (Or.inl rfl) rfl C w hi2 (by decide +kernel) dX2_hasLevel_6 (oP2 hX (by assumption)) rfl ?_
    refine lv_icmp_ge (tgt := 16) hx hb dX2_hasLevel_9 (by decide) (fun c_9 => ?_) (fun c_9 => ?_)
    · refine lv_iconst (v := 0) hx hb dX2_hasLevel_16 (by decide) ?_
      exact hret _ _ _ _ _ _ dX2_hasLevel_17 w (by decide) ⟨by simp_all, rfl⟩
    · refine lv_iconst (v := 1) hx hb dX2_hasLevel_12 (by decide) ?_
      refine lv_goto (tgt := 17) hx hb dX2_hasLevel_13 (by decide) ?_
      exact hret _ _ _ _ _ _ dX2_hasLevel_17 w (by decide) ⟨by simp_all, rfl⟩

set_option maxHeartbeats 4000000 in
set_option maxRecDepth 100000 in
/-- Score.isFeasible -/
theorem c_X2_isFeasible (l : Launch) (G : GT) (hX : okX G) (S : PS) (hS : lkX S) (r z : Nat) (hr : r < 79) (hz : sI S 2 r 1 = nI z) (hz12 : z ≤ 12) : CtI l G yX2_isFeasible wsX2_isFeasible (rmK 0 0) [.ref (gA G 2 r)] S (fun v S2 => ((v = 1 ∧ ∀ k, k < z → ¬ sJ S 9 r k < 0) ∨ (v = 0 ∧ ∃ k, k < z ∧ sJ S 9 r k < 0)) ∧ S2 = S) := by
  refine ofCtZ (cc := cX2_isFeasible) (nL := 2) RX2 (by decide +kernel) rfl rfl (Nat.le_of_ble_eq_true rfl) ?_
  intro p e s m args below meth c A Q ls C w hl hret
  have hx := C.1
  have hb := C.2.1
  have hown := C.2.2.2.1
  have hts := C.2.2.2.2.1
  have hi2 : ∀ w ∈ wsX20, w ∈ wsX2_isFeasible := by decide +kernel
  refine lv_iconst (v := 0) hx hb dX2_isFeasible_0 (by decide) ?_
  refine lv_istore_n hx hb dX2_isFeasible_1 rfl hl (by decide) rfl (fun ls hl => ?_)
  have loop_2 : ∀ (n : Nat) (k : Nat) (H : Heap) (locs : List Loc) (ls : Array Slot), k + n = z → (∀ j, j < k → ¬ sJ S 9 r j < 0) → Wd G A s.heap S H locs → lv_has ls 2 [(0, .ref (gA G 2 r)), (1, .int (nI k))] → W p l e (rmK 0 0) s m args below meth c H locs 0 0 Q (F0 m 2 ls []) := by
    intro n
    induction n with
    | zero =>
      intro k H locs ls hk hI w hl
      refine lv_iload_n hx hb dX2_isFeasible_2 rfl (lv_at hl 1 rfl) ?_
      refine lv_aload_n hx hb dX2_isFeasible_3 rfl (lv_at hl 0 rfl) ?_
      refine pgI 2 1 (by decide) rfl (by decide) (Or.inl rfl) rfl C w hi2 (by decide +kernel) dX2_isFeasible_4 (oP2 hX (by assumption)) hz ?_
      refine lv_icmp_ge (tgt := 29) hx hb dX2_isFeasible_7 (by decide) (fun c_7 => ?_) (fun c_7 => absurd (nI_le (by omega) (by omega)) c_7)
      refine lv_iconst (v := 1) hx hb dX2_isFeasible_29 (by decide) ?_
      exact hret _ _ _ _ _ _ dX2_isFeasible_30 w (by decide) ⟨Or.inl ⟨rfl, fun j hj => hI j (by omega)⟩, rfl⟩
    | succ n ih =>
      intro k H locs ls hk hI w hl
      refine lv_iload_n hx hb dX2_isFeasible_2 rfl (lv_at hl 1 rfl) ?_
      refine lv_aload_n hx hb dX2_isFeasible_3 rfl (lv_at hl 0 rfl) ?_
      refine pgI 2 1 (by decide) rfl (by decide) (Or.inl rfl) rfl C w hi2 (by decide +kernel) dX2_isFeasible_4 (oP2 hX (by assumption)) hz ?_
      refine lv_icmp_ge (tgt := 29) hx hb dX2_isFeasible_7 (by decide) (fun c_7 => absurd c_7 (nI_ge (by omega) (by omega))) (fun c_7 => ?_)
      refine lv_aload_n hx hb dX2_isFeasible_10 rfl (lv_at hl 0 rfl) ?_
      refine pgQ 2 3 9 (by decide) rfl (by decide) rfl rfl C w hi2 (by decide +kernel) dX2_isFeasible_11 (oP2 hX (by assumption)) (lk2 hS (by assumption)) ?_
      refine lv_iload_n hx hb dX2_isFeasible_14 rfl (lv_at hl 1 rfl) ?_
      refine paJ C w dX2_isFeasible_15 (oP9 hX (by assumption)) rfl (oN9 hX (by assumption)) (by omega) (by decide) rfl ?_
      refine lv_lconst (v := 0) hx hb dX2_isFeasible_16 (by decide) ?_
      refine W.lcmp hx hb dX2_isFeasible_17 ?_
      refine lv_if_ge (tgt := 23) hx hb dX2_isFeasible_18 (by decide) (fun c_18 => ?_) (fun c_18 => ?_)
      · rw [lg_cmp_ge] at c_18
        refine lv_iinc (v := nI (k + 1)) hx hb dX2_isFeasible_23 hl (k := 1) rfl (nI_1 k) (by decide) rfl (fun ls hl => ?_)
        refine lv_goto (tgt := 2) hx hb dX2_isFeasible_26 (by decide) ?_
        exact ih (k + 1) _ _ _ (by omega) (lt_s hI (Int64.not_lt.mpr c_18)) w (lv_sub hl [1, 0] rfl)
      · rw [lg_cmp_ge] at c_18
        refine lv_iconst (v := 0) hx hb dX2_isFeasible_21 (by decide) ?_
        exact hret _ _ _ _ _ _ dX2_isFeasible_22 w (by decide) ⟨Or.inr ⟨rfl, k, by omega, Int64.not_le.mp c_18⟩, rfl⟩
  exact loop_2 z 0 _ _ _ (by omega) lt_0 w (lv_sub hl [1, 0] rfl)

set_option maxHeartbeats 4000000 in
set_option maxRecDepth 100000 in
/-- Score.compareWith -/
theorem c_X2_compareWith (l : Launch) (G : GT) (hX : okX G) (S : PS) (hS : lkX S) (r o z : Nat) (hr : r < 79) (ho : o < 79) (hz : sI S 2 r 2 = nI z) (hz12 : z ≤ 12) : CtI l G yX2_compareWith wsX2_compareWith (rmK 0 0) [.ref (gA G 2 r), .ref (gA G 2 o)] S (fun v S2 => v = cmpG (sJ S 9 r) (sJ S 9 o) z 0 ∧ S2 = S) := by
  refine ofCtI (cc := cX2_compareWith) (nL := 3) RX2 (by decide +kernel) rfl rfl (Nat.le_of_ble_eq_true rfl) ?_
  intro p e s m args below meth c A Q ls C w hl hret
  have hx := C.1
  have hb := C.2.1
  have hown := C.2.2.2.1
  have hts := C.2.2.2.2.1
  have hi2 : ∀ w ∈ wsX20, w ∈ wsX2_compareWith := by decide +kernel
  refine lv_iconst (v := 0) hx hb dX2_compareWith_0 (by decide) ?_
  refine lv_istore_n hx hb dX2_compareWith_1 rfl hl (by decide) rfl (fun ls hl => ?_)
  have loop_2 : ∀ (n : Nat) (k : Nat) (H : Heap) (locs : List Loc) (ls : Array Slot), k + n = z → cmpG (sJ S 9 r) (sJ S 9 o) z 0 = cmpG (sJ S 9 r) (sJ S 9 o) n k → Wd G A s.heap S H locs → lv_has ls 3 [(0, .ref (gA G 2 r)), (1, .ref (gA G 2 o)), (2, .int (nI k))] → W p l e (rmK 0 0) s m args below meth c H locs 0 0 Q (F0 m 2 ls []) := by
    intro n
    induction n with
    | zero =>
      intro k H locs ls hk hI w hl
      refine lv_iload_n hx hb dX2_compareWith_2 rfl (lv_at hl 2 rfl) ?_
      refine lv_aload_n hx hb dX2_compareWith_3 rfl (lv_at hl 0 rfl) ?_
      refine pgI 2 2 (by decide) rfl (by decide) (Or.inl rfl) rfl C w hi2 (by decide +kernel) dX2_compareWith_4 (oP2 hX (by assumption)) hz ?_
      refine lv_icmp_ge (tgt := 54) hx hb dX2_compareWith_7 (by decide) (fun c_7 => ?_) (fun c_7 => absurd (nI_le (by omega) (by omega)) c_7)
      refine lv_iconst (v := 0) hx hb dX2_compareWith_54 (by decide) ?_
      exact hret _ _ _ _ _ _ dX2_compareWith_55 w ⟨hI.symm, rfl⟩
    | succ n ih =>
      intro k H locs ls hk hI w hl
      refine lv_iload_n hx hb dX2_compareWith_2 rfl (lv_at hl 2 rfl) ?_
      refine lv_aload_n hx hb dX2_compareWith_3 rfl (lv_at hl 0 rfl) ?_
      refine pgI 2 2 (by decide) rfl (by decide) (Or.inl rfl) rfl C w hi2 (by decide +kernel) dX2_compareWith_4 (oP2 hX (by assumption)) hz ?_
      refine lv_icmp_ge (tgt := 54) hx hb dX2_compareWith_7 (by decide) (fun c_7 => absurd c_7 (nI_ge (by omega) (by omega))) (fun c_7 => ?_)
      refine lv_aload_n hx hb dX2_compareWith_10 rfl (lv_at hl 0 rfl) ?_
      refine pgQ 2 3 9 (by decide) rfl (by decide) rfl rfl C w hi2 (by decide +kernel) dX2_compareWith_11 (oP2 hX (by assumption)) (lk2 hS (by assumption)) ?_
      refine lv_iload_n hx hb dX2_compareWith_14 rfl (lv_at hl 2 rfl) ?_
      refine paJ C w dX2_compareWith_15 (oP9 hX (by assumption)) rfl (oN9 hX (by assumption)) (by omega) (by decide) rfl ?_
      refine lv_aload_n hx hb dX2_compareWith_16 rfl (lv_at hl 1 rfl) ?_
      refine pgQ 2 3 9 (by decide) rfl (by decide) rfl rfl C w hi2 (by decide +kernel) dX2_compareWith_17 (oP2 hX (by assumption)) (lk2 hS (by assumption)) ?_
      refine lv_iload_n hx hb dX2_compareWith_20 rfl (lv_at hl 2 rfl) ?_
      refine paJ C w dX2_compareWith_21 (oP9 hX (by assumption)) rfl (oN9 hX (by assumption)) (by omega) (by decide) rfl ?_
      refine W.lcmp hx hb dX2_compareWith_22 ?_
      refine lv_if_eq (tgt := 48) hx hb dX2_compareWith_23 (by decide) (fun c_23 => ?_) (fun c_23 => ?_)
      · rw [lg_cmp_eq] at c_23
        refine lv_iinc (v := nI (k + 1)) hx hb dX2_compareWith_48 hl (k := 2) rfl (nI_1 k) (by decide) rfl (fun ls hl => ?_)
        refine lv_goto (tgt := 2) hx hb dX2_compareWith_51 (by decide) ?_
        exact ih (k + 1) _ _ _ (by omega) (by rw [hI, cmpG, if_pos c_23]) w (lv_sub hl [1, 2, 0] rfl)
      · rw [lg_cmp_eq] at c_23
        refine lv_aload_n hx hb dX2_compareWith_26 rfl (lv_at hl 0 rfl) ?_
        refine pgQ 2 3 9 (by decide) rfl (by decide) rfl rfl C w hi2 (by decide +kernel) dX2_compareWith_27 (oP2 hX (by assumption)) (lk2 hS (by assumption)) ?_
        refine lv_iload_n hx hb dX2_compareWith_30 rfl (lv_at hl 2 rfl) ?_
        refine paJ C w dX2_compareWith_31 (oP9 hX (by assumption)) rfl (oN9 hX (by assumption)) (by omega) (by decide) rfl ?_
        refine lv_aload_n hx hb dX2_compareWith_32 rfl (lv_at hl 1 rfl) ?_
        refine pgQ 2 3 9 (by decide) rfl (by decide) rfl rfl C w hi2 (by decide +kernel) dX2_compareWith_33 (oP2 hX (by assumption)) (lk2 hS (by assumption)) ?_
        refine lv_iload_n hx hb dX2_compareWith_36 rfl (lv_at hl 2 rfl) ?_
        refine paJ C w dX2_compareWith_37 (oP9 hX (by assumption)) rfl (oN9 hX (by assumption)) (by omega) (by decide) rfl ?_
        refine W.lcmp hx hb dX2_compareWith_38 ?_
        refine lv_if_ge (tgt := 46) hx hb dX2_compareWith_39 (by decide) (fun c_39 => ?_) (fun c_39 => ?_)
        · rw [lg_cmp_ge] at c_39
          refine lv_iconst (v := 1) hx hb dX2_compareWith_46 (by decide) ?_
          exact hret _ _ _ _ _ _ dX2_compareWith_47 w ⟨by rw [hI, cmpG, if_neg c_23]; first | rw [if_pos (Int64.not_le.mp c_39)] | rw [if_neg (Int64.not_lt.mpr c_39)], rfl⟩
        · rw [lg_cmp_ge] at c_39
          refine lv_iconst (v := (-1)) hx hb dX2_compareWith_42 (by decide) ?_
          refine lv_goto (tgt := 47) hx hb dX2_compareWith_43 (by decide) ?_
          exact hret _ _ _ _ _ _ dX2_compareWith_47 w ⟨by rw [hI, cmpG, if_neg c_23]; first | rw [if_pos (Int64.not_le.mp c_39)] | rw [if_neg (Int64.not_lt.mpr c_39)], rfl⟩
  exact loop_2 z 0 _ _ _ (by omega) rfl w (lv_sub hl [1, 2, 0] rfl)
end
section
set_option maxHeartbeats 4000000 in
set_option maxRecDepth 100000 in
/-- Score.becomeSum -/
theorem c_X2_becomeSum (l : Launch) (G : GT) (hX : okX G) (S : PS) (hS : lkX S) (r a b z : Nat) (hr : r < 79) (ha : a < 79) (hb2 : b < 79) (hna : a ≠ r) (hnb : b ≠ r) (hz : sI S 2 a 2 = nI z) (hz12 : z ≤ 12) : CtI l G yX2_becomeSum wsX2_becomeSum (rmK 2 44) [.ref (gA G 2 r), .ref (gA G 2 a), .ref (gA G 2 b)] S (fun v S2 => (v = 1 ∧ (∀ k, k < z → ¬ ((sJ S 9 a k ^^^ (sJ S 9 a k + sJ S 9 b k)) &&& (sJ S 9 b k ^^^ (sJ S 9 a k + sJ S 9 b k)) < 0)) ∧ S2 = (rwk (fm S r (sI S 2 a 0) (sI S 2 a 1) (sI S 2 a 2)) r (fun j => sJ S 9 a j + sJ S 9 b j) (sJ S 9 r) z)) ∨ (v = 0 ∧ (∃ k, k < z ∧ ((sJ S 9 a k ^^^ (sJ S 9 a k + sJ S 9 b k)) &&& (sJ S 9 b k ^^^ (sJ S 9 a k + sJ S 9 b k)) < 0)) ∧ ∃ f, S2 = rw9 (fm S r (sI S 2 a 0) (sI S 2 a 1) (sI S 2 a 2)) r f)) := by
  refine ofCtZ (cc := cX2_becomeSum) (nL := 10) RX2 (by decide +kernel) rfl rfl (Nat.le_of_ble_eq_true rfl) ?_
  intro p e s m args below meth c A Q ls C w hl hret
  have hx := C.1
  have hb := C.2.1
  have hown := C.2.2.2.1
  have hts := C.2.2.2.2.1
  have hi2 : ∀ w ∈ wsX20, w ∈ wsX2_becomeSum := by decide +kernel
  refine lv_aload_n hx hb dX2_becomeSum_0 rfl (lv_at hl 0 rfl) ?_
  refine lv_aload_n hx hb dX2_becomeSum_1 rfl (lv_at hl 1 rfl) ?_
  refine cvV (n := 1) C w hl dX2_becomeSum_2 (c_X2_formLike l G hX S _ _ (by assumption) (by assumption)) gX2_becomeSum_X2_formLike rfl (by decide +kernel) rfl rfl (Nat.le_of_ble_eq_true rfl) ⟨by decide, by decide⟩ (by decide) rfl (oP2 hX (by assumption)) (fun S2 H locs hp w => ?_)
  subst hp
  refine lv_iconst (v := 0) hx hb dX2_becomeSum_5 (by decide) ?_
  refine lv_istore_n hx hb dX2_becomeSum_6 rfl hl (by decide) rfl (fun ls hl => ?_)
  have loop_7 : ∀ (n : Nat) (k : Nat) (H : Heap) (locs : List Loc) (ls : Array Slot), k + n = z → (∀ j, j < k → ¬ ((sJ S 9 a j ^^^ (sJ S 9 a j + sJ S 9 b j)) &&& (sJ S 9 b j ^^^ (sJ S 9 a j + sJ S 9 b j)) < 0)) → Wd G A s.heap (rwk (fm S r (sI S 2 a 0) (sI S 2 a 1) (sI S 2 a 2)) r (fun j => sJ S 9 a j + sJ S 9 b j) (sJ S 9 r) k) H locs → lv_has ls 10 [(0, .ref (gA G 2 r)), (1, .ref (gA G 2 a)), (2, .ref (gA G 2 b)), (3, .int (nI k))] → W p l e (rmK 2 44) s m args below meth c H locs 0 0 Q (F0 m 7 ls []) := by
    intro n
    induction n with
    | zero =>
      intro k H locs ls hk hI w hl
      refine lv_iload_n hx hb dX2_becomeSum_7 rfl (lv_at hl 3 rfl) ?_
      refine lv_aload_n hx hb dX2_becomeSum_8 rfl (lv_at hl 0 rfl) ?_
      refine pgI 2 2 (by decide) rfl (by decide) (Or.inl rfl) rfl C w hi2 (by decide +kernel) dX2_becomeSum_9 (oP2 hX (by assumption)) (v := nI z) (by rw [sI_rwk, sI_fm2]; exact hz) ?_
      refine lv_icmp_ge (tgt := 70) hx hb dX2_becomeSum_12 (by decide) (fun c_12 => ?_) (fun c_12 => absurd (nI_le (by omega) (by omega)) c_12)
      have e : k = z := by omega
      subst e
      refine lv_iconst (v := 1) hx hb dX2_becomeSum_70 (by decide) ?_
      exact hret _ _ _ _ _ _ dX2_becomeSum_71 w (by decide) (Or.inl ⟨rfl, hI, rfl⟩)
    | succ n ih =>
      intro k H locs ls hk hI w hl
      refine lv_iload_n hx hb dX2_becomeSum_7 rfl (lv_at hl 3 rfl) ?_
      refine lv_aload_n hx hb dX2_becomeSum_8 rfl (lv_at hl 0 rfl) ?_
      refine pgI 2 2 (by decide) rfl (by decide) (Or.inl rfl) rfl C w hi2 (by decide +kernel) dX2_becomeSum_9 (oP2 hX (by assumption)) (v := nI z) (by rw [sI_rwk, sI_fm2]; exact hz) ?_
      refine lv_icmp_ge (tgt := 70) hx hb dX2_becomeSum_12 (by decide) (fun c_12 => absurd c_12 (nI_ge (by omega) (by omega))) (fun c_12 => ?_)
      refine lv_aload_n hx hb dX2_becomeSum_15 rfl (lv_at hl 1 rfl) ?_
      refine pgQ 2 3 9 (by decide) rfl (by decide) rfl rfl C w hi2 (by decide +kernel) dX2_becomeSum_16 (oP2 hX (by assumption)) (lk2 hS (by assumption)) ?_
      refine lv_iload_n hx hb dX2_becomeSum_19 rfl (lv_at hl 3 rfl) ?_
      refine paJ C w dX2_becomeSum_20 (oP9 hX (by assumption)) rfl (oN9 hX (by assumption)) (by omega) (by decide) (v := sJ S 9 a k) (by rw [sJ_rwk_n hna]; rfl) ?_
      refine lv_lstore hx hb dX2_becomeSum_21 hl (by decide) rfl (fun ls hl => ?_)
      refine lv_aload_n hx hb dX2_becomeSum_23 rfl (lv_at hl 3 rfl) ?_
      refine pgQ 2 3 9 (by decide) rfl (by decide) rfl rfl C w hi2 (by decide +kernel) dX2_becomeSum_24 (oP2 hX (by assumption)) (lk2 hS (by assumption)) ?_
      refine lv_iload_n hx hb dX2_becomeSum_27 rfl (lv_at hl 4 rfl) ?_
      refine paJ C w dX2_becomeSum_28 (oP9 hX (by assumption)) rfl (oN9 hX (by assumption)) (by omega) (by decide) (v := sJ S 9 b k) (by rw [sJ_rwk_n hnb]; rfl) ?_
      refine lv_lstore hx hb dX2_becomeSum_29 hl (by decide) rfl (fun ls hl => ?_)
      refine lv_lload hx hb dX2_becomeSum_31 (lv_at hl 1 rfl) ?_
      refine lv_lload hx hb dX2_becomeSum_33 (lv_at hl 0 rfl) ?_
      refine lv_ladd hx hb dX2_becomeSum_35 ?_
      refine lv_lstore hx hb dX2_becomeSum_36 hl (by decide) rfl (fun ls hl => ?_)
      refine lv_lload hx hb dX2_becomeSum_38 (lv_at hl 2 rfl) ?_
      refine lv_lload hx hb dX2_becomeSum_40 (lv_at hl 0 rfl) ?_
      refine lv_lxor hx hb dX2_becomeSum_42 ?_
      refine lv_lload hx hb dX2_becomeSum_43 (lv_at hl 1 rfl) ?_
      refine lv_lload hx hb dX2_becomeSum_45 (lv_at hl 0 rfl) ?_
      refine lv_lxor hx hb dX2_becomeSum_47 ?_
      refine lv_land hx hb dX2_becomeSum_48 ?_
      refine lv_lconst (v := 0) hx hb dX2_becomeSum_49 (by decide) ?_
      refine W.lcmp hx hb dX2_becomeSum_50 ?_
      refine lv_if_ge (tgt := 56) hx hb dX2_becomeSum_51 (by decide) (fun c_51 => ?_) (fun c_51 => ?_)
      · rw [lg_cmp_ge] at c_51
        refine lv_aload_n hx hb dX2_becomeSum_56 rfl (lv_at hl 3 rfl) ?_
        refine pgQ 2 3 9 (by decide) rfl (by decide) rfl rfl C w hi2 (by decide +kernel) dX2_becomeSum_57 (oP2 hX (by assumption)) (lk2 hS (by assumption)) ?_
        refine lv_iload_n hx hb dX2_becomeSum_60 rfl (lv_at hl 6 rfl) ?_
        refine lv_lload hx hb dX2_becomeSum_61 (lv_at hl 0 rfl) ?_
        refine psJ C w dX2_becomeSum_63 (oP9 hX (by assumption)) rfl (oN9 hX (by assumption)) (by omega) (by decide) (fun H locs w => ?_)
        refine lv_iinc (v := nI (k + 1)) hx hb dX2_becomeSum_64 hl (k := 6) rfl (nI_1 k) (by decide) rfl (fun ls hl => ?_)
        refine lv_goto (tgt := 7) hx hb dX2_becomeSum_67 (by decide) ?_
        rw [rwk_s rfl] at w
        exact ih (k + 1) _ _ _ (by omega) (lt_s hI (Int64.not_lt.mpr c_51)) w (lv_sub hl [4, 5, 6, 0] rfl)
      · rw [lg_cmp_ge] at c_51
        refine lv_iconst (v := 0) hx hb dX2_becomeSum_54 (by decide) ?_
        exact hret _ _ _ _ _ _ dX2_becomeSum_55 w (by decide) (Or.inr ⟨rfl, ⟨k, by omega, Int64.not_le.mp c_51⟩, _, rfl⟩)
  exact loop_7 z 0 _ _ _ (by omega) lt_0 (by rw [rwk_0 (S := fm S r _ _ _) (o := sJ S 9 r) (fun _ => rfl)]; exact w) (lv_sub hl [1, 2, 3, 0] rfl)

set_option maxHeartbeats 4000000 in
set_option maxRecDepth 100000 in
/-- Score.becomeDifference -/
theorem c_X2_becomeDifference (l : Launch) (G : GT) (hX : okX G) (S : PS) (hS : lkX S) (r a b z : Nat) (hr : r < 79) (ha : a < 79) (hb2 : b < 79) (hna : a ≠ r) (hnb : b ≠ r) (hz : sI S 2 a 2 = nI z) (hz12 : z ≤ 12) : CtI l G yX2_becomeDifference wsX2_becomeDifference (rmK 2 44) [.ref (gA G 2 r), .ref (gA G 2 a), .ref (gA G 2 b)] S (fun v S2 => (v = 1 ∧ (∀ k, k < z → ¬ ((sJ S 9 a k ^^^ sJ S 9 b k) &&& (sJ S 9 a k ^^^ (sJ S 9 a k - sJ S 9 b k)) < 0)) ∧ S2 = (rwk (fm S r (sI S 2 a 0) (sI S 2 a 1) (sI S 2 a 2)) r (fun j => sJ S 9 a j - sJ S 9 b j) (sJ S 9 r) z)) ∨ (v = 0 ∧ (∃ k, k < z ∧ ((sJ S 9 a k ^^^ sJ S 9 b k) &&& (sJ S 9 a k ^^^ (sJ S 9 a k - sJ S 9 b k)) < 0)) ∧ ∃ f, S2 = rw9 (fm S r (sI S 2 a 0) (sI S 2 a 1) (sI S 2 a 2)) r f)) := by
  refine ofCtZ (cc := cX2_becomeDifference) (nL := 10) RX2 (by decide +kernel) rfl rfl (Nat.le_of_ble_eq_true rfl) ?_
  intro p e s m args below meth c A Q ls C w hl hret
  have hx := C.1
  have hb := C.2.1
  have hown := C.2.2.2.1
  have hts := C.2.2.2.2.1
  have hi2 : ∀ w ∈ wsX20, w ∈ wsX2_becomeDifference := by decide +kernel
  refine lv_aload_n hx hb dX2_becomeDifference_0 rfl (lv_at hl 0 rfl) ?_
  refine lv_aload_n hx hb dX2_becomeDifference_1 rfl (lv_at hl 1 rfl) ?_
  refine cvV (n := 1) C w hl dX2_becomeDifference_2 (c_X2_formLike l G hX S _ _ (by assumption) (by assumption)) gX2_becomeDifference_X2_formLike rfl (by decide +kernel) rfl rfl (Nat.le_of_ble_eq_true rfl) ⟨by decide, by decide⟩ (by decide) rfl (oP2 hX (by assumption)) (fun S2 H locs hp w => ?_)
  subst hp
  refine lv_iconst (v := 0) hx hb dX2_becomeDifference_5 (by decide) ?_
  refine lv_istore_n hx hb dX2_becomeDifference_6 rfl hl (by decide) rfl (fun ls hl => ?_)
  have loop_7 : ∀ (n : Nat) (k : Nat) (H : Heap) (locs : List Loc) (ls : Array Slot), k + n = z → (∀ j, j < k → ¬ ((sJ S 9 a j ^^^ sJ S 9 b j) &&& (sJ S 9 a j ^^^ (sJ S 9 a j - sJ S 9 b j)) < 0)) → Wd G A s.heap (rwk (fm S r (sI S 2 a 0) (sI S 2 a 1) (sI S 2 a 2)) r (fun j => sJ S 9 a j - sJ S 9 b j) (sJ S 9 r) k) H locs → lv_has ls 10 [(0, .ref (gA G 2 r)), (1, .ref (gA G 2 a)), (2, .ref (gA G 2 b)), (3, .int (nI k))] → W p l e (rmK 2 44) s m args below meth c H locs 0 0 Q (F0 m 7 ls []) := by
    intro n
    induction n with
    | zero =>
      intro k H locs ls hk hI w hl
      refine lv_iload_n hx hb dX2_becomeDifference_7 rfl (lv_at hl 3 rfl) ?_
      refine lv_aload_n hx hb dX2_becomeDifference_8 rfl (lv_at hl 0 rfl) ?_
      refine pgI 2 2 (by decide) rfl (by decide) (Or.inl rfl) rfl C w hi2 (by decide +kernel) dX2_becomeDifference_9 (oP2 hX (by assumption)) (v := nI z) (by rw [sI_rwk, sI_fm2]; exact hz) ?_
      refine lv_icmp_ge (tgt := 70) hx hb dX2_becomeDifference_12 (by decide) (fun c_12 => ?_) (fun c_12 => absurd (nI_le (by omega) (by omega)) c_12)
      have e : k = z := by omega
      subst e
      refine lv_iconst (v := 1) hx hb dX2_becomeDifference_70 (by decide) ?_
      exact hret _ _ _ _ _ _ dX2_becomeDifference_71 w (by decide) (Or.inl ⟨rfl, hI, rfl⟩)
    | succ n ih =>
      intro k H locs ls hk hI w hl
      refine lv_iload_n hx hb dX2_becomeDifference_7 rfl (lv_at hl 3 rfl) ?_
      refine lv_aload_n hx hb dX2_becomeDifference_8 rfl (lv_at hl 0 rfl) ?_
      refine pgI 2 2 (by decide) rfl (by decide) (Or.inl rfl) rfl C w hi2 (by decide +kernel) dX2_becomeDifference_9 (oP2 hX (by assumption)) (v := nI z) (by rw [sI_rwk, sI_fm2]; exact hz) ?_
      refine lv_icmp_ge (tgt := 70) hx hb dX2_becomeDifference_12 (by decide) (fun c_12 => absurd c_12 (nI_ge (by omega) (by omega))) (fun c_12 => ?_)
      refine lv_aload_n hx hb dX2_becomeDifference_15 rfl (lv_at hl 1 rfl) ?_
      refine pgQ 2 3 9 (by decide) rfl (by decide) rfl rfl C w hi2 (by decide +kernel) dX2_becomeDifference_16 (oP2 hX (by assumption)) (lk2 hS (by assumption)) ?_
      refine lv_iload_n hx hb dX2_becomeDifference_19 rfl (lv_at hl 3 rfl) ?_
      refine paJ C w dX2_becomeDifference_20 (oP9 hX (by assumption)) rfl (oN9 hX (by assumption)) (by omega) (by decide) (v := sJ S 9 a k) (by rw [sJ_rwk_n hna]; rfl) ?_
      refine lv_lstore hx hb dX2_becomeDifference_21 hl (by decide) rfl (fun ls hl => ?_)
      refine lv_aload_n hx hb dX2_becomeDifference_23 rfl (lv_at hl 3 rfl) ?_
      refine pgQ 2 3 9 (by decide) rfl (by decide) rfl rfl C w hi2 (by decide +kernel) dX2_becomeDifference_24 (oP2 hX (by assumption)) (lk2 hS (by assumption)) ?_
      refine lv_iload_n hx hb dX2_becomeDifference_27 rfl (lv_at hl 4 rfl) ?_
      refine paJ C w dX2_becomeDifference_28 (oP9 hX (by assumption)) rfl (oN9 hX (by assumption)) (by omega) (by decide) (v := sJ S 9 b k) (by rw [sJ_rwk_n hnb]; rfl) ?_
      refine lv_lstore hx hb dX2_becomeDifference_29 hl (by decide) rfl (fun ls hl => ?_)
      refine lv_lload hx hb dX2_becomeDifference_31 (lv_at hl 1 rfl) ?_
      refine lv_lload hx hb dX2_becomeDifference_33 (lv_at hl 0 rfl) ?_
      refine lv_lsub hx hb dX2_becomeDifference_35 ?_
      refine lv_lstore hx hb dX2_becomeDifference_36 hl (by decide) rfl (fun ls hl => ?_)
      refine lv_lload hx hb dX2_becomeDifference_38 (lv_at hl 2 rfl) ?_
      refine lv_lload hx hb dX2_becomeDifference_40 (lv_at hl 1 rfl) ?_
      refine lv_lxor hx hb dX2_becomeDifference_42 ?_
      refine lv_lload hx hb dX2_becomeDifference_43 (lv_at hl 2 rfl) ?_
      refine lv_lload hx hb dX2_becomeDifference_45 (lv_at hl 0 rfl) ?_
      refine lv_lxor hx hb dX2_becomeDifference_47 ?_
      refine lv_land hx hb dX2_becomeDifference_48 ?_
      refine lv_lconst (v := 0) hx hb dX2_becomeDifference_49 (by decide) ?_
      refine W.lcmp hx hb dX2_becomeDifference_50 ?_
      refine lv_if_ge (tgt := 56) hx hb dX2_becomeDifference_51 (by decide) (fun c_51 => ?_) (fun c_51 => ?_)
      · rw [lg_cmp_ge] at c_51
        refine lv_aload_n hx hb dX2_becomeDifference_56 rfl (lv_at hl 3 rfl) ?_
        refine pgQ 2 3 9 (by decide) rfl (by decide) rfl rfl C w hi2 (by decide +kernel) dX2_becomeDifference_57 (oP2 hX (by assumption)) (lk2 hS (by assumption)) ?_
        refine lv_iload_n hx hb dX2_becomeDifference_60 rfl (lv_at hl 6 rfl) ?_
        refine lv_lload hx hb dX2_becomeDifference_61 (lv_at hl 0 rfl) ?_
        refine psJ C w dX2_becomeDifference_63 (oP9 hX (by assumption)) rfl (oN9 hX (by assumption)) (by omega) (by decide) (fun H locs w => ?_)
        refine lv_iinc (v := nI (k + 1)) hx hb dX2_becomeDifference_64 hl (k := 6) rfl (nI_1 k) (by decide) rfl (fun ls hl => ?_)
        refine lv_goto (tgt := 7) hx hb dX2_becomeDifference_67 (by decide) ?_
        rw [rwk_s rfl] at w
        exact ih (k + 1) _ _ _ (by omega) (lt_s hI (Int64.not_lt.mpr c_51)) w (lv_sub hl [4, 5, 6, 0] rfl)
      · rw [lg_cmp_ge] at c_51
        refine lv_iconst (v := 0) hx hb dX2_becomeDifference_54 (by decide) ?_
        exact hret _ _ _ _ _ _ dX2_becomeDifference_55 w (by decide) (Or.inr ⟨rfl, ⟨k, by omega, Int64.not_le.mp c_51⟩, _, rfl⟩)
  exact loop_7 z 0 _ _ _ (by omega) lt_0 (by rw [rwk_0 (S := fm S r _ _ _) (o := sJ S 9 r) (fun _ => rfl)]; exact w) (lv_sub hl [1, 2, 3, 0] rfl)

set_option maxHeartbeats 4000000 in
set_option maxRecDepth 100000 in
/-- Score.becomeGreaterLevels -/
theorem c_X2_becomeGreaterLevels (l : Launch) (G : GT) (hX : okX G) (S : PS) (hS : lkX S) (r a b z : Nat) (hr : r < 79) (ha : a < 79) (hb2 : b < 79) (hna : a ≠ r) (hnb : b ≠ r) (hz : sI S 2 a 2 = nI z) (hz12 : z ≤ 12) : CtV l G yX2_becomeGreaterLevels wsX2_becomeGreaterLevels (rmK 2 44) [.ref (gA G 2 r), .ref (gA G 2 a), .ref (gA G 2 b)] S (fun S2 => S2 = (rwk (fm S r (sI S 2 a 0) (sI S 2 a 1) (sI S 2 a 2)) r (fun j => if sJ S 9 b j < sJ S 9 a j then sJ S 9 a j else sJ S 9 b j) (sJ S 9 r) z)) := by
  refine ofCtV (cc := cX2_becomeGreaterLevels) (nL := 4) RX2 (by decide +kernel) rfl rfl (Nat.le_of_ble_eq_true rfl) ?_
  intro p e s m args below meth c A Q ls C w hl hret
  have hx := C.1
  have hb := C.2.1
  have hown := C.2.2.2.1
  have hts := C.2.2.2.2.1
  have hi2 : ∀ w ∈ wsX20, w ∈ wsX2_becomeGreaterLevels := by decide +kernel
  refine lv_aload_n hx hb dX2_becomeGreaterLevels_0 rfl (lv_at hl 0 rfl) ?_
  refine lv_aload_n hx hb dX2_becomeGreaterLevels_1 rfl (lv_at hl 1 rfl) ?_
  refine cvV (n := 1) C w hl dX2_becomeGreaterLevels_2 (c_X2_formLike l G hX S _ _ (by assumption) (by assumption)) gX2_becomeGreaterLevels_X2_formLike rfl (by decide +kernel) rfl rfl (Nat.le_of_ble_eq_true rfl) ⟨by decide, by decide⟩ (by decide) rfl (oP2 hX (by assumption)) (fun S2 H locs hp w => ?_)
  subst hp
  refine lv_iconst (v := 0) hx hb dX2_becomeGreaterLevels_5 (by decide) ?_
  refine lv_istore_n hx hb dX2_becomeGreaterLevels_6 rfl hl (by decide) rfl (fun ls hl => ?_)
  have loop_7 : ∀ (n : Nat) (k : Nat) (H : Heap) (locs : List Loc) (ls : Array Slot), k + n = z → Wd G A s.heap (rwk (fm S r (sI S 2 a 0) (sI S 2 a 1) (sI S 2 a 2)) r (fun j => if sJ S 9 b j < sJ S 9 a j then sJ S 9 a j else sJ S 9 b j) (sJ S 9 r) k) H locs → lv_has ls 4 [(0, .ref (gA G 2 r)), (1, .ref (gA G 2 a)), (2, .ref (gA G 2 b)), (3, .int (nI k))] → W p l e (rmK 2 44) s m args below meth c H locs 0 0 Q (F0 m 7 ls []) := by
    intro n
    induction n with
    | zero =>
      intro k H locs ls hk w hl
      refine lv_iload_n hx hb dX2_becomeGreaterLevels_7 rfl (lv_at hl 3 rfl) ?_
      refine lv_aload_n hx hb dX2_becomeGreaterLevels_8 rfl (lv_at hl 0 rfl) ?_
      refine pgI 2 2 (by decide) rfl (by decide) (Or.inl rfl) rfl C w hi2 (by decide +kernel) dX2_becomeGreaterLevels_9 (oP2 hX (by assumption)) (v := nI z) (by rw [sI_rwk, sI_fm2]; exact hz) ?_
      refine lv_icmp_ge (tgt := 42) hx hb dX2_becomeGreaterLevels_12 (by decide) (fun c_12 => ?_) (fun c_12 => absurd (nI_le (by omega) (by omega)) c_12)
      have e : k = z := by omega
      subst e
      exact hret _ _ _ _ _ dX2_becomeGreaterLevels_42 w rfl
    | succ n ih =>
      intro k H locs ls hk w hl
      refine lv_iload_n hx hb dX2_becomeGreaterLevels_7 rfl (lv_at hl 3 rfl) ?_
      refine lv_aload_n hx hb dX2_becomeGreaterLevels_8 rfl (lv_at hl 0 rfl) ?_
      refine pgI 2 2 (by decide) rfl (by decide) (Or.inl rfl) rfl C w hi2 (by decide +kernel) dX2_becomeGreaterLevels_9 (oP2 hX (by assumption)) (v := nI z) (by rw [sI_rwk, sI_fm2]; exact hz) ?_
      refine lv_icmp_ge (tgt := 42) hx hb dX2_becomeGreaterLevels_12 (by decide) (fun c_12 => absurd c_12 (nI_ge (by omega) (by omega))) (fun c_12 => ?_)
      refine lv_aload_n hx hb dX2_becomeGreaterLevels_15 rfl (lv_at hl 0 rfl) ?_
      refine pgQ 2 3 9 (by decide) rfl (by decide) rfl rfl C w hi2 (by decide +kernel) dX2_becomeGreaterLevels_16 (oP2 hX (by assumption)) (lk2 hS (by assumption)) ?_
      refine lv_iload_n hx hb dX2_becomeGreaterLevels_19 rfl (lv_at hl 3 rfl) ?_
      refine lv_aload_n hx hb dX2_becomeGreaterLevels_20 rfl (lv_at hl 1 rfl) ?_
      refine pgQ 2 3 9 (by decide) rfl (by decide) rfl rfl C w hi2 (by decide +kernel) dX2_becomeGreaterLevels_21 (oP2 hX (by assumption)) (lk2 hS (by assumption)) ?_
      refine lv_iload_n hx hb dX2_becomeGreaterLevels_24 rfl (lv_at hl 3 rfl) ?_
      refine paJ C w dX2_becomeGreaterLevels_25 (oP9 hX (by assumption)) rfl (oN9 hX (by assumption)) (by omega) (by decide) (v := sJ S 9 a k) (by rw [sJ_rwk_n hna]; rfl) ?_
      refine lv_aload_n hx hb dX2_becomeGreaterLevels_26 rfl (lv_at hl 2 rfl) ?_
      refine pgQ 2 3 9 (by decide) rfl (by decide) rfl rfl C w hi2 (by decide +kernel) dX2_becomeGreaterLevels_27 (oP2 hX (by assumption)) (lk2 hS (by assumption)) ?_
      refine lv_iload_n hx hb dX2_becomeGreaterLevels_30 rfl (lv_at hl 3 rfl) ?_
      refine paJ C w dX2_becomeGreaterLevels_31 (oP9 hX (by assumption)) rfl (oN9 hX (by assumption)) (by omega) (by decide) (v := sJ S 9 b k) (by rw [sJ_rwk_n hnb]; rfl) ?_
      refine va_mmax_long hx hb (by rw [C.2.2.1]; exact hl.1.symm) hown (hts _ (by decide +kernel)) (hts _ (by decide +kernel)) (hts _ (by decide +kernel)) (hts _ (by decide +kernel)) (by decide) (Nat.le_of_ble_eq_true rfl) (Nat.zero_le _) (Nat.zero_le _) dX2_becomeGreaterLevels_32 ?_
      refine psJ C w dX2_becomeGreaterLevels_35 (oP9 hX (by assumption)) rfl (oN9 hX (by assumption)) (by omega) (by decide) (fun H locs w => ?_)
      refine lv_iinc (v := nI (k + 1)) hx hb dX2_becomeGreaterLevels_36 hl (k := 3) rfl (nI_1 k) (by decide) rfl (fun ls hl => ?_)
      refine lv_goto (tgt := 7) hx hb dX2_becomeGreaterLevels_39 (by decide) ?_
      rw [rwk_s rfl] at w
      exact ih (k + 1) _ _ _ (by omega) w (lv_sub hl [1, 2, 3, 0] rfl)
  exact loop_7 z 0 _ _ _ (by omega) (by rw [rwk_0 (S := fm S r _ _ _) (o := sJ S 9 r) (fun _ => rfl)]; exact w) (lv_sub hl [1, 2, 3, 0] rfl)

set_option maxHeartbeats 4000000 in
set_option maxRecDepth 100000 in
/-- Score.becomeLesserLevels -/
theorem c_X2_becomeLesserLevels (l : Launch) (G : GT) (hX : okX G) (S : PS) (hS : lkX S) (r a b z : Nat) (hr : r < 79) (ha : a < 79) (hb2 : b < 79) (hna : a ≠ r) (hnb : b ≠ r) (hz : sI S 2 a 2 = nI z) (hz12 : z ≤ 12) : CtV l G yX2_becomeLesserLevels wsX2_becomeLesserLevels (rmK 2 44) [.ref (gA G 2 r), .ref (gA G 2 a), .ref (gA G 2 b)] S (fun S2 => S2 = (rwk (fm S r (sI S 2 a 0) (sI S 2 a 1) (sI S 2 a 2)) r (fun j => if sJ S 9 b j < sJ S 9 a j then sJ S 9 b j else sJ S 9 a j) (sJ S 9 r) z)) := by
  refine ofCtV (cc := cX2_becomeLesserLevels) (nL := 4) RX2 (by decide +kernel) rfl rfl (Nat.le_of_ble_eq_true rfl) ?_
  intro p e s m args below meth c A Q ls C w hl hret
  have hx := C.1
  have hb := C.2.1
  have hown := C.2.2.2.1
  have hts := C.2.2.2.2.1
  have hi2 : ∀ w ∈ wsX20, w ∈ wsX2_becomeLesserLevels := by decide +kernel
  refine lv_aload_n hx hb dX2_becomeLesserLevels_0 rfl (lv_at hl 0 rfl) ?_
  refine lv_aload_n hx hb dX2_becomeLesserLevels_1 rfl (lv_at hl 1 rfl) ?_
  refine cvV (n := 1) C w hl dX2_becomeLesserLevels_2 (c_X2_formLike l G hX S _ _ (by assumption) (by assumption)) gX2_becomeLesserLevels_X2_formLike rfl (by decide +kernel) rfl rfl (Nat.le_of_ble_eq_true rfl) ⟨by decide, by decide⟩ (by decide) rfl (oP2 hX (by assumption)) (fun S2 H locs hp w => ?_)
  subst hp
  refine lv_iconst (v := 0) hx hb dX2_becomeLesserLevels_5 (by decide) ?_
  refine lv_istore_n hx hb dX2_becomeLesserLevels_6 rfl hl (by decide) rfl (fun ls hl => ?_)
  have loop_7 : ∀ (n : Nat) (k : Nat) (H : Heap) (locs : List Loc) (ls : Array Slot), k + n = z → Wd G A s.heap (rwk (fm S r (sI S 2 a 0) (sI S 2 a 1) (sI S 2 a 2)) r (fun j => if sJ S 9 b j < sJ S 9 a j then sJ S 9 b j else sJ S 9 a j) (sJ S 9 r) k) H locs → lv_has ls 4 [(0, .ref (gA G 2 r)), (1, .ref (gA G 2 a)), (2, .ref (gA G 2 b)), (3, .int (nI k))] → W p l e (rmK 2 44) s m args below meth c H locs 0 0 Q (F0 m 7 ls []) := by
    intro n
    induction n with
    | zero =>
      intro k H locs ls hk w hl
      refine lv_iload_n hx hb dX2_becomeLesserLevels_7 rfl (lv_at hl 3 rfl) ?_
      refine lv_aload_n hx hb dX2_becomeLesserLevels_8 rfl (lv_at hl 0 rfl) ?_
      refine pgI 2 2 (by decide) rfl (by decide) (Or.inl rfl) rfl C w hi2 (by decide +kernel) dX2_becomeLesserLevels_9 (oP2 hX (by assumption)) (v := nI z) (by rw [sI_rwk, sI_fm2]; exact hz) ?_
      refine lv_icmp_ge (tgt := 42) hx hb dX2_becomeLesserLevels_12 (by decide) (fun c_12 => ?_) (fun c_12 => absurd (nI_le (by omega) (by omega)) c_12)
      have e : k = z := by omega
      subst e
      exact hret _ _ _ _ _ dX2_becomeLesserLevels_42 w rfl
    | succ n ih =>
      intro k H locs ls hk w hl
      refine lv_iload_n hx hb dX2_becomeLesserLevels_7 rfl (lv_at hl 3 rfl) ?_
      refine lv_aload_n hx hb dX2_becomeLesserLevels_8 rfl (lv_at hl 0 rfl) ?_
      refine pgI 2 2 (by decide) rfl (by decide) (Or.inl rfl) rfl C w hi2 (by decide +kernel) dX2_becomeLesserLevels_9 (oP2 hX (by assumption)) (v := nI z) (by rw [sI_rwk, sI_fm2]; exact hz) ?_
      refine lv_icmp_ge (tgt := 42) hx hb dX2_becomeLesserLevels_12 (by decide) (fun c_12 => absurd c_12 (nI_ge (by omega) (by omega))) (fun c_12 => ?_)
      refine lv_aload_n hx hb dX2_becomeLesserLevels_15 rfl (lv_at hl 0 rfl) ?_
      refine pgQ 2 3 9 (by decide) rfl (by decide) rfl rfl C w hi2 (by decide +kernel) dX2_becomeLesserLevels_16 (oP2 hX (by assumption)) (lk2 hS (by assumption)) ?_
      refine lv_iload_n hx hb dX2_becomeLesserLevels_19 rfl (lv_at hl 3 rfl) ?_
      refine lv_aload_n hx hb dX2_becomeLesserLevels_20 rfl (lv_at hl 1 rfl) ?_
      refine pgQ 2 3 9 (by decide) rfl (by decide) rfl rfl C w hi2 (by decide +kernel) dX2_becomeLesserLevels_21 (oP2 hX (by assumption)) (lk2 hS (by assumption)) ?_
      refine lv_iload_n hx hb dX2_becomeLesserLevels_24 rfl (lv_at hl 3 rfl) ?_
      refine paJ C w dX2_becomeLesserLevels_25 (oP9 hX (by assumption)) rfl (oN9 hX (by assumption)) (by omega) (by decide) (v := sJ S 9 a k) (by rw [sJ_rwk_n hna]; rfl) ?_
      refine lv_aload_n hx hb dX2_becomeLesserLevels_26 rfl (lv_at hl 2 rfl) ?_
      refine pgQ 2 3 9 (by decide) rfl (by decide) rfl rfl C w hi2 (by decide +kernel) dX2_becomeLesserLevels_27 (oP2 hX (by assumption)) (lk2 hS (by assumption)) ?_
      refine lv_iload_n hx hb dX2_becomeLesserLevels_30 rfl (lv_at hl 3 rfl) ?_
      refine paJ C w dX2_becomeLesserLevels_31 (oP9 hX (by assumption)) rfl (oN9 hX (by assumption)) (by omega) (by decide) (v := sJ S 9 b k) (by rw [sJ_rwk_n hnb]; rfl) ?_
      refine va_mmin_long hx hb (by rw [C.2.2.1]; exact hl.1.symm) hown (hts _ (by decide +kernel)) (hts _ (by decide +kernel)) (hts _ (by decide +kernel)) (hts _ (by decide +kernel)) (by decide) (Nat.le_of_ble_eq_true rfl) (Nat.zero_le _) (Nat.zero_le _) dX2_becomeLesserLevels_32 ?_
      refine psJ C w dX2_becomeLesserLevels_35 (oP9 hX (by assumption)) rfl (oN9 hX (by assumption)) (by omega) (by decide) (fun H locs w => ?_)
      refine lv_iinc (v := nI (k + 1)) hx hb dX2_becomeLesserLevels_36 hl (k := 3) rfl (nI_1 k) (by decide) rfl (fun ls hl => ?_)
      refine lv_goto (tgt := 7) hx hb dX2_becomeLesserLevels_39 (by decide) ?_
      rw [rwk_s rfl] at w
      exact ih (k + 1) _ _ _ (by omega) w (lv_sub hl [1, 2, 3, 0] rfl)
  exact loop_7 z 0 _ _ _ (by omega) (by rw [rwk_0 (S := fm S r _ _ _) (o := sJ S 9 r) (fun _ => rfl)]; exact w) (lv_sub hl [1, 2, 3, 0] rfl)
end
section
/-- Wide r holds V -/
def wd (S : PS) (r : Nat) (V : Int) : PS := uJ (uJ S 4 r 0 (hiL V)) 4 r 1 (loL V)
theorem sI_wd (S : PS) (r : Nat) (V : Int) : sI (wd S r V) = sI S := rfl
theorem sQ_wd (S : PS) (r : Nat) (V : Int) : sQ (wd S r V) = sQ S := rfl
theorem sJ_wd_0 (S : PS) (r : Nat) (V : Int) : sJ (wd S r V) 4 r 0 = hiL V := by simp [wd, sJ_uJ]
theorem sJ_wd_1 (S : PS) (r : Nat) (V : Int) : sJ (wd S r V) 4 r 1 = loL V := by simp [wd, sJ_uJ]
theorem sJ_wd_n {S : PS} {r : Nat} {V : Int} {c' r' k' : Nat} (h : ¬ (c' = 4 ∧ r' = r)) : sJ (wd S r V) c' r' k' = sJ S c' r' k' := by
  unfold wd
  rw [sJ_uJ, if_neg (fun q => h ⟨q.1, q.2.1⟩), sJ_uJ, if_neg (fun q => h ⟨q.1, q.2.1⟩)]
theorem wd_wd (S : PS) (r : Nat) (V V' : Int) : wd (wd S r V) r V' = wd S r V' := by
  refine PS_ext (fun _ _ _ => rfl) (fun c' r' k' => ?_) (fun _ _ _ => rfl)
  by_cases h : c' = 4 ∧ r' = r
  · obtain ⟨rfl, rfl⟩ := h
    unfold wd
    rw [sJ_uJ, sJ_uJ, sJ_uJ, sJ_uJ, sJ_uJ, sJ_uJ]
    by_cases h1 : k' = 1
    · simp [h1]
    · by_cases h0 : k' = 0
      · simp [h0]
      · simp [h0, h1]
  · rw [sJ_wd_n h, sJ_wd_n h, sJ_wd_n h]
theorem fm_pos {x y : Int64} (hy : 0 < y.toInt) (c : 0 ≤ x ^^^ y) : x - x / y * y = Int64.ofInt (x.toInt % y.toInt) := by
  have hx : 0 ≤ x.toInt := by
    have h1 := mt (xor_neg x y).mpr (Int64.not_lt.mpr c)
    rw [i64_neg, i64_neg] at h1
    omega
  rw [rem_int hy, Int.tmod_eq_emod_of_nonneg hx]
theorem fm_zero {x y : Int64} (hy : 0 < y.toInt) (c : x - x / y * y = 0) : x - x / y * y = Int64.ofInt (x.toInt % y.toInt) := by
  have hf := tdiv_facts x.toInt hy
  have a3 := i64_hi y
  rw [rem_int hy] at c ⊢
  have e : x.toInt.tmod y.toInt = 0 := by
    have := congrArg Int64.toInt c
    rwa [i64_small (by omega) (by omega)] at this
  have := ((Int.ediv_emod_unique hy).mpr ⟨show 0 + y.toInt * x.toInt.tdiv y.toInt = x.toInt by rw [Int.mul_comm]; omega, Int.le_refl 0, hy⟩).2
  rw [e, this]
theorem fm_neg {x y : Int64} (hy : 0 < y.toInt) (c : ¬ 0 ≤ x ^^^ y) (c2 : ¬ x - x / y * y = 0) : x - x / y * y + y = Int64.ofInt (x.toInt % y.toInt) := by
  have hx : x.toInt < 0 := by
    have h1 := (xor_neg x y).mp (Int64.not_le.mp c)
    rw [i64_neg, i64_neg] at h1
    omega
  have hf := tdiv_facts x.toInt hy
  have a3 := i64_hi y
  rw [rem_int hy] at c2 ⊢
  have e : ¬ x.toInt.tmod y.toInt = 0 := fun q => c2 (by rw [q]; rfl)
  have := ((Int.ediv_emod_unique hy).mpr ⟨show (x.toInt.tmod y.toInt + y.toInt) + y.toInt * (x.toInt.tdiv y.toInt - 1) = x.toInt by rw [Int.mul_sub, Int.mul_comm y.toInt (x.toInt.tdiv y.toInt)]; omega, by omega, by omega⟩).2
  rw [i64_add, i64_small (by omega) (by omega), this]
theorem fd_pos {x y : Int64} (hy : 0 < y.toInt) (c : 0 ≤ x ^^^ y) : x / y = Int64.ofInt (x.toInt / y.toInt) := by
  have hx : 0 ≤ x.toInt := by
    have h1 := mt (xor_neg x y).mpr (Int64.not_lt.mpr c)
    rw [i64_neg, i64_neg] at h1
    omega
  have e := div_pos_int (x := x) hy
  rw [Int.tdiv_eq_ediv_of_nonneg hx] at e
  rw [← e, Int64.ofInt_toInt]
theorem dv_mul {x y : Int64} (hy : 0 < y.toInt) : (x / y * y = x) ↔ x.toInt.tmod y.toInt = 0 := by
  have hf := tdiv_facts x.toInt hy
  have a1 := i64_lo x
  have a2 := i64_hi x
  have a3 := i64_hi y
  rw [i64_mul, div_pos_int hy, show x.toInt.tdiv y.toInt * y.toInt = x.toInt - x.toInt.tmod y.toInt from by omega]
  constructor
  · intro h
    have := congrArg Int64.toInt h
    rw [i64_small (by omega) (by omega)] at this
    omega
  · intro h
    rw [h, Int.sub_zero, Int64.ofInt_toInt]
theorem fd_zero {x y : Int64} (hy : 0 < y.toInt) (c : x / y * y = x) : x / y = Int64.ofInt (x.toInt / y.toInt) := by
  have e0 := (dv_mul hy).mp c
  have hf := tdiv_facts x.toInt hy
  have := ((Int.ediv_emod_unique hy).mpr ⟨show 0 + y.toInt * x.toInt.tdiv y.toInt = x.toInt by rw [Int.mul_comm]; omega, Int.le_refl 0, hy⟩).1
  rw [this, ← div_pos_int hy, Int64.ofInt_toInt]
theorem fd_neg {x y : Int64} (hy : 0 < y.toInt) (c : ¬ 0 ≤ x ^^^ y) (c2 : ¬ x / y * y = x) : x / y - 1 = Int64.ofInt (x.toInt / y.toInt) := by
  have hx : x.toInt < 0 := by
    have h1 := (xor_neg x y).mp (Int64.not_le.mp c)
    rw [i64_neg, i64_neg] at h1
    omega
  have e0 : ¬ x.toInt.tmod y.toInt = 0 := fun q => c2 ((dv_mul hy).mpr q)
  have hf := tdiv_facts x.toInt hy
  have := ((Int.ediv_emod_unique hy).mpr ⟨show (x.toInt.tmod y.toInt + y.toInt) + y.toInt * (x.toInt.tdiv y.toInt - 1) = x.toInt by rw [Int.mul_sub, Int.mul_comm y.toInt (x.toInt.tdiv y.toInt)]; omega, by omega, by omega⟩).1
  rw [this, i64_sub, div_pos_int hy]
  rfl
theorem div_two {H L d : Int} (hd : 1 ≤ d) (hL : 0 ≤ L) : (H * 4294967296 + L) / d = H / d * 4294967296 + (H % d * 4294967296 + L) / d := by
  have h1 : H = d * (H / d) + H % d := (Int.mul_ediv_add_emod H d).symm
  have e : H * 4294967296 + L = (H % d * 4294967296 + L) + H / d * 4294967296 * d := by
    have : H * 4294967296 = (d * (H / d) + H % d) * 4294967296 := congrArg (· * 4294967296) h1
    rw [this, Int.add_mul, Int.mul_assoc, Int.mul_comm d]; omega
  rw [e, Int.add_mul_ediv_right _ _ (by omega)]; omega
theorem dd_eq (S : PS) (r : Nat) {V : Int} (h1 : -19807040628566084398385987584 ≤ V) (h2 : V < 19807040628566084398385987584) {d : Int64} (hd : 1 ≤ d.toInt ∧ d.toInt ≤ 2147483648) :
    uJ (uJ S 4 r 0 (Int64.ofInt ((hiL V).toInt / d.toInt))) 4 r 1 ((Int64.ofInt ((hiL V).toInt % d.toInt) <<< ((32 : Int32).toInt64 &&& 63) ||| loL V) / d) = wd S r (V / d.toInt) := by
  have hm1 := Int.emod_nonneg (V / 4294967296) (show d.toInt ≠ 0 by omega)
  have hm2 := Int.emod_lt_of_pos (V / 4294967296) (show 0 < d.toInt by omega)
  have hV : V / d.toInt = V / 4294967296 / d.toInt * 4294967296 + (V / 4294967296 % d.toInt * 4294967296 + V % 4294967296) / d.toInt := by
    have := div_two (H := V / 4294967296) (L := V % 4294967296) hd.1 (by omega)
    rwa [show V / 4294967296 * 4294967296 + V % 4294967296 = V by omega] at this
  have hq1 : 0 ≤ (V / 4294967296 % d.toInt * 4294967296 + V % 4294967296) / d.toInt := Int.ediv_nonneg (by omega) (by omega)
  have hq2 : (V / 4294967296 % d.toInt * 4294967296 + V % 4294967296) / d.toInt < 4294967296 := by
    rw [Int.ediv_lt_iff_lt_mul (by omega)]
    omega
  have eA : Int64.ofInt ((hiL V).toInt / d.toInt) = hiL (V / d.toInt) := by
    rw [hiL_int h1 h2]
    unfold hiL
    congr 1
    rw [hV]; omega
  have eB : (Int64.ofInt ((hiL V).toInt % d.toInt) <<< ((32 : Int32).toInt64 &&& 63) ||| loL V) / d = loL (V / d.toInt) := by
    rw [hiL_int h1 h2, or_low (loL_nat V) (by omega), shl32, ← Int64.ofInt_mul]
    unfold loL
    rw [← Int64.ofInt_add]
    apply Int64.toInt_inj.mp
    rw [div_pos_int (by omega), i64_small (by omega) (by omega), i64_small (by omega) (by omega), Int.tdiv_eq_ediv_of_nonneg (by omega)]
    rw [hV]; omega
  rw [eA, eB]; rfl
set_option maxHeartbeats 4000000 in
set_option maxRecDepth 100000 in
/-- Wide.clear -/
theorem c_X4_clear (l : Launch) (G : GT) (hX : okX G) (S : PS) (r : Nat) (hr : r < 3) : CtV l G yX4_clear wsX4_clear (rmK 0 0) [.ref (gA G 4 r)] S (fun S2 => S2 = wd S r 0) := by
  refine ofCtV (cc := cX4_clear) (nL := 1) RX4 (by decide +kernel) rfl rfl (Nat.le_of_ble_eq_true rfl) ?_
  intro p e s m args below meth c A Q ls C w hl hret
  have hx := C.1
  have hb := C.2.1
  have hown := C.2.2.2.1
  have hts := C.2.2.2.2.1
  have hi4 : ∀ w ∈ wsX40, w ∈ wsX4_clear := by decide +kernel
  refine lv_aload_n hx hb dX4_clear_0 rfl (lv_at hl 0 rfl) ?_
  refine lv_lconst (v := 0) hx hb dX4_clear_1 (by decide) ?_
  refine ppJ 4 0 (by decide) rfl (by decide) rfl rfl tyX4_ok nmX4 rfl (by decide +kernel) C w hi4 (by decide +kernel) dX4_clear_2 (oP4 hX (by assumption)) (fun H locs w => ?_)
  refine lv_aload_n hx hb dX4_clear_5 rfl (lv_at hl 0 rfl) ?_
  refine lv_lconst (v := 0) hx hb dX4_clear_6 (by decide) ?_
  refine ppJ 4 1 (by decide) rfl (by decide) rfl rfl tyX4_ok nmX4 rfl (by decide +kernel) C w hi4 (by decide +kernel) dX4_clear_7 (oP4 hX (by assumption)) (fun H locs w => ?_)
  exact hret _ _ _ _ _ dX4_clear_10 w (by rw [wd, hiL_0, loL_0])

set_option maxHeartbeats 4000000 in
set_option maxRecDepth 100000 in
/-- Wide.addProduct -/
theorem c_X4_addProduct (l : Launch) (G : GT) (hX : okX G) (S : PS) (r : Nat) (V : Int) (hr : r < 3) (hH : sJ S 4 r 0 = hiL V) (hL : sJ S 4 r 1 = loL V) (v f : Int64) (hf : -2147483648 ≤ f.toInt ∧ f.toInt ≤ 2147483648) : CtV l G yX4_addProduct wsX4_addProduct (rmK 0 0) [.ref (gA G 4 r), .long v, .long f] S (fun S2 => S2 = wd S r (V + v.toInt * f.toInt)) := by
  refine ofCtV (cc := cX4_addProduct) (nL := 9) RX4 (by decide +kernel) rfl rfl (Nat.le_of_ble_eq_true rfl) ?_
  intro p e s m args below meth c A Q ls C w hl hret
  have hx := C.1
  have hb := C.2.1
  have hown := C.2.2.2.1
  have hts := C.2.2.2.2.1
  have hi4 : ∀ w ∈ wsX40, w ∈ wsX4_addProduct := by decide +kernel
  refine lv_lload_n hx hb dX4_addProduct_0 rfl (lv_at hl 1 rfl) ?_
  refine lv_ldc2 (v := (4294967295)) hx hb hown (hts (.constantLong RX4 16 (4294967295)) (by decide +kernel)) dX4_addProduct_1 ?_
  refine lv_land hx hb dX4_addProduct_4 ?_
  refine lv_lload_n hx hb dX4_addProduct_5 rfl (lv_at hl 2 rfl) ?_
  refine lv_lmul hx hb dX4_addProduct_6 ?_
  refine lv_lstore hx hb dX4_addProduct_7 hl (by decide) rfl (fun ls hl => ?_)
  refine lv_aload_n hx hb dX4_addProduct_9 rfl (lv_at hl 1 rfl) ?_
  refine pgJ 4 1 (by decide) rfl (by decide) rfl rfl C w hi4 (by decide +kernel) dX4_addProduct_10 (oP4 hX (by assumption)) hL ?_
  refine lv_lload hx hb dX4_addProduct_13 (lv_at hl 0 rfl) ?_
  refine lv_ldc2 (v := (4294967295)) hx hb hown (hts (.constantLong RX4 16 (4294967295)) (by decide +kernel)) dX4_addProduct_15 ?_
  refine lv_land hx hb dX4_addProduct_18 ?_
  refine lv_ladd hx hb dX4_addProduct_19 ?_
  refine lv_lstore hx hb dX4_addProduct_20 hl (by decide) rfl (fun ls hl => ?_)
  refine lv_aload_n hx hb dX4_addProduct_22 rfl (lv_at hl 2 rfl) ?_
  refine lv_dup hx hb dX4_addProduct_23 rfl ?_
  refine pgJ 4 0 (by decide) rfl (by decide) rfl rfl C w hi4 (by decide +kernel) dX4_addProduct_24 (oP4 hX (by assumption)) hH ?_
  refine lv_lload_n hx hb dX4_addProduct_27 rfl (lv_at hl 3 rfl) ?_
  refine lv_bipush (v := 32) hx hb dX4_addProduct_28 (by decide) ?_
  refine lv_lshr hx hb dX4_addProduct_30 rfl ?_
  refine lv_lload_n hx hb dX4_addProduct_31 rfl (lv_at hl 4 rfl) ?_
  refine lv_lmul hx hb dX4_addProduct_32 ?_
  refine lv_lload hx hb dX4_addProduct_33 (lv_at hl 1 rfl) ?_
  refine lv_bipush (v := 32) hx hb dX4_addProduct_35 (by decide) ?_
  refine lv_lshr hx hb dX4_addProduct_37 rfl ?_
  refine lv_ladd hx hb dX4_addProduct_38 ?_
  refine lv_lload hx hb dX4_addProduct_39 (lv_at hl 0 rfl) ?_
  refine lv_bipush (v := 32) hx hb dX4_addProduct_41 (by decide) ?_
  refine lv_lshr hx hb dX4_addProduct_43 rfl ?_
  refine lv_ladd hx hb dX4_addProduct_44 ?_
  refine lv_ladd hx hb dX4_addProduct_45 ?_
  refine ppJ 4 0 (by decide) rfl (by decide) rfl rfl tyX4_ok nmX4 rfl (by decide +kernel) C w hi4 (by decide +kernel) dX4_addProduct_46 (oP4 hX (by assumption)) (fun H locs w => ?_)
  refine lv_aload_n hx hb dX4_addProduct_49 rfl (lv_at hl 2 rfl) ?_
  refine lv_lload hx hb dX4_addProduct_50 (lv_at hl 0 rfl) ?_
  refine lv_ldc2 (v := (4294967295)) hx hb hown (hts (.constantLong RX4 16 (4294967295)) (by decide +kernel)) dX4_addProduct_52 ?_
  refine lv_land hx hb dX4_addProduct_55 ?_
  refine ppJ 4 1 (by decide) rfl (by decide) rfl rfl tyX4_ok nmX4 rfl (by decide +kernel) C w hi4 (by decide +kernel) dX4_addProduct_56 (oP4 hX (by assumption)) (fun H locs w => ?_)
  exact hret _ _ _ _ _ dX4_addProduct_59 w (by rw [aP_hi V v f hf, aP_lo V v f hf]; rfl)

set_option maxHeartbeats 4000000 in
set_option maxRecDepth 100000 in
/-- Wide.fits -/
theorem c_X4_fits (l : Launch) (G : GT) (hX : okX G) (S : PS) (r : Nat) (V : Int) (hr : r < 3) (hH : sJ S 4 r 0 = hiL V) (hL : sJ S 4 r 1 = loL V) (h1 : -19807040628566084398385987584 ≤ V) (h2 : V < 19807040628566084398385987584) : CtI l G yX4_fits wsX4_fits (rmK 0 0) [.ref (gA G 4 r)] S (fun v S2 => ((v = 1 ∧ in64 V) ∨ (v = 0 ∧ ¬ in64 V)) ∧ S2 = S) := by
  refine ofCtZ (cc := cX4_fits) (nL := 1) RX4 (by decide +kernel) rfl rfl (Nat.le_of_ble_eq_true rfl) ?_
  intro p e s m args below meth c A Q ls C w hl hret
  have hx := C.1
  have hb := C.2.1
  have hown := C.2.2.2.1
  have hts := C.2.2.2.2.1
  have hi4 : ∀ w ∈ wsX40, w ∈ wsX4_fits := by decide +kernel
  refine lv_aload_n hx hb dX4_fits_0 rfl (lv_at hl 0 rfl) ?_
  refine pgJ 4 0 (by decide) rfl (by decide) rfl rfl C w hi4 (by decide +kernel) dX4_fits_1 (oP4 hX (by assumption)) hH ?_
  refine lv_ldc2 (v := (-2147483648)) hx hb hown (hts (.constantLong RX4 29 (-2147483648)) (by decide +kernel)) dX4_fits_4 ?_
  refine W.lcmp hx hb dX4_fits_7 ?_
  refine lv_if_lt (tgt := 26) hx hb dX4_fits_8 (by decide) (fun c_8 => ?_) (fun c_8 => ?_)
  · rw [lg_cmp_lt] at c_8
    have hq : ¬ in64 V := fun q => ((fit_iff h1 h2).mpr q).1 c_8
    refine lv_iconst (v := 0) hx hb dX4_fits_26 (by decide) ?_
    exact hret _ _ _ _ _ _ dX4_fits_27 w (by decide) ⟨by simp [hq], rfl⟩
  · rw [lg_cmp_lt] at c_8
    refine lv_aload_n hx hb dX4_fits_11 rfl (lv_at hl 0 rfl) ?_
    refine pgJ 4 0 (by decide) rfl (by decide) rfl rfl C w hi4 (by decide +kernel) dX4_fits_12 (oP4 hX (by assumption)) hH ?_
    refine lv_ldc2 (v := (2147483647)) hx hb hown (hts (.constantLong RX4 31 (2147483647)) (by decide +kernel)) dX4_fits_15 ?_
    refine W.lcmp hx hb dX4_fits_18 ?_
    refine lv_if_gt (tgt := 26) hx hb dX4_fits_19 (by decide) (fun c_19 => ?_) (fun c_19 => ?_)
    · rw [lg_cmp_gt] at c_19
      have hq : ¬ in64 V := fun q => ((fit_iff h1 h2).mpr q).2 c_19
      refine lv_iconst (v := 0) hx hb dX4_fits_26 (by decide) ?_
      exact hret _ _ _ _ _ _ dX4_fits_27 w (by decide) ⟨by simp [hq], rfl⟩
    · rw [lg_cmp_gt] at c_19
      have hq : in64 V := (fit_iff h1 h2).mp ⟨c_8, c_19⟩
      refine lv_iconst (v := 1) hx hb dX4_fits_22 (by decide) ?_
      refine lv_goto (tgt := 27) hx hb dX4_fits_23 (by decide) ?_
      exact hret _ _ _ _ _ _ dX4_fits_27 w (by decide) ⟨by simp [hq], rfl⟩

set_option maxHeartbeats 4000000 in
set_option maxRecDepth 100000 in
/-- Wide.value -/
theorem c_X4_value (l : Launch) (G : GT) (hX : okX G) (S : PS) (r : Nat) (V : Int) (hr : r < 3) (hH : sJ S 4 r 0 = hiL V) (hL : sJ S 4 r 1 = loL V) : CtL l G yX4_value wsX4_value (rmK 0 0) [.ref (gA G 4 r)] S (fun v S2 => v = Int64.ofInt V ∧ S2 = S) := by
  refine ofCtL (cc := cX4_value) (nL := 1) RX4 (by decide +kernel) rfl rfl (Nat.le_of_ble_eq_true rfl) ?_
  intro p e s m args below meth c A Q ls C w hl hret
  have hx := C.1
  have hb := C.2.1
  have hown := C.2.2.2.1
  have hts := C.2.2.2.2.1
  have hi4 : ∀ w ∈ wsX40, w ∈ wsX4_value := by decide +kernel
  refine lv_aload_n hx hb dX4_value_0 rfl (lv_at hl 0 rfl) ?_
  refine pgJ 4 0 (by decide) rfl (by decide) rfl rfl C w hi4 (by decide +kernel) dX4_value_1 (oP4 hX (by assumption)) hH ?_
  refine lv_bipush (v := 32) hx hb dX4_value_4 (by decide) ?_
  refine lv_lshl hx hb dX4_value_6 rfl ?_
  refine lv_aload_n hx hb dX4_value_7 rfl (lv_at hl 0 rfl) ?_
  refine pgJ 4 1 (by decide) rfl (by decide) rfl rfl C w hi4 (by decide +kernel) dX4_value_8 (oP4 hX (by assumption)) hL ?_
  refine lv_lor hx hb dX4_value_11 ?_
  exact hret _ _ _ _ _ _ dX4_value_12 w ⟨shlor V, rfl⟩

set_option maxHeartbeats 4000000 in
set_option maxRecDepth 100000 in
/-- Math.floorMod -/
theorem c_J9_floorMod_f86c9 (l : Launch) (G : GT) (S : PS) (x y : Int64) (hy : 0 < y.toInt) : CtL l G yJ9_floorMod_f86c9 wsJ9_floorMod_f86c9 (rmK 0 0) [.long x, .long y] S (fun v S2 => v = Int64.ofInt (x.toInt % y.toInt) ∧ S2 = S) := by
  refine ofCtL (cc := cJ9_floorMod_f86c9) (nL := 6) RJ9 (by decide +kernel) rfl rfl (Nat.le_of_ble_eq_true rfl) ?_
  intro p e s m args below meth c A Q ls C w hl hret
  have hx := C.1
  have hb := C.2.1
  have hown := C.2.2.2.1
  have hts := C.2.2.2.2.1
  refine lv_lload_n hx hb dJ9_floorMod_f86c9_0 rfl (lv_at hl 0 rfl) ?_
  refine lv_lload_n hx hb dJ9_floorMod_f86c9_1 rfl (lv_at hl 1 rfl) ?_
  refine lv_lrem hx hb dJ9_floorMod_f86c9_2 (fun h => by rw [h] at hy; exact absurd hy (by decide)) ?_
  refine lv_lstore hx hb dJ9_floorMod_f86c9_3 hl (by decide) rfl (fun ls hl => ?_)
  refine lv_lload_n hx hb dJ9_floorMod_f86c9_5 rfl (lv_at hl 1 rfl) ?_
  refine lv_lload_n hx hb dJ9_floorMod_f86c9_6 rfl (lv_at hl 2 rfl) ?_
  refine lv_lxor hx hb dJ9_floorMod_f86c9_7 ?_
  refine lv_lconst (v := 0) hx hb dJ9_floorMod_f86c9_8 (by decide) ?_
  refine W.lcmp hx hb dJ9_floorMod_f86c9_9 ?_
  refine lv_if_ge (tgt := 25) hx hb dJ9_floorMod_f86c9_10 (by decide) (fun c_10 => ?_) (fun c_10 => ?_)
  · rw [lg_cmp_ge] at c_10
    refine lv_lload hx hb dJ9_floorMod_f86c9_25 (lv_at hl 0 rfl) ?_
    exact hret _ _ _ _ _ _ dJ9_floorMod_f86c9_27 w ⟨by first | exact fm_pos hy c_10 | exact fm_zero hy c_17, rfl⟩
  · rw [lg_cmp_ge] at c_10
    refine lv_lload hx hb dJ9_floorMod_f86c9_13 (lv_at hl 0 rfl) ?_
    refine lv_lconst (v := 0) hx hb dJ9_floorMod_f86c9_15 (by decide) ?_
    refine W.lcmp hx hb dJ9_floorMod_f86c9_16 ?_
    refine lv_if_eq (tgt := 25) hx hb dJ9_floorMod_f86c9_17 (by decide) (fun c_17 => ?_) (fun c_17 => ?_)
    · rw [lg_cmp_eq] at c_17
      refine lv_lload hx hb dJ9_floorMod_f86c9_25 (lv_at hl 0 rfl) ?_
      exact hret _ _ _ _ _ _ dJ9_floorMod_f86c9_27 w ⟨by first | exact fm_pos hy c_10 | exact fm_zero hy c_17, rfl⟩
    · rw [lg_cmp_eq] at c_17
      refine lv_lload hx hb dJ9_floorMod_f86c9_20 (lv_at hl 0 rfl) ?_
      refine lv_lload_n hx hb dJ9_floorMod_f86c9_22 rfl (lv_at hl 2 rfl) ?_
      refine lv_ladd hx hb dJ9_floorMod_f86c9_23 ?_
      exact hret _ _ _ _ _ _ dJ9_floorMod_f86c9_24 w ⟨fm_neg hy c_10 c_17, rfl⟩

set_option maxHeartbeats 4000000 in
set_option maxRecDepth 100000 in
/-- Math.floorDiv -/
theorem c_J9_floorDiv_f86c9 (l : Launch) (G : GT) (S : PS) (x y : Int64) (hy : 0 < y.toInt) : CtL l G yJ9_floorDiv_f86c9 wsJ9_floorDiv_f86c9 (rmK 0 0) [.long x, .long y] S (fun v S2 => v = Int64.ofInt (x.toInt / y.toInt) ∧ S2 = S) := by
  refine ofCtL (cc := cJ9_floorDiv_f86c9) (nL := 6) RJ9 (by decide +kernel) rfl rfl (Nat.le_of_ble_eq_true rfl) ?_
  intro p e s m args below meth c A Q ls C w hl hret
  have hx := C.1
  have hb := C.2.1
  have hown := C.2.2.2.1
  have hts := C.2.2.2.2.1
  refine lv_lload_n hx hb dJ9_floorDiv_f86c9_0 rfl (lv_at hl 0 rfl) ?_
  refine lv_lload_n hx hb dJ9_floorDiv_f86c9_1 rfl (lv_at hl 1 rfl) ?_
  refine lv_ldiv hx hb dJ9_floorDiv_f86c9_2 (fun h => by rw [h] at hy; exact absurd hy (by decide)) ?_
  refine lv_lstore hx hb dJ9_floorDiv_f86c9_3 hl (by decide) rfl (fun ls hl => ?_)
  refine lv_lload_n hx hb dJ9_floorDiv_f86c9_5 rfl (lv_at hl 1 rfl) ?_
  refine lv_lload_n hx hb dJ9_floorDiv_f86c9_6 rfl (lv_at hl 2 rfl) ?_
  refine lv_lxor hx hb dJ9_floorDiv_f86c9_7 ?_
  refine lv_lconst (v := 0) hx hb dJ9_floorDiv_f86c9_8 (by decide) ?_
  refine W.lcmp hx hb dJ9_floorDiv_f86c9_9 ?_
  refine lv_if_ge (tgt := 27) hx hb dJ9_floorDiv_f86c9_10 (by decide) (fun c_10 => ?_) (fun c_10 => ?_)
  · rw [lg_cmp_ge] at c_10
    refine lv_lload hx hb dJ9_floorDiv_f86c9_27 (lv_at hl 0 rfl) ?_
    exact hret _ _ _ _ _ _ dJ9_floorDiv_f86c9_29 w ⟨by first | exact fd_pos hy c_10 | exact fd_zero hy c_19, rfl⟩
  · rw [lg_cmp_ge] at c_10
    refine lv_lload hx hb dJ9_floorDiv_f86c9_13 (lv_at hl 0 rfl) ?_
    refine lv_lload_n hx hb dJ9_floorDiv_f86c9_15 rfl (lv_at hl 2 rfl) ?_
    refine lv_lmul hx hb dJ9_floorDiv_f86c9_16 ?_
    refine lv_lload_n hx hb dJ9_floorDiv_f86c9_17 rfl (lv_at hl 1 rfl) ?_
    refine W.lcmp hx hb dJ9_floorDiv_f86c9_18 ?_
    refine lv_if_eq (tgt := 27) hx hb dJ9_floorDiv_f86c9_19 (by decide) (fun c_19 => ?_) (fun c_19 => ?_)
    · rw [lg_cmp_eq] at c_19
      refine lv_lload hx hb dJ9_floorDiv_f86c9_27 (lv_at hl 0 rfl) ?_
      exact hret _ _ _ _ _ _ dJ9_floorDiv_f86c9_29 w ⟨by first | exact fd_pos hy c_10 | exact fd_zero hy c_19, rfl⟩
    · rw [lg_cmp_eq] at c_19
      refine lv_lload hx hb dJ9_floorDiv_f86c9_22 (lv_at hl 0 rfl) ?_
      refine lv_lconst (v := 1) hx hb dJ9_floorDiv_f86c9_24 (by decide) ?_
      refine lv_lsub hx hb dJ9_floorDiv_f86c9_25 ?_
      exact hret _ _ _ _ _ _ dJ9_floorDiv_f86c9_26 w ⟨fd_neg hy c_10 c_19, rfl⟩

set_option maxHeartbeats 4000000 in
set_option maxRecDepth 100000 in
/-- Wide.divideDown -/
theorem c_X4_divideDown (l : Launch) (G : GT) (hX : okX G) (S : PS) (r : Nat) (V : Int) (hr : r < 3) (hH : sJ S 4 r 0 = hiL V) (hL : sJ S 4 r 1 = loL V) (h1 : -19807040628566084398385987584 ≤ V) (h2 : V < 19807040628566084398385987584) (d : Int64) (hd : 1 ≤ d.toInt ∧ d.toInt ≤ 2147483648) : CtV l G yX4_divideDown wsX4_divideDown (rmK 1 25) [.ref (gA G 4 r), .long d] S (fun S2 => S2 = wd S r (V / d.toInt)) := by
  refine ofCtV (cc := cX4_divideDown) (nL := 5) RX4 (by decide +kernel) rfl rfl (Nat.le_of_ble_eq_true rfl) ?_
  intro p e s m args below meth c A Q ls C w hl hret
  have hx := C.1
  have hb := C.2.1
  have hown := C.2.2.2.1
  have hts := C.2.2.2.2.1
  have hi4 : ∀ w ∈ wsX40, w ∈ wsX4_divideDown := by decide +kernel
  refine lv_lload_n hx hb dX4_divideDown_0 rfl (lv_at hl 1 rfl) ?_
  refine lv_lconst (v := 1) hx hb dX4_divideDown_1 (by decide) ?_
  refine W.lcmp hx hb dX4_divideDown_2 ?_
  refine lv_if_ge (tgt := 7) hx hb dX4_divideDown_3 (by decide) (fun c_3 => ?_) (fun c_3 => absurd ((lg_cmp_ge _ _).mpr (show (1 : Int64) ≤ d from Int64.le_iff_toInt_le.mpr hd.1)) c_3)
  rw [lg_cmp_ge] at c_3
  refine lv_aload_n hx hb dX4_divideDown_7 rfl (lv_at hl 0 rfl) ?_
  refine pgJ 4 0 (by decide) rfl (by decide) rfl rfl C w hi4 (by decide +kernel) dX4_divideDown_8 (oP4 hX (by assumption)) hH ?_
  refine lv_lload_n hx hb dX4_divideDown_11 rfl (lv_at hl 1 rfl) ?_
  refine csL (n := 2) C w hl dX4_divideDown_12 (c_J9_floorMod_f86c9 l G S _ _ (by omega)) gX4_divideDown_J9_floorMod_f86c9 rfl (by decide +kernel) rfl rfl (Nat.le_of_ble_eq_true rfl) ⟨by decide, by decide⟩ (fun v2 S2 H locs hp w => ?_)
  obtain ⟨e2, e0⟩ := hp
  rw [e0] at w
  refine lv_lstore_n hx hb dX4_divideDown_15 rfl hl (by decide) rfl (fun ls hl => ?_)
  refine lv_aload_n hx hb dX4_divideDown_16 rfl (lv_at hl 1 rfl) ?_
  refine lv_aload_n hx hb dX4_divideDown_17 rfl (lv_at hl 1 rfl) ?_
  refine pgJ 4 0 (by decide) rfl (by decide) rfl rfl C w hi4 (by decide +kernel) dX4_divideDown_18 (oP4 hX (by assumption)) hH ?_
  refine lv_lload_n hx hb dX4_divideDown_21 rfl (lv_at hl 2 rfl) ?_
  refine csL (n := 2) C w hl dX4_divideDown_22 (c_J9_floorDiv_f86c9 l G _ _ _ (by omega)) gX4_divideDown_J9_floorDiv_f86c9 rfl (by decide +kernel) rfl rfl (Nat.le_of_ble_eq_true rfl) ⟨by decide, by decide⟩ (fun v3 S3 H locs hp w => ?_)
  obtain ⟨e3, e0⟩ := hp
  rw [e0] at w
  refine ppJ 4 0 (by decide) rfl (by decide) rfl rfl tyX4_ok nmX4 rfl (by decide +kernel) C w hi4 (by decide +kernel) dX4_divideDown_25 (oP4 hX (by assumption)) (fun H locs w => ?_)
  refine lv_aload_n hx hb dX4_divideDown_28 rfl (lv_at hl 1 rfl) ?_
  refine lv_lload_n hx hb dX4_divideDown_29 rfl (lv_at hl 0 rfl) ?_
  refine lv_bipush (v := 32) hx hb dX4_divideDown_30 (by decide) ?_
  refine lv_lshl hx hb dX4_divideDown_32 rfl ?_
  refine lv_aload_n hx hb dX4_divideDown_33 rfl (lv_at hl 1 rfl) ?_
  refine pgJ 4 1 (by decide) rfl (by decide) rfl rfl C w hi4 (by decide +kernel) dX4_divideDown_34 (oP4 hX (by assumption)) (v := loL V) (by rw [sJ_uJ, if_neg (fun q => absurd q.2.2 (by decide))]; exact hL) ?_
  refine lv_lor hx hb dX4_divideDown_37 ?_
  refine lv_lload_n hx hb dX4_divideDown_38 rfl (lv_at hl 2 rfl) ?_
  refine lv_ldiv hx hb dX4_divideDown_39 (fun h => by rw [h] at hd; exact absurd hd.1 (by decide)) ?_
  refine ppJ 4 1 (by decide) rfl (by decide) rfl rfl tyX4_ok nmX4 rfl (by decide +kernel) C w hi4 (by decide +kernel) dX4_divideDown_40 (oP4 hX (by assumption)) (fun H locs w => ?_)
  exact hret _ _ _ _ _ dX4_divideDown_43 w (by rw [e2, e3]; exact dd_eq S r h1 h2 hd)
end
section
/-- but for what the Wides hold -/
def eq4 (S S2 : PS) : Prop := sI S2 = sI S ∧ sQ S2 = sQ S ∧ ∀ c r k, c ≠ 4 → sJ S2 c r k = sJ S c r k
theorem eq4.rf (S : PS) : eq4 S S := ⟨rfl, rfl, fun _ _ _ _ => rfl⟩
theorem eq4.tr {S S1 S2 : PS} (h1 : eq4 S S1) (h2 : eq4 S1 S2) : eq4 S S2 := ⟨h2.1.trans h1.1, h2.2.1.trans h1.2.1, fun c r k h => (h2.2.2 c r k h).trans (h1.2.2 c r k h)⟩
theorem eq4.sy {S S1 : PS} (h : eq4 S S1) : eq4 S1 S := ⟨h.1.symm, h.2.1.symm, fun c r k q => (h.2.2 c r k q).symm⟩
theorem eq4_wd (S : PS) (r : Nat) (V : Int) : eq4 S (wd S r V) := ⟨rfl, rfl, fun c r' k h => sJ_wd_n (fun q => h q.1)⟩
theorem eq4.j9 {S S2 : PS} (h : eq4 S S2) (r k : Nat) : sJ S2 9 r k = sJ S 9 r k := h.2.2 9 r k (by decide)
theorem eq4.J9 {S S2 : PS} (h : eq4 S S2) (r : Nat) : sJ S2 9 r = sJ S 9 r := funext fun k => h.j9 r k
theorem eq4.uI {S S2 : PS} (h : eq4 S S2) (c r k : Nat) (v : Int32) : eq4 (uI S c r k v) (uI S2 c r k v) := by
  refine ⟨?_, h.2.1, h.2.2⟩
  funext c' r' k'
  rw [sI_uI, sI_uI, h.1]
theorem eq4.uJ {S S2 : PS} (h : eq4 S S2) (c r k : Nat) (v : Int64) : eq4 (uJ S c r k v) (uJ S2 c r k v) := by
  refine ⟨h.1, h.2.1, fun c' r' k' q => ?_⟩
  rw [sJ_uJ, sJ_uJ, h.2.2 c' r' k' q]
theorem eq4.uQ {S S2 : PS} (h : eq4 S S2) (c r k : Nat) (v : Option Nat) : eq4 (uQ S c r k v) (uQ S2 c r k v) := by
  refine ⟨h.1, ?_, h.2.2⟩
  funext c' r' k'
  rw [sQ_uQ, sQ_uQ, h.2.1]
theorem eq4.lk {S S2 : PS} (h : eq4 S S2) (hS : lkX S) : lkX S2 := lkX_of hS h.2.1
/-- the plan: nr rules, whose weights are the scores wr; its pattern of z levels -/
def plX (S : PS) (nr : Nat) (wr : Nat → Nat) (z : Nat) : Prop := lkX S ∧ sI S 1 0 3 = nI nr ∧ nr ≤ 12 ∧ (∀ i, i < 12 → sQ S 10 1 i = some (wr i) ∧ wr i < 79) ∧ (∀ i, i < nr → 0 ≤ (sI S 8 0 i).toInt ∧ (sI S 8 0 i).toInt ≤ 1000000) ∧ sI S 2 78 2 = nI z ∧ z ≤ 12
theorem plX.of4 {S S2 : PS} {nr z : Nat} {wr : Nat → Nat} (h : plX S nr wr z) (e : eq4 S S2) : plX S2 nr wr z := by
  unfold plX
  rw [e.1, e.2.1]
  exact ⟨e.lk h.1, h.2⟩
theorem plX.lk {S : PS} {nr z : Nat} {wr : Nat → Nat} (h : plX S nr wr z) : lkX S := h.1
theorem plX.n {S : PS} {nr z : Nat} {wr : Nat → Nat} (h : plX S nr wr z) : sI S 1 0 3 = nI nr := h.2.1
theorem plX.n12 {S : PS} {nr z : Nat} {wr : Nat → Nat} (h : plX S nr wr z) : nr ≤ 12 := h.2.2.1
theorem plX.w {S : PS} {nr z : Nat} {wr : Nat → Nat} (h : plX S nr wr z) {i : Nat} (hi : i < 12) : sQ S 10 1 i = some (wr i) := (h.2.2.2.1 i hi).1
theorem plX.w79 {S : PS} {nr z : Nat} {wr : Nat → Nat} (h : plX S nr wr z) {i : Nat} (hi : i < 12) : wr i < 79 := (h.2.2.2.1 i hi).2
theorem plX.c {S : PS} {nr z : Nat} {wr : Nat → Nat} (h : plX S nr wr z) {i : Nat} (hi : i < nr) : 0 ≤ (sI S 8 0 i).toInt ∧ (sI S 8 0 i).toInt ≤ 1000000 := h.2.2.2.2.1 i hi
theorem plX.z {S : PS} {nr z : Nat} {wr : Nat → Nat} (h : plX S nr wr z) : sI S 2 78 2 = nI z := h.2.2.2.2.2.1
theorem plX.z12 {S : PS} {nr z : Nat} {wr : Nat → Nat} (h : plX S nr wr z) : z ≤ 12 := h.2.2.2.2.2.2
/-- the sum of n weights, each so often as counted -/
def sumV (W : Nat → Int64) (C : Nat → Int32) : Nat → Int
  | 0 => 0
  | n + 1 => sumV W C n + (W n).toInt * (C n).toInt
theorem sumV_eq {W W' : Nat → Int64} {C C' : Nat → Int32} : ∀ n : Nat, (∀ i, i < n → W i = W' i ∧ C i = C' i) → sumV W C n = sumV W' C' n := by
  intro n
  induction n with
  | zero => intro _; rfl
  | succ n ih => intro h; unfold sumV; rw [ih (fun i hi => h i (by omega)), (h n (by omega)).1, (h n (by omega)).2]
theorem prod_bd (w : Int64) {c : Int} (hc : 0 ≤ c ∧ c ≤ 1000000) : -9223372036854775808000000 ≤ w.toInt * c ∧ w.toInt * c ≤ 9223372036854775808000000 := by
  have h1 := i64_lo w
  have h2 := i64_hi w
  have e1 := Int.mul_le_mul_of_nonneg_right (show -9223372036854775808 ≤ w.toInt by omega) hc.1
  have e2 := Int.mul_le_mul_of_nonneg_right (show w.toInt ≤ 9223372036854775808 by omega) hc.1
  omega
theorem sumV_bd {W : Nat → Int64} {C : Nat → Int32} : ∀ n : Nat, (∀ i, i < n → 0 ≤ (C i).toInt ∧ (C i).toInt ≤ 1000000) → -9223372036854775808000000 * (n : Int) ≤ sumV W C n ∧ sumV W C n ≤ 9223372036854775808000000 * (n : Int) := by
  intro n
  induction n with
  | zero => intro _; exact ⟨by simp [sumV], by simp [sumV]⟩
  | succ n ih =>
    intro h
    have h1 := ih (fun i hi => h i (by omega))
    have h2 := prod_bd (W n) (h n (by omega))
    unfold sumV
    omega
/-- the sum of the weights on one side, each m times -/
def sumS (W : Nat → Int64) (m : Int) (u : Bool) : Nat → Int
  | 0 => 0
  | n + 1 => sumS W m u n + (if decide (0 < W n) = u then (W n).toInt * m else 0)
theorem sumS_eq {W W' : Nat → Int64} {m : Int} {u : Bool} : ∀ n : Nat, (∀ i, i < n → W i = W' i) → sumS W m u n = sumS W' m u n := by
  intro n
  induction n with
  | zero => intro _; rfl
  | succ n ih => intro h; unfold sumS; rw [ih (fun i hi => h i (by omega)), h n (by omega)]
theorem sumS_bd {W : Nat → Int64} {m : Int} {u : Bool} (hm : 0 ≤ m ∧ m ≤ 1000000) : ∀ n : Nat, -9223372036854775808000000 * (n : Int) ≤ sumS W m u n ∧ sumS W m u n ≤ 9223372036854775808000000 * (n : Int) := by
  intro n
  induction n with
  | zero => exact ⟨by simp [sumS], by simp [sumS]⟩
  | succ n ih =>
    have h2 := prod_bd (W n) hm
    unfold sumS
    split <;> omega
/-- all prices fit -/
def fitA (W : Nat → Int64) (C : Nat → Int32) (nr : Nat) : Prop := (∀ i, i < nr → in64 ((W i).toInt * (C i).toInt)) ∧ in64 (sumV W C nr)
def fitS (S : PS) (nr : Nat) (wr : Nat → Nat) (z : Nat) : Prop := ∀ k, k < z → fitA (fun i => sJ S 9 (wr i) k) (sI S 8 0) nr
theorem fitS_4 {S S2 : PS} (e : eq4 S S2) (nr : Nat) (wr : Nat → Nat) (z : Nat) : fitS S2 nr wr z = fitS S nr wr z := by
  unfold fitS
  rw [e.1]
  have : (fun (k : Nat) => fun i => sJ S2 9 (wr i) k) = fun k => fun i => sJ S 9 (wr i) k := funext fun k => funext fun i => e.j9 _ _
  have h2 : ∀ k, (fun i => sJ S2 9 (wr i) k) = fun i => sJ S 9 (wr i) k := fun k => congrFun this k
  simp only [h2]

set_option maxHeartbeats 4000000 in
set_option maxRecDepth 100000 in
/-- Plan.pricePart -/
theorem c_X1_pricePart (l : Launch) (G : GT) (hX : okX G) (S : PS) (nr z : Nat) (wr : Nat → Nat) (hpl : plX S nr wr z) (i k : Nat) (hi : i < nr) (hk : k < 12) : CtV l G yX1_pricePart wsX1_pricePart (rmK 1 28) [.ref (gA G 1 0), .int (nI i), .int (nI k)] S (fun S2 => S2 = wd S 2 ((sJ S 9 (wr i) k).toInt * (sI S 8 0 i).toInt)) := by
  refine ofCtV (cc := cX1_pricePart) (nL := 3) RX1 (by decide +kernel) rfl rfl (Nat.le_of_ble_eq_true rfl) ?_
  intro p e s m args below meth c A Q ls C w hl hret
  have hx := C.1
  have hb := C.2.1
  have hown := C.2.2.2.1
  have hts := C.2.2.2.2.1
  have hi1 : ∀ w ∈ wsX10, w ∈ wsX1_pricePart := by decide +kernel
  have hi2 : ∀ w ∈ wsX20, w ∈ wsX1_pricePart := by decide +kernel
  have h12 := hpl.n12
  refine lv_aload_n hx hb dX1_pricePart_0 rfl (lv_at hl 0 rfl) ?_
  refine pgQ 1 8 4 (by decide) rfl (by decide) rfl rfl C w hi1 (by decide +kernel) dX1_pricePart_1 (oP1 hX) (hpl.lk.2.2.2.2.2.2.2.2.2.2.2.2.2.2.2) ?_
  refine cvV (n := 0) C w hl dX1_pricePart_4 (c_X4_clear l G hX S 2 (by decide)) gX1_pricePart_X4_clear rfl (by decide +kernel) rfl rfl (Nat.le_of_ble_eq_true rfl) ⟨by decide, by decide⟩ (by decide) rfl (oP4 hX (by decide)) (fun S2 H locs hp w => ?_)
  subst hp
  refine lv_aload_n hx hb dX1_pricePart_7 rfl (lv_at hl 0 rfl) ?_
  refine pgQ 1 8 4 (by decide) rfl (by decide) rfl rfl C w hi1 (by decide +kernel) dX1_pricePart_8 (oP1 hX) (hpl.lk.2.2.2.2.2.2.2.2.2.2.2.2.2.2.2) ?_
  refine lv_aload_n hx hb dX1_pricePart_11 rfl (lv_at hl 0 rfl) ?_
  refine pgQ 1 1 10 (by decide) rfl (by decide) rfl rfl C w hi1 (by decide +kernel) dX1_pricePart_12 (oP1 hX) (hpl.lk.2.2.2.2.2.2.2.2.2.2.2.1) ?_
  refine lv_iload_n hx hb dX1_pricePart_15 rfl (lv_at hl 1 rfl) ?_
  refine paQ C w dX1_pricePart_16 (oP10 hX (by decide)) rfl (oN101 hX) (by omega) (by decide) (r1 := wr i) (hpl.w (by omega)) ?_
  refine pgQ 2 3 9 (by decide) rfl (by decide) rfl rfl C w hi2 (by decide +kernel) dX1_pricePart_17 (oP2 hX (hpl.w79 (by omega))) (r1 := wr i) (lk2 hpl.lk (hpl.w79 (by omega))) ?_
  refine lv_iload_n hx hb dX1_pricePart_20 rfl (lv_at hl 2 rfl) ?_
  refine paJ C w dX1_pricePart_21 (oP9 hX (hpl.w79 (by omega))) rfl (oN9 hX (hpl.w79 (by omega))) (by omega) (by decide) (v := sJ S 9 (wr i) k) (sJ_wd_n (by simp)) ?_
  refine lv_aload_n hx hb dX1_pricePart_22 rfl (lv_at hl 0 rfl) ?_
  refine pgQ 1 2 8 (by decide) rfl (by decide) rfl rfl C w hi1 (by decide +kernel) dX1_pricePart_23 (oP1 hX) (hpl.lk.2.2.2.2.2.2.2.2.2.2.2.2.1) ?_
  refine lv_iload_n hx hb dX1_pricePart_26 rfl (lv_at hl 1 rfl) ?_
  refine paI C w dX1_pricePart_27 (oP8 hX) rfl (oN8 hX) (by omega) (by decide) rfl ?_
  refine lv_i2l hx hb dX1_pricePart_28 rfl ?_
  refine cvV (n := 2) C w hl dX1_pricePart_29 (c_X4_addProduct l G hX _ 2 0 (by decide) (sJ_wd_0 S 2 0) (sJ_wd_1 S 2 0) _ _ (by rw [Int32.toInt_toInt64]; have := hpl.c hi; exact ⟨by rw [sI_wd]; omega, by rw [sI_wd]; omega⟩)) gX1_pricePart_X4_addProduct rfl (by decide +kernel) rfl rfl (Nat.le_of_ble_eq_true rfl) ⟨by decide, by decide⟩ (by decide) rfl (oP4 hX (by decide)) (fun S3 H locs hp w => ?_)
  exact hret _ _ _ _ _ dX1_pricePart_32 w (by rw [hp, wd_wd, Int.zero_add, Int32.toInt_toInt64]; rfl)

set_option maxHeartbeats 4000000 in
set_option maxRecDepth 100000 in
/-- Plan.priceSum -/
theorem c_X1_priceSum (l : Launch) (G : GT) (hX : okX G) (S : PS) (nr z : Nat) (wr : Nat → Nat) (hpl : plX S nr wr z) (k : Nat) (hk : k < 12) : CtV l G yX1_priceSum wsX1_priceSum (rmK 1 28) [.ref (gA G 1 0), .int (nI k)] S (fun S2 => S2 = (wd S 1 (sumV (fun i => sJ S 9 (wr i) k) (sI S 8 0) nr))) := by
  refine ofCtV (cc := cX1_priceSum) (nL := 3) RX1 (by decide +kernel) rfl rfl (Nat.le_of_ble_eq_true rfl) ?_
  intro p e s m args below meth c A Q ls C w hl hret
  have hx := C.1
  have hb := C.2.1
  have hown := C.2.2.2.1
  have hts := C.2.2.2.2.1
  have hi1 : ∀ w ∈ wsX10, w ∈ wsX1_priceSum := by decide +kernel
  have hi2 : ∀ w ∈ wsX20, w ∈ wsX1_priceSum := by decide +kernel
  have h12 := hpl.n12
  refine lv_aload_n hx hb dX1_priceSum_0 rfl (lv_at hl 0 rfl) ?_
  refine pgQ 1 7 4 (by decide) rfl (by decide) rfl rfl C w hi1 (by decide +kernel) dX1_priceSum_1 (oP1 hX) (hpl.lk.2.2.2.2.2.2.2.2.2.2.2.2.2.2.1) ?_
  refine cvV (n := 0) C w hl dX1_priceSum_4 (c_X4_clear l G hX S 1 (by decide)) gX1_priceSum_X4_clear rfl (by decide +kernel) rfl rfl (Nat.le_of_ble_eq_true rfl) ⟨by decide, by decide⟩ (by decide) rfl (oP4 hX (by decide)) (fun S2 H locs hp w => ?_)
  subst hp
  refine lv_iconst (v := 0) hx hb dX1_priceSum_7 (by decide) ?_
  refine lv_istore_n hx hb dX1_priceSum_8 rfl hl (by decide) rfl (fun ls hl => ?_)
  have loop_9 : ∀ (n : Nat) (i : Nat) (H : Heap) (locs : List Loc) (ls : Array Slot), i + n = nr → Wd G A s.heap (wd S 1 (sumV (fun i => sJ S 9 (wr i) k) (sI S 8 0) i)) H locs → lv_has ls 3 [(0, .ref (gA G 1 0)), (1, .int (nI k)), (2, .int (nI i))] → W p l e (rmK 1 28) s m args below meth c H locs 0 0 Q (F0 m 9 ls []) := by
    intro n
    induction n with
    | zero =>
      intro i H locs ls hi w hl
      refine lv_iload_n hx hb dX1_priceSum_9 rfl (lv_at hl 2 rfl) ?_
      refine lv_aload_n hx hb dX1_priceSum_10 rfl (lv_at hl 0 rfl) ?_
      refine pgI 1 3 (by decide) rfl (by decide) (Or.inl rfl) rfl C w hi1 (by decide +kernel) dX1_priceSum_11 (oP1 hX) (v := nI nr) hpl.n ?_
      refine lv_icmp_ge (tgt := 48) hx hb dX1_priceSum_14 (by decide) (fun c_14 => ?_) (fun c_14 => absurd (nI_le (by omega) (by omega)) c_14)
      have e : i = nr := by omega
      subst e
      exact hret _ _ _ _ _ dX1_priceSum_48 w rfl
    | succ n ih =>
      intro i H locs ls hi w hl
      refine lv_iload_n hx hb dX1_priceSum_9 rfl (lv_at hl 2 rfl) ?_
      refine lv_aload_n hx hb dX1_priceSum_10 rfl (lv_at hl 0 rfl) ?_
      refine pgI 1 3 (by decide) rfl (by decide) (Or.inl rfl) rfl C w hi1 (by decide +kernel) dX1_priceSum_11 (oP1 hX) (v := nI nr) hpl.n ?_
      refine lv_icmp_ge (tgt := 48) hx hb dX1_priceSum_14 (by decide) (fun c_14 => absurd c_14 (nI_ge (by omega) (by omega))) (fun c_14 => ?_)
      refine lv_aload_n hx hb dX1_priceSum_17 rfl (lv_at hl 0 rfl) ?_
      refine pgQ 1 7 4 (by decide) rfl (by decide) rfl rfl C w hi1 (by decide +kernel) dX1_priceSum_18 (oP1 hX) (hpl.lk.2.2.2.2.2.2.2.2.2.2.2.2.2.2.1) ?_
      refine lv_aload_n hx hb dX1_priceSum_21 rfl (lv_at hl 0 rfl) ?_
      refine pgQ 1 1 10 (by decide) rfl (by decide) rfl rfl C w hi1 (by decide +kernel) dX1_priceSum_22 (oP1 hX) (hpl.lk.2.2.2.2.2.2.2.2.2.2.2.1) ?_
      refine lv_iload_n hx hb dX1_priceSum_25 rfl (lv_at hl 2 rfl) ?_
      refine paQ C w dX1_priceSum_26 (oP10 hX (by decide)) rfl (oN101 hX) (by omega) (by decide) (r1 := wr i) (hpl.w (by omega)) ?_
      refine pgQ 2 3 9 (by decide) rfl (by decide) rfl rfl C w hi2 (by decide +kernel) dX1_priceSum_27 (oP2 hX (hpl.w79 (by omega))) (r1 := wr i) (lk2 hpl.lk (hpl.w79 (by omega))) ?_
      refine lv_iload_n hx hb dX1_priceSum_30 rfl (lv_at hl 1 rfl) ?_
      refine paJ C w dX1_priceSum_31 (oP9 hX (hpl.w79 (by omega))) rfl (oN9 hX (hpl.w79 (by omega))) (by omega) (by decide) (v := sJ S 9 (wr i) k) (sJ_wd_n (by simp)) ?_
      refine lv_aload_n hx hb dX1_priceSum_32 rfl (lv_at hl 0 rfl) ?_
      refine pgQ 1 2 8 (by decide) rfl (by decide) rfl rfl C w hi1 (by decide +kernel) dX1_priceSum_33 (oP1 hX) (hpl.lk.2.2.2.2.2.2.2.2.2.2.2.2.1) ?_
      refine lv_iload_n hx hb dX1_priceSum_36 rfl (lv_at hl 2 rfl) ?_
      refine paI C w dX1_priceSum_37 (oP8 hX) rfl (oN8 hX) (by omega) (by decide) rfl ?_
      refine lv_i2l hx hb dX1_priceSum_38 rfl ?_
      refine cvV (n := 2) C w hl dX1_priceSum_39 (c_X4_addProduct l G hX _ 1 _ (by decide) (sJ_wd_0 S 1 _) (sJ_wd_1 S 1 _) _ _ (by rw [Int32.toInt_toInt64]; have := hpl.c (i := i) (by omega); exact ⟨by rw [sI_wd]; omega, by rw [sI_wd]; omega⟩)) gX1_priceSum_X4_addProduct rfl (by decide +kernel) rfl rfl (Nat.le_of_ble_eq_true rfl) ⟨by decide, by decide⟩ (by decide) rfl (oP4 hX (by decide)) (fun S3 H locs hp w => ?_)
      rw [wd_wd, Int32.toInt_toInt64] at hp
      subst hp
      refine lv_iinc (v := nI (i + 1)) hx hb dX1_priceSum_42 hl (k := 2) rfl (nI_1 i) (by decide) rfl (fun ls hl => ?_)
      refine lv_goto (tgt := 9) hx hb dX1_priceSum_45 (by decide) ?_
      exact ih (i + 1) _ _ _ (by omega) w (lv_sub hl [1, 2, 0] rfl)
  exact loop_9 nr 0 _ _ _ (by omega) w (lv_sub hl [1, 2, 0] rfl)
end
section
theorem yes_of {v : Int32} {P : Prop} (h : (v = 1 ∧ P) ∨ (v = 0 ∧ ¬ P)) (c : ¬ v = 0) : P := by
  rcases h with h | h
  · exact h.2
  · exact absurd h.1 c
theorem no_of {v : Int32} {P : Prop} (h : (v = 1 ∧ P) ∨ (v = 0 ∧ ¬ P)) (c : v = 0) : ¬ P := by
  rcases h with h | h
  · rw [h.1] at c; exact absurd c (by decide)
  · exact h.2
theorem b_of {v : Int32} {P : Prop} (h : (v = 1 ∧ P) ∨ (v = 0 ∧ ¬ P)) : v = 0 ∨ v = 1 := by
  rcases h with h | h
  · exact Or.inr h.1
  · exact Or.inl h.1
theorem imp_of {v : Int32} {P P' : Prop} (e : P ↔ P') (h : (v = 1 ∧ P) ∨ (v = 0 ∧ ¬ P)) : (v = 1 ∧ P') ∨ (v = 0 ∧ ¬ P') := by
  rcases h with h | h
  · exact Or.inl ⟨h.1, e.mp h.2⟩
  · exact Or.inr ⟨h.1, fun q => h.2 (e.mpr q)⟩
theorem uI_back (S : PS) (c r k : Nat) (v : Int32) : uI (uI S c r k v) c r k (sI S c r k) = S := by
  refine PS_ext (fun c' r' k' => ?_) (fun _ _ _ => rfl) (fun _ _ _ => rfl)
  rw [sI_uI, sI_uI]
  by_cases h : c' = c ∧ r' = r ∧ k' = k
  · obtain ⟨rfl, rfl, rfl⟩ := h; rw [if_pos ⟨rfl, rfl, rfl⟩]
  · rw [if_neg h, if_neg h]
theorem plX.cnt {S : PS} {nr z : Nat} {wr : Nat → Nat} (h : plX S nr wr z) {i : Nat} {v : Int32} (hv : 0 ≤ v.toInt ∧ v.toInt ≤ 1000000) : plX (uI S 8 0 i v) nr wr z := by
  refine ⟨lkX_of h.1 rfl, by rw [sI_uI, if_neg (by simp)]; exact h.n, h.n12, h.2.2.2.1, fun j hj => ?_, by rw [sI_uI, if_neg (by simp)]; exact h.z, h.z12⟩
  rw [sI_uI]
  by_cases q : j = i
  · rw [if_pos ⟨rfl, rfl, q⟩]; exact hv
  · rw [if_neg (fun x => q x.2.2)]; exact h.c hj
theorem plX.row {S : PS} {nr z : Nat} {wr : Nat → Nat} (h : plX S nr wr z) {a : Nat} (ha : a ≠ 78) (x y t : Int32) (g o : Nat → Int64) (k : Nat) : plX (rwk (fm S a x y t) a g o k) nr wr z := by
  refine ⟨lkX_of h.1 rfl, ?_, h.n12, h.2.2.2.1, fun j hj => ?_, ?_, h.z12⟩
  · rw [sI_rwk, sI_fm_r (by simp)]; exact h.n
  · rw [sI_rwk, sI_fm_r (by simp)]; exact h.c hj
  · rw [sI_rwk, sI_fm_r (fun q => ha q.2.symm)]; exact h.z

set_option maxHeartbeats 4000000 in
set_option maxRecDepth 100000 in
/-- Plan.fitsAt -/
theorem c_X1_fitsAt (l : Launch) (G : GT) (hX : okX G) (S : PS) (nr z : Nat) (wr : Nat → Nat) (hpl : plX S nr wr z) (k : Nat) (hk : k < 12) : CtI l G yX1_fitsAt wsX1_fitsAt (rmK 2 50) [.ref (gA G 1 0), .int (nI k)] S (fun v S2 => ((v = 1 ∧ fitA (fun i => sJ S 9 (wr i) k) (sI S 8 0) nr) ∨ (v = 0 ∧ ¬ fitA (fun i => sJ S 9 (wr i) k) (sI S 8 0) nr)) ∧ eq4 S S2) := by
  refine ofCtZ (cc := cX1_fitsAt) (nL := 3) RX1 (by decide +kernel) rfl rfl (Nat.le_of_ble_eq_true rfl) ?_
  intro p e s m args below meth c A Q ls C w hl hret
  have hx := C.1
  have hb := C.2.1
  have hown := C.2.2.2.1
  have hts := C.2.2.2.2.1
  have hi1 : ∀ w ∈ wsX10, w ∈ wsX1_fitsAt := by decide +kernel
  refine lv_iconst (v := 0) hx hb dX1_fitsAt_0 (by decide) ?_
  refine lv_istore_n hx hb dX1_fitsAt_1 rfl hl (by decide) rfl (fun ls hl => ?_)
  have loop_2 : ∀ (n : Nat) (i : Nat) (S1 : PS) (H : Heap) (locs : List Loc) (ls : Array Slot), i + n = nr → eq4 S S1 → (∀ j, j < i → in64 ((sJ S 9 (wr j) k).toInt * (sI S 8 0 j).toInt)) → Wd G A s.heap S1 H locs → lv_has ls 3 [(0, .ref (gA G 1 0)), (1, .int (nI k)), (2, .int (nI i))] → W p l e (rmK 2 50) s m args below meth c H locs 0 0 Q (F0 m 2 ls []) := by
    intro n
    induction n with
    | zero =>
      intro i S1 H locs ls hi hE hI w hl
      have hpl := hpl.of4 hE
      have h12 := hpl.n12
      refine lv_iload_n hx hb dX1_fitsAt_2 rfl (lv_at hl 2 rfl) ?_
      refine lv_aload_n hx hb dX1_fitsAt_3 rfl (lv_at hl 0 rfl) ?_
      refine pgI 1 3 (by decide) rfl (by decide) (Or.inl rfl) rfl C w hi1 (by decide +kernel) dX1_fitsAt_4 (oP1 hX) (v := nI nr) hpl.n ?_
      refine lv_icmp_ge (tgt := 34) hx hb dX1_fitsAt_7 (by decide) (fun c_7 => ?_) (fun c_7 => absurd (nI_le (by omega) (by omega)) c_7)
      refine lv_aload_n hx hb dX1_fitsAt_34 rfl (lv_at hl 0 rfl) ?_
      refine lv_iload_n hx hb dX1_fitsAt_35 rfl (lv_at hl 1 rfl) ?_
      refine cvV (n := 1) C w hl dX1_fitsAt_36 (c_X1_priceSum l G hX S1 nr z wr hpl k hk) gX1_fitsAt_X1_priceSum rfl (by decide +kernel) rfl rfl (Nat.le_of_ble_eq_true rfl) ⟨by decide, by decide⟩ (by decide) rfl (oP1 hX) (fun S2 H locs hp w => ?_)
      subst hp
      refine lv_aload_n hx hb dX1_fitsAt_39 rfl (lv_at hl 0 rfl) ?_
      refine pgQ 1 7 4 (by decide) rfl (by decide) rfl rfl C w hi1 (by decide +kernel) dX1_fitsAt_40 (oP1 hX) (hpl.lk.2.2.2.2.2.2.2.2.2.2.2.2.2.2.1) ?_
      refine cvI (n := 0) C w hl dX1_fitsAt_43 (c_X4_fits l G hX _ 1 _ (by decide) (sJ_wd_0 _ _ _) (sJ_wd_1 _ _ _) (by have := sumV_bd (W := fun i => sJ S1 9 (wr i) k) (C := sI S1 8 0) nr (fun i hi => hpl.c hi); omega) (by have := sumV_bd (W := fun i => sJ S1 9 (wr i) k) (C := sI S1 8 0) nr (fun i hi => hpl.c hi); omega)) gX1_fitsAt_X4_fits rfl (by decide +kernel) rfl rfl (Nat.le_of_ble_eq_true rfl) ⟨by decide, by decide⟩ (by decide) rfl (oP4 hX (by decide)) (fun v4 S4 H locs hp w => ?_)
      obtain ⟨hq, e0⟩ := hp
      rw [e0] at w
      rw [hE.1, show (fun i => sJ S1 9 (wr i) k) = fun i => sJ S 9 (wr i) k from funext fun i => hE.j9 _ _] at hq
      exact hret _ _ _ _ _ _ dX1_fitsAt_46 w (b_of hq) ⟨imp_of ⟨fun q => ⟨fun j hj => hI j (by omega), q⟩, fun q => q.2⟩ hq, hE.tr (eq4_wd _ _ _)⟩
    | succ n ih =>
      intro i S1 H locs ls hi hE hI w hl
      have hpl := hpl.of4 hE
      have h12 := hpl.n12
      refine lv_iload_n hx hb dX1_fitsAt_2 rfl (lv_at hl 2 rfl) ?_
      refine lv_aload_n hx hb dX1_fitsAt_3 rfl (lv_at hl 0 rfl) ?_
      refine pgI 1 3 (by decide) rfl (by decide) (Or.inl rfl) rfl C w hi1 (by decide +kernel) dX1_fitsAt_4 (oP1 hX) (v := nI nr) hpl.n ?_
      refine lv_icmp_ge (tgt := 34) hx hb dX1_fitsAt_7 (by decide) (fun c_7 => absurd c_7 (nI_ge (by omega) (by omega))) (fun c_7 => ?_)
      refine lv_aload_n hx hb dX1_fitsAt_10 rfl (lv_at hl 0 rfl) ?_
      refine lv_iload_n hx hb dX1_fitsAt_11 rfl (lv_at hl 2 rfl) ?_
      refine lv_iload_n hx hb dX1_fitsAt_12 rfl (lv_at hl 1 rfl) ?_
      refine cvV (n := 2) C w hl dX1_fitsAt_13 (c_X1_pricePart l G hX S1 nr z wr hpl i k (by omega) hk) gX1_fitsAt_X1_pricePart rfl (by decide +kernel) rfl rfl (Nat.le_of_ble_eq_true rfl) ⟨by decide, by decide⟩ (by decide) rfl (oP1 hX) (fun S2 H locs hp w => ?_)
      subst hp
      refine lv_aload_n hx hb dX1_fitsAt_16 rfl (lv_at hl 0 rfl) ?_
      refine pgQ 1 8 4 (by decide) rfl (by decide) rfl rfl C w hi1 (by decide +kernel) dX1_fitsAt_17 (oP1 hX) (hpl.lk.2.2.2.2.2.2.2.2.2.2.2.2.2.2.2) ?_
      refine cvI (n := 0) C w hl dX1_fitsAt_20 (c_X4_fits l G hX _ 2 _ (by decide) (sJ_wd_0 _ _ _) (sJ_wd_1 _ _ _) (by have := prod_bd (sJ S1 9 (wr i) k) (hpl.c (i := i) (by omega)); omega) (by have := prod_bd (sJ S1 9 (wr i) k) (hpl.c (i := i) (by omega)); omega)) gX1_fitsAt_X4_fits rfl (by decide +kernel) rfl rfl (Nat.le_of_ble_eq_true rfl) ⟨by decide, by decide⟩ (by decide) rfl (oP4 hX (by decide)) (fun v4 S4 H locs hp w => ?_)
      obtain ⟨hq, e0⟩ := hp
      rw [e0] at w
      refine lv_if_ne (tgt := 28) hx hb dX1_fitsAt_23 (by decide) (fun c_23 => ?_) (fun c_23 => ?_)
      · refine lv_iinc (v := nI (i + 1)) hx hb dX1_fitsAt_28 hl (k := 2) rfl (nI_1 i) (by decide) rfl (fun ls hl => ?_)
        refine lv_goto (tgt := 2) hx hb dX1_fitsAt_31 (by decide) ?_
        exact ih (i + 1) _ _ _ _ (by omega) (hE.tr (eq4_wd _ _ _)) (lt_s hI (by have := yes_of hq c_23; rwa [hE.j9, hE.1] at this)) w (lv_sub hl [1, 2, 0] rfl)
      · refine lv_iconst (v := 0) hx hb dX1_fitsAt_26 (by decide) ?_
        exact hret _ _ _ _ _ _ dX1_fitsAt_27 w (by decide) ⟨Or.inr ⟨rfl, fun q => no_of hq c_23 (by rw [hE.j9, hE.1]; exact q.1 i (by omega))⟩, hE.tr (eq4_wd _ _ _)⟩
  exact loop_2 nr 0 S _ _ _ (by omega) (eq4.rf S) lt_0 w (lv_sub hl [1, 2, 0] rfl)

set_option maxHeartbeats 4000000 in
set_option maxRecDepth 100000 in
/-- Plan.allFit -/
theorem c_X1_allFit (l : Launch) (G : GT) (hX : okX G) (S : PS) (nr z : Nat) (wr : Nat → Nat) (hpl : plX S nr wr z) : CtI l G yX1_allFit wsX1_allFit (rmK 3 72) [.ref (gA G 1 0)] S (fun v S2 => ((v = 1 ∧ fitS S nr wr z) ∨ (v = 0 ∧ ¬ fitS S nr wr z)) ∧ eq4 S S2) := by
  refine ofCtZ (cc := cX1_allFit) (nL := 2) RX1 (by decide +kernel) rfl rfl (Nat.le_of_ble_eq_true rfl) ?_
  intro p e s m args below meth c A Q ls C w hl hret
  have hx := C.1
  have hb := C.2.1
  have hown := C.2.2.2.1
  have hts := C.2.2.2.2.1
  have hi1 : ∀ w ∈ wsX10, w ∈ wsX1_allFit := by decide +kernel
  have hi2 : ∀ w ∈ wsX20, w ∈ wsX1_allFit := by decide +kernel
  refine lv_iconst (v := 0) hx hb dX1_allFit_0 (by decide) ?_
  refine lv_istore_n hx hb dX1_allFit_1 rfl hl (by decide) rfl (fun ls hl => ?_)
  have loop_2 : ∀ (n : Nat) (k : Nat) (S1 : PS) (H : Heap) (locs : List Loc) (ls : Array Slot), k + n = z → eq4 S S1 → (∀ j, j < k → fitA (fun i => sJ S 9 (wr i) j) (sI S 8 0) nr) → Wd G A s.heap S1 H locs → lv_has ls 2 [(0, .ref (gA G 1 0)), (1, .int (nI k))] → W p l e (rmK 3 72) s m args below meth c H locs 0 0 Q (F0 m 2 ls []) := by
    intro n
    induction n with
    | zero =>
      intro k S1 H locs ls hk hE hI w hl
      have hpl := hpl.of4 hE
      have h12 := hpl.z12
      refine lv_iload_n hx hb dX1_allFit_2 rfl (lv_at hl 1 rfl) ?_
      refine lv_aload_n hx hb dX1_allFit_3 rfl (lv_at hl 0 rfl) ?_
      refine pgQ 1 0 2 (by decide) rfl (by decide) rfl rfl C w hi1 (by decide +kernel) dX1_allFit_4 (oP1 hX) (hpl.lk.2.2.2.2.2.2.2.2.2.2.1) ?_
      refine pgI 2 2 (by decide) rfl (by decide) (Or.inl rfl) rfl C w hi2 (by decide +kernel) dX1_allFit_7 (oP2 hX (by decide)) (v := nI z) hpl.z ?_
      refine lv_icmp_ge (tgt := 29) hx hb dX1_allFit_10 (by decide) (fun c_10 => ?_) (fun c_10 => absurd (nI_le (by omega) (by omega)) c_10)
      refine lv_iconst (v := 1) hx hb dX1_allFit_29 (by decide) ?_
      exact hret _ _ _ _ _ _ dX1_allFit_30 w (by decide) ⟨Or.inl ⟨rfl, fun j hj => hI j (by omega)⟩, hE⟩
    | succ n ih =>
      intro k S1 H locs ls hk hE hI w hl
      have hpl := hpl.of4 hE
      have h12 := hpl.z12
      refine lv_iload_n hx hb dX1_allFit_2 rfl (lv_at hl 1 rfl) ?_
      refine lv_aload_n hx hb dX1_allFit_3 rfl (lv_at hl 0 rfl) ?_
      refine pgQ 1 0 2 (by decide) rfl (by decide) rfl rfl C w hi1 (by decide +kernel) dX1_allFit_4 (oP1 hX) (hpl.lk.2.2.2.2.2.2.2.2.2.2.1) ?_
      refine pgI 2 2 (by decide) rfl (by decide) (Or.inl rfl) rfl C w hi2 (by decide +kernel) dX1_allFit_7 (oP2 hX (by decide)) (v := nI z) hpl.z ?_
      refine lv_icmp_ge (tgt := 29) hx hb dX1_allFit_10 (by decide) (fun c_10 => absurd c_10 (nI_ge (by omega) (by omega))) (fun c_10 => ?_)
      refine lv_aload_n hx hb dX1_allFit_13 rfl (lv_at hl 0 rfl) ?_
      refine lv_iload_n hx hb dX1_allFit_14 rfl (lv_at hl 1 rfl) ?_
      refine cvI (n := 1) C w hl dX1_allFit_15 (c_X1_fitsAt l G hX S1 nr z wr hpl k (by omega)) gX1_allFit_X1_fitsAt rfl (by decide +kernel) rfl rfl (Nat.le_of_ble_eq_true rfl) ⟨by decide, by decide⟩ (by decide) rfl (oP1 hX) (fun v2 S2 H locs hp w => ?_)
      have hq := hp.1
      rw [hE.1, show (fun i => sJ S1 9 (wr i) k) = fun i => sJ S 9 (wr i) k from funext fun i => hE.j9 _ _] at hq
      refine lv_if_ne (tgt := 23) hx hb dX1_allFit_18 (by decide) (fun c_18 => ?_) (fun c_18 => ?_)
      · refine lv_iinc (v := nI (k + 1)) hx hb dX1_allFit_23 hl (k := 1) rfl (nI_1 k) (by decide) rfl (fun ls hl => ?_)
        refine lv_goto (tgt := 2) hx hb dX1_allFit_26 (by decide) ?_
        exact ih (k + 1) _ _ _ _ (by omega) (hE.tr hp.2) (lt_s hI (yes_of hq c_18)) w (lv_sub hl [1, 0] rfl)
      · refine lv_iconst (v := 0) hx hb dX1_allFit_21 (by decide) ?_
        exact hret _ _ _ _ _ _ dX1_allFit_22 w (by decide) ⟨Or.inr ⟨rfl, fun q => no_of hq c_18 (q k (by omega))⟩, hE.tr hp.2⟩
  exact loop_2 z 0 S _ _ _ (by omega) (eq4.rf S) lt_0 w (lv_sub hl [1, 0] rfl)

set_option maxHeartbeats 4000000 in
set_option maxRecDepth 100000 in
/-- Plan.changeCount -/
theorem c_X1_changeCount (l : Launch) (G : GT) (hX : okX G) (S : PS) (nr z : Nat) (wr : Nat → Nat) (hpl : plX S nr wr z) (i : Nat) (v : Int32) (hi : i < nr) (hv : 0 ≤ v.toInt ∧ v.toInt ≤ 1000000) : CtI l G yX1_changeCount wsX1_changeCount (rmK 4 93) [.ref (gA G 1 0), .int (nI i), .int v] S (fun a S2 => (a = 1 ∧ fitS (uI S 8 0 i v) nr wr z ∧ eq4 (uI S 8 0 i v) S2) ∨ (a = 0 ∧ ¬ fitS (uI S 8 0 i v) nr wr z ∧ eq4 S S2)) := by
  refine ofCtZ (cc := cX1_changeCount) (nL := 4) RX1 (by decide +kernel) rfl rfl (Nat.le_of_ble_eq_true rfl) ?_
  intro p e s m args below meth c A Q ls C w hl hret
  have hx := C.1
  have hb := C.2.1
  have hown := C.2.2.2.1
  have hts := C.2.2.2.2.1
  have hi1 : ∀ w ∈ wsX10, w ∈ wsX1_changeCount := by decide +kernel
  have h12 := hpl.n12
  refine lv_aload_n hx hb dX1_changeCount_0 rfl (lv_at hl 0 rfl) ?_
  refine pgQ 1 2 8 (by decide) rfl (by decide) rfl rfl C w hi1 (by decide +kernel) dX1_changeCount_1 (oP1 hX) (hpl.lk.2.2.2.2.2.2.2.2.2.2.2.2.1) ?_
  refine lv_iload_n hx hb dX1_changeCount_4 rfl (lv_at hl 1 rfl) ?_
  refine paI C w dX1_changeCount_5 (oP8 hX) rfl (oN8 hX) (by omega) (by decide) rfl ?_
  refine lv_istore_n hx hb dX1_changeCount_6 rfl hl (by decide) rfl (fun ls hl => ?_)
  refine lv_aload_n hx hb dX1_changeCount_7 rfl (lv_at hl 1 rfl) ?_
  refine pgQ 1 2 8 (by decide) rfl (by decide) rfl rfl C w hi1 (by decide +kernel) dX1_changeCount_8 (oP1 hX) (hpl.lk.2.2.2.2.2.2.2.2.2.2.2.2.1) ?_
  refine lv_iload_n hx hb dX1_changeCount_11 rfl (lv_at hl 2 rfl) ?_
  refine lv_iload_n hx hb dX1_changeCount_12 rfl (lv_at hl 3 rfl) ?_
  refine psI C w dX1_changeCount_13 (oP8 hX) rfl (oN8 hX) (by omega) (by decide) (fun H locs w => ?_)
  have hpl := hpl.cnt (i := i) hv
  refine lv_aload_n hx hb dX1_changeCount_14 rfl (lv_at hl 1 rfl) ?_
  refine cvI (n := 0) C w hl dX1_changeCount_15 (c_X1_allFit l G hX _ nr z wr hpl) gX1_changeCount_X1_allFit rfl (by decide +kernel) rfl rfl (Nat.le_of_ble_eq_true rfl) ⟨by decide, by decide⟩ (by decide) rfl (oP1 hX) (fun v2 S2 H locs hp w => ?_)
  have hpl := hpl.of4 hp.2
  refine lv_if_ne (tgt := 30) hx hb dX1_changeCount_18 (by decide) (fun c_18 => ?_) (fun c_18 => ?_)
  · refine lv_iconst (v := 1) hx hb dX1_changeCount_30 (by decide) ?_
    exact hret _ _ _ _ _ _ dX1_changeCount_31 w (by decide) (Or.inl ⟨rfl, yes_of hp.1 c_18, hp.2⟩)
  · refine lv_aload_n hx hb dX1_changeCount_21 rfl (lv_at hl 1 rfl) ?_
    refine pgQ 1 2 8 (by decide) rfl (by decide) rfl rfl C w hi1 (by decide +kernel) dX1_changeCount_22 (oP1 hX) (hpl.lk.2.2.2.2.2.2.2.2.2.2.2.2.1) ?_
    refine lv_iload_n hx hb dX1_changeCount_25 rfl (lv_at hl 2 rfl) ?_
    refine lv_iload_n hx hb dX1_changeCount_26 rfl (lv_at hl 0 rfl) ?_
    refine psI C w dX1_changeCount_27 (oP8 hX) rfl (oN8 hX) (by omega) (by decide) (fun H locs w => ?_)
    refine lv_iconst (v := 0) hx hb dX1_changeCount_28 (by decide) ?_
    exact hret _ _ _ _ _ _ dX1_changeCount_29 w (by decide) (Or.inr ⟨rfl, no_of hp.1 c_18, by have := hp.2.uI 8 0 i (sI S 8 0 i); rwa [uI_back] at this⟩)
end
section
/-- rule i's weight and the spare trade places -/
def trd (S : PS) (i x y : Nat) : PS := uQ (uQ S 10 1 i (some y)) 1 0 6 (some x)
theorem trd_back {S : PS} {i x y : Nat} (h1 : sQ S 10 1 i = some x) (h2 : sQ S 1 0 6 = some y) : trd (trd S i x y) i y x = S := by
  refine PS_ext (fun _ _ _ => rfl) (fun _ _ _ => rfl) (fun c' r' k' => ?_)
  unfold trd
  rw [sQ_uQ, sQ_uQ, sQ_uQ, sQ_uQ]
  by_cases a : c' = 1 ∧ r' = 0 ∧ k' = 6
  · obtain ⟨rfl, rfl, rfl⟩ := a; simp [h2]
  · rw [if_neg a]
    by_cases b : c' = 10 ∧ r' = 1 ∧ k' = i
    · obtain ⟨rfl, rfl, rfl⟩ := b; simp [h1]
    · rw [if_neg b, if_neg a, if_neg b]
theorem eq4.trade {S S2 : PS} (h : eq4 S S2) (i x y : Nat) : eq4 (trd S i x y) (trd S2 i x y) := (h.uQ _ _ _ _).uQ _ _ _ _
theorem trd_q {S : PS} {i x y c r k : Nat} (a : ¬ (c = 10 ∧ r = 1)) (b : ¬ (c = 1 ∧ k = 6)) : sQ (trd S i x y) c r k = sQ S c r k := by
  unfold trd
  rw [sQ_uQ, if_neg (fun q => b ⟨q.1, q.2.2⟩), sQ_uQ, if_neg (fun q => a ⟨q.1, q.2.1⟩)]
theorem trd_w {S : PS} {i x y j : Nat} : sQ (trd S i x y) 10 1 j = if j = i then some y else sQ S 10 1 j := by
  unfold trd
  rw [sQ_uQ, if_neg (by simp), sQ_uQ]
  by_cases h : j = i
  · rw [if_pos h, if_pos ⟨rfl, rfl, h⟩]
  · rw [if_neg h, if_neg (fun q => h q.2.2)]
theorem trd_s {S : PS} {i x y : Nat} : sQ (trd S i x y) 1 0 6 = some x := by unfold trd; rw [sQ_uQ, if_pos ⟨rfl, rfl, rfl⟩]
theorem lkX_trd {S : PS} (h : lkX S) (i x y : Nat) : lkX (trd S i x y) := by
  obtain ⟨h1, h2, h3⟩ := h
  refine ⟨fun r hr => ?_, fun j hj => ?_, ?_⟩
  · rw [trd_q (by simp) (by simp)]; exact h1 r hr
  · rw [trd_q (by simp) (by simp)]; exact h2 j hj
  · simp only [trd_q (show ¬ (5 = 10 ∧ 0 = 1) by simp) (show ¬ (5 = 1 ∧ _ = 6) by simp), trd_q (show ¬ (3 = 10 ∧ 0 = 1) by simp) (show ¬ (3 = 1 ∧ _ = 6) by simp), trd_q (show ¬ (0 = 10 ∧ 0 = 1) by simp) (show ¬ (0 = 1 ∧ _ = 6) by simp), trd_q (show ¬ (1 = 10 ∧ 0 = 1) by simp) (show ¬ (1 = 1 ∧ 0 = 6) by simp), trd_q (show ¬ (1 = 10 ∧ 0 = 1) by simp) (show ¬ (1 = 1 ∧ 1 = 6) by simp), trd_q (show ¬ (1 = 10 ∧ 0 = 1) by simp) (show ¬ (1 = 1 ∧ 2 = 6) by simp), trd_q (show ¬ (1 = 10 ∧ 0 = 1) by simp) (show ¬ (1 = 1 ∧ 4 = 6) by simp), trd_q (show ¬ (1 = 10 ∧ 0 = 1) by simp) (show ¬ (1 = 1 ∧ 7 = 6) by simp), trd_q (show ¬ (1 = 10 ∧ 0 = 1) by simp) (show ¬ (1 = 1 ∧ 8 = 6) by simp)]
    exact h3
theorem plX.trade {S : PS} {nr z : Nat} {wr : Nat → Nat} (h : plX S nr wr z) {i x y : Nat} (hy : y < 79) : plX (trd S i x y) nr (va_up wr i y) z := by
  refine ⟨lkX_trd h.1 i x y, h.n, h.n12, fun j hj => ?_, fun j hj => h.c hj, h.z, h.z12⟩
  rw [trd_w]
  unfold va_up
  by_cases q : j = i
  · rw [if_pos q, if_pos q]; exact ⟨rfl, hy⟩
  · rw [if_neg q, if_neg q]; exact ⟨h.w hj, h.w79 hj⟩

set_option maxHeartbeats 4000000 in
set_option maxRecDepth 100000 in
/-- Plan.begin -/
theorem c_X1_begin (l : Launch) (G : GT) (hX : okX G) (S : PS) (hS : lkX S) (a : Nat) (ha : a < 79) : CtV l G yX1_begin wsX1_begin (rmK 2 44) [.ref (gA G 1 0), .ref (gA G 2 a)] S (fun S2 => S2 = uI (uI (fm S 78 (sI S 2 a 0) (sI S 2 a 1) (sI S 2 a 2)) 1 0 3 0) 1 0 5 0) := by
  refine ofCtV (cc := cX1_begin) (nL := 2) RX1 (by decide +kernel) rfl rfl (Nat.le_of_ble_eq_true rfl) ?_
  intro p e s m args below meth c A Q ls C w hl hret
  have hx := C.1
  have hb := C.2.1
  have hown := C.2.2.2.1
  have hts := C.2.2.2.2.1
  have hi1 : ∀ w ∈ wsX10, w ∈ wsX1_begin := by decide +kernel
  refine lv_aload_n hx hb dX1_begin_0 rfl (lv_at hl 0 rfl) ?_
  refine pgQ 1 0 2 (by decide) rfl (by decide) rfl rfl C w hi1 (by decide +kernel) dX1_begin_1 (oP1 hX) hS.2.2.2.2.2.2.2.2.2.2.1 ?_
  refine lv_aload_n hx hb dX1_begin_4 rfl (lv_at hl 1 rfl) ?_
  refine cvV (n := 1) C w hl dX1_begin_5 (c_X2_formLike l G hX S 78 a (by decide) (by assumption)) gX1_begin_X2_formLike rfl (by decide +kernel) rfl rfl (Nat.le_of_ble_eq_true rfl) ⟨by decide, by decide⟩ (by decide) rfl (oP2 hX (by decide)) (fun S2 H locs hp w => ?_)
  subst hp
  refine lv_aload_n hx hb dX1_begin_8 rfl (lv_at hl 0 rfl) ?_
  refine lv_iconst (v := 0) hx hb dX1_begin_9 (by decide) ?_
  refine ppI 1 3 (by decide) rfl (by decide) rfl rfl tyX1_ok nmX1 rfl (by decide +kernel) C w hi1 (by decide +kernel) dX1_begin_10 (oP1 hX) (fun H locs w => ?_)
  refine lv_aload_n hx hb dX1_begin_13 rfl (lv_at hl 0 rfl) ?_
  refine lv_iconst (v := 0) hx hb dX1_begin_14 (by decide) ?_
  refine ppI 1 5 (by decide) rfl (by decide) rfl rfl tyX1_ok nmX1 rfl (by decide +kernel) C w hi1 (by decide +kernel) dX1_begin_15 (oP1 hX) (fun H locs w => ?_)
  exact hret _ _ _ _ _ dX1_begin_18 w rfl

set_option maxHeartbeats 4000000 in
set_option maxRecDepth 100000 in
/-- Plan.hasRule -/
theorem c_X1_hasRule (l : Launch) (G : GT) (hX : okX G) (S : PS) (k : Int32) : CtI l G yX1_hasRule wsX1_hasRule (rmK 0 0) [.ref (gA G 1 0), .int k] S (fun v S2 => v = (if k < 0 ∨ sI S 1 0 3 ≤ k then 0 else 1) ∧ S2 = S) := by
  refine ofCtZ (cc := cX1_hasRule) (nL := 2) RX1 (by decide +kernel) rfl rfl (Nat.le_of_ble_eq_true rfl) ?_
  intro p e s m args below meth c A Q ls C w hl hret
  have hx := C.1
  have hb := C.2.1
  have hown := C.2.2.2.1
  have hts := C.2.2.2.2.1
  have hi1 : ∀ w ∈ wsX10, w ∈ wsX1_hasRule := by decide +kernel
  refine lv_iload_n hx hb dX1_hasRule_0 rfl (lv_at hl 1 rfl) ?_
  refine lv_if_lt (tgt := 16) hx hb dX1_hasRule_1 (by decide) (fun c_1 => ?_) (fun c_1 => ?_)
  · refine lv_iconst (v := 0) hx hb dX1_hasRule_16 (by decide) ?_
    exact hret _ _ _ _ _ _ dX1_hasRule_17 w (by decide) ⟨by simp_all, rfl⟩
  · refine lv_iload_n hx hb dX1_hasRule_4 rfl (lv_at hl 1 rfl) ?_
    refine lv_aload_n hx hb dX1_hasRule_5 rfl (lv_at hl 0 rfl) ?_
    refine pgI 1 3 (by decide) rfl (by decide) (Or.inl rfl) rfl C w hi1 (by decide +kernel) dX1_hasRule_6 (oP1 hX) rfl ?_
    refine lv_icmp_ge (tgt := 16) hx hb dX1_hasRule_9 (by decide) (fun c_9 => ?_) (fun c_9 => ?_)
    · refine lv_iconst (v := 0) hx hb dX1_hasRule_16 (by decide) ?_
      exact hret _ _ _ _ _ _ dX1_hasRule_17 w (by decide) ⟨by simp_all, rfl⟩
    · refine lv_iconst (v := 1) hx hb dX1_hasRule_12 (by decide) ?_
      refine lv_goto (tgt := 17) hx hb dX1_hasRule_13 (by decide) ?_
      exact hret _ _ _ _ _ _ dX1_hasRule_17 w (by decide) ⟨by simp_all, rfl⟩

set_option maxHeartbeats 4000000 in
set_option maxRecDepth 100000 in
/-- Plan.addRule -/
theorem c_X1_addRule (l : Launch) (G : GT) (hX : okX G) (S : PS) (nr z : Nat) (wr : Nat → Nat) (hpl : plX S nr wr z) (a za : Nat) (ha : a < 79) (hna : a ≠ wr nr) (h12 : nr < 12) (hza : sI S 2 a 2 = nI za) (hza12 : za ≤ 12) : CtI l G yX1_addRule wsX1_addRule (rmK 3 66) [.ref (gA G 1 0), .ref (gA G 2 a)] S (fun v S2 => v = nI nr ∧ S2 = uI (uI (rwk (fm S (wr nr) (sI S 2 a 0) (sI S 2 a 1) (sI S 2 a 2)) (wr nr) (sJ S 9 a) (sJ S 9 (wr nr)) za) 8 0 nr 0) 1 0 3 (nI (nr + 1))) := by
  refine ofCtI (cc := cX1_addRule) (nL := 2) RX1 (by decide +kernel) rfl rfl (Nat.le_of_ble_eq_true rfl) ?_
  intro p e s m args below meth c A Q ls C w hl hret
  have hx := C.1
  have hb := C.2.1
  have hown := C.2.2.2.1
  have hts := C.2.2.2.2.1
  have hi1 : ∀ w ∈ wsX10, w ∈ wsX1_addRule := by decide +kernel
  refine lv_aload_n hx hb dX1_addRule_0 rfl (lv_at hl 0 rfl) ?_
  refine pgQ 1 1 10 (by decide) rfl (by decide) rfl rfl C w hi1 (by decide +kernel) dX1_addRule_1 (oP1 hX) (hpl.lk.2.2.2.2.2.2.2.2.2.2.2.1) ?_
  refine lv_aload_n hx hb dX1_addRule_4 rfl (lv_at hl 0 rfl) ?_
  refine pgI 1 3 (by decide) rfl (by decide) (Or.inl rfl) rfl C w hi1 (by decide +kernel) dX1_addRule_5 (oP1 hX) (v := nI nr) hpl.n ?_
  refine paQ C w dX1_addRule_8 (oP10 hX (by decide)) rfl (oN101 hX) (by omega) (by decide) (r1 := wr nr) (hpl.w h12) ?_
  refine lv_aload_n hx hb dX1_addRule_9 rfl (lv_at hl 1 rfl) ?_
  refine cvV (n := 1) C w hl dX1_addRule_10 (c_X2_copy l G hX S hpl.lk (wr nr) a za (hpl.w79 h12) ha hna hza hza12) gX1_addRule_X2_copy rfl (by decide +kernel) rfl rfl (Nat.le_of_ble_eq_true rfl) ⟨by decide, by decide⟩ (by decide) rfl (oP2 hX (hpl.w79 h12)) (fun S2 H locs hp w => ?_)
  subst hp
  refine lv_aload_n hx hb dX1_addRule_13 rfl (lv_at hl 0 rfl) ?_
  refine pgQ 1 2 8 (by decide) rfl (by decide) rfl rfl C w hi1 (by decide +kernel) dX1_addRule_14 (oP1 hX) (hpl.lk.2.2.2.2.2.2.2.2.2.2.2.2.1) ?_
  refine lv_aload_n hx hb dX1_addRule_17 rfl (lv_at hl 0 rfl) ?_
  refine pgI 1 3 (by decide) rfl (by decide) (Or.inl rfl) rfl C w hi1 (by decide +kernel) dX1_addRule_18 (oP1 hX) (v := nI nr) (by rw [sI_rwk, sI_fm_r (by simp)]; exact hpl.n) ?_
  refine lv_iconst (v := 0) hx hb dX1_addRule_21 (by decide) ?_
  refine psI C w dX1_addRule_22 (oP8 hX) rfl (oN8 hX) (by omega) (by decide) (fun H locs w => ?_)
  refine lv_aload_n hx hb dX1_addRule_23 rfl (lv_at hl 0 rfl) ?_
  refine lv_dup hx hb dX1_addRule_24 rfl ?_
  refine pgI 1 3 (by decide) rfl (by decide) (Or.inl rfl) rfl C w hi1 (by decide +kernel) dX1_addRule_25 (oP1 hX) (v := nI nr) (by rw [sI_uI, if_neg (by simp), sI_rwk, sI_fm_r (by simp)]; exact hpl.n) ?_
  refine lv_iconst (v := 1) hx hb dX1_addRule_28 (by decide) ?_
  refine lv_iadd hx hb dX1_addRule_29 ?_
  refine ppI 1 3 (by decide) rfl (by decide) rfl rfl tyX1_ok nmX1 rfl (by decide +kernel) C w hi1 (by decide +kernel) dX1_addRule_30 (oP1 hX) (fun H locs w => ?_)
  rw [nI_1] at w
  refine lv_aload_n hx hb dX1_addRule_33 rfl (lv_at hl 0 rfl) ?_
  refine pgI 1 3 (by decide) rfl (by decide) (Or.inl rfl) rfl C w hi1 (by decide +kernel) dX1_addRule_34 (oP1 hX) (v := nI (nr + 1)) (by rw [sI_uI, if_pos ⟨rfl, rfl, rfl⟩]) ?_
  refine lv_iconst (v := 1) hx hb dX1_addRule_37 (by decide) ?_
  refine lv_isub hx hb dX1_addRule_38 ?_
  exact hret _ _ _ _ _ _ dX1_addRule_39 w ⟨nI_pred nr, rfl⟩

set_option maxHeartbeats 4000000 in
set_option maxRecDepth 100000 in
/-- Plan.tradeSpare -/
theorem c_X1_tradeSpare (l : Launch) (G : GT) (hX : okX G) (S : PS) (nr z : Nat) (wr : Nat → Nat) (hpl : plX S nr wr z) (i sp : Nat) (hi : i < 12) (hsp : sQ S 1 0 6 = some sp) (hs79 : sp < 79) : CtV l G yX1_tradeSpare wsX1_tradeSpare (rmK 0 0) [.ref (gA G 1 0), .int (nI i)] S (fun S2 => S2 = trd S i (wr i) sp) := by
  refine ofCtV (cc := cX1_tradeSpare) (nL := 3) RX1 (by decide +kernel) rfl rfl (Nat.le_of_ble_eq_true rfl) ?_
  intro p e s m args below meth c A Q ls C w hl hret
  have hx := C.1
  have hb := C.2.1
  have hown := C.2.2.2.1
  have hts := C.2.2.2.2.1
  have hi1 : ∀ w ∈ wsX10, w ∈ wsX1_tradeSpare := by decide +kernel
  refine lv_aload_n hx hb dX1_tradeSpare_0 rfl (lv_at hl 0 rfl) ?_
  refine pgQ 1 1 10 (by decide) rfl (by decide) rfl rfl C w hi1 (by decide +kernel) dX1_tradeSpare_1 (oP1 hX) (hpl.lk.2.2.2.2.2.2.2.2.2.2.2.1) ?_
  refine lv_iload_n hx hb dX1_tradeSpare_4 rfl (lv_at hl 1 rfl) ?_
  refine paQ C w dX1_tradeSpare_5 (oP10 hX (by decide)) rfl (oN101 hX) (by omega) (by decide) (r1 := wr i) (hpl.w hi) ?_
  refine lv_astore_n hx hb dX1_tradeSpare_6 rfl hl (by decide) rfl (fun ls hl => ?_)
  refine lv_aload_n hx hb dX1_tradeSpare_7 rfl (lv_at hl 1 rfl) ?_
  refine pgQ 1 1 10 (by decide) rfl (by decide) rfl rfl C w hi1 (by decide +kernel) dX1_tradeSpare_8 (oP1 hX) (hpl.lk.2.2.2.2.2.2.2.2.2.2.2.1) ?_
  refine lv_iload_n hx hb dX1_tradeSpare_11 rfl (lv_at hl 2 rfl) ?_
  refine lv_aload_n hx hb dX1_tradeSpare_12 rfl (lv_at hl 1 rfl) ?_
  refine pgQ 1 6 2 (by decide) rfl (by decide) rfl rfl C w hi1 (by decide +kernel) dX1_tradeSpare_13 (oP1 hX) (r1 := sp) hsp ?_
  refine psQ C w dX1_tradeSpare_16 (oP10 hX (by decide)) (oP2 hX hs79) rfl (oN101 hX) (by omega) (by decide) (fun H locs w => ?_)
  refine lv_aload_n hx hb dX1_tradeSpare_17 rfl (lv_at hl 1 rfl) ?_
  refine lv_aload_n hx hb dX1_tradeSpare_18 rfl (lv_at hl 0 rfl) ?_
  refine ppQ (D := "LevelScores$Score") 1 6 2 (by decide) rfl (by decide) rfl rfl tyX1_ok nmX1 rfl (by decide +kernel) C w hi1 (by decide +kernel) dX1_tradeSpare_19 (oP1 hX) (fun H locs w => ?_)
  exact hret _ _ _ _ _ dX1_tradeSpare_22 w rfl

set_option maxHeartbeats 4000000 in
set_option maxRecDepth 100000 in
/-- Plan.changeWeight -/
theorem c_X1_changeWeight (l : Launch) (G : GT) (hX : okX G) (S : PS) (nr z : Nat) (wr : Nat → Nat) (hpl : plX S nr wr z) (i sp a : Nat) (hi : i < 12) (hsp : sQ S 1 0 6 = some sp) (hs79 : sp < 79) (hs78 : sp ≠ 78) (ha : a < 79) (hna : a ≠ sp) (hza : sI S 2 a 2 = nI z) : CtI l G yX1_changeWeight wsX1_changeWeight (rmK 4 93) [.ref (gA G 1 0), .int (nI i), .ref (gA G 2 a)] S (fun v S2 => (v = 1 ∧ fitS (trd (rwk (fm S sp (sI S 2 a 0) (sI S 2 a 1) (sI S 2 a 2)) sp (sJ S 9 a) (sJ S 9 sp) z) i (wr i) sp) nr (va_up wr i sp) z ∧ eq4 (trd (rwk (fm S sp (sI S 2 a 0) (sI S 2 a 1) (sI S 2 a 2)) sp (sJ S 9 a) (sJ S 9 sp) z) i (wr i) sp) S2) ∨ (v = 0 ∧ ¬ fitS (trd (rwk (fm S sp (sI S 2 a 0) (sI S 2 a 1) (sI S 2 a 2)) sp (sJ S 9 a) (sJ S 9 sp) z) i (wr i) sp) nr (va_up wr i sp) z ∧ eq4 (rwk (fm S sp (sI S 2 a 0) (sI S 2 a 1) (sI S 2 a 2)) sp (sJ S 9 a) (sJ S 9 sp) z) S2)) := by
  refine ofCtZ (cc := cX1_changeWeight) (nL := 3) RX1 (by decide +kernel) rfl rfl (Nat.le_of_ble_eq_true rfl) ?_
  intro p e s m args below meth c A Q ls C w hl hret
  have hx := C.1
  have hb := C.2.1
  have hown := C.2.2.2.1
  have hts := C.2.2.2.2.1
  have hi1 : ∀ w ∈ wsX10, w ∈ wsX1_changeWeight := by decide +kernel
  refine lv_aload_n hx hb dX1_changeWeight_0 rfl (lv_at hl 0 rfl) ?_
  refine pgQ 1 6 2 (by decide) rfl (by decide) rfl rfl C w hi1 (by decide +kernel) dX1_changeWeight_1 (oP1 hX) (r1 := sp) hsp ?_
  refine lv_aload_n hx hb dX1_changeWeight_4 rfl (lv_at hl 2 rfl) ?_
  refine cvV (n := 1) C w hl dX1_changeWeight_5 (c_X2_copy l G hX S hpl.lk sp a z hs79 ha hna hza hpl.z12) gX1_changeWeight_X2_copy rfl (by decide +kernel) rfl rfl (Nat.le_of_ble_eq_true rfl) ⟨by decide, by decide⟩ (by decide) rfl (oP2 hX hs79) (fun S2 H locs hp w => ?_)
  subst hp
  have hpl := hpl.row hs78 (sI S 2 a 0) (sI S 2 a 1) (sI S 2 a 2) (sJ S 9 a) (sJ S 9 sp) z
  refine lv_aload_n hx hb dX1_changeWeight_8 rfl (lv_at hl 0 rfl) ?_
  refine lv_iload_n hx hb dX1_changeWeight_9 rfl (lv_at hl 1 rfl) ?_
  refine cvV (n := 1) C w hl dX1_changeWeight_10 (c_X1_tradeSpare l G hX _ nr z wr hpl i sp hi hsp hs79) gX1_changeWeight_X1_tradeSpare rfl (by decide +kernel) rfl rfl (Nat.le_of_ble_eq_true rfl) ⟨by decide, by decide⟩ (by decide) rfl (oP1 hX) (fun S2 H locs hp w => ?_)
  subst hp
  have hpl2 := hpl.trade (i := i) (x := wr i) hs79
  refine lv_aload_n hx hb dX1_changeWeight_13 rfl (lv_at hl 0 rfl) ?_
  refine cvI (n := 0) C w hl dX1_changeWeight_14 (c_X1_allFit l G hX _ nr z _ hpl2) gX1_changeWeight_X1_allFit rfl (by decide +kernel) rfl rfl (Nat.le_of_ble_eq_true rfl) ⟨by decide, by decide⟩ (by decide) rfl (oP1 hX) (fun v2 S2 H locs hp w => ?_)
  refine lv_if_ne (tgt := 27) hx hb dX1_changeWeight_17 (by decide) (fun c_17 => ?_) (fun c_17 => ?_)
  · refine lv_iconst (v := 1) hx hb dX1_changeWeight_27 (by decide) ?_
    exact hret _ _ _ _ _ _ dX1_changeWeight_28 w (by decide) (Or.inl ⟨rfl, yes_of hp.1 c_17, hp.2⟩)
  · refine lv_aload_n hx hb dX1_changeWeight_20 rfl (lv_at hl 0 rfl) ?_
    refine lv_iload_n hx hb dX1_changeWeight_21 rfl (lv_at hl 1 rfl) ?_
    refine cvV (n := 1) C w hl dX1_changeWeight_22 (c_X1_tradeSpare l G hX S2 nr z _ (hpl2.of4 hp.2) i (wr i) hi (by rw [hp.2.2.1]; exact trd_s) (hpl.w79 hi)) gX1_changeWeight_X1_tradeSpare rfl (by decide +kernel) rfl rfl (Nat.le_of_ble_eq_true rfl) ⟨by decide, by decide⟩ (by decide) rfl (oP1 hX) (fun S3 H locs hp3 w => ?_)
    
    refine lv_iconst (v := 0) hx hb dX1_changeWeight_25 (by decide) ?_
    exact hret _ _ _ _ _ _ dX1_changeWeight_26 w (by decide) (Or.inr ⟨rfl, no_of hp.1 c_17, by have h9 := hp.2.trade i sp (wr i); rw [trd_back (hpl.w hi) hsp] at h9; rw [hp3, show va_up wr i sp i = sp from va_up_self _ _ _]; exact h9⟩)
end
section
theorem bu_ff {b u : Bool} (hb : b = false) (c : (0 : Int32) = if u = true then 1 else 0) : b = u := by
  subst hb; cases u
  · rfl
  · exact absurd c (by decide)
theorem bu_tt {b u : Bool} (hb : b = true) (c : (1 : Int32) = if u = true then 1 else 0) : b = u := by
  subst hb; cases u
  · exact absurd c (by decide)
  · rfl
theorem bu_nf {b u : Bool} (hb : b = false) (c : ¬ (0 : Int32) = if u = true then 1 else 0) : ¬ b = u := by
  subst hb; cases u
  · exact absurd rfl c
  · decide
theorem bu_nt {b u : Bool} (hb : b = true) (c : ¬ (1 : Int32) = if u = true then 1 else 0) : ¬ b = u := by
  subst hb; cases u
  · decide
  · exact absurd rfl c

set_option maxHeartbeats 4000000 in
set_option maxRecDepth 100000 in
/-- Plan.sumInto -/
theorem c_X1_sumInto (l : Launch) (G : GT) (hX : okX G) (S : PS) (nr z : Nat) (wr : Nat → Nat) (hpl : plX S nr wr z) (a : Nat) (ha : a < 60) (hwa : ∀ i, i < 12 → wr i ≠ a) : CtV l G yX1_sumInto wsX1_sumInto (rmK 2 50) [.ref (gA G 1 0), .ref (gA G 2 a)] S (fun S2 => eq4 (rwk (fm S a (sI S 2 78 0) (sI S 2 78 1) (sI S 2 78 2)) a (fun k => Int64.ofInt (sumV (fun i => sJ S 9 (wr i) k) (sI S 8 0) nr)) (sJ S 9 a) z) S2) := by
  refine ofCtV (cc := cX1_sumInto) (nL := 3) RX1 (by decide +kernel) rfl rfl (Nat.le_of_ble_eq_true rfl) ?_
  intro p e s m args below meth c A Q ls C w hl hret
  have hx := C.1
  have hb := C.2.1
  have hown := C.2.2.2.1
  have hts := C.2.2.2.2.1
  have hi1 : ∀ w ∈ wsX10, w ∈ wsX1_sumInto := by decide +kernel
  have hi2 : ∀ w ∈ wsX20, w ∈ wsX1_sumInto := by decide +kernel
  refine lv_aload_n hx hb dX1_sumInto_0 rfl (lv_at hl 1 rfl) ?_
  refine lv_aload_n hx hb dX1_sumInto_1 rfl (lv_at hl 0 rfl) ?_
  refine pgQ 1 0 2 (by decide) rfl (by decide) rfl rfl C w hi1 (by decide +kernel) dX1_sumInto_2 (oP1 hX) (r1 := 78) hpl.lk.2.2.2.2.2.2.2.2.2.2.1 ?_
  refine cvV (n := 1) C w hl dX1_sumInto_5 (c_X2_formLike l G hX S a 78 (by omega) (by decide)) gX1_sumInto_X2_formLike rfl (by decide +kernel) rfl rfl (Nat.le_of_ble_eq_true rfl) ⟨by decide, by decide⟩ (by decide) rfl (oP2 hX (by omega)) (fun S2 H locs hp w => ?_)
  subst hp
  refine lv_iconst (v := 0) hx hb dX1_sumInto_8 (by decide) ?_
  refine lv_istore_n hx hb dX1_sumInto_9 rfl hl (by decide) rfl (fun ls hl => ?_)
  have loop_10 : ∀ (n : Nat) (k : Nat) (S1 : PS) (H : Heap) (locs : List Loc) (ls : Array Slot), k + n = z → eq4 (rwk (fm S a (sI S 2 78 0) (sI S 2 78 1) (sI S 2 78 2)) a (fun k => Int64.ofInt (sumV (fun i => sJ S 9 (wr i) k) (sI S 8 0) nr)) (sJ S 9 a) k) S1 → Wd G A s.heap S1 H locs → lv_has ls 3 [(0, .ref (gA G 1 0)), (1, .ref (gA G 2 a)), (2, .int (nI k))] → W p l e (rmK 2 50) s m args below meth c H locs 0 0 Q (F0 m 10 ls []) := by
    intro n
    induction n with
    | zero =>
      intro k S1 H locs ls hk hE w hl
      have hpl := (hpl.row (show a ≠ 78 by omega) (sI S 2 78 0) (sI S 2 78 1) (sI S 2 78 2) (fun k => Int64.ofInt (sumV (fun i => sJ S 9 (wr i) k) (sI S 8 0) nr)) (sJ S 9 a) k).of4 hE
      have h12 := hpl.n12
      have hz12 := hpl.z12
      have e9 : ∀ i, i < 12 → sJ S1 9 (wr i) k = sJ S 9 (wr i) k := fun i hi => by rw [hE.j9, sJ_rwk_n (hwa i hi)]; rfl
      have eI : sI S1 8 0 = sI S 8 0 := by rw [hE.1, sI_rwk]; funext j; exact sI_fm_r (by simp)
      refine lv_iload_n hx hb dX1_sumInto_10 rfl (lv_at hl 2 rfl) ?_
      refine lv_aload_n hx hb dX1_sumInto_11 rfl (lv_at hl 0 rfl) ?_
      refine pgQ 1 0 2 (by decide) rfl (by decide) rfl rfl C w hi1 (by decide +kernel) dX1_sumInto_12 (oP1 hX) (r1 := 78) hpl.lk.2.2.2.2.2.2.2.2.2.2.1 ?_
      refine pgI 2 2 (by decide) rfl (by decide) (Or.inl rfl) rfl C w hi2 (by decide +kernel) dX1_sumInto_15 (oP2 hX (by decide)) (v := nI z) hpl.z ?_
      refine lv_icmp_ge (tgt := 45) hx hb dX1_sumInto_18 (by decide) (fun c_18 => ?_) (fun c_18 => absurd (nI_le (by omega) (by omega)) c_18)
      have e : k = z := by omega
      subst e
      exact hret _ _ _ _ _ dX1_sumInto_45 w hE
    | succ n ih =>
      intro k S1 H locs ls hk hE w hl
      have hpl := (hpl.row (show a ≠ 78 by omega) (sI S 2 78 0) (sI S 2 78 1) (sI S 2 78 2) (fun k => Int64.ofInt (sumV (fun i => sJ S 9 (wr i) k) (sI S 8 0) nr)) (sJ S 9 a) k).of4 hE
      have h12 := hpl.n12
      have hz12 := hpl.z12
      have e9 : ∀ i, i < 12 → sJ S1 9 (wr i) k = sJ S 9 (wr i) k := fun i hi => by rw [hE.j9, sJ_rwk_n (hwa i hi)]; rfl
      have eI : sI S1 8 0 = sI S 8 0 := by rw [hE.1, sI_rwk]; funext j; exact sI_fm_r (by simp)
      refine lv_iload_n hx hb dX1_sumInto_10 rfl (lv_at hl 2 rfl) ?_
      refine lv_aload_n hx hb dX1_sumInto_11 rfl (lv_at hl 0 rfl) ?_
      refine pgQ 1 0 2 (by decide) rfl (by decide) rfl rfl C w hi1 (by decide +kernel) dX1_sumInto_12 (oP1 hX) (r1 := 78) hpl.lk.2.2.2.2.2.2.2.2.2.2.1 ?_
      refine pgI 2 2 (by decide) rfl (by decide) (Or.inl rfl) rfl C w hi2 (by decide +kernel) dX1_sumInto_15 (oP2 hX (by decide)) (v := nI z) hpl.z ?_
      refine lv_icmp_ge (tgt := 45) hx hb dX1_sumInto_18 (by decide) (fun c_18 => absurd c_18 (nI_ge (by omega) (by omega))) (fun c_18 => ?_)
      refine lv_aload_n hx hb dX1_sumInto_21 rfl (lv_at hl 0 rfl) ?_
      refine lv_iload_n hx hb dX1_sumInto_22 rfl (lv_at hl 2 rfl) ?_
      refine cvV (n := 1) C w hl dX1_sumInto_23 (c_X1_priceSum l G hX S1 nr z wr hpl k (by omega)) gX1_sumInto_X1_priceSum rfl (by decide +kernel) rfl rfl (Nat.le_of_ble_eq_true rfl) ⟨by decide, by decide⟩ (by decide) rfl (oP1 hX) (fun S2 H locs hp w => ?_)
      subst hp
      refine lv_aload_n hx hb dX1_sumInto_26 rfl (lv_at hl 1 rfl) ?_
      refine pgQ 2 3 9 (by decide) rfl (by decide) rfl rfl C w hi2 (by decide +kernel) dX1_sumInto_27 (oP2 hX (by omega)) (r1 := a) (lk2 hpl.lk (by omega)) ?_
      refine lv_iload_n hx hb dX1_sumInto_30 rfl (lv_at hl 2 rfl) ?_
      refine lv_aload_n hx hb dX1_sumInto_31 rfl (lv_at hl 0 rfl) ?_
      refine pgQ 1 7 4 (by decide) rfl (by decide) rfl rfl C w hi1 (by decide +kernel) dX1_sumInto_32 (oP1 hX) (hpl.lk.2.2.2.2.2.2.2.2.2.2.2.2.2.2.1) ?_
      refine cvL (n := 0) C w hl dX1_sumInto_35 (c_X4_value l G hX _ 1 _ (by decide) (sJ_wd_0 _ _ _) (sJ_wd_1 _ _ _)) gX1_sumInto_X4_value rfl (by decide +kernel) rfl rfl (Nat.le_of_ble_eq_true rfl) ⟨by decide, by decide⟩ (by decide) rfl (oP4 hX (by decide)) (fun v4 S4 H locs hp w => ?_)
      obtain ⟨hv4, e0⟩ := hp
      rw [e0] at w
      rw [eI, sumV_eq (W' := fun i => sJ S 9 (wr i) k) (C' := sI S 8 0) nr (fun i hi => ⟨e9 i (by omega), rfl⟩)] at hv4
      refine psJ C w dX1_sumInto_38 (oP9 hX (by omega)) rfl (oN9 hX (by omega)) (by omega) (by decide) (fun H locs w => ?_)
      refine lv_iinc (v := nI (k + 1)) hx hb dX1_sumInto_39 hl (k := 2) rfl (nI_1 k) (by decide) rfl (fun ls hl => ?_)
      refine lv_goto (tgt := 10) hx hb dX1_sumInto_42 (by decide) ?_
      refine ih (k + 1) _ _ _ _ (by omega) ?_ w (lv_sub hl [1, 2, 0] rfl)
      have h9 : ∀ V, eq4 (rwk (fm S a (sI S 2 78 0) (sI S 2 78 1) (sI S 2 78 2)) a (fun k => Int64.ofInt (sumV (fun i => sJ S 9 (wr i) k) (sI S 8 0) nr)) (sJ S 9 a) (k + 1)) (uJ (wd S1 1 V) 9 a k v4) := fun V => by have h8 := (hE.tr (eq4_wd S1 1 V)).uJ 9 a k v4; rwa [rwk_s (g := (fun k => Int64.ofInt (sumV (fun i => sJ S 9 (wr i) k) (sI S 8 0) nr))) hv4] at h8
      exact h9 _
  exact loop_10 z 0 _ _ _ _ (by omega) (by rw [rwk_0 (S := fm S a _ _ _) (o := sJ S 9 a) (fun _ => rfl)]; exact eq4.rf _) w (lv_sub hl [1, 2, 0] rfl)

set_option maxHeartbeats 4000000 in
set_option maxRecDepth 100000 in
/-- Plan.partInto -/
theorem c_X1_partInto (l : Launch) (G : GT) (hX : okX G) (S : PS) (nr z : Nat) (wr : Nat → Nat) (hpl : plX S nr wr z) (a : Nat) (ha : a < 60) (hwa : ∀ i, i < 12 → wr i ≠ a) (i : Nat) (hi : i < nr) : CtV l G yX1_partInto wsX1_partInto (rmK 2 50) [.ref (gA G 1 0), .int (nI i), .ref (gA G 2 a)] S (fun S2 => eq4 (rwk (fm S a (sI S 2 78 0) (sI S 2 78 1) (sI S 2 78 2)) a (fun k => Int64.ofInt ((sJ S 9 (wr i) k).toInt * (sI S 8 0 i).toInt)) (sJ S 9 a) z) S2) := by
  refine ofCtV (cc := cX1_partInto) (nL := 4) RX1 (by decide +kernel) rfl rfl (Nat.le_of_ble_eq_true rfl) ?_
  intro p e s m args below meth c A Q ls C w hl hret
  have hx := C.1
  have hb := C.2.1
  have hown := C.2.2.2.1
  have hts := C.2.2.2.2.1
  have hi1 : ∀ w ∈ wsX10, w ∈ wsX1_partInto := by decide +kernel
  have hi2 : ∀ w ∈ wsX20, w ∈ wsX1_partInto := by decide +kernel
  refine lv_aload_n hx hb dX1_partInto_0 rfl (lv_at hl 2 rfl) ?_
  refine lv_aload_n hx hb dX1_partInto_1 rfl (lv_at hl 0 rfl) ?_
  refine pgQ 1 0 2 (by decide) rfl (by decide) rfl rfl C w hi1 (by decide +kernel) dX1_partInto_2 (oP1 hX) (r1 := 78) hpl.lk.2.2.2.2.2.2.2.2.2.2.1 ?_
  refine cvV (n := 1) C w hl dX1_partInto_5 (c_X2_formLike l G hX S a 78 (by omega) (by decide)) gX1_partInto_X2_formLike rfl (by decide +kernel) rfl rfl (Nat.le_of_ble_eq_true rfl) ⟨by decide, by decide⟩ (by decide) rfl (oP2 hX (by omega)) (fun S2 H locs hp w => ?_)
  subst hp
  refine lv_iconst (v := 0) hx hb dX1_partInto_8 (by decide) ?_
  refine lv_istore_n hx hb dX1_partInto_9 rfl hl (by decide) rfl (fun ls hl => ?_)
  have loop_10 : ∀ (n : Nat) (k : Nat) (S1 : PS) (H : Heap) (locs : List Loc) (ls : Array Slot), k + n = z → eq4 (rwk (fm S a (sI S 2 78 0) (sI S 2 78 1) (sI S 2 78 2)) a (fun k => Int64.ofInt ((sJ S 9 (wr i) k).toInt * (sI S 8 0 i).toInt)) (sJ S 9 a) k) S1 → Wd G A s.heap S1 H locs → lv_has ls 4 [(0, .ref (gA G 1 0)), (1, .int (nI i)), (2, .ref (gA G 2 a)), (3, .int (nI k))] → W p l e (rmK 2 50) s m args below meth c H locs 0 0 Q (F0 m 10 ls []) := by
    intro n
    induction n with
    | zero =>
      intro k S1 H locs ls hk hE w hl
      have hpl := (hpl.row (show a ≠ 78 by omega) (sI S 2 78 0) (sI S 2 78 1) (sI S 2 78 2) (fun k => Int64.ofInt ((sJ S 9 (wr i) k).toInt * (sI S 8 0 i).toInt)) (sJ S 9 a) k).of4 hE
      have h12 := hpl.n12
      have hz12 := hpl.z12
      have e9 : ∀ i, i < 12 → sJ S1 9 (wr i) k = sJ S 9 (wr i) k := fun i hi => by rw [hE.j9, sJ_rwk_n (hwa i hi)]; rfl
      have eI : sI S1 8 0 = sI S 8 0 := by rw [hE.1, sI_rwk]; funext j; exact sI_fm_r (by simp)
      refine lv_iload_n hx hb dX1_partInto_10 rfl (lv_at hl 3 rfl) ?_
      refine lv_aload_n hx hb dX1_partInto_11 rfl (lv_at hl 0 rfl) ?_
      refine pgQ 1 0 2 (by decide) rfl (by decide) rfl rfl C w hi1 (by decide +kernel) dX1_partInto_12 (oP1 hX) (r1 := 78) hpl.lk.2.2.2.2.2.2.2.2.2.2.1 ?_
      refine pgI 2 2 (by decide) rfl (by decide) (Or.inl rfl) rfl C w hi2 (by decide +kernel) dX1_partInto_15 (oP2 hX (by decide)) (v := nI z) hpl.z ?_
      refine lv_icmp_ge (tgt := 46) hx hb dX1_partInto_18 (by decide) (fun c_18 => ?_) (fun c_18 => absurd (nI_le (by omega) (by omega)) c_18)
      have e : k = z := by omega
      subst e
      exact hret _ _ _ _ _ dX1_partInto_46 w hE
    | succ n ih =>
      intro k S1 H locs ls hk hE w hl
      have hpl := (hpl.row (show a ≠ 78 by omega) (sI S 2 78 0) (sI S 2 78 1) (sI S 2 78 2) (fun k => Int64.ofInt ((sJ S 9 (wr i) k).toInt * (sI S 8 0 i).toInt)) (sJ S 9 a) k).of4 hE
      have h12 := hpl.n12
      have hz12 := hpl.z12
      have e9 : ∀ i, i < 12 → sJ S1 9 (wr i) k = sJ S 9 (wr i) k := fun i hi => by rw [hE.j9, sJ_rwk_n (hwa i hi)]; rfl
      have eI : sI S1 8 0 = sI S 8 0 := by rw [hE.1, sI_rwk]; funext j; exact sI_fm_r (by simp)
      refine lv_iload_n hx hb dX1_partInto_10 rfl (lv_at hl 3 rfl) ?_
      refine lv_aload_n hx hb dX1_partInto_11 rfl (lv_at hl 0 rfl) ?_
      refine pgQ 1 0 2 (by decide) rfl (by decide) rfl rfl C w hi1 (by decide +kernel) dX1_partInto_12 (oP1 hX) (r1 := 78) hpl.lk.2.2.2.2.2.2.2.2.2.2.1 ?_
      refine pgI 2 2 (by decide) rfl (by decide) (Or.inl rfl) rfl C w hi2 (by decide +kernel) dX1_partInto_15 (oP2 hX (by decide)) (v := nI z) hpl.z ?_
      refine lv_icmp_ge (tgt := 46) hx hb dX1_partInto_18 (by decide) (fun c_18 => absurd c_18 (nI_ge (by omega) (by omega))) (fun c_18 => ?_)
      refine lv_aload_n hx hb dX1_partInto_21 rfl (lv_at hl 0 rfl) ?_
      refine lv_iload_n hx hb dX1_partInto_22 rfl (lv_at hl 1 rfl) ?_
      refine lv_iload_n hx hb dX1_partInto_23 rfl (lv_at hl 3 rfl) ?_
      refine cvV (n := 2) C w hl dX1_partInto_24 (c_X1_pricePart l G hX S1 nr z wr hpl i k hi (by omega)) gX1_partInto_X1_pricePart rfl (by decide +kernel) rfl rfl (Nat.le_of_ble_eq_true rfl) ⟨by decide, by decide⟩ (by decide) rfl (oP1 hX) (fun S2 H locs hp w => ?_)
      subst hp
      refine lv_aload_n hx hb dX1_partInto_27 rfl (lv_at hl 2 rfl) ?_
      refine pgQ 2 3 9 (by decide) rfl (by decide) rfl rfl C w hi2 (by decide +kernel) dX1_partInto_28 (oP2 hX (by omega)) (r1 := a) (lk2 hpl.lk (by omega)) ?_
      refine lv_iload_n hx hb dX1_partInto_31 rfl (lv_at hl 3 rfl) ?_
      refine lv_aload_n hx hb dX1_partInto_32 rfl (lv_at hl 0 rfl) ?_
      refine pgQ 1 8 4 (by decide) rfl (by decide) rfl rfl C w hi1 (by decide +kernel) dX1_partInto_33 (oP1 hX) (hpl.lk.2.2.2.2.2.2.2.2.2.2.2.2.2.2.2) ?_
      refine cvL (n := 0) C w hl dX1_partInto_36 (c_X4_value l G hX _ 2 _ (by decide) (sJ_wd_0 _ _ _) (sJ_wd_1 _ _ _)) gX1_partInto_X4_value rfl (by decide +kernel) rfl rfl (Nat.le_of_ble_eq_true rfl) ⟨by decide, by decide⟩ (by decide) rfl (oP4 hX (by decide)) (fun v4 S4 H locs hp w => ?_)
      obtain ⟨hv4, e0⟩ := hp
      rw [e0] at w
      rw [eI, e9 i (by omega)] at hv4
      refine psJ C w dX1_partInto_39 (oP9 hX (by omega)) rfl (oN9 hX (by omega)) (by omega) (by decide) (fun H locs w => ?_)
      refine lv_iinc (v := nI (k + 1)) hx hb dX1_partInto_40 hl (k := 3) rfl (nI_1 k) (by decide) rfl (fun ls hl => ?_)
      refine lv_goto (tgt := 10) hx hb dX1_partInto_43 (by decide) ?_
      refine ih (k + 1) _ _ _ _ (by omega) ?_ w (lv_sub hl [1, 2, 3, 0] rfl)
      have h9 : ∀ V, eq4 (rwk (fm S a (sI S 2 78 0) (sI S 2 78 1) (sI S 2 78 2)) a (fun k => Int64.ofInt ((sJ S 9 (wr i) k).toInt * (sI S 8 0 i).toInt)) (sJ S 9 a) (k + 1)) (uJ (wd S1 2 V) 9 a k v4) := fun V => by have h8 := (hE.tr (eq4_wd S1 2 V)).uJ 9 a k v4; rwa [rwk_s (g := (fun k => Int64.ofInt ((sJ S 9 (wr i) k).toInt * (sI S 8 0 i).toInt))) hv4] at h8
      exact h9 _
  exact loop_10 z 0 _ _ _ _ (by omega) (by rw [rwk_0 (S := fm S a _ _ _) (o := sJ S 9 a) (fun _ => rfl)]; exact eq4.rf _) w (lv_sub hl [1, 2, 3, 0] rfl)

set_option maxHeartbeats 4000000 in
set_option maxRecDepth 100000 in
/-- Plan.bearsAt -/
theorem c_X1_bearsAt (l : Launch) (G : GT) (hX : okX G) (S : PS) (nr z : Nat) (wr : Nat → Nat) (hpl : plX S nr wr z) (k : Nat) (hk : k < 12) (q : Int32) (hq : 0 ≤ q.toInt ∧ q.toInt ≤ 1000000) (u : Bool) : CtI l G yX1_bearsAt wsX1_bearsAt (rmK 1 28) [.ref (gA G 1 0), .int (nI k), .int q, .int (if u = true then 1 else 0)] S (fun v S2 => ((v = 1 ∧ in64 (sumS (fun i => sJ S 9 (wr i) k) q.toInt u nr)) ∨ (v = 0 ∧ ¬ in64 (sumS (fun i => sJ S 9 (wr i) k) q.toInt u nr))) ∧ eq4 S S2) := by
  refine ofCtZ (cc := cX1_bearsAt) (nL := 7) RX1 (by decide +kernel) rfl rfl (Nat.le_of_ble_eq_true rfl) ?_
  intro p e s m args below meth c A Q ls C w hl hret
  have hx := C.1
  have hb := C.2.1
  have hown := C.2.2.2.1
  have hts := C.2.2.2.2.1
  have hi1 : ∀ w ∈ wsX10, w ∈ wsX1_bearsAt := by decide +kernel
  have hi2 : ∀ w ∈ wsX20, w ∈ wsX1_bearsAt := by decide +kernel
  have h12 := hpl.n12
  refine lv_aload_n hx hb dX1_bearsAt_0 rfl (lv_at hl 0 rfl) ?_
  refine pgQ 1 7 4 (by decide) rfl (by decide) rfl rfl C w hi1 (by decide +kernel) dX1_bearsAt_1 (oP1 hX) (hpl.lk.2.2.2.2.2.2.2.2.2.2.2.2.2.2.1) ?_
  refine cvV (n := 0) C w hl dX1_bearsAt_4 (c_X4_clear l G hX S 1 (by decide)) gX1_bearsAt_X4_clear rfl (by decide +kernel) rfl rfl (Nat.le_of_ble_eq_true rfl) ⟨by decide, by decide⟩ (by decide) rfl (oP4 hX (by decide)) (fun S2 H locs hp w => ?_)
  subst hp
  refine lv_iconst (v := 0) hx hb dX1_bearsAt_7 (by decide) ?_
  refine lv_istore hx hb dX1_bearsAt_8 hl (by decide) rfl (fun ls hl => ?_)
  have loop_10 : ∀ (n : Nat) (i : Nat) (H : Heap) (locs : List Loc) (ls : Array Slot), i + n = nr → Wd G A s.heap (wd S 1 (sumS (fun i => sJ S 9 (wr i) k) q.toInt u i)) H locs → lv_has ls 7 [(0, .ref (gA G 1 0)), (1, .int (nI k)), (2, .int q), (3, .int (if u = true then 1 else 0)), (4, .int (nI i))] → W p l e (rmK 1 28) s m args below meth c H locs 0 0 Q (F0 m 10 ls []) := by
    intro n
    induction n with
    | zero =>
      intro i H locs ls hi w hl
      refine lv_iload hx hb dX1_bearsAt_10 (lv_at hl 4 rfl) ?_
      refine lv_aload_n hx hb dX1_bearsAt_12 rfl (lv_at hl 0 rfl) ?_
      refine pgI 1 3 (by decide) rfl (by decide) (Or.inl rfl) rfl C w hi1 (by decide +kernel) dX1_bearsAt_13 (oP1 hX) (v := nI nr) hpl.n ?_
      refine lv_icmp_ge (tgt := 66) hx hb dX1_bearsAt_16 (by decide) (fun c_16 => ?_) (fun c_16 => absurd (nI_le (by omega) (by omega)) c_16)
      have e : i = nr := by omega
      subst e
      refine lv_aload_n hx hb dX1_bearsAt_66 rfl (lv_at hl 0 rfl) ?_
      refine pgQ 1 7 4 (by decide) rfl (by decide) rfl rfl C w hi1 (by decide +kernel) dX1_bearsAt_67 (oP1 hX) (hpl.lk.2.2.2.2.2.2.2.2.2.2.2.2.2.2.1) ?_
      refine cvI (n := 0) C w hl dX1_bearsAt_70 (c_X4_fits l G hX _ 1 _ (by decide) (sJ_wd_0 _ _ _) (sJ_wd_1 _ _ _) (by have := sumS_bd (W := fun i => sJ S 9 (wr i) k) (u := u) hq i; omega) (by have := sumS_bd (W := fun i => sJ S 9 (wr i) k) (u := u) hq i; omega)) gX1_bearsAt_X4_fits rfl (by decide +kernel) rfl rfl (Nat.le_of_ble_eq_true rfl) ⟨by decide, by decide⟩ (by decide) rfl (oP4 hX (by decide)) (fun v4 S4 H locs hp w => ?_)
      obtain ⟨hq4, e0⟩ := hp
      rw [e0] at w
      exact hret _ _ _ _ _ _ dX1_bearsAt_73 w (b_of hq4) ⟨hq4, eq4_wd _ _ _⟩
    | succ n ih =>
      intro i H locs ls hi w hl
      refine lv_iload hx hb dX1_bearsAt_10 (lv_at hl 4 rfl) ?_
      refine lv_aload_n hx hb dX1_bearsAt_12 rfl (lv_at hl 0 rfl) ?_
      refine pgI 1 3 (by decide) rfl (by decide) (Or.inl rfl) rfl C w hi1 (by decide +kernel) dX1_bearsAt_13 (oP1 hX) (v := nI nr) hpl.n ?_
      refine lv_icmp_ge (tgt := 66) hx hb dX1_bearsAt_16 (by decide) (fun c_16 => absurd c_16 (nI_ge (by omega) (by omega))) (fun c_16 => ?_)
      refine lv_aload_n hx hb dX1_bearsAt_19 rfl (lv_at hl 0 rfl) ?_
      refine pgQ 1 1 10 (by decide) rfl (by decide) rfl rfl C w hi1 (by decide +kernel) dX1_bearsAt_20 (oP1 hX) (hpl.lk.2.2.2.2.2.2.2.2.2.2.2.1) ?_
      refine lv_iload hx hb dX1_bearsAt_23 (lv_at hl 4 rfl) ?_
      refine paQ C w dX1_bearsAt_25 (oP10 hX (by decide)) rfl (oN101 hX) (by omega) (by decide) (r1 := wr i) (hpl.w (by omega)) ?_
      refine pgQ 2 3 9 (by decide) rfl (by decide) rfl rfl C w hi2 (by decide +kernel) dX1_bearsAt_26 (oP2 hX (hpl.w79 (by omega))) (r1 := wr i) (lk2 hpl.lk (hpl.w79 (by omega))) ?_
      refine lv_iload_n hx hb dX1_bearsAt_29 rfl (lv_at hl 1 rfl) ?_
      refine paJ C w dX1_bearsAt_30 (oP9 hX (hpl.w79 (by omega))) rfl (oN9 hX (hpl.w79 (by omega))) (by omega) (by decide) (v := sJ S 9 (wr i) k) (sJ_wd_n (by simp)) ?_
      refine lv_lstore hx hb dX1_bearsAt_31 hl (by decide) rfl (fun ls hl => ?_)
      refine lv_lload hx hb dX1_bearsAt_33 (lv_at hl 0 rfl) ?_
      refine lv_lconst (v := 0) hx hb dX1_bearsAt_35 (by decide) ?_
      refine W.lcmp hx hb dX1_bearsAt_36 ?_
      refine lv_if_le (tgt := 44) hx hb dX1_bearsAt_37 (by decide) (fun c_37 => ?_) (fun c_37 => ?_)
      · rw [lg_cmp_le] at c_37
        have hw : decide (0 < sJ S 9 (wr i) k) = false := decide_eq_false (Int64.not_lt.mpr c_37)
        refine lv_iconst (v := 0) hx hb dX1_bearsAt_44 (by decide) ?_
        refine lv_iload_n hx hb dX1_bearsAt_45 rfl (lv_at hl 4 rfl) ?_
        refine lv_icmp_ne (tgt := 60) hx hb dX1_bearsAt_46 (by decide) (fun c_46 => ?_) (fun c_46 => ?_)
        · have hu : ¬ decide (0 < sJ S 9 (wr i) k) = u := by first | exact bu_nf hw c_46 | exact bu_nt hw c_46
          refine lv_iinc (v := nI (i + 1)) hx hb dX1_bearsAt_60 hl (k := 5) rfl (nI_1 i) (by decide) rfl (fun ls hl => ?_)
          refine lv_goto (tgt := 10) hx hb dX1_bearsAt_63 (by decide) ?_
          refine ih (i + 1) _ _ _ (by omega) ?_ (lv_sub hl [2, 3, 4, 5, 0] rfl)
          first
            | (rw [sumS, if_pos hu]; exact w)
            | (rw [sumS, if_neg hu, Int.add_zero]; exact w)
        · have hu : decide (0 < sJ S 9 (wr i) k) = u := by first | exact bu_ff hw c_46 | exact bu_tt hw c_46
          refine lv_aload_n hx hb dX1_bearsAt_49 rfl (lv_at hl 1 rfl) ?_
          refine pgQ 1 7 4 (by decide) rfl (by decide) rfl rfl C w hi1 (by decide +kernel) dX1_bearsAt_50 (oP1 hX) (hpl.lk.2.2.2.2.2.2.2.2.2.2.2.2.2.2.1) ?_
          refine lv_lload hx hb dX1_bearsAt_53 (lv_at hl 0 rfl) ?_
          refine lv_iload_n hx hb dX1_bearsAt_55 rfl (lv_at hl 3 rfl) ?_
          refine lv_i2l hx hb dX1_bearsAt_56 rfl ?_
          refine cvV (n := 2) C w hl dX1_bearsAt_57 (c_X4_addProduct l G hX _ 1 _ (by decide) (sJ_wd_0 S 1 _) (sJ_wd_1 S 1 _) _ _ (by rw [Int32.toInt_toInt64]; omega)) gX1_bearsAt_X4_addProduct rfl (by decide +kernel) rfl rfl (Nat.le_of_ble_eq_true rfl) ⟨by decide, by decide⟩ (by decide) rfl (oP4 hX (by decide)) (fun S3 H locs hp w => ?_)
          rw [wd_wd, Int32.toInt_toInt64] at hp
          subst hp
          refine lv_iinc (v := nI (i + 1)) hx hb dX1_bearsAt_60 hl (k := 5) rfl (nI_1 i) (by decide) rfl (fun ls hl => ?_)
          refine lv_goto (tgt := 10) hx hb dX1_bearsAt_63 (by decide) ?_
          refine ih (i + 1) _ _ _ (by omega) ?_ (lv_sub hl [2, 3, 4, 5, 0] rfl)
          first
            | (rw [sumS, if_pos hu]; exact w)
            | (rw [sumS, if_neg hu, Int.add_zero]; exact w)
      · rw [lg_cmp_le] at c_37
        have hw : decide (0 < sJ S 9 (wr i) k) = true := decide_eq_true (Int64.not_le.mp c_37)
        refine lv_iconst (v := 1) hx hb dX1_bearsAt_40 (by decide) ?_
        refine lv_goto (tgt := 45) hx hb dX1_bearsAt_41 (by decide) ?_
        refine lv_iload_n hx hb dX1_bearsAt_45 rfl (lv_at hl 4 rfl) ?_
        refine lv_icmp_ne (tgt := 60) hx hb dX1_bearsAt_46 (by decide) (fun c_46 => ?_) (fun c_46 => ?_)
        · have hu : ¬ decide (0 < sJ S 9 (wr i) k) = u := by first | exact bu_nf hw c_46 | exact bu_nt hw c_46
          refine lv_iinc (v := nI (i + 1)) hx hb dX1_bearsAt_60 hl (k := 5) rfl (nI_1 i) (by decide) rfl (fun ls hl => ?_)
          refine lv_goto (tgt := 10) hx hb dX1_bearsAt_63 (by decide) ?_
          refine ih (i + 1) _ _ _ (by omega) ?_ (lv_sub hl [2, 3, 4, 5, 0] rfl)
          first
            | (rw [sumS, if_pos hu]; exact w)
            | (rw [sumS, if_neg hu, Int.add_zero]; exact w)
        · have hu : decide (0 < sJ S 9 (wr i) k) = u := by first | exact bu_ff hw c_46 | exact bu_tt hw c_46
          refine lv_aload_n hx hb dX1_bearsAt_49 rfl (lv_at hl 1 rfl) ?_
          refine pgQ 1 7 4 (by decide) rfl (by decide) rfl rfl C w hi1 (by decide +kernel) dX1_bearsAt_50 (oP1 hX) (hpl.lk.2.2.2.2.2.2.2.2.2.2.2.2.2.2.1) ?_
          refine lv_lload hx hb dX1_bearsAt_53 (lv_at hl 0 rfl) ?_
          refine lv_iload_n hx hb dX1_bearsAt_55 rfl (lv_at hl 3 rfl) ?_
          refine lv_i2l hx hb dX1_bearsAt_56 rfl ?_
          refine cvV (n := 2) C w hl dX1_bearsAt_57 (c_X4_addProduct l G hX _ 1 _ (by decide) (sJ_wd_0 S 1 _) (sJ_wd_1 S 1 _) _ _ (by rw [Int32.toInt_toInt64]; omega)) gX1_bearsAt_X4_addProduct rfl (by decide +kernel) rfl rfl (Nat.le_of_ble_eq_true rfl) ⟨by decide, by decide⟩ (by decide) rfl (oP4 hX (by decide)) (fun S3 H locs hp w => ?_)
          rw [wd_wd, Int32.toInt_toInt64] at hp
          subst hp
          refine lv_iinc (v := nI (i + 1)) hx hb dX1_bearsAt_60 hl (k := 5) rfl (nI_1 i) (by decide) rfl (fun ls hl => ?_)
          refine lv_goto (tgt := 10) hx hb dX1_bearsAt_63 (by decide) ?_
          refine ih (i + 1) _ _ _ (by omega) ?_ (lv_sub hl [2, 3, 4, 5, 0] rfl)
          first
            | (rw [sumS, if_pos hu]; exact w)
            | (rw [sumS, if_neg hu, Int.add_zero]; exact w)
  exact loop_10 nr 0 _ _ _ (by omega) w (lv_sub hl [1, 2, 3, 4, 0] rfl)

set_option maxHeartbeats 4000000 in
set_option maxRecDepth 100000 in
/-- Plan.bears -/
theorem c_X1_bears (l : Launch) (G : GT) (hX : okX G) (S : PS) (nr z : Nat) (wr : Nat → Nat) (hpl : plX S nr wr z) (q : Int32) (hq : 0 ≤ q.toInt ∧ q.toInt ≤ 1000000) : CtI l G yX1_bears wsX1_bears (rmK 2 54) [.ref (gA G 1 0), .int q] S (fun v S2 => ((v = 1 ∧ (∀ k, k < z → in64 (sumS (fun i => sJ S 9 (wr i) k) q.toInt true nr) ∧ in64 (sumS (fun i => sJ S 9 (wr i) k) q.toInt false nr))) ∨ (v = 0 ∧ ¬ (∀ k, k < z → in64 (sumS (fun i => sJ S 9 (wr i) k) q.toInt true nr) ∧ in64 (sumS (fun i => sJ S 9 (wr i) k) q.toInt false nr)))) ∧ eq4 S S2) := by
  refine ofCtZ (cc := cX1_bears) (nL := 3) RX1 (by decide +kernel) rfl rfl (Nat.le_of_ble_eq_true rfl) ?_
  intro p e s m args below meth c A Q ls C w hl hret
  have hx := C.1
  have hb := C.2.1
  have hown := C.2.2.2.1
  have hts := C.2.2.2.2.1
  have hi1 : ∀ w ∈ wsX10, w ∈ wsX1_bears := by decide +kernel
  have hi2 : ∀ w ∈ wsX20, w ∈ wsX1_bears := by decide +kernel
  refine lv_iconst (v := 0) hx hb dX1_bears_0 (by decide) ?_
  refine lv_istore_n hx hb dX1_bears_1 rfl hl (by decide) rfl (fun ls hl => ?_)
  have loop_2 : ∀ (n : Nat) (k : Nat) (S1 : PS) (H : Heap) (locs : List Loc) (ls : Array Slot), k + n = z → eq4 S S1 → (∀ j, j < k → in64 (sumS (fun i => sJ S 9 (wr i) j) q.toInt true nr) ∧ in64 (sumS (fun i => sJ S 9 (wr i) j) q.toInt false nr)) → Wd G A s.heap S1 H locs → lv_has ls 3 [(0, .ref (gA G 1 0)), (1, .int q), (2, .int (nI k))] → W p l e (rmK 2 54) s m args below meth c H locs 0 0 Q (F0 m 2 ls []) := by
    intro n
    induction n with
    | zero =>
      intro k S1 H locs ls hk hE hI w hl
      have hpl := hpl.of4 hE
      have h12 := hpl.z12
      refine lv_iload_n hx hb dX1_bears_2 rfl (lv_at hl 2 rfl) ?_
      refine lv_aload_n hx hb dX1_bears_3 rfl (lv_at hl 0 rfl) ?_
      refine pgQ 1 0 2 (by decide) rfl (by decide) rfl rfl C w hi1 (by decide +kernel) dX1_bears_4 (oP1 hX) (hpl.lk.2.2.2.2.2.2.2.2.2.2.1) ?_
      refine pgI 2 2 (by decide) rfl (by decide) (Or.inl rfl) rfl C w hi2 (by decide +kernel) dX1_bears_7 (oP2 hX (by decide)) (v := nI z) hpl.z ?_
      refine lv_icmp_ge (tgt := 41) hx hb dX1_bears_10 (by decide) (fun c_10 => ?_) (fun c_10 => absurd (nI_le (by omega) (by omega)) c_10)
      refine lv_iconst (v := 1) hx hb dX1_bears_41 (by decide) ?_
      exact hret _ _ _ _ _ _ dX1_bears_42 w (by decide) ⟨Or.inl ⟨rfl, fun j hj => hI j (by omega)⟩, hE⟩
    | succ n ih =>
      intro k S1 H locs ls hk hE hI w hl
      have hpl := hpl.of4 hE
      have h12 := hpl.z12
      refine lv_iload_n hx hb dX1_bears_2 rfl (lv_at hl 2 rfl) ?_
      refine lv_aload_n hx hb dX1_bears_3 rfl (lv_at hl 0 rfl) ?_
      refine pgQ 1 0 2 (by decide) rfl (by decide) rfl rfl C w hi1 (by decide +kernel) dX1_bears_4 (oP1 hX) (hpl.lk.2.2.2.2.2.2.2.2.2.2.1) ?_
      refine pgI 2 2 (by decide) rfl (by decide) (Or.inl rfl) rfl C w hi2 (by decide +kernel) dX1_bears_7 (oP2 hX (by decide)) (v := nI z) hpl.z ?_
      refine lv_icmp_ge (tgt := 41) hx hb dX1_bears_10 (by decide) (fun c_10 => absurd c_10 (nI_ge (by omega) (by omega))) (fun c_10 => ?_)
      refine lv_aload_n hx hb dX1_bears_13 rfl (lv_at hl 0 rfl) ?_
      refine lv_iload_n hx hb dX1_bears_14 rfl (lv_at hl 2 rfl) ?_
      refine lv_iload_n hx hb dX1_bears_15 rfl (lv_at hl 1 rfl) ?_
      refine lv_iconst (v := 1) hx hb dX1_bears_16 (by decide) ?_
      refine cvI (n := 3) C w hl dX1_bears_17 (c_X1_bearsAt l G hX S1 nr z wr hpl k (by omega) q hq true) gX1_bears_X1_bearsAt rfl (by decide +kernel) rfl rfl (Nat.le_of_ble_eq_true rfl) ⟨by decide, by decide⟩ (by decide) rfl (oP1 hX) (fun v2 S2 H locs hp w => ?_)
      obtain ⟨hq2, hE2⟩ := hp
      replace hE2 := hE.tr hE2
      rw [show (fun i => sJ S1 9 (wr i) k) = fun i => sJ S 9 (wr i) k from funext fun i => hE.j9 _ _] at hq2
      refine lv_if_eq (tgt := 33) hx hb dX1_bears_20 (by decide) (fun c_20 => ?_) (fun c_20 => ?_)
      · have hf : ¬ (∀ k, k < z → in64 (sumS (fun i => sJ S 9 (wr i) k) q.toInt true nr) ∧ in64 (sumS (fun i => sJ S 9 (wr i) k) q.toInt false nr)) := fun h => no_of hq2 c_20 (h k (by omega)).1
        refine lv_iconst (v := 0) hx hb dX1_bears_33 (by decide) ?_
        exact hret _ _ _ _ _ _ dX1_bears_34 w (by decide) ⟨Or.inr ⟨rfl, hf⟩, by first | exact hE3 | exact hE2⟩
      · refine lv_aload_n hx hb dX1_bears_23 rfl (lv_at hl 0 rfl) ?_
        refine lv_iload_n hx hb dX1_bears_24 rfl (lv_at hl 2 rfl) ?_
        refine lv_iload_n hx hb dX1_bears_25 rfl (lv_at hl 1 rfl) ?_
        refine lv_iconst (v := 0) hx hb dX1_bears_26 (by decide) ?_
        refine cvI (n := 3) C w hl dX1_bears_27 (c_X1_bearsAt l G hX S2 nr z wr (hpl.of4 (hE.sy.tr hE2)) k (by omega) q hq false) gX1_bears_X1_bearsAt rfl (by decide +kernel) rfl rfl (Nat.le_of_ble_eq_true rfl) ⟨by decide, by decide⟩ (by decide) rfl (oP1 hX) (fun v3 S3 H locs hp w => ?_)
        obtain ⟨hq3, hE3⟩ := hp
        replace hE3 := hE2.tr hE3
        rw [show (fun i => sJ S2 9 (wr i) k) = fun i => sJ S 9 (wr i) k from funext fun i => hE2.j9 _ _] at hq3
        refine lv_if_ne (tgt := 35) hx hb dX1_bears_30 (by decide) (fun c_30 => ?_) (fun c_30 => ?_)
        · refine lv_iinc (v := nI (k + 1)) hx hb dX1_bears_35 hl (k := 2) rfl (nI_1 k) (by decide) rfl (fun ls hl => ?_)
          refine lv_goto (tgt := 2) hx hb dX1_bears_38 (by decide) ?_
          exact ih (k + 1) _ _ _ _ (by omega) hE3 (lt_s hI ⟨yes_of hq2 c_20, yes_of hq3 c_30⟩) w (lv_sub hl [1, 2, 0] rfl)
        · have hf : ¬ (∀ k, k < z → in64 (sumS (fun i => sJ S 9 (wr i) k) q.toInt true nr) ∧ in64 (sumS (fun i => sJ S 9 (wr i) k) q.toInt false nr)) := fun h => no_of hq3 c_30 (h k (by omega)).2
          refine lv_iconst (v := 0) hx hb dX1_bears_33 (by decide) ?_
          exact hret _ _ _ _ _ _ dX1_bears_34 w (by decide) ⟨Or.inr ⟨rfl, hf⟩, by first | exact hE3 | exact hE2⟩
  exact loop_2 z 0 S _ _ _ (by omega) (eq4.rf S) lt_0 w (lv_sub hl [1, 2, 0] rfl)
end
section
/-- the first place whose order is below 0; n places from k on -/
def plc (c : Nat → Int32) : Nat → Nat → Nat
  | 0, k => k
  | n + 1, k => if c k < 0 then k else plc c n (k + 1)
theorem plc_eq {c d : Nat → Int32} : ∀ n k : Nat, (∀ j, k ≤ j → j < k + n → c j = d j) → plc c n k = plc d n k := by
  intro n
  induction n with
  | zero => intro k _; rfl
  | succ n ih => intro k h; unfold plc; rw [h k (Nat.le_refl _) (by omega), ih (k + 1) (fun j a b => h j (by omega) (by omega))]
theorem plc_le (c : Nat → Int32) : ∀ n k : Nat, k ≤ plc c n k ∧ plc c n k ≤ k + n := by
  intro n
  induction n with
  | zero => intro k; exact ⟨Nat.le_refl _, Nat.le_refl _⟩
  | succ n ih =>
    intro k
    unfold plc
    split
    · omega
    · have := ih (k + 1); omega
/-- the row of the best, whole -/
def rq2 (S : PS) (f : Nat → Option Nat) : PS := (S.1, S.2.1, fun c r k => if c = 10 ∧ r = 2 then f k else S.2.2 c r k)
theorem sQ_rq2 (S : PS) (f : Nat → Option Nat) (c r k : Nat) : sQ (rq2 S f) c r k = if c = 10 ∧ r = 2 then f k else sQ S c r k := rfl
theorem sI_rq2 (S : PS) (f : Nat → Option Nat) : sI (rq2 S f) = sI S := rfl
theorem sJ_rq2 (S : PS) (f : Nat → Option Nat) : sJ (rq2 S f) = sJ S := rfl
theorem rq2_self (S : PS) : rq2 S (sQ S 10 2) = S := by
  refine PS_ext (fun _ _ _ => rfl) (fun _ _ _ => rfl) (fun c r k => ?_)
  rw [sQ_rq2]
  by_cases h : c = 10 ∧ r = 2
  · obtain ⟨rfl, rfl⟩ := h; rw [if_pos ⟨rfl, rfl⟩]
  · rw [if_neg h]
theorem uQ_rq2 (S : PS) (f : Nat → Option Nat) (k : Nat) (v : Option Nat) : uQ (rq2 S f) 10 2 k v = rq2 S (fun j => if j = k then v else f j) := by
  refine PS_ext (fun _ _ _ => rfl) (fun _ _ _ => rfl) (fun c r j => ?_)
  rw [sQ_uQ, sQ_rq2, sQ_rq2]
  by_cases h1 : c = 10 ∧ r = 2
  · obtain ⟨rfl, rfl⟩ := h1
    by_cases h2 : j = k
    · rw [if_pos ⟨rfl, rfl, h2⟩, if_pos ⟨rfl, rfl⟩, if_pos h2]
    · rw [if_neg (fun q => h2 q.2.2), if_pos ⟨rfl, rfl⟩, if_pos ⟨rfl, rfl⟩, if_neg h2]
  · rw [if_neg (fun q => h1 ⟨q.1, q.2.1⟩), if_neg h1, if_neg h1]
theorem rq2_eq {S : PS} {f g : Nat → Option Nat} (h : ∀ k, f k = g k) : rq2 S f = rq2 S g := by rw [show f = g from funext h]
theorem lkX_rq2 {S : PS} (h : lkX S) (f : Nat → Option Nat) : lkX (rq2 S f) := by
  obtain ⟨h1, h2, h3⟩ := h
  exact ⟨fun r hr => by rw [sQ_rq2, if_neg (by simp)]; exact h1 r hr, fun j hj => by rw [sQ_rq2, if_neg (by simp)]; exact h2 j hj, by simpa [sQ_rq2] using h3⟩
/-- the best from place p to m move up by one, those behind i done -/
def mvd (S : PS) (br : Nat → Nat) (m i : Nat) : PS := rq2 S (fun j => if i < j ∧ j < m then some (br (j - 1)) else sQ S 10 2 j)
theorem mvd_0 (S : PS) (br : Nat → Nat) (m : Nat) (hm : 0 < m) : mvd S br m (m - 1) = S := by
  unfold mvd
  rw [rq2_eq (g := sQ S 10 2), rq2_self]
  intro k; rw [if_neg (by omega)]
theorem mvd_s {S : PS} {br : Nat → Nat} {m i : Nat} (hi : i + 1 < m) : uQ (mvd S br m (i + 1)) 10 2 (i + 1) (some (br i)) = mvd S br m i := by
  unfold mvd
  rw [uQ_rq2]
  refine rq2_eq fun j => ?_
  by_cases h1 : j = i + 1
  · subst h1; rw [if_pos rfl, if_pos (by omega)]; rfl
  · rw [if_neg h1]
    by_cases h2 : i + 1 < j ∧ j < m
    · rw [if_pos h2, if_pos (by omega)]
    · rw [if_neg h2, if_neg (by omega)]
theorem nI_sub1 {n : Nat} (h : 0 < n) : nI n - 1 = nI (n - 1) := by
  obtain ⟨m, rfl⟩ : ∃ m, n = m + 1 := ⟨n - 1, by omega⟩
  exact nI_pred m
theorem uI_same {S : PS} {c r k : Nat} {v : Int32} (h : sI S c r k = v) : uI S c r k v = S := by
  refine PS_ext (fun c' r' k' => ?_) (fun _ _ _ => rfl) (fun _ _ _ => rfl)
  rw [sI_uI]
  by_cases q : c' = c ∧ r' = r ∧ k' = k
  · obtain ⟨rfl, rfl, rfl⟩ := q; rw [if_pos ⟨rfl, rfl, rfl⟩, h]
  · rw [if_neg q]
/-- a score laid among the best: p its place, m how many there are then -/
def admS (S : PS) (br : Nat → Nat) (m p : Nat) : PS := rq2 (uI S 1 0 5 (nI m)) (fun j => if j = p then some (br (m - 1)) else if p < j ∧ j < m then some (br (j - 1)) else sQ S 10 2 j)
theorem adm_s (S : PS) (br : Nat → Nat) (m p : Nat) : uQ (mvd (uI S 1 0 5 (nI m)) br m p) 10 2 p (some (br (m - 1))) = admS S br m p := by
  unfold mvd admS
  rw [uQ_rq2]; rfl

set_option maxHeartbeats 4000000 in
set_option maxRecDepth 100000 in
/-- Plan.admit -/
theorem c_X1_admit (l : Launch) (G : GT) (hX : okX G) (S : PS) (hS : lkX S) (nh z : Nat) (br : Nat → Nat) (hh : sI S 1 0 5 = nI nh) (hh5 : nh ≤ 5) (hbr : ∀ j, j < 5 → sQ S 10 2 j = some (br j) ∧ br j < 79) (hbz : ∀ j, j < nh → sI S 2 (br j) 2 = nI z) (hz12 : z ≤ 12) (a : Nat) (ha : a < 79) (hna : ∀ j, j < 5 → a ≠ br j) (hza : sI S 2 a 2 = nI z) : CtI l G yX1_admit wsX1_admit (rmK 3 66) [.ref (gA G 1 0), .ref (gA G 2 a)] S (fun v S2 => (plc (fun j => cmpG (sJ S 9 (br j)) (sJ S 9 a) z 0) nh 0 = 5 ∧ v = -1 ∧ S2 = S) ∨ (plc (fun j => cmpG (sJ S 9 (br j)) (sJ S 9 a) z 0) nh 0 < 5 ∧ v = nI (plc (fun j => cmpG (sJ S 9 (br j)) (sJ S 9 a) z 0) nh 0) ∧ ∃ m, m = (if nh < 5 then nh + 1 else 5) ∧ S2 = rwk (fm (admS S br m (plc (fun j => cmpG (sJ S 9 (br j)) (sJ S 9 a) z 0) nh 0)) (br (m - 1)) (sI S 2 a 0) (sI S 2 a 1) (sI S 2 a 2)) (br (m - 1)) (sJ S 9 a) (sJ S 9 (br (m - 1))) z)) := by
  refine ofCtI (cc := cX1_admit) (nL := 5) RX1 (by decide +kernel) rfl rfl (Nat.le_of_ble_eq_true rfl) ?_
  intro p e s m args below meth c A Q ls C w hl hret
  have hx := C.1
  have hb := C.2.1
  have hown := C.2.2.2.1
  have hts := C.2.2.2.2.1
  have hi1 : ∀ w ∈ wsX10, w ∈ wsX1_admit := by decide +kernel
  refine lv_iconst (v := 0) hx hb dX1_admit_0 (by decide) ?_
  refine lv_istore_n hx hb dX1_admit_1 rfl hl (by decide) rfl (fun ls hl => ?_)
  have loop_2 : ∀ (n : Nat) (k : Nat) (H : Heap) (locs : List Loc) (ls : Array Slot), k + n = nh → plc (fun j => cmpG (sJ S 9 (br j)) (sJ S 9 a) z 0) nh 0 = plc (fun j => cmpG (sJ S 9 (br j)) (sJ S 9 a) z 0) n k → Wd G A s.heap S H locs → lv_has ls 5 [(0, .ref (gA G 1 0)), (1, .ref (gA G 2 a)), (2, .int (nI k))] → W p l e (rmK 3 66) s m args below meth c H locs 0 0 Q (F0 m 2 ls []) := by
    intro n
    induction n with
    | zero =>
      intro k H locs ls hk hI w hl
      refine lv_iload_n hx hb dX1_admit_2 rfl (lv_at hl 2 rfl) ?_
      refine lv_aload_n hx hb dX1_admit_3 rfl (lv_at hl 0 rfl) ?_
      refine pgI 1 5 (by decide) rfl (by decide) (Or.inl rfl) rfl C w hi1 (by decide +kernel) dX1_admit_4 (oP1 hX) (v := nI nh) hh ?_
      refine lv_icmp_ge (tgt := 29) hx hb dX1_admit_7 (by decide) (fun c_7 => ?_) (fun c_7 => absurd (nI_le (by omega) (by omega)) c_7)
      have hpk : plc (fun j => cmpG (sJ S 9 (br j)) (sJ S 9 a) z 0) nh 0 = k := hI
      have h5 : k ≤ nh := by omega
      refine lv_iload_n hx hb dX1_admit_29 rfl (lv_at hl 2 rfl) ?_
      refine lv_iconst (v := 5) hx hb dX1_admit_30 (by decide) ?_
      refine lv_icmp_lt (tgt := 36) hx hb dX1_admit_31 (by decide) (fun c_31 => ?_) (fun c_31 => ?_)
      · have hk5 : k < 5 := (nI_ltI (by omega) (by decide)).mp c_31
        refine lv_aload_n hx hb dX1_admit_36 rfl (lv_at hl 0 rfl) ?_
        refine pgI 1 5 (by decide) rfl (by decide) (Or.inl rfl) rfl C w hi1 (by decide +kernel) dX1_admit_37 (oP1 hX) (v := nI nh) hh ?_
        refine lv_iconst (v := 5) hx hb dX1_admit_40 (by decide) ?_
        refine lv_icmp_ge (tgt := 54) hx hb dX1_admit_41 (by decide) (fun c_41 => ?_) (fun c_41 => ?_)
        · have e5 : nh = 5 := by have : ¬ nh < 5 := fun q => absurd c_41 (nI_ge q (by decide)); omega
          obtain ⟨mm, em⟩ : ∃ mm, mm = (if nh < 5 then nh + 1 else 5) := ⟨_, rfl⟩
          have emm : mm = 5 := by rw [em, if_neg (by omega)]
          rw [← uI_same (v := nI mm) (show sI S 1 0 5 = nI mm by rw [hh, e5, emm])] at w
          have hkm : k < mm := by omega
          have hm5 : mm ≤ 5 := by omega
          refine lv_aload_n hx hb dX1_admit_54 rfl (lv_at hl 0 rfl) ?_
          refine pgQ 1 4 10 (by decide) rfl (by decide) rfl rfl C w hi1 (by decide +kernel) dX1_admit_55 (oP1 hX) (hS.2.2.2.2.2.2.2.2.2.2.2.2.2.1) ?_
          refine lv_aload_n hx hb dX1_admit_58 rfl (lv_at hl 0 rfl) ?_
          refine pgI 1 5 (by decide) rfl (by decide) (Or.inl rfl) rfl C w hi1 (by decide +kernel) dX1_admit_59 (oP1 hX) (v := nI mm) (by rw [sI_uI, if_pos ⟨rfl, rfl, rfl⟩]) ?_
          refine lv_iconst (v := 1) hx hb dX1_admit_62 (by decide) ?_
          refine lv_isub hx hb dX1_admit_63 ?_
          refine paQ C w dX1_admit_64 (oP10 hX (by decide)) (n := mm - 1) (nI_sub1 (by omega)) (oN102 hX) (by omega) (by decide) (r1 := br (mm - 1)) (hbr (mm - 1) (by omega)).1 ?_
          refine lv_astore_n hx hb dX1_admit_65 rfl hl (by decide) rfl (fun ls hl => ?_)
          refine lv_aload_n hx hb dX1_admit_66 rfl (lv_at hl 1 rfl) ?_
          refine pgI 1 5 (by decide) rfl (by decide) (Or.inl rfl) rfl C w hi1 (by decide +kernel) dX1_admit_67 (oP1 hX) (v := nI mm) (by rw [sI_uI, if_pos ⟨rfl, rfl, rfl⟩]) ?_
          refine lv_iconst (v := 1) hx hb dX1_admit_70 (by decide) ?_
          refine lv_isub hx hb dX1_admit_71 ?_
          refine lv_istore hx hb dX1_admit_72 hl (by decide) rfl (fun ls hl => ?_)
          have loop_74 : ∀ (n : Nat) (i : Nat) (H : Heap) (locs : List Loc) (ls : Array Slot), i = k + n → i < mm → Wd G A s.heap (mvd (uI S 1 0 5 (nI mm)) br mm i) H locs → lv_has ls 5 [(0, .ref (gA G 1 0)), (1, .ref (gA G 2 a)), (2, .int (nI k)), (3, .ref (gA G 2 (br (mm - 1)))), (4, .int (nI i))] → W p l e (rmK 3 66) s m args below meth c H locs 0 0 Q (F0 m 74 ls []) := by
            intro n
            induction n with
            | zero =>
              intro i H locs ls hi him w hl
              refine lv_iload hx hb dX1_admit_74 (lv_at hl 4 rfl) ?_
              refine lv_iload_n hx hb dX1_admit_76 rfl (lv_at hl 2 rfl) ?_
              refine lv_icmp_le (tgt := 102) hx hb dX1_admit_77 (by decide) (fun c_77 => ?_) (fun c_77 => absurd (nI_le (by omega) (by omega)) c_77)
              have ei : i = k := by omega
              subst ei
              refine lv_aload_n hx hb dX1_admit_102 rfl (lv_at hl 0 rfl) ?_
              refine pgQ 1 4 10 (by decide) rfl (by decide) rfl rfl C w hi1 (by decide +kernel) dX1_admit_103 (oP1 hX) (by show sQ (mvd (uI S 1 0 5 (nI mm)) br mm _) 1 0 4 = _; unfold mvd; rw [sQ_rq2, if_neg (by simp)]; exact (hS.2.2.2.2.2.2.2.2.2.2.2.2.2.1)) ?_
              refine lv_iload_n hx hb dX1_admit_106 rfl (lv_at hl 2 rfl) ?_
              refine lv_aload_n hx hb dX1_admit_107 rfl (lv_at hl 3 rfl) ?_
              refine psQ C w dX1_admit_108 (oP10 hX (by decide)) (oP2 hX (hbr (mm - 1) (by omega)).2) rfl (oN102 hX) (by omega) (by decide) (fun H locs w => ?_)
              rw [adm_s] at w
              have e2 : ∀ r x, sI (admS S br mm i) 2 r x = sI S 2 r x := fun r x => by unfold admS; rw [sI_rq2, sI_uI, if_neg (by simp)]
              refine lv_aload_n hx hb dX1_admit_109 rfl (lv_at hl 3 rfl) ?_
              refine lv_aload_n hx hb dX1_admit_110 rfl (lv_at hl 1 rfl) ?_
              refine cvV (n := 1) C w hl dX1_admit_111 (c_X2_copy l G hX (admS S br mm i) (lkX_rq2 (lkX_of hS rfl) _) (br (mm - 1)) a z (hbr (mm - 1) (by omega)).2 ha (hna (mm - 1) (by omega)) (by rw [e2]; exact hza) hz12) gX1_admit_X2_copy rfl (by decide +kernel) rfl rfl (Nat.le_of_ble_eq_true rfl) ⟨by decide, by decide⟩ (by decide) rfl (oP2 hX (hbr (mm - 1) (by omega)).2) (fun S4 H locs hp4 w => ?_)
              
              refine lv_iload_n hx hb dX1_admit_114 rfl (lv_at hl 2 rfl) ?_
              exact hret _ _ _ _ _ _ dX1_admit_115 w (Or.inr ⟨by rw [hpk]; omega, by rw [hpk], mm, em, by rw [hpk, hp4, e2, e2, e2]; rfl⟩)
            | succ n ih =>
              intro i H locs ls hi him w hl
              refine lv_iload hx hb dX1_admit_74 (lv_at hl 4 rfl) ?_
              refine lv_iload_n hx hb dX1_admit_76 rfl (lv_at hl 2 rfl) ?_
              refine lv_icmp_le (tgt := 102) hx hb dX1_admit_77 (by decide) (fun c_77 => absurd c_77 (nI_ge (by omega) (by omega))) (fun c_77 => ?_)
              obtain ⟨i, rfl⟩ : ∃ x, i = x + 1 := ⟨i - 1, by omega⟩
              refine lv_aload_n hx hb dX1_admit_80 rfl (lv_at hl 0 rfl) ?_
              refine pgQ 1 4 10 (by decide) rfl (by decide) rfl rfl C w hi1 (by decide +kernel) dX1_admit_81 (oP1 hX) (by show sQ (mvd (uI S 1 0 5 (nI mm)) br mm _) 1 0 4 = _; unfold mvd; rw [sQ_rq2, if_neg (by simp)]; exact (hS.2.2.2.2.2.2.2.2.2.2.2.2.2.1)) ?_
              refine lv_iload hx hb dX1_admit_84 (lv_at hl 4 rfl) ?_
              refine lv_aload_n hx hb dX1_admit_86 rfl (lv_at hl 0 rfl) ?_
              refine pgQ 1 4 10 (by decide) rfl (by decide) rfl rfl C w hi1 (by decide +kernel) dX1_admit_87 (oP1 hX) (by show sQ (mvd (uI S 1 0 5 (nI mm)) br mm _) 1 0 4 = _; unfold mvd; rw [sQ_rq2, if_neg (by simp)]; exact (hS.2.2.2.2.2.2.2.2.2.2.2.2.2.1)) ?_
              refine lv_iload hx hb dX1_admit_90 (lv_at hl 4 rfl) ?_
              refine lv_iconst (v := 1) hx hb dX1_admit_92 (by decide) ?_
              refine lv_isub hx hb dX1_admit_93 ?_
              refine paQ C w dX1_admit_94 (oP10 hX (by decide)) (n := i) (nI_pred i) (oN102 hX) (by omega) (by decide) (r1 := br i) (by show sQ (mvd (uI S 1 0 5 (nI mm)) br mm (i + 1)) 10 2 i = _; unfold mvd; rw [sQ_rq2, if_pos ⟨rfl, rfl⟩, if_neg (by omega)]; exact (hbr i (by omega)).1) ?_
              refine psQ C w dX1_admit_95 (oP10 hX (by decide)) (oP2 hX (hbr i (by omega)).2) rfl (oN102 hX) (by omega) (by decide) (fun H locs w => ?_)
              refine lv_iinc (v := nI i) hx hb dX1_admit_96 hl (k := 4) rfl (pk_m1 i) (by decide) rfl (fun ls hl => ?_)
              refine lv_goto (tgt := 74) hx hb dX1_admit_99 (by decide) ?_
              rw [mvd_s (by omega)] at w
              exact ih i _ _ _ (by omega) (by omega) w (lv_sub hl [1, 2, 3, 4, 0] rfl)
          exact loop_74 (mm - 1 - k) (mm - 1) _ _ _ (by omega) (by omega) (by rw [mvd_0 _ _ _ (by omega)]; exact w) (by rw [← nI_sub1 (show 0 < mm by omega)]; exact lv_sub hl [2, 3, 4, 1, 0] rfl)
        · have e5 : nh < 5 := by apply Nat.lt_of_not_le; intro q; exact c_41 (nI_le (a := 5) q (by omega))
          refine lv_aload_n hx hb dX1_admit_44 rfl (lv_at hl 0 rfl) ?_
          refine lv_dup hx hb dX1_admit_45 rfl ?_
          refine pgI 1 5 (by decide) rfl (by decide) (Or.inl rfl) rfl C w hi1 (by decide +kernel) dX1_admit_46 (oP1 hX) (v := nI nh) hh ?_
          refine lv_iconst (v := 1) hx hb dX1_admit_49 (by decide) ?_
          refine lv_iadd hx hb dX1_admit_50 ?_
          refine ppI 1 5 (by decide) rfl (by decide) rfl rfl tyX1_ok nmX1 rfl (by decide +kernel) C w hi1 (by decide +kernel) dX1_admit_51 (oP1 hX) (fun H locs w => ?_)
          obtain ⟨mm, em⟩ : ∃ mm, mm = (if nh < 5 then nh + 1 else 5) := ⟨_, rfl⟩
          have emm : mm = nh + 1 := by rw [em, if_pos e5]
          rw [nI_1, ← emm] at w
          have hkm : k < mm := by omega
          have hm5 : mm ≤ 5 := by omega
          refine lv_aload_n hx hb dX1_admit_54 rfl (lv_at hl 0 rfl) ?_
          refine pgQ 1 4 10 (by decide) rfl (by decide) rfl rfl C w hi1 (by decide +kernel) dX1_admit_55 (oP1 hX) (hS.2.2.2.2.2.2.2.2.2.2.2.2.2.1) ?_
          refine lv_aload_n hx hb dX1_admit_58 rfl (lv_at hl 0 rfl) ?_
          refine pgI 1 5 (by decide) rfl (by decide) (Or.inl rfl) rfl C w hi1 (by decide +kernel) dX1_admit_59 (oP1 hX) (v := nI mm) (by rw [sI_uI, if_pos ⟨rfl, rfl, rfl⟩]) ?_
          refine lv_iconst (v := 1) hx hb dX1_admit_62 (by decide) ?_
          refine lv_isub hx hb dX1_admit_63 ?_
          refine paQ C w dX1_admit_64 (oP10 hX (by decide)) (n := mm - 1) (nI_sub1 (by omega)) (oN102 hX) (by omega) (by decide) (r1 := br (mm - 1)) (hbr (mm - 1) (by omega)).1 ?_
          refine lv_astore_n hx hb dX1_admit_65 rfl hl (by decide) rfl (fun ls hl => ?_)
          refine lv_aload_n hx hb dX1_admit_66 rfl (lv_at hl 1 rfl) ?_
          refine pgI 1 5 (by decide) rfl (by decide) (Or.inl rfl) rfl C w hi1 (by decide +kernel) dX1_admit_67 (oP1 hX) (v := nI mm) (by rw [sI_uI, if_pos ⟨rfl, rfl, rfl⟩]) ?_
          refine lv_iconst (v := 1) hx hb dX1_admit_70 (by decide) ?_
          refine lv_isub hx hb dX1_admit_71 ?_
          refine lv_istore hx hb dX1_admit_72 hl (by decide) rfl (fun ls hl => ?_)
          have loop_74 : ∀ (n : Nat) (i : Nat) (H : Heap) (locs : List Loc) (ls : Array Slot), i = k + n → i < mm → Wd G A s.heap (mvd (uI S 1 0 5 (nI mm)) br mm i) H locs → lv_has ls 5 [(0, .ref (gA G 1 0)), (1, .ref (gA G 2 a)), (2, .int (nI k)), (3, .ref (gA G 2 (br (mm - 1)))), (4, .int (nI i))] → W p l e (rmK 3 66) s m args below meth c H locs 0 0 Q (F0 m 74 ls []) := by
            intro n
            induction n with
            | zero =>
              intro i H locs ls hi him w hl
              refine lv_iload hx hb dX1_admit_74 (lv_at hl 4 rfl) ?_
              refine lv_iload_n hx hb dX1_admit_76 rfl (lv_at hl 2 rfl) ?_
              refine lv_icmp_le (tgt := 102) hx hb dX1_admit_77 (by decide) (fun c_77 => ?_) (fun c_77 => absurd (nI_le (by omega) (by omega)) c_77)
              have ei : i = k := by omega
              subst ei
              refine lv_aload_n hx hb dX1_admit_102 rfl (lv_at hl 0 rfl) ?_
              refine pgQ 1 4 10 (by decide) rfl (by decide) rfl rfl C w hi1 (by decide +kernel) dX1_admit_103 (oP1 hX) (by show sQ (mvd (uI S 1 0 5 (nI mm)) br mm _) 1 0 4 = _; unfold mvd; rw [sQ_rq2, if_neg (by simp)]; exact (hS.2.2.2.2.2.2.2.2.2.2.2.2.2.1)) ?_
              refine lv_iload_n hx hb dX1_admit_106 rfl (lv_at hl 2 rfl) ?_
              refine lv_aload_n hx hb dX1_admit_107 rfl (lv_at hl 3 rfl) ?_
              refine psQ C w dX1_admit_108 (oP10 hX (by decide)) (oP2 hX (hbr (mm - 1) (by omega)).2) rfl (oN102 hX) (by omega) (by decide) (fun H locs w => ?_)
              rw [adm_s] at w
              have e2 : ∀ r x, sI (admS S br mm i) 2 r x = sI S 2 r x := fun r x => by unfold admS; rw [sI_rq2, sI_uI, if_neg (by simp)]
              refine lv_aload_n hx hb dX1_admit_109 rfl (lv_at hl 3 rfl) ?_
              refine lv_aload_n hx hb dX1_admit_110 rfl (lv_at hl 1 rfl) ?_
              refine cvV (n := 1) C w hl dX1_admit_111 (c_X2_copy l G hX (admS S br mm i) (lkX_rq2 (lkX_of hS rfl) _) (br (mm - 1)) a z (hbr (mm - 1) (by omega)).2 ha (hna (mm - 1) (by omega)) (by rw [e2]; exact hza) hz12) gX1_admit_X2_copy rfl (by decide +kernel) rfl rfl (Nat.le_of_ble_eq_true rfl) ⟨by decide, by decide⟩ (by decide) rfl (oP2 hX (hbr (mm - 1) (by omega)).2) (fun S4 H locs hp4 w => ?_)
              
              refine lv_iload_n hx hb dX1_admit_114 rfl (lv_at hl 2 rfl) ?_
              exact hret _ _ _ _ _ _ dX1_admit_115 w (Or.inr ⟨by rw [hpk]; omega, by rw [hpk], mm, em, by rw [hpk, hp4, e2, e2, e2]; rfl⟩)
            | succ n ih =>
              intro i H locs ls hi him w hl
              refine lv_iload hx hb dX1_admit_74 (lv_at hl 4 rfl) ?_
              refine lv_iload_n hx hb dX1_admit_76 rfl (lv_at hl 2 rfl) ?_
              refine lv_icmp_le (tgt := 102) hx hb dX1_admit_77 (by decide) (fun c_77 => absurd c_77 (nI_ge (by omega) (by omega))) (fun c_77 => ?_)
              obtain ⟨i, rfl⟩ : ∃ x, i = x + 1 := ⟨i - 1, by omega⟩
              refine lv_aload_n hx hb dX1_admit_80 rfl (lv_at hl 0 rfl) ?_
              refine pgQ 1 4 10 (by decide) rfl (by decide) rfl rfl C w hi1 (by decide +kernel) dX1_admit_81 (oP1 hX) (by show sQ (mvd (uI S 1 0 5 (nI mm)) br mm _) 1 0 4 = _; unfold mvd; rw [sQ_rq2, if_neg (by simp)]; exact (hS.2.2.2.2.2.2.2.2.2.2.2.2.2.1)) ?_
              refine lv_iload hx hb dX1_admit_84 (lv_at hl 4 rfl) ?_
              refine lv_aload_n hx hb dX1_admit_86 rfl (lv_at hl 0 rfl) ?_
              refine pgQ 1 4 10 (by decide) rfl (by decide) rfl rfl C w hi1 (by decide +kernel) dX1_admit_87 (oP1 hX) (by show sQ (mvd (uI S 1 0 5 (nI mm)) br mm _) 1 0 4 = _; unfold mvd; rw [sQ_rq2, if_neg (by simp)]; exact (hS.2.2.2.2.2.2.2.2.2.2.2.2.2.1)) ?_
              refine lv_iload hx hb dX1_admit_90 (lv_at hl 4 rfl) ?_
              refine lv_iconst (v := 1) hx hb dX1_admit_92 (by decide) ?_
              refine lv_isub hx hb dX1_admit_93 ?_
              refine paQ C w dX1_admit_94 (oP10 hX (by decide)) (n := i) (nI_pred i) (oN102 hX) (by omega) (by decide) (r1 := br i) (by show sQ (mvd (uI S 1 0 5 (nI mm)) br mm (i + 1)) 10 2 i = _; unfold mvd; rw [sQ_rq2, if_pos ⟨rfl, rfl⟩, if_neg (by omega)]; exact (hbr i (by omega)).1) ?_
              refine psQ C w dX1_admit_95 (oP10 hX (by decide)) (oP2 hX (hbr i (by omega)).2) rfl (oN102 hX) (by omega) (by decide) (fun H locs w => ?_)
              refine lv_iinc (v := nI i) hx hb dX1_admit_96 hl (k := 4) rfl (pk_m1 i) (by decide) rfl (fun ls hl => ?_)
              refine lv_goto (tgt := 74) hx hb dX1_admit_99 (by decide) ?_
              rw [mvd_s (by omega)] at w
              exact ih i _ _ _ (by omega) (by omega) w (lv_sub hl [1, 2, 3, 4, 0] rfl)
          exact loop_74 (mm - 1 - k) (mm - 1) _ _ _ (by omega) (by omega) (by rw [mvd_0 _ _ _ (by omega)]; exact w) (by rw [← nI_sub1 (show 0 < mm by omega)]; exact lv_sub hl [2, 3, 4, 1, 0] rfl)
      · refine lv_iconst (v := (-1)) hx hb dX1_admit_34 (by decide) ?_
        exact hret _ _ _ _ _ _ dX1_admit_35 w (Or.inl ⟨by rw [hpk]; have : ¬ k < 5 := fun q => c_31 ((nI_ltI (by omega) (by decide)).mpr q); omega, rfl, rfl⟩)
    | succ n ih =>
      intro k H locs ls hk hI w hl
      refine lv_iload_n hx hb dX1_admit_2 rfl (lv_at hl 2 rfl) ?_
      refine lv_aload_n hx hb dX1_admit_3 rfl (lv_at hl 0 rfl) ?_
      refine pgI 1 5 (by decide) rfl (by decide) (Or.inl rfl) rfl C w hi1 (by decide +kernel) dX1_admit_4 (oP1 hX) (v := nI nh) hh ?_
      refine lv_icmp_ge (tgt := 29) hx hb dX1_admit_7 (by decide) (fun c_7 => absurd c_7 (nI_ge (by omega) (by omega))) (fun c_7 => ?_)
      refine lv_aload_n hx hb dX1_admit_10 rfl (lv_at hl 0 rfl) ?_
      refine pgQ 1 4 10 (by decide) rfl (by decide) rfl rfl C w hi1 (by decide +kernel) dX1_admit_11 (oP1 hX) (hS.2.2.2.2.2.2.2.2.2.2.2.2.2.1) ?_
      refine lv_iload_n hx hb dX1_admit_14 rfl (lv_at hl 2 rfl) ?_
      refine paQ C w dX1_admit_15 (oP10 hX (by decide)) rfl (oN102 hX) (by omega) (by decide) (r1 := br k) (hbr k (by omega)).1 ?_
      refine lv_aload_n hx hb dX1_admit_16 rfl (lv_at hl 1 rfl) ?_
      refine cvI (n := 1) C w hl dX1_admit_17 (c_X2_compareWith l G hX S hS (br k) a z (hbr k (by omega)).2 ha (hbz k (by omega)) hz12) gX1_admit_X2_compareWith rfl (by decide +kernel) rfl rfl (Nat.le_of_ble_eq_true rfl) ⟨by decide, by decide⟩ (by decide) rfl (oP2 hX (hbr k (by omega)).2) (fun v2 S2 H locs hp w => ?_)
      obtain ⟨e2, e0⟩ := hp
      rw [e0] at w
      rw [e2]
      refine lv_if_lt (tgt := 29) hx hb dX1_admit_20 (by decide) (fun c_20 => ?_) (fun c_20 => ?_)
      · have hpk : plc (fun j => cmpG (sJ S 9 (br j)) (sJ S 9 a) z 0) nh 0 = k := by rw [hI, plc, if_pos c_20]
        have h5 : k ≤ nh := by omega
        refine lv_iload_n hx hb dX1_admit_29 rfl (lv_at hl 2 rfl) ?_
        refine lv_iconst (v := 5) hx hb dX1_admit_30 (by decide) ?_
        refine lv_icmp_lt (tgt := 36) hx hb dX1_admit_31 (by decide) (fun c_31 => ?_) (fun c_31 => ?_)
        · have hk5 : k < 5 := (nI_ltI (by omega) (by decide)).mp c_31
          refine lv_aload_n hx hb dX1_admit_36 rfl (lv_at hl 0 rfl) ?_
          refine pgI 1 5 (by decide) rfl (by decide) (Or.inl rfl) rfl C w hi1 (by decide +kernel) dX1_admit_37 (oP1 hX) (v := nI nh) hh ?_
          refine lv_iconst (v := 5) hx hb dX1_admit_40 (by decide) ?_
          refine lv_icmp_ge (tgt := 54) hx hb dX1_admit_41 (by decide) (fun c_41 => ?_) (fun c_41 => ?_)
          · have e5 : nh = 5 := by have : ¬ nh < 5 := fun q => absurd c_41 (nI_ge q (by decide)); omega
            obtain ⟨mm, em⟩ : ∃ mm, mm = (if nh < 5 then nh + 1 else 5) := ⟨_, rfl⟩
            have emm : mm = 5 := by rw [em, if_neg (by omega)]
            rw [← uI_same (v := nI mm) (show sI S 1 0 5 = nI mm by rw [hh, e5, emm])] at w
            have hkm : k < mm := by omega
            have hm5 : mm ≤ 5 := by omega
            refine lv_aload_n hx hb dX1_admit_54 rfl (lv_at hl 0 rfl) ?_
            refine pgQ 1 4 10 (by decide) rfl (by decide) rfl rfl C w hi1 (by decide +kernel) dX1_admit_55 (oP1 hX) (hS.2.2.2.2.2.2.2.2.2.2.2.2.2.1) ?_
            refine lv_aload_n hx hb dX1_admit_58 rfl (lv_at hl 0 rfl) ?_
            refine pgI 1 5 (by decide) rfl (by decide) (Or.inl rfl) rfl C w hi1 (by decide +kernel) dX1_admit_59 (oP1 hX) (v := nI mm) (by rw [sI_uI, if_pos ⟨rfl, rfl, rfl⟩]) ?_
            refine lv_iconst (v := 1) hx hb dX1_admit_62 (by decide) ?_
            refine lv_isub hx hb dX1_admit_63 ?_
            refine paQ C w dX1_admit_64 (oP10 hX (by decide)) (n := mm - 1) (nI_sub1 (by omega)) (oN102 hX) (by omega) (by decide) (r1 := br (mm - 1)) (hbr (mm - 1) (by omega)).1 ?_
            refine lv_astore_n hx hb dX1_admit_65 rfl hl (by decide) rfl (fun ls hl => ?_)
            refine lv_aload_n hx hb dX1_admit_66 rfl (lv_at hl 1 rfl) ?_
            refine pgI 1 5 (by decide) rfl (by decide) (Or.inl rfl) rfl C w hi1 (by decide +kernel) dX1_admit_67 (oP1 hX) (v := nI mm) (by rw [sI_uI, if_pos ⟨rfl, rfl, rfl⟩]) ?_
            refine lv_iconst (v := 1) hx hb dX1_admit_70 (by decide) ?_
            refine lv_isub hx hb dX1_admit_71 ?_
            refine lv_istore hx hb dX1_admit_72 hl (by decide) rfl (fun ls hl => ?_)
            have loop_74 : ∀ (n : Nat) (i : Nat) (H : Heap) (locs : List Loc) (ls : Array Slot), i = k + n → i < mm → Wd G A s.heap (mvd (uI S 1 0 5 (nI mm)) br mm i) H locs → lv_has ls 5 [(0, .ref (gA G 1 0)), (1, .ref (gA G 2 a)), (2, .int (nI k)), (3, .ref (gA G 2 (br (mm - 1)))), (4, .int (nI i))] → W p l e (rmK 3 66) s m args below meth c H locs 0 0 Q (F0 m 74 ls []) := by
              intro n
              induction n with
              | zero =>
                intro i H locs ls hi him w hl
                refine lv_iload hx hb dX1_admit_74 (lv_at hl 4 rfl) ?_
                refine lv_iload_n hx hb dX1_admit_76 rfl (lv_at hl 2 rfl) ?_
                refine lv_icmp_le (tgt := 102) hx hb dX1_admit_77 (by decide) (fun c_77 => ?_) (fun c_77 => absurd (nI_le (by omega) (by omega)) c_77)
                have ei : i = k := by omega
                subst ei
                refine lv_aload_n hx hb dX1_admit_102 rfl (lv_at hl 0 rfl) ?_
                refine pgQ 1 4 10 (by decide) rfl (by decide) rfl rfl C w hi1 (by decide +kernel) dX1_admit_103 (oP1 hX) (by show sQ (mvd (uI S 1 0 5 (nI mm)) br mm _) 1 0 4 = _; unfold mvd; rw [sQ_rq2, if_neg (by simp)]; exact (hS.2.2.2.2.2.2.2.2.2.2.2.2.2.1)) ?_
                refine lv_iload_n hx hb dX1_admit_106 rfl (lv_at hl 2 rfl) ?_
                refine lv_aload_n hx hb dX1_admit_107 rfl (lv_at hl 3 rfl) ?_
                refine psQ C w dX1_admit_108 (oP10 hX (by decide)) (oP2 hX (hbr (mm - 1) (by omega)).2) rfl (oN102 hX) (by omega) (by decide) (fun H locs w => ?_)
                rw [adm_s] at w
                have e2 : ∀ r x, sI (admS S br mm i) 2 r x = sI S 2 r x := fun r x => by unfold admS; rw [sI_rq2, sI_uI, if_neg (by simp)]
                refine lv_aload_n hx hb dX1_admit_109 rfl (lv_at hl 3 rfl) ?_
                refine lv_aload_n hx hb dX1_admit_110 rfl (lv_at hl 1 rfl) ?_
                refine cvV (n := 1) C w hl dX1_admit_111 (c_X2_copy l G hX (admS S br mm i) (lkX_rq2 (lkX_of hS rfl) _) (br (mm - 1)) a z (hbr (mm - 1) (by omega)).2 ha (hna (mm - 1) (by omega)) (by rw [e2]; exact hza) hz12) gX1_admit_X2_copy rfl (by decide +kernel) rfl rfl (Nat.le_of_ble_eq_true rfl) ⟨by decide, by decide⟩ (by decide) rfl (oP2 hX (hbr (mm - 1) (by omega)).2) (fun S4 H locs hp4 w => ?_)
                
                refine lv_iload_n hx hb dX1_admit_114 rfl (lv_at hl 2 rfl) ?_
                exact hret _ _ _ _ _ _ dX1_admit_115 w (Or.inr ⟨by rw [hpk]; omega, by rw [hpk], mm, em, by rw [hpk, hp4, e2, e2, e2]; rfl⟩)
              | succ n ih =>
                intro i H locs ls hi him w hl
                refine lv_iload hx hb dX1_admit_74 (lv_at hl 4 rfl) ?_
                refine lv_iload_n hx hb dX1_admit_76 rfl (lv_at hl 2 rfl) ?_
                refine lv_icmp_le (tgt := 102) hx hb dX1_admit_77 (by decide) (fun c_77 => absurd c_77 (nI_ge (by omega) (by omega))) (fun c_77 => ?_)
                obtain ⟨i, rfl⟩ : ∃ x, i = x + 1 := ⟨i - 1, by omega⟩
                refine lv_aload_n hx hb dX1_admit_80 rfl (lv_at hl 0 rfl) ?_
                refine pgQ 1 4 10 (by decide) rfl (by decide) rfl rfl C w hi1 (by decide +kernel) dX1_admit_81 (oP1 hX) (by show sQ (mvd (uI S 1 0 5 (nI mm)) br mm _) 1 0 4 = _; unfold mvd; rw [sQ_rq2, if_neg (by simp)]; exact (hS.2.2.2.2.2.2.2.2.2.2.2.2.2.1)) ?_
                refine lv_iload hx hb dX1_admit_84 (lv_at hl 4 rfl) ?_
                refine lv_aload_n hx hb dX1_admit_86 rfl (lv_at hl 0 rfl) ?_
                refine pgQ 1 4 10 (by decide) rfl (by decide) rfl rfl C w hi1 (by decide +kernel) dX1_admit_87 (oP1 hX) (by show sQ (mvd (uI S 1 0 5 (nI mm)) br mm _) 1 0 4 = _; unfold mvd; rw [sQ_rq2, if_neg (by simp)]; exact (hS.2.2.2.2.2.2.2.2.2.2.2.2.2.1)) ?_
                refine lv_iload hx hb dX1_admit_90 (lv_at hl 4 rfl) ?_
                refine lv_iconst (v := 1) hx hb dX1_admit_92 (by decide) ?_
                refine lv_isub hx hb dX1_admit_93 ?_
                refine paQ C w dX1_admit_94 (oP10 hX (by decide)) (n := i) (nI_pred i) (oN102 hX) (by omega) (by decide) (r1 := br i) (by show sQ (mvd (uI S 1 0 5 (nI mm)) br mm (i + 1)) 10 2 i = _; unfold mvd; rw [sQ_rq2, if_pos ⟨rfl, rfl⟩, if_neg (by omega)]; exact (hbr i (by omega)).1) ?_
                refine psQ C w dX1_admit_95 (oP10 hX (by decide)) (oP2 hX (hbr i (by omega)).2) rfl (oN102 hX) (by omega) (by decide) (fun H locs w => ?_)
                refine lv_iinc (v := nI i) hx hb dX1_admit_96 hl (k := 4) rfl (pk_m1 i) (by decide) rfl (fun ls hl => ?_)
                refine lv_goto (tgt := 74) hx hb dX1_admit_99 (by decide) ?_
                rw [mvd_s (by omega)] at w
                exact ih i _ _ _ (by omega) (by omega) w (lv_sub hl [1, 2, 3, 4, 0] rfl)
            exact loop_74 (mm - 1 - k) (mm - 1) _ _ _ (by omega) (by omega) (by rw [mvd_0 _ _ _ (by omega)]; exact w) (by rw [← nI_sub1 (show 0 < mm by omega)]; exact lv_sub hl [2, 3, 4, 1, 0] rfl)
          · have e5 : nh < 5 := by apply Nat.lt_of_not_le; intro q; exact c_41 (nI_le (a := 5) q (by omega))
            refine lv_aload_n hx hb dX1_admit_44 rfl (lv_at hl 0 rfl) ?_
            refine lv_dup hx hb dX1_admit_45 rfl ?_
            refine pgI 1 5 (by decide) rfl (by decide) (Or.inl rfl) rfl C w hi1 (by decide +kernel) dX1_admit_46 (oP1 hX) (v := nI nh) hh ?_
            refine lv_iconst (v := 1) hx hb dX1_admit_49 (by decide) ?_
            refine lv_iadd hx hb dX1_admit_50 ?_
            refine ppI 1 5 (by decide) rfl (by decide) rfl rfl tyX1_ok nmX1 rfl (by decide +kernel) C w hi1 (by decide +kernel) dX1_admit_51 (oP1 hX) (fun H locs w => ?_)
            obtain ⟨mm, em⟩ : ∃ mm, mm = (if nh < 5 then nh + 1 else 5) := ⟨_, rfl⟩
            have emm : mm = nh + 1 := by rw [em, if_pos e5]
            rw [nI_1, ← emm] at w
            have hkm : k < mm := by omega
            have hm5 : mm ≤ 5 := by omega
            refine lv_aload_n hx hb dX1_admit_54 rfl (lv_at hl 0 rfl) ?_
            refine pgQ 1 4 10 (by decide) rfl (by decide) rfl rfl C w hi1 (by decide +kernel) dX1_admit_55 (oP1 hX) (hS.2.2.2.2.2.2.2.2.2.2.2.2.2.1) ?_
            refine lv_aload_n hx hb dX1_admit_58 rfl (lv_at hl 0 rfl) ?_
            refine pgI 1 5 (by decide) rfl (by decide) (Or.inl rfl) rfl C w hi1 (by decide +kernel) dX1_admit_59 (oP1 hX) (v := nI mm) (by rw [sI_uI, if_pos ⟨rfl, rfl, rfl⟩]) ?_
            refine lv_iconst (v := 1) hx hb dX1_admit_62 (by decide) ?_
            refine lv_isub hx hb dX1_admit_63 ?_
            refine paQ C w dX1_admit_64 (oP10 hX (by decide)) (n := mm - 1) (nI_sub1 (by omega)) (oN102 hX) (by omega) (by decide) (r1 := br (mm - 1)) (hbr (mm - 1) (by omega)).1 ?_
            refine lv_astore_n hx hb dX1_admit_65 rfl hl (by decide) rfl (fun ls hl => ?_)
            refine lv_aload_n hx hb dX1_admit_66 rfl (lv_at hl 1 rfl) ?_
            refine pgI 1 5 (by decide) rfl (by decide) (Or.inl rfl) rfl C w hi1 (by decide +kernel) dX1_admit_67 (oP1 hX) (v := nI mm) (by rw [sI_uI, if_pos ⟨rfl, rfl, rfl⟩]) ?_
            refine lv_iconst (v := 1) hx hb dX1_admit_70 (by decide) ?_
            refine lv_isub hx hb dX1_admit_71 ?_
            refine lv_istore hx hb dX1_admit_72 hl (by decide) rfl (fun ls hl => ?_)
            have loop_74 : ∀ (n : Nat) (i : Nat) (H : Heap) (locs : List Loc) (ls : Array Slot), i = k + n → i < mm → Wd G A s.heap (mvd (uI S 1 0 5 (nI mm)) br mm i) H locs → lv_has ls 5 [(0, .ref (gA G 1 0)), (1, .ref (gA G 2 a)), (2, .int (nI k)), (3, .ref (gA G 2 (br (mm - 1)))), (4, .int (nI i))] → W p l e (rmK 3 66) s m args below meth c H locs 0 0 Q (F0 m 74 ls []) := by
              intro n
              induction n with
              | zero =>
                intro i H locs ls hi him w hl
                refine lv_iload hx hb dX1_admit_74 (lv_at hl 4 rfl) ?_
                refine lv_iload_n hx hb dX1_admit_76 rfl (lv_at hl 2 rfl) ?_
                refine lv_icmp_le (tgt := 102) hx hb dX1_admit_77 (by decide) (fun c_77 => ?_) (fun c_77 => absurd (nI_le (by omega) (by omega)) c_77)
                have ei : i = k := by omega
                subst ei
                refine lv_aload_n hx hb dX1_admit_102 rfl (lv_at hl 0 rfl) ?_
                refine pgQ 1 4 10 (by decide) rfl (by decide) rfl rfl C w hi1 (by decide +kernel) dX1_admit_103 (oP1 hX) (by show sQ (mvd (uI S 1 0 5 (nI mm)) br mm _) 1 0 4 = _; unfold mvd; rw [sQ_rq2, if_neg (by simp)]; exact (hS.2.2.2.2.2.2.2.2.2.2.2.2.2.1)) ?_
                refine lv_iload_n hx hb dX1_admit_106 rfl (lv_at hl 2 rfl) ?_
                refine lv_aload_n hx hb dX1_admit_107 rfl (lv_at hl 3 rfl) ?_
                refine psQ C w dX1_admit_108 (oP10 hX (by decide)) (oP2 hX (hbr (mm - 1) (by omega)).2) rfl (oN102 hX) (by omega) (by decide) (fun H locs w => ?_)
                rw [adm_s] at w
                have e2 : ∀ r x, sI (admS S br mm i) 2 r x = sI S 2 r x := fun r x => by unfold admS; rw [sI_rq2, sI_uI, if_neg (by simp)]
                refine lv_aload_n hx hb dX1_admit_109 rfl (lv_at hl 3 rfl) ?_
                refine lv_aload_n hx hb dX1_admit_110 rfl (lv_at hl 1 rfl) ?_
                refine cvV (n := 1) C w hl dX1_admit_111 (c_X2_copy l G hX (admS S br mm i) (lkX_rq2 (lkX_of hS rfl) _) (br (mm - 1)) a z (hbr (mm - 1) (by omega)).2 ha (hna (mm - 1) (by omega)) (by rw [e2]; exact hza) hz12) gX1_admit_X2_copy rfl (by decide +kernel) rfl rfl (Nat.le_of_ble_eq_true rfl) ⟨by decide, by decide⟩ (by decide) rfl (oP2 hX (hbr (mm - 1) (by omega)).2) (fun S4 H locs hp4 w => ?_)
                
                refine lv_iload_n hx hb dX1_admit_114 rfl (lv_at hl 2 rfl) ?_
                exact hret _ _ _ _ _ _ dX1_admit_115 w (Or.inr ⟨by rw [hpk]; omega, by rw [hpk], mm, em, by rw [hpk, hp4, e2, e2, e2]; rfl⟩)
              | succ n ih =>
                intro i H locs ls hi him w hl
                refine lv_iload hx hb dX1_admit_74 (lv_at hl 4 rfl) ?_
                refine lv_iload_n hx hb dX1_admit_76 rfl (lv_at hl 2 rfl) ?_
                refine lv_icmp_le (tgt := 102) hx hb dX1_admit_77 (by decide) (fun c_77 => absurd c_77 (nI_ge (by omega) (by omega))) (fun c_77 => ?_)
                obtain ⟨i, rfl⟩ : ∃ x, i = x + 1 := ⟨i - 1, by omega⟩
                refine lv_aload_n hx hb dX1_admit_80 rfl (lv_at hl 0 rfl) ?_
                refine pgQ 1 4 10 (by decide) rfl (by decide) rfl rfl C w hi1 (by decide +kernel) dX1_admit_81 (oP1 hX) (by show sQ (mvd (uI S 1 0 5 (nI mm)) br mm _) 1 0 4 = _; unfold mvd; rw [sQ_rq2, if_neg (by simp)]; exact (hS.2.2.2.2.2.2.2.2.2.2.2.2.2.1)) ?_
                refine lv_iload hx hb dX1_admit_84 (lv_at hl 4 rfl) ?_
                refine lv_aload_n hx hb dX1_admit_86 rfl (lv_at hl 0 rfl) ?_
                refine pgQ 1 4 10 (by decide) rfl (by decide) rfl rfl C w hi1 (by decide +kernel) dX1_admit_87 (oP1 hX) (by show sQ (mvd (uI S 1 0 5 (nI mm)) br mm _) 1 0 4 = _; unfold mvd; rw [sQ_rq2, if_neg (by simp)]; exact (hS.2.2.2.2.2.2.2.2.2.2.2.2.2.1)) ?_
                refine lv_iload hx hb dX1_admit_90 (lv_at hl 4 rfl) ?_
                refine lv_iconst (v := 1) hx hb dX1_admit_92 (by decide) ?_
                refine lv_isub hx hb dX1_admit_93 ?_
                refine paQ C w dX1_admit_94 (oP10 hX (by decide)) (n := i) (nI_pred i) (oN102 hX) (by omega) (by decide) (r1 := br i) (by show sQ (mvd (uI S 1 0 5 (nI mm)) br mm (i + 1)) 10 2 i = _; unfold mvd; rw [sQ_rq2, if_pos ⟨rfl, rfl⟩, if_neg (by omega)]; exact (hbr i (by omega)).1) ?_
                refine psQ C w dX1_admit_95 (oP10 hX (by decide)) (oP2 hX (hbr i (by omega)).2) rfl (oN102 hX) (by omega) (by decide) (fun H locs w => ?_)
                refine lv_iinc (v := nI i) hx hb dX1_admit_96 hl (k := 4) rfl (pk_m1 i) (by decide) rfl (fun ls hl => ?_)
                refine lv_goto (tgt := 74) hx hb dX1_admit_99 (by decide) ?_
                rw [mvd_s (by omega)] at w
                exact ih i _ _ _ (by omega) (by omega) w (lv_sub hl [1, 2, 3, 4, 0] rfl)
            exact loop_74 (mm - 1 - k) (mm - 1) _ _ _ (by omega) (by omega) (by rw [mvd_0 _ _ _ (by omega)]; exact w) (by rw [← nI_sub1 (show 0 < mm by omega)]; exact lv_sub hl [2, 3, 4, 1, 0] rfl)
        · refine lv_iconst (v := (-1)) hx hb dX1_admit_34 (by decide) ?_
          exact hret _ _ _ _ _ _ dX1_admit_35 w (Or.inl ⟨by rw [hpk]; have : ¬ k < 5 := fun q => c_31 ((nI_ltI (by omega) (by decide)).mpr q); omega, rfl, rfl⟩)
      · refine lv_iinc (v := nI (k + 1)) hx hb dX1_admit_23 hl (k := 2) rfl (nI_1 k) (by decide) rfl (fun ls hl => ?_)
        refine lv_goto (tgt := 2) hx hb dX1_admit_26 (by decide) ?_
        exact ih (k + 1) _ _ _ (by omega) (by rw [hI, plc, if_neg c_20]) w (lv_sub hl [1, 2, 0] rfl)
  exact loop_2 nh 0 _ _ _ (by omega) rfl w (lv_sub hl [1, 2, 0] rfl)
end
