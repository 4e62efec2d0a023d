section
/-! ===== BEGIN words of one list among another's, by their places ===== -/
theorem goodIn_r {big : List Cond} (ws : List Cond) (ps : List Nat) (hp : ws = ps.filterMap (fun i => big[i]?)) (h : ws.all goodWord = true) : GoodIn big ws := by
  intro w hw
  have h1 := List.all_eq_true.mp h w hw
  rw [hp] at hw
  obtain ⟨i, -, hi⟩ := List.mem_filterMap.mp hw
  have hm : w ∈ big := by first | exact List.mem_of_getElem? hi | exact List.getElem?_mem hi
  exact ⟨hm, good_of_word h1⟩
theorem goodIn_app {big a b : List Cond} (ha : GoodIn big a) (hb : GoodIn big b) : GoodIn big (a ++ b) := fun w h => (List.mem_append.mp h).elim (ha w) (hb w)
theorem goodIn_ca {big a b : List Cond} {c : Cond} (ha : GoodIn big (c :: a)) (hb : GoodIn big b) : GoodIn big (c :: (a ++ b)) := fun w h => (List.mem_cons.mp h).elim (fun e => ha w (List.mem_cons.mpr (Or.inl e))) (fun h => (List.mem_append.mp h).elim (fun h => ha w (List.mem_cons.mpr (Or.inr h))) (hb w))
theorem goodIn_sub {big ws : List Cond} (hm : ∀ w ∈ ws, w ∈ big) (h : ws.all goodWord = true) : GoodIn big ws := fun w hw => ⟨hm w hw, good_of_word (List.all_eq_true.mp h w hw)⟩
/-! ===== END ===== -/
def RX0 : String := "LevelScores$Page"
def TX0 : u_T := fun k => match k with
  | 0 => ("LevelScores$Page", "bytes", "[B", true)
  | 1 => ("LevelScores$Page", "length", "I", false)
  | _ => ("LevelScores$Page", "digits", "[B", true)
def tyX0 : Nat → FieldType := fun k => match k with
  | 0 => .array .byte
  | 1 => .int
  | _ => .array .byte
abbrev wsX00 : List Cond := u_ws RX0 TX0 3
theorem nmX0 : ∀ a, a < 3 → ∀ b, b < 3 → a ≠ b → (TX0 a).2.1 ≠ (TX0 b).2.1 := by decide +kernel
theorem tyX0_ok : ∀ k, k < 3 → parseFieldDescriptor (TX0 k).2.2.1 = some (tyX0 k) := by decide +kernel
abbrev cX0_init : ByteArray := prog_2_method_1_code
def yX0_init : MethodName := ⟨RX0, "<init>", "()V"⟩
abbrev cX0_write : ByteArray := prog_2_method_2_code
def yX0_write : MethodName := ⟨RX0, "write", "(LLevelScores$Score;)V"⟩
abbrev cX0_writePlain : ByteArray := prog_2_method_3_code
def yX0_writePlain : MethodName := ⟨RX0, "writePlain", "(LLevelScores$Score;)V"⟩
abbrev cX0_writeBent : ByteArray := prog_2_method_4_code
def yX0_writeBent : MethodName := ⟨RX0, "writeBent", "(LLevelScores$Score;)V"⟩
abbrev cX0_writeList : ByteArray := prog_2_method_5_code
def yX0_writeList : MethodName := ⟨RX0, "writeList", "(LLevelScores$Score;II)V"⟩
abbrev cX0_writeNumber : ByteArray := prog_2_method_6_code
def yX0_writeNumber : MethodName := ⟨RX0, "writeNumber", "(J)V"⟩
abbrev cX0_writeWord : ByteArray := prog_2_method_7_code
def yX0_writeWord : MethodName := ⟨RX0, "writeWord", "(Ljava/lang/String;)V"⟩
abbrev cX0_append : ByteArray := prog_2_method_8_code
def yX0_append : MethodName := ⟨RX0, "append", "(I)V"⟩
def RX1 : String := "LevelScores$Plan"
def TX1 : u_T := fun k => match k with
  | 0 => ("LevelScores$Plan", "pattern", "LLevelScores$Score;", true)
  | 1 => ("LevelScores$Plan", "weights", "[LLevelScores$Score;", true)
  | 2 => ("LevelScores$Plan", "counts", "[I", true)
  | 3 => ("LevelScores$Plan", "rules", "I", false)
  | 4 => ("LevelScores$Plan", "best", "[LLevelScores$Score;", true)
  | 5 => ("LevelScores$Plan", "held", "I", false)
  | 6 => ("LevelScores$Plan", "spare", "LLevelScores$Score;", false)
  | 7 => ("LevelScores$Plan", "sum", "LLevelScores$Wide;", true)
  | _ => ("LevelScores$Plan", "part", "LLevelScores$Wide;", true)
def tyX1 : Nat → FieldType := fun k => match k with
  | 0 => .object "LevelScores$Score"
  | 1 => .array (.object "LevelScores$Score")
  | 2 => .array .int
  | 3 => .int
  | 4 => .array (.object "LevelScores$Score")
  | 5 => .int
  | 6 => .object "LevelScores$Score"
  | 7 => .object "LevelScores$Wide"
  | _ => .object "LevelScores$Wide"
abbrev wsX10 : List Cond := u_ws RX1 TX1 9
theorem nmX1 : ∀ a, a < 9 → ∀ b, b < 9 → a ≠ b → (TX1 a).2.1 ≠ (TX1 b).2.1 := by decide +kernel
theorem tyX1_ok : ∀ k, k < 9 → parseFieldDescriptor (TX1 k).2.2.1 = some (tyX1 k) := by decide +kernel
abbrev cX1_init : ByteArray := prog_3_method_1_code
def yX1_init : MethodName := ⟨RX1, "<init>", "()V"⟩
abbrev cX1_begin : ByteArray := prog_3_method_2_code
def yX1_begin : MethodName := ⟨RX1, "begin", "(LLevelScores$Score;)V"⟩
abbrev cX1_hasRule : ByteArray := prog_3_method_3_code
def yX1_hasRule : MethodName := ⟨RX1, "hasRule", "(I)Z"⟩
abbrev cX1_addRule : ByteArray := prog_3_method_4_code
def yX1_addRule : MethodName := ⟨RX1, "addRule", "(LLevelScores$Score;)I"⟩
abbrev cX1_changeCount : ByteArray := prog_3_method_5_code
def yX1_changeCount : MethodName := ⟨RX1, "changeCount", "(II)Z"⟩
abbrev cX1_changeWeight : ByteArray := prog_3_method_6_code
def yX1_changeWeight : MethodName := ⟨RX1, "changeWeight", "(ILLevelScores$Score;)Z"⟩
abbrev cX1_tradeSpare : ByteArray := prog_3_method_7_code
def yX1_tradeSpare : MethodName := ⟨RX1, "tradeSpare", "(I)V"⟩
abbrev cX1_allFit : ByteArray := prog_3_method_8_code
def yX1_allFit : MethodName := ⟨RX1, "allFit", "()Z"⟩
abbrev cX1_fitsAt : ByteArray := prog_3_method_9_code
def yX1_fitsAt : MethodName := ⟨RX1, "fitsAt", "(I)Z"⟩
abbrev cX1_pricePart : ByteArray := prog_3_method_10_code
def yX1_pricePart : MethodName := ⟨RX1, "pricePart", "(II)V"⟩
abbrev cX1_priceSum : ByteArray := prog_3_method_11_code
def yX1_priceSum : MethodName := ⟨RX1, "priceSum", "(I)V"⟩
abbrev cX1_sumInto : ByteArray := prog_3_method_12_code
def yX1_sumInto : MethodName := ⟨RX1, "sumInto", "(LLevelScores$Score;)V"⟩
abbrev cX1_partInto : ByteArray := prog_3_method_13_code
def yX1_partInto : MethodName := ⟨RX1, "partInto", "(ILLevelScores$Score;)V"⟩
abbrev cX1_bears : ByteArray := prog_3_method_14_code
def yX1_bears : MethodName := ⟨RX1, "bears", "(I)Z"⟩
abbrev cX1_bearsAt : ByteArray := prog_3_method_15_code
def yX1_bearsAt : MethodName := ⟨RX1, "bearsAt", "(IIZ)Z"⟩
abbrev cX1_admit : ByteArray := prog_3_method_16_code
def yX1_admit : MethodName := ⟨RX1, "admit", "(LLevelScores$Score;)I"⟩
def RX2 : String := "LevelScores$Score"
def TX2 : u_T := fun k => match k with
  | 0 => ("LevelScores$Score", "shape", "I", false)
  | 1 => ("LevelScores$Score", "hard", "I", false)
  | 2 => ("LevelScores$Score", "size", "I", false)
  | _ => ("LevelScores$Score", "levels", "[J", true)
def tyX2 : Nat → FieldType := fun k => match k with
  | 0 => .int
  | 1 => .int
  | 2 => .int
  | _ => .array .long
abbrev wsX20 : List Cond := u_ws RX2 TX2 4
theorem nmX2 : ∀ a, a < 4 → ∀ b, b < 4 → a ≠ b → (TX2 a).2.1 ≠ (TX2 b).2.1 := by decide +kernel
theorem tyX2_ok : ∀ k, k < 4 → parseFieldDescriptor (TX2 k).2.2.1 = some (tyX2 k) := by decide +kernel
abbrev cX2_init : ByteArray := prog_4_method_1_code
def yX2_init : MethodName := ⟨RX2, "<init>", "()V"⟩
abbrev cX2_form : ByteArray := prog_4_method_2_code
def yX2_form : MethodName := ⟨RX2, "form", "(III)V"⟩
abbrev cX2_formLike : ByteArray := prog_4_method_3_code
def yX2_formLike : MethodName := ⟨RX2, "formLike", "(LLevelScores$Score;)V"⟩
abbrev cX2_clear : ByteArray := prog_4_method_4_code
def yX2_clear : MethodName := ⟨RX2, "clear", "()V"⟩
abbrev cX2_copy : ByteArray := prog_4_method_5_code
def yX2_copy : MethodName := ⟨RX2, "copy", "(LLevelScores$Score;)V"⟩
abbrev cX2_isNothing : ByteArray := prog_4_method_6_code
def yX2_isNothing : MethodName := ⟨RX2, "isNothing", "()Z"⟩
abbrev cX2_isLike : ByteArray := prog_4_method_7_code
def yX2_isLike : MethodName := ⟨RX2, "isLike", "(LLevelScores$Score;)Z"⟩
abbrev cX2_hasLevel : ByteArray := prog_4_method_8_code
def yX2_hasLevel : MethodName := ⟨RX2, "hasLevel", "(I)Z"⟩
abbrev cX2_isFeasible : ByteArray := prog_4_method_9_code
def yX2_isFeasible : MethodName := ⟨RX2, "isFeasible", "()Z"⟩
abbrev cX2_compareWith : ByteArray := prog_4_method_10_code
def yX2_compareWith : MethodName := ⟨RX2, "compareWith", "(LLevelScores$Score;)I"⟩
abbrev cX2_becomeSum : ByteArray := prog_4_method_11_code
def yX2_becomeSum : MethodName := ⟨RX2, "becomeSum", "(LLevelScores$Score;LLevelScores$Score;)Z"⟩
abbrev cX2_becomeDifference : ByteArray := prog_4_method_12_code
def yX2_becomeDifference : MethodName := ⟨RX2, "becomeDifference", "(LLevelScores$Score;LLevelScores$Score;)Z"⟩
abbrev cX2_becomeGreaterLevels : ByteArray := prog_4_method_13_code
def yX2_becomeGreaterLevels : MethodName := ⟨RX2, "becomeGreaterLevels", "(LLevelScores$Score;LLevelScores$Score;)V"⟩
abbrev cX2_becomeLesserLevels : ByteArray := prog_4_method_14_code
def yX2_becomeLesserLevels : MethodName := ⟨RX2, "becomeLesserLevels", "(LLevelScores$Score;LLevelScores$Score;)V"⟩
def RX3 : String := "LevelScores$Tape"
def TX3 : u_T := fun k => match k with
  | 0 => ("LevelScores$Tape", "bytes", "[B", true)
  | 1 => ("LevelScores$Tape", "length", "I", false)
  | _ => ("LevelScores$Tape", "place", "I", false)
def tyX3 : Nat → FieldType := fun k => match k with
  | 0 => .array .byte
  | 1 => .int
  | _ => .int
abbrev wsX30 : List Cond := u_ws RX3 TX3 3
theorem nmX3 : ∀ a, a < 3 → ∀ b, b < 3 → a ≠ b → (TX3 a).2.1 ≠ (TX3 b).2.1 := by decide +kernel
theorem tyX3_ok : ∀ k, k < 3 → parseFieldDescriptor (TX3 k).2.2.1 = some (tyX3 k) := by decide +kernel
abbrev cX3_init : ByteArray := prog_5_method_1_code
def yX3_init : MethodName := ⟨RX3, "<init>", "()V"⟩
abbrev cX3_append : ByteArray := prog_5_method_2_code
def yX3_append : MethodName := ⟨RX3, "append", "(I)V"⟩
abbrev cX3_parse : ByteArray := prog_5_method_3_code
def yX3_parse : MethodName := ⟨RX3, "parse", "(LLevelScores$Score;)Z"⟩
abbrev cX3_parsePlain : ByteArray := prog_5_method_4_code
def yX3_parsePlain : MethodName := ⟨RX3, "parsePlain", "(LLevelScores$Score;)Z"⟩
abbrev cX3_parseBent : ByteArray := prog_5_method_5_code
def yX3_parseBent : MethodName := ⟨RX3, "parseBent", "(LLevelScores$Score;)Z"⟩
abbrev cX3_parseList : ByteArray := prog_5_method_6_code
def yX3_parseList : MethodName := ⟨RX3, "parseList", "(LLevelScores$Score;I)I"⟩
abbrev cX3_parseNumber : ByteArray := prog_5_method_7_code
def yX3_parseNumber : MethodName := ⟨RX3, "parseNumber", "(LLevelScores$Score;I)Z"⟩
abbrev cX3_parseWord : ByteArray := prog_5_method_8_code
def yX3_parseWord : MethodName := ⟨RX3, "parseWord", "(Ljava/lang/String;)Z"⟩
abbrev cX3_isNext : ByteArray := prog_5_method_9_code
def yX3_isNext : MethodName := ⟨RX3, "isNext", "(C)Z"⟩
abbrev cX3_nextDigit : ByteArray := prog_5_method_10_code
def yX3_nextDigit : MethodName := ⟨RX3, "nextDigit", "()I"⟩
def RX4 : String := "LevelScores$Wide"
def TX4 : u_T := fun k => match k with
  | 0 => ("LevelScores$Wide", "high", "J", false)
  | _ => ("LevelScores$Wide", "low", "J", false)
def tyX4 : Nat → FieldType := fun k => match k with
  | 0 => .long
  | _ => .long
abbrev wsX40 : List Cond := u_ws RX4 TX4 2
theorem nmX4 : ∀ a, a < 2 → ∀ b, b < 2 → a ≠ b → (TX4 a).2.1 ≠ (TX4 b).2.1 := by decide +kernel
theorem tyX4_ok : ∀ k, k < 2 → parseFieldDescriptor (TX4 k).2.2.1 = some (tyX4 k) := by decide +kernel
abbrev cX4_init : ByteArray := prog_6_method_1_code
def yX4_init : MethodName := ⟨RX4, "<init>", "()V"⟩
abbrev cX4_clear : ByteArray := prog_6_method_2_code
def yX4_clear : MethodName := ⟨RX4, "clear", "()V"⟩
abbrev cX4_addProduct : ByteArray := prog_6_method_3_code
def yX4_addProduct : MethodName := ⟨RX4, "addProduct", "(JJ)V"⟩
abbrev cX4_divideDown : ByteArray := prog_6_method_4_code
def yX4_divideDown : MethodName := ⟨RX4, "divideDown", "(J)V"⟩
abbrev cX4_fits : ByteArray := prog_6_method_5_code
def yX4_fits : MethodName := ⟨RX4, "fits", "()Z"⟩
abbrev cX4_value : ByteArray := prog_6_method_6_code
def yX4_value : MethodName := ⟨RX4, "value", "()J"⟩
def RX5 : String := "LevelScores"
def TX5 : u_T := fun k => match k with
  | 0 => ("LevelScores", "scores", "[LLevelScores$Score;", true)
  | 1 => ("LevelScores", "numbers", "I", false)
  | 2 => ("LevelScores", "tape", "LLevelScores$Tape;", true)
  | 3 => ("LevelScores", "page", "LLevelScores$Page;", true)
  | 4 => ("LevelScores", "thePlan", "LLevelScores$Plan;", true)
  | _ => ("LevelScores", "wide", "LLevelScores$Wide;", true)
def tyX5 : Nat → FieldType := fun k => match k with
  | 0 => .array (.object "LevelScores$Score")
  | 1 => .int
  | 2 => .object "LevelScores$Tape"
  | 3 => .object "LevelScores$Page"
  | 4 => .object "LevelScores$Plan"
  | _ => .object "LevelScores$Wide"
abbrev wsX50 : List Cond := u_ws RX5 TX5 6
theorem nmX5 : ∀ a, a < 6 → ∀ b, b < 6 → a ≠ b → (TX5 a).2.1 ≠ (TX5 b).2.1 := by decide +kernel
theorem tyX5_ok : ∀ k, k < 6 → parseFieldDescriptor (TX5 k).2.2.1 = some (tyX5 k) := by decide +kernel
abbrev cX5_init : ByteArray := prog_1_method_1_code
def yX5_init : MethodName := ⟨RX5, "<init>", "()V"⟩
abbrev cX5_make : ByteArray := prog_1_method_2_code
def yX5_make : MethodName := ⟨RX5, "make", "(III)I"⟩
abbrev cX5_nothing : ByteArray := prog_1_method_3_code
def yX5_nothing : MethodName := ⟨RX5, "nothing", "()I"⟩
abbrev cX5_set : ByteArray := prog_1_method_4_code
def yX5_set : MethodName := ⟨RX5, "set", "(IIJ)I"⟩
abbrev cX5_at : ByteArray := prog_1_method_5_code
def yX5_at : MethodName := ⟨RX5, "at", "(II)J"⟩
abbrev cX5_told : ByteArray := prog_1_method_6_code
def yX5_told : MethodName := ⟨RX5, "told", "(II)I"⟩
abbrev cX5_act : ByteArray := prog_1_method_7_code
def yX5_act : MethodName := ⟨RX5, "act", "(III)I"⟩
abbrev cX5_times : ByteArray := prog_1_method_8_code
def yX5_times : MethodName := ⟨RX5, "times", "(III)I"⟩
abbrev cX5_order : ByteArray := prog_1_method_9_code
def yX5_order : MethodName := ⟨RX5, "order", "(II)I"⟩
abbrev cX5_put : ByteArray := prog_1_method_10_code
def yX5_put : MethodName := ⟨RX5, "put", "(I)I"⟩
abbrev cX5_read : ByteArray := prog_1_method_11_code
def yX5_read : MethodName := ⟨RX5, "read", "()I"⟩
abbrev cX5_print : ByteArray := prog_1_method_12_code
def yX5_print : MethodName := ⟨RX5, "print", "(I)I"⟩
abbrev cX5_out : ByteArray := prog_1_method_13_code
def yX5_out : MethodName := ⟨RX5, "out", "(I)I"⟩
abbrev cX5_plan : ByteArray := prog_1_method_14_code
def yX5_plan : MethodName := ⟨RX5, "plan", "(I)I"⟩
abbrev cX5_rule : ByteArray := prog_1_method_15_code
def yX5_rule : MethodName := ⟨RX5, "rule", "(I)I"⟩
abbrev cX5_count : ByteArray := prog_1_method_16_code
def yX5_count : MethodName := ⟨RX5, "count", "(II)I"⟩
abbrev cX5_weight : ByteArray := prog_1_method_17_code
def yX5_weight : MethodName := ⟨RX5, "weight", "(II)I"⟩
abbrev cX5_total : ByteArray := prog_1_method_18_code
def yX5_total : MethodName := ⟨RX5, "total", "(I)I"⟩
abbrev cX5_safe : ByteArray := prog_1_method_19_code
def yX5_safe : MethodName := ⟨RX5, "safe", "(I)I"⟩
abbrev cX5_keep : ByteArray := prog_1_method_20_code
def yX5_keep : MethodName := ⟨RX5, "keep", "(I)I"⟩
abbrev cX5_kept : ByteArray := prog_1_method_21_code
def yX5_kept : MethodName := ⟨RX5, "kept", "(I)I"⟩
abbrev cX5_many : ByteArray := prog_1_method_22_code
def yX5_many : MethodName := ⟨RX5, "many", "(I)I"⟩
abbrev cX5_drop : ByteArray := prog_1_method_23_code
def yX5_drop : MethodName := ⟨RX5, "drop", "()I"⟩
abbrev cX5_isNumber : ByteArray := prog_1_method_24_code
def yX5_isNumber : MethodName := ⟨RX5, "isNumber", "(I)Z"⟩
abbrev cX5_isFull : ByteArray := prog_1_method_25_code
def yX5_isFull : MethodName := ⟨RX5, "isFull", "()Z"⟩
abbrev cX5_isCount : ByteArray := prog_1_method_26_code
def yX5_isCount : MethodName := ⟨RX5, "isCount", "(I)Z"⟩
abbrev cX5_takeNumber : ByteArray := prog_1_method_27_code
def yX5_takeNumber : MethodName := ⟨RX5, "takeNumber", "()I"⟩
abbrev cX5_failureOfPair : ByteArray := prog_1_method_28_code
def yX5_failureOfPair : MethodName := ⟨RX5, "failureOfPair", "(LLevelScores$Score;LLevelScores$Score;)I"⟩
abbrev cX5_combine : ByteArray := prog_1_method_29_code
def yX5_combine : MethodName := ⟨RX5, "combine", "(ILLevelScores$Score;LLevelScores$Score;LLevelScores$Score;)Z"⟩
abbrev cX5_scale : ByteArray := prog_1_method_30_code
def yX5_scale : MethodName := ⟨RX5, "scale", "(LLevelScores$Score;IILLevelScores$Score;)Z"⟩
def RX6 : String := "LevelScoresModel"
def TX6 : u_T := fun k => match k with
  | 0 => ("LevelScoresModel", "scores", "I", false)
  | 1 => ("LevelScoresModel", "shapes", "[I", true)
  | 2 => ("LevelScoresModel", "hards", "[I", true)
  | 3 => ("LevelScoresModel", "sizes", "[I", true)
  | 4 => ("LevelScoresModel", "levels", "[J", true)
  | 5 => ("LevelScoresModel", "planShape", "I", false)
  | 6 => ("LevelScoresModel", "planHard", "I", false)
  | 7 => ("LevelScoresModel", "planSize", "I", false)
  | 8 => ("LevelScoresModel", "rules", "I", false)
  | 9 => ("LevelScoresModel", "weights", "[J", true)
  | 10 => ("LevelScoresModel", "counts", "[I", true)
  | 11 => ("LevelScoresModel", "kept", "I", false)
  | 12 => ("LevelScoresModel", "keeps", "[J", true)
  | 13 => ("LevelScoresModel", "tapeSize", "I", false)
  | 14 => ("LevelScoresModel", "tape", "[I", true)
  | 15 => ("LevelScoresModel", "outSize", "I", false)
  | 16 => ("LevelScoresModel", "out", "[I", true)
  | 17 => ("LevelScoresModel", "thrown", "I", false)
  | 18 => ("LevelScoresModel", "high", "J", false)
  | 19 => ("LevelScoresModel", "low", "J", false)
  | 20 => ("LevelScoresModel", "place", "I", false)
  | 21 => ("LevelScoresModel", "stuck", "Z", false)
  | 22 => ("LevelScoresModel", "read", "J", false)
  | _ => ("LevelScoresModel", "had", "[J", true)
def tyX6 : Nat → FieldType := fun k => match k with
  | 0 => .int
  | 1 => .array .int
  | 2 => .array .int
  | 3 => .array .int
  | 4 => .array .long
  | 5 => .int
  | 6 => .int
  | 7 => .int
  | 8 => .int
  | 9 => .array .long
  | 10 => .array .int
  | 11 => .int
  | 12 => .array .long
  | 13 => .int
  | 14 => .array .int
  | 15 => .int
  | 16 => .array .int
  | 17 => .int
  | 18 => .long
  | 19 => .long
  | 20 => .int
  | 21 => .boolean
  | 22 => .long
  | _ => .array .long
abbrev wsX60 : List Cond := u_ws RX6 TX6 24
theorem nmX6 : ∀ a, a < 24 → ∀ b, b < 24 → a ≠ b → (TX6 a).2.1 ≠ (TX6 b).2.1 := by decide +kernel
theorem tyX6_ok : ∀ k, k < 24 → parseFieldDescriptor (TX6 k).2.2.1 = some (tyX6 k) := by decide +kernel
abbrev cX6_init : ByteArray := prog_8_method_1_code
def yX6_init : MethodName := ⟨RX6, "<init>", "()V"⟩
abbrev cX6_in : ByteArray := prog_8_method_2_code
def yX6_in : MethodName := ⟨RX6, "in", "(JJJ)Z"⟩
abbrev cX6_isNumber : ByteArray := prog_8_method_3_code
def yX6_isNumber : MethodName := ⟨RX6, "isNumber", "(I)Z"⟩
abbrev cX6_isNothing : ByteArray := prog_8_method_4_code
def yX6_isNothing : MethodName := ⟨RX6, "isNothing", "(I)Z"⟩
abbrev cX6_areLike : ByteArray := prog_8_method_5_code
def yX6_areLike : MethodName := ⟨RX6, "areLike", "(II)Z"⟩
abbrev cX6_isLikePlan : ByteArray := prog_8_method_6_code
def yX6_isLikePlan : MethodName := ⟨RX6, "isLikePlan", "(I)Z"⟩
abbrev cX6_lay : ByteArray := prog_8_method_7_code
def yX6_lay : MethodName := ⟨RX6, "lay", "(III)V"⟩
abbrev cX6_keepScore : ByteArray := prog_8_method_8_code
def yX6_keepScore : MethodName := ⟨RX6, "keepScore", "()I"⟩
abbrev cX6_make : ByteArray := prog_8_method_9_code
def yX6_make : MethodName := ⟨RX6, "make", "(III)I"⟩
abbrev cX6_nothing : ByteArray := prog_8_method_10_code
def yX6_nothing : MethodName := ⟨RX6, "nothing", "()I"⟩
abbrev cX6_set : ByteArray := prog_8_method_11_code
def yX6_set : MethodName := ⟨RX6, "set", "(IIJ)I"⟩
abbrev cX6_thrown : ByteArray := prog_8_method_12_code
def yX6_thrown : MethodName := ⟨RX6, "thrown", "()I"⟩
abbrev cX6_at : ByteArray := prog_8_method_13_code
def yX6_at : MethodName := ⟨RX6, "at", "(II)J"⟩
abbrev cX6_told : ByteArray := prog_8_method_14_code
def yX6_told : MethodName := ⟨RX6, "told", "(II)I"⟩
abbrev cX6_zero : ByteArray := prog_8_method_15_code
def yX6_zero : MethodName := ⟨RX6, "zero", "()V"⟩
abbrev cX6_add : ByteArray := prog_8_method_16_code
def yX6_add : MethodName := ⟨RX6, "add", "(JJ)V"⟩
abbrev cX6_fits : ByteArray := prog_8_method_17_code
def yX6_fits : MethodName := ⟨RX6, "fits", "()Z"⟩
abbrev cX6_number : ByteArray := prog_8_method_18_code
def yX6_number : MethodName := ⟨RX6, "number", "()J"⟩
abbrev cX6_compare : ByteArray := prog_8_method_19_code
def yX6_compare : MethodName := ⟨RX6, "compare", "([JI[JII)I"⟩
abbrev cX6_refusal : ByteArray := prog_8_method_20_code
def yX6_refusal : MethodName := ⟨RX6, "refusal", "(II)I"⟩
abbrev cX6_act : ByteArray := prog_8_method_21_code
def yX6_act : MethodName := ⟨RX6, "act", "(III)I"⟩
abbrev cX6_times : ByteArray := prog_8_method_22_code
def yX6_times : MethodName := ⟨RX6, "times", "(III)I"⟩
abbrev cX6_order : ByteArray := prog_8_method_23_code
def yX6_order : MethodName := ⟨RX6, "order", "(II)I"⟩
abbrev cX6_put : ByteArray := prog_8_method_24_code
def yX6_put : MethodName := ⟨RX6, "put", "(I)I"⟩
abbrev cX6_here : ByteArray := prog_8_method_25_code
def yX6_here : MethodName := ⟨RX6, "here", "()I"⟩
abbrev cX6_isFigure : ByteArray := prog_8_method_26_code
def yX6_isFigure : MethodName := ⟨RX6, "isFigure", "()Z"⟩
abbrev cX6_take : ByteArray := prog_8_method_27_code
def yX6_take : MethodName := ⟨RX6, "take", "(I)V"⟩
abbrev cX6_word : ByteArray := prog_8_method_28_code
def yX6_word : MethodName := ⟨RX6, "word", "(I)V"⟩
abbrev cX6_letter : ByteArray := prog_8_method_29_code
def yX6_letter : MethodName := ⟨RX6, "letter", "(II)J"⟩
abbrev cX6_figure : ByteArray := prog_8_method_30_code
def yX6_figure : MethodName := ⟨RX6, "figure", "()V"⟩
abbrev cX6_level : ByteArray := prog_8_method_31_code
def yX6_level : MethodName := ⟨RX6, "level", "(I)V"⟩
abbrev cX6_row : ByteArray := prog_8_method_32_code
def yX6_row : MethodName := ⟨RX6, "row", "(I)I"⟩
abbrev cX6_bent : ByteArray := prog_8_method_33_code
def yX6_bent : MethodName := ⟨RX6, "bent", "()V"⟩
abbrev cX6_plain : ByteArray := prog_8_method_34_code
def yX6_plain : MethodName := ⟨RX6, "plain", "()V"⟩
abbrev cX6_read : ByteArray := prog_8_method_35_code
def yX6_read : MethodName := ⟨RX6, "read", "()I"⟩
abbrev cX6_write : ByteArray := prog_8_method_36_code
def yX6_write : MethodName := ⟨RX6, "write", "(I)V"⟩
abbrev cX6_writeNumber : ByteArray := prog_8_method_37_code
def yX6_writeNumber : MethodName := ⟨RX6, "writeNumber", "(J)V"⟩
abbrev cX6_writeWord : ByteArray := prog_8_method_38_code
def yX6_writeWord : MethodName := ⟨RX6, "writeWord", "(I)V"⟩
abbrev cX6_writeRow : ByteArray := prog_8_method_39_code
def yX6_writeRow : MethodName := ⟨RX6, "writeRow", "(III)V"⟩
abbrev cX6_print : ByteArray := prog_8_method_40_code
def yX6_print : MethodName := ⟨RX6, "print", "(I)I"⟩
abbrev cX6_out : ByteArray := prog_8_method_41_code
def yX6_out : MethodName := ⟨RX6, "out", "(I)I"⟩
abbrev cX6_plan : ByteArray := prog_8_method_42_code
def yX6_plan : MethodName := ⟨RX6, "plan", "(I)I"⟩
abbrev cX6_rule : ByteArray := prog_8_method_43_code
def yX6_rule : MethodName := ⟨RX6, "rule", "(I)I"⟩
abbrev cX6_layPart : ByteArray := prog_8_method_44_code
def yX6_layPart : MethodName := ⟨RX6, "layPart", "(II)V"⟩
abbrev cX6_hasRoom : ByteArray := prog_8_method_45_code
def yX6_hasRoom : MethodName := ⟨RX6, "hasRoom", "()Z"⟩
abbrev cX6_count : ByteArray := prog_8_method_46_code
def yX6_count : MethodName := ⟨RX6, "count", "(II)I"⟩
abbrev cX6_weight : ByteArray := prog_8_method_47_code
def yX6_weight : MethodName := ⟨RX6, "weight", "(II)I"⟩
abbrev cX6_total : ByteArray := prog_8_method_48_code
def yX6_total : MethodName := ⟨RX6, "total", "(I)I"⟩
abbrev cX6_safe : ByteArray := prog_8_method_49_code
def yX6_safe : MethodName := ⟨RX6, "safe", "(I)I"⟩
abbrev cX6_keep : ByteArray := prog_8_method_50_code
def yX6_keep : MethodName := ⟨RX6, "keep", "(I)I"⟩
abbrev cX6_kept : ByteArray := prog_8_method_51_code
def yX6_kept : MethodName := ⟨RX6, "kept", "(I)I"⟩
abbrev cX6_many : ByteArray := prog_8_method_52_code
def yX6_many : MethodName := ⟨RX6, "many", "(I)I"⟩
abbrev cX6_drop : ByteArray := prog_8_method_53_code
def yX6_drop : MethodName := ⟨RX6, "drop", "()I"⟩
def RJ9 : String := "java/lang/Math"
def TJ9 : u_T := fun k => match k with
  | _ => ("", "", "", false)
def tyJ9 : Nat → FieldType := fun k => match k with
  | _ => .int
abbrev wsJ90 : List Cond := u_ws RJ9 TJ9 0
theorem nmJ9 : ∀ a, a < 0 → ∀ b, b < 0 → a ≠ b → (TJ9 a).2.1 ≠ (TJ9 b).2.1 := by decide +kernel
theorem tyJ9_ok : ∀ k, k < 0 → parseFieldDescriptor (TJ9 k).2.2.1 = some (tyJ9 k) := by decide +kernel
abbrev cJ9_floorDiv_f86c9 : ByteArray := prog_11_method_49_code
def yJ9_floorDiv_f86c9 : MethodName := ⟨RJ9, "floorDiv", "(JJ)J"⟩
abbrev cJ9_floorMod_f86c9 : ByteArray := prog_11_method_52_code
def yJ9_floorMod_f86c9 : MethodName := ⟨RJ9, "floorMod", "(JJ)J"⟩
abbrev cJ9_max_f86c9 : ByteArray := prog_11_method_66_code
def yJ9_max_f86c9 : MethodName := ⟨RJ9, "max", "(JJ)J"⟩
abbrev cJ9_min_f86c9 : ByteArray := prog_11_method_70_code
def yJ9_min_f86c9 : MethodName := ⟨RJ9, "min", "(JJ)J"⟩
def RJ0 : String := "java/lang/String"
def TJ0 : u_T := fun k => match k with
  | _ => ("", "", "", false)
def tyJ0 : Nat → FieldType := fun k => match k with
  | _ => .int
abbrev wsJ00 : List Cond := u_ws RJ0 TJ0 0
theorem nmJ0 : ∀ a, a < 0 → ∀ b, b < 0 → a ≠ b → (TJ0 a).2.1 ≠ (TJ0 b).2.1 := by decide +kernel
theorem tyJ0_ok : ∀ k, k < 0 → parseFieldDescriptor (TJ0 k).2.2.1 = some (tyJ0 k) := by decide +kernel
abbrev cJ0_length_8abf5 : ByteArray := prog_13_method_54_code
def yJ0_length_8abf5 : MethodName := ⟨RJ0, "length", "()I"⟩
abbrev cJ0_charAt_5068e : ByteArray := prog_13_method_56_code
def yJ0_charAt_5068e : MethodName := ⟨RJ0, "charAt", "(I)C"⟩
abbrev cJ0_coder_7d493 : ByteArray := prog_13_method_152_code
def yJ0_coder_7d493 : MethodName := ⟨RJ0, "coder", "()B"⟩
abbrev cJ0_isLatin1_aae02 : ByteArray := prog_13_method_154_code
def yJ0_isLatin1_aae02 : MethodName := ⟨RJ0, "isLatin1", "()Z"⟩
abbrev cJ0_checkIndex_df160 : ByteArray := prog_13_method_155_code
def yJ0_checkIndex_df160 : MethodName := ⟨RJ0, "checkIndex", "(II)V"⟩
def RJ1 : String := "java/lang/StringLatin1"
def TJ1 : u_T := fun k => match k with
  | _ => ("", "", "", false)
def tyJ1 : Nat → FieldType := fun k => match k with
  | _ => .int
abbrev wsJ10 : List Cond := u_ws RJ1 TJ1 0
theorem nmJ1 : ∀ a, a < 0 → ∀ b, b < 0 → a ≠ b → (TJ1 a).2.1 ≠ (TJ1 b).2.1 := by decide +kernel
theorem tyJ1_ok : ∀ k, k < 0 → parseFieldDescriptor (TJ1 k).2.2.1 = some (tyJ1 k) := by decide +kernel
abbrev cJ1_charAt_3b067 : ByteArray := prog_14_method_2_code
def yJ1_charAt_3b067 : MethodName := ⟨RJ1, "charAt", "([BI)C"⟩
def RJ2 : String := "java/lang/StringUTF16"
def TJ2 : u_T := fun k => match k with
  | _ => ("", "", "", false)
def tyJ2 : Nat → FieldType := fun k => match k with
  | _ => .int
abbrev wsJ20 : List Cond := u_ws RJ2 TJ2 0
theorem nmJ2 : ∀ a, a < 0 → ∀ b, b < 0 → a ≠ b → (TJ2 a).2.1 ≠ (TJ2 b).2.1 := by decide +kernel
theorem tyJ2_ok : ∀ k, k < 0 → parseFieldDescriptor (TJ2 k).2.2.1 = some (tyJ2 k) := by decide +kernel
abbrev cJ2_getChar_3b067 : ByteArray := prog_15_method_5_code
def yJ2_getChar_3b067 : MethodName := ⟨RJ2, "getChar", "([BI)C"⟩
abbrev cJ2_length_9d52b : ByteArray := prog_15_method_6_code
def yJ2_length_9d52b : MethodName := ⟨RJ2, "length", "([B)I"⟩
abbrev cJ2_charAt_3b067 : ByteArray := prog_15_method_83_code
def yJ2_charAt_3b067 : MethodName := ⟨RJ2, "charAt", "([BI)C"⟩
abbrev cJ2_checkIndex_2214a : ByteArray := prog_15_method_91_code
def yJ2_checkIndex_2214a : MethodName := ⟨RJ2, "checkIndex", "(I[B)V"⟩
def RJ3 : String := "jdk/internal/util/Preconditions"
def TJ3 : u_T := fun k => match k with
  | _ => ("", "", "", false)
def tyJ3 : Nat → FieldType := fun k => match k with
  | _ => .int
abbrev wsJ30 : List Cond := u_ws RJ3 TJ3 0
theorem nmJ3 : ∀ a, a < 0 → ∀ b, b < 0 → a ≠ b → (TJ3 a).2.1 ≠ (TJ3 b).2.1 := by decide +kernel
theorem tyJ3_ok : ∀ k, k < 0 → parseFieldDescriptor (TJ3 k).2.2.1 = some (tyJ3 k) := by decide +kernel
abbrev cJ3_checkIndex_8e157 : ByteArray := prog_18_method_11_code
def yJ3_checkIndex_8e157 : MethodName := ⟨RJ3, "checkIndex", "(IILjava/util/function/BiFunction;)I"⟩
def RL : String := "LevelScoresLaw"
abbrev cL_at : ByteArray := method_3_code
def yL_at : MethodName := ⟨RL, "at", "(LLevelScores;II[J)I"⟩
abbrev cL_law : ByteArray := code
def yL_law : MethodName := ⟨RL, "law", "([I)Z"⟩
def wsX0_init : List Cond := .code yX0_init cX0_init 1 none :: ([.methodLink RX0 3 objectInit, .instanceMethod objectInit, .code objectInit ⟨#[0xb1]⟩ 1 none, .arrayClass .byte, .fieldLink RX0 9 "LevelScores$Page" "bytes" "[B", .fieldLink RX0 15 "LevelScores$Page" "digits" "[B"] ++ wsX00)
def wsJ0_coder_7d493 : List Cond := .code yJ0_coder_7d493 cJ0_coder_7d493 1 (some .byte) :: ([.fieldLink RJ0 38 "java/lang/String" "COMPACT_STRINGS" "Z", .fieldLink RJ0 15 "java/lang/String" "coder" "B"])
def wsJ0_length_8abf5 : List Cond := .code yJ0_length_8abf5 cJ0_length_8abf5 1 (some .int) :: ([.fieldLink RJ0 9 "java/lang/String" "value" "[B", .methodLink RJ0 335 yJ0_coder_7d493, .instanceMethod yJ0_coder_7d493, .selects RJ0 yJ0_coder_7d493 yJ0_coder_7d493, .initialized RJ0, .code yJ0_coder_7d493 cJ0_coder_7d493 1 (some .byte), .fieldLink RJ0 38 "java/lang/String" "COMPACT_STRINGS" "Z", .fieldLink RJ0 15 "java/lang/String" "coder" "B"])
def wsJ0_isLatin1_aae02 : List Cond := .code yJ0_isLatin1_aae02 cJ0_isLatin1_aae02 1 (some .boolean) :: ([.fieldLink RJ0 38 "java/lang/String" "COMPACT_STRINGS" "Z", .fieldLink RJ0 15 "java/lang/String" "coder" "B"])
def wsJ3_checkIndex_8e157 : List Cond := .code yJ3_checkIndex_8e157 cJ3_checkIndex_8e157 3 (some .int) :: ([])
def wsJ0_checkIndex_df160 : List Cond := .code yJ0_checkIndex_df160 cJ0_checkIndex_df160 2 none :: ([.fieldLink RJ0 1053 "jdk/internal/util/Preconditions" "SIOOBE_FORMATTER" "Ljava/util/function/BiFunction;", .methodLink RJ0 1059 yJ3_checkIndex_8e157, .static yJ3_checkIndex_8e157, .initialized RJ3, .code yJ3_checkIndex_8e157 cJ3_checkIndex_8e157 3 (some .int)])
def wsJ1_charAt_3b067 : List Cond := .code yJ1_charAt_3b067 cJ1_charAt_3b067 2 (some .char) :: ([.methodLink RJ1 9 yJ0_checkIndex_df160, .static yJ0_checkIndex_df160, .initialized RJ0, .code yJ0_checkIndex_df160 cJ0_checkIndex_df160 2 none, .fieldLink RJ0 1053 "jdk/internal/util/Preconditions" "SIOOBE_FORMATTER" "Ljava/util/function/BiFunction;", .methodLink RJ0 1059 yJ3_checkIndex_8e157, .static yJ3_checkIndex_8e157, .initialized RJ3, .code yJ3_checkIndex_8e157 cJ3_checkIndex_8e157 3 (some .int)])
def wsJ2_length_9d52b : List Cond := .code yJ2_length_9d52b cJ2_length_9d52b 1 (some .int) :: ([])
def wsJ2_checkIndex_2214a : List Cond := .code yJ2_checkIndex_2214a cJ2_checkIndex_2214a 2 none :: ([.methodLink RJ2 48 yJ2_length_9d52b, .static yJ2_length_9d52b, .initialized RJ2, .code yJ2_length_9d52b cJ2_length_9d52b 1 (some .int), .methodLink RJ2 414 yJ0_checkIndex_df160, .static yJ0_checkIndex_df160, .initialized RJ0, .code yJ0_checkIndex_df160 cJ0_checkIndex_df160 2 none, .fieldLink RJ0 1053 "jdk/internal/util/Preconditions" "SIOOBE_FORMATTER" "Ljava/util/function/BiFunction;", .methodLink RJ0 1059 yJ3_checkIndex_8e157, .static yJ3_checkIndex_8e157, .initialized RJ3, .code yJ3_checkIndex_8e157 cJ3_checkIndex_8e157 3 (some .int)])
def wsJ2_getChar_3b067 : List Cond := .code yJ2_getChar_3b067 cJ2_getChar_3b067 2 (some .char) :: ([.fieldLink RJ2 44 "java/lang/StringUTF16" "$assertionsDisabled" "Z", .fieldLink RJ2 59 "java/lang/StringUTF16" "HI_BYTE_SHIFT" "I", .fieldLink RJ2 63 "java/lang/StringUTF16" "LO_BYTE_SHIFT" "I", .methodLink RJ2 48 yJ2_length_9d52b, .static yJ2_length_9d52b, .initialized RJ2, .code yJ2_length_9d52b cJ2_length_9d52b 1 (some .int)])
def wsJ2_charAt_3b067 : List Cond := .code yJ2_charAt_3b067 cJ2_charAt_3b067 2 (some .char) :: ([.methodLink RJ2 67 yJ2_checkIndex_2214a, .static yJ2_checkIndex_2214a, .initialized RJ2, .code yJ2_checkIndex_2214a cJ2_checkIndex_2214a 2 none, .methodLink RJ2 48 yJ2_length_9d52b, .static yJ2_length_9d52b, .code yJ2_length_9d52b cJ2_length_9d52b 1 (some .int), .methodLink RJ2 414 yJ0_checkIndex_df160, .static yJ0_checkIndex_df160, .initialized RJ0, .code yJ0_checkIndex_df160 cJ0_checkIndex_df160 2 none, .fieldLink RJ0 1053 "jdk/internal/util/Preconditions" "SIOOBE_FORMATTER" "Ljava/util/function/BiFunction;", .methodLink RJ0 1059 yJ3_checkIndex_8e157, .static yJ3_checkIndex_8e157, .initialized RJ3, .code yJ3_checkIndex_8e157 cJ3_checkIndex_8e157 3 (some .int), .methodLink RJ2 71 yJ2_getChar_3b067, .static yJ2_getChar_3b067, .code yJ2_getChar_3b067 cJ2_getChar_3b067 2 (some .char), .fieldLink RJ2 44 "java/lang/StringUTF16" "$assertionsDisabled" "Z", .fieldLink RJ2 59 "java/lang/StringUTF16" "HI_BYTE_SHIFT" "I", .fieldLink RJ2 63 "java/lang/StringUTF16" "LO_BYTE_SHIFT" "I"])
def wsJ0_charAt_5068e_r1 : List Cond := [Cond.fieldLink RJ0 9 "java/lang/String" "value" "[B", Cond.methodLink RJ0 492 yJ0_isLatin1_aae02, Cond.instanceMethod yJ0_isLatin1_aae02, Cond.selects RJ0 yJ0_isLatin1_aae02 yJ0_isLatin1_aae02, Cond.initialized RJ0, Cond.code yJ0_isLatin1_aae02 cJ0_isLatin1_aae02 1 (some .boolean), Cond.fieldLink RJ0 38 "java/lang/String" "COMPACT_STRINGS" "Z", Cond.fieldLink RJ0 15 "java/lang/String" "coder" "B", Cond.methodLink RJ0 495 yJ1_charAt_3b067, Cond.static yJ1_charAt_3b067, Cond.initialized RJ1, Cond.code yJ1_charAt_3b067 cJ1_charAt_3b067 2 (some .char), Cond.methodLink RJ1 9 yJ0_checkIndex_df160, Cond.static yJ0_checkIndex_df160, Cond.code yJ0_checkIndex_df160 cJ0_checkIndex_df160 2 none, Cond.fieldLink RJ0 1053 "jdk/internal/util/Preconditions" "SIOOBE_FORMATTER" "Ljava/util/function/BiFunction;", Cond.methodLink RJ0 1059 yJ3_checkIndex_8e157, Cond.static yJ3_checkIndex_8e157, Cond.initialized RJ3, Cond.code yJ3_checkIndex_8e157 cJ3_checkIndex_8e157 3 (some .int), Cond.methodLink RJ0 498 yJ2_charAt_3b067, Cond.static yJ2_charAt_3b067, Cond.initialized RJ2, Cond.code yJ2_charAt_3b067 cJ2_charAt_3b067 2 (some .char)]
def wsJ0_charAt_5068e_r2 : List Cond := [Cond.methodLink RJ2 67 yJ2_checkIndex_2214a, Cond.static yJ2_checkIndex_2214a, Cond.code yJ2_checkIndex_2214a cJ2_checkIndex_2214a 2 none, Cond.methodLink RJ2 48 yJ2_length_9d52b, Cond.static yJ2_length_9d52b, Cond.code yJ2_length_9d52b cJ2_length_9d52b 1 (some .int), Cond.methodLink RJ2 414 yJ0_checkIndex_df160, Cond.methodLink RJ2 71 yJ2_getChar_3b067, Cond.static yJ2_getChar_3b067, Cond.code yJ2_getChar_3b067 cJ2_getChar_3b067 2 (some .char), Cond.fieldLink RJ2 44 "java/lang/StringUTF16" "$assertionsDisabled" "Z", Cond.fieldLink RJ2 59 "java/lang/StringUTF16" "HI_BYTE_SHIFT" "I", Cond.fieldLink RJ2 63 "java/lang/StringUTF16" "LO_BYTE_SHIFT" "I"]
def wsJ0_charAt_5068e : List Cond := .code yJ0_charAt_5068e cJ0_charAt_5068e 2 (some .char) :: ((wsJ0_charAt_5068e_r1 ++ wsJ0_charAt_5068e_r2))
def wsX0_append : List Cond := .code yX0_append cX0_append 2 none :: ([.fieldLink RX0 18 "LevelScores$Page" "length" "I", .fieldLink RX0 9 "LevelScores$Page" "bytes" "[B"] ++ wsX00)
def wsX0_writeWord_r1 : List Cond := [Cond.methodLink RX0 76 yJ0_length_8abf5, Cond.instanceMethod yJ0_length_8abf5, Cond.selects RJ0 yJ0_length_8abf5 yJ0_length_8abf5, Cond.initialized RJ0, Cond.code yJ0_length_8abf5 cJ0_length_8abf5 1 (some .int), Cond.fieldLink RJ0 9 "java/lang/String" "value" "[B", Cond.methodLink RJ0 335 yJ0_coder_7d493, Cond.instanceMethod yJ0_coder_7d493, Cond.selects RJ0 yJ0_coder_7d493 yJ0_coder_7d493, Cond.code yJ0_coder_7d493 cJ0_coder_7d493 1 (some .byte), Cond.fieldLink RJ0 38 "java/lang/String" "COMPACT_STRINGS" "Z", Cond.fieldLink RJ0 15 "java/lang/String" "coder" "B", Cond.methodLink RX0 81 yJ0_charAt_5068e, Cond.instanceMethod yJ0_charAt_5068e, Cond.selects RJ0 yJ0_charAt_5068e yJ0_charAt_5068e, Cond.code yJ0_charAt_5068e cJ0_charAt_5068e 2 (some .char), Cond.methodLink RJ0 492 yJ0_isLatin1_aae02, Cond.instanceMethod yJ0_isLatin1_aae02, Cond.selects RJ0 yJ0_isLatin1_aae02 yJ0_isLatin1_aae02, Cond.code yJ0_isLatin1_aae02 cJ0_isLatin1_aae02 1 (some .boolean), Cond.methodLink RJ0 495 yJ1_charAt_3b067, Cond.static yJ1_charAt_3b067, Cond.initialized RJ1, Cond.code yJ1_charAt_3b067 cJ1_charAt_3b067 2 (some .char)]
def wsX0_writeWord_r2 : List Cond := [Cond.methodLink RJ1 9 yJ0_checkIndex_df160, Cond.static yJ0_checkIndex_df160, Cond.code yJ0_checkIndex_df160 cJ0_checkIndex_df160 2 none, Cond.fieldLink RJ0 1053 "jdk/internal/util/Preconditions" "SIOOBE_FORMATTER" "Ljava/util/function/BiFunction;", Cond.methodLink RJ0 1059 yJ3_checkIndex_8e157, Cond.static yJ3_checkIndex_8e157, Cond.initialized RJ3, Cond.code yJ3_checkIndex_8e157 cJ3_checkIndex_8e157 3 (some .int), Cond.methodLink RJ0 498 yJ2_charAt_3b067, Cond.static yJ2_charAt_3b067, Cond.initialized RJ2, Cond.code yJ2_charAt_3b067 cJ2_charAt_3b067 2 (some .char), Cond.methodLink RJ2 67 yJ2_checkIndex_2214a, Cond.static yJ2_checkIndex_2214a, Cond.code yJ2_checkIndex_2214a cJ2_checkIndex_2214a 2 none, Cond.methodLink RJ2 48 yJ2_length_9d52b, Cond.static yJ2_length_9d52b, Cond.code yJ2_length_9d52b cJ2_length_9d52b 1 (some .int), Cond.methodLink RJ2 414 yJ0_checkIndex_df160, Cond.methodLink RJ2 71 yJ2_getChar_3b067, Cond.static yJ2_getChar_3b067, Cond.code yJ2_getChar_3b067 cJ2_getChar_3b067 2 (some .char), Cond.fieldLink RJ2 44 "java/lang/StringUTF16" "$assertionsDisabled" "Z", Cond.fieldLink RJ2 59 "java/lang/StringUTF16" "HI_BYTE_SHIFT" "I"]
def wsX0_writeWord_r3 : List Cond := [Cond.fieldLink RJ2 63 "java/lang/StringUTF16" "LO_BYTE_SHIFT" "I", Cond.methodLink RX0 68 yX0_append, Cond.instanceMethod yX0_append, Cond.selects RX0 yX0_append yX0_append, Cond.initialized RX0, Cond.code yX0_append cX0_append 2 none, Cond.fieldLink RX0 18 "LevelScores$Page" "length" "I", Cond.fieldLink RX0 9 "LevelScores$Page" "bytes" "[B"]
def wsX0_writeWord : List Cond := .code yX0_writeWord cX0_writeWord 3 none :: ((wsX0_writeWord_r1 ++ (wsX0_writeWord_r2 ++ wsX0_writeWord_r3)) ++ wsX00)
def wsX0_writeNumber : List Cond := .code yX0_writeNumber cX0_writeNumber 7 none :: ([.fieldLink RX0 15 "LevelScores$Page" "digits" "[B", .constantLong RX0 72 (48), .constantLong RX0 74 (10), .methodLink RX0 68 yX0_append, .instanceMethod yX0_append, .selects RX0 yX0_append yX0_append, .initialized RX0, .code yX0_append cX0_append 2 none, .fieldLink RX0 18 "LevelScores$Page" "length" "I", .fieldLink RX0 9 "LevelScores$Page" "bytes" "[B"] ++ wsX00)
def wsX0_writeList : List Cond := .code yX0_writeList cX0_writeList 5 none :: ([.fieldLink RX0 34 "LevelScores$Score" "levels" "[J", .methodLink RX0 68 yX0_append, .instanceMethod yX0_append, .selects RX0 yX0_append yX0_append, .initialized RX0, .code yX0_append cX0_append 2 none, .fieldLink RX0 18 "LevelScores$Page" "length" "I", .fieldLink RX0 9 "LevelScores$Page" "bytes" "[B", .methodLink RX0 38 yX0_writeNumber, .instanceMethod yX0_writeNumber, .selects RX0 yX0_writeNumber yX0_writeNumber, .code yX0_writeNumber cX0_writeNumber 7 none, .fieldLink RX0 15 "LevelScores$Page" "digits" "[B", .constantLong RX0 72 (48), .constantLong RX0 74 (10)] ++ wsX20 ++ wsX00)
def wsX0_writeBent_r1 : List Cond := [Cond.fieldLink RX0 54 "LevelScores$Score" "hard" "I", Cond.fieldLink RX0 63 "LevelScores$Score" "size" "I", Cond.methodLink RX0 44 yX0_writeWord, Cond.instanceMethod yX0_writeWord, Cond.selects RX0 yX0_writeWord yX0_writeWord, Cond.initialized RX0, Cond.code yX0_writeWord cX0_writeWord 3 none, Cond.methodLink RX0 76 yJ0_length_8abf5, Cond.instanceMethod yJ0_length_8abf5, Cond.selects RJ0 yJ0_length_8abf5 yJ0_length_8abf5, Cond.initialized RJ0, Cond.code yJ0_length_8abf5 cJ0_length_8abf5 1 (some .int), Cond.fieldLink RJ0 9 "java/lang/String" "value" "[B", Cond.methodLink RJ0 335 yJ0_coder_7d493, Cond.instanceMethod yJ0_coder_7d493, Cond.selects RJ0 yJ0_coder_7d493 yJ0_coder_7d493, Cond.code yJ0_coder_7d493 cJ0_coder_7d493 1 (some .byte), Cond.fieldLink RJ0 38 "java/lang/String" "COMPACT_STRINGS" "Z", Cond.fieldLink RJ0 15 "java/lang/String" "coder" "B", Cond.methodLink RX0 81 yJ0_charAt_5068e, Cond.instanceMethod yJ0_charAt_5068e, Cond.selects RJ0 yJ0_charAt_5068e yJ0_charAt_5068e, Cond.code yJ0_charAt_5068e cJ0_charAt_5068e 2 (some .char), Cond.methodLink RJ0 492 yJ0_isLatin1_aae02]
def wsX0_writeBent_r2 : List Cond := [Cond.instanceMethod yJ0_isLatin1_aae02, Cond.selects RJ0 yJ0_isLatin1_aae02 yJ0_isLatin1_aae02, Cond.code yJ0_isLatin1_aae02 cJ0_isLatin1_aae02 1 (some .boolean), Cond.methodLink RJ0 495 yJ1_charAt_3b067, Cond.static yJ1_charAt_3b067, Cond.initialized RJ1, Cond.code yJ1_charAt_3b067 cJ1_charAt_3b067 2 (some .char), Cond.methodLink RJ1 9 yJ0_checkIndex_df160, Cond.static yJ0_checkIndex_df160, Cond.code yJ0_checkIndex_df160 cJ0_checkIndex_df160 2 none, Cond.fieldLink RJ0 1053 "jdk/internal/util/Preconditions" "SIOOBE_FORMATTER" "Ljava/util/function/BiFunction;", Cond.methodLink RJ0 1059 yJ3_checkIndex_8e157, Cond.static yJ3_checkIndex_8e157, Cond.initialized RJ3, Cond.code yJ3_checkIndex_8e157 cJ3_checkIndex_8e157 3 (some .int), Cond.methodLink RJ0 498 yJ2_charAt_3b067, Cond.static yJ2_charAt_3b067, Cond.initialized RJ2, Cond.code yJ2_charAt_3b067 cJ2_charAt_3b067 2 (some .char), Cond.methodLink RJ2 67 yJ2_checkIndex_2214a, Cond.static yJ2_checkIndex_2214a, Cond.code yJ2_checkIndex_2214a cJ2_checkIndex_2214a 2 none, Cond.methodLink RJ2 48 yJ2_length_9d52b, Cond.static yJ2_length_9d52b]
def wsX0_writeBent_r3 : List Cond := [Cond.code yJ2_length_9d52b cJ2_length_9d52b 1 (some .int), Cond.methodLink RJ2 414 yJ0_checkIndex_df160, Cond.methodLink RJ2 71 yJ2_getChar_3b067, Cond.static yJ2_getChar_3b067, Cond.code yJ2_getChar_3b067 cJ2_getChar_3b067 2 (some .char), Cond.fieldLink RJ2 44 "java/lang/StringUTF16" "$assertionsDisabled" "Z", Cond.fieldLink RJ2 59 "java/lang/StringUTF16" "HI_BYTE_SHIFT" "I", Cond.fieldLink RJ2 63 "java/lang/StringUTF16" "LO_BYTE_SHIFT" "I", Cond.methodLink RX0 68 yX0_append, Cond.instanceMethod yX0_append, Cond.selects RX0 yX0_append yX0_append, Cond.code yX0_append cX0_append 2 none, Cond.fieldLink RX0 18 "LevelScores$Page" "length" "I", Cond.fieldLink RX0 9 "LevelScores$Page" "bytes" "[B", Cond.methodLink RX0 57 yX0_writeList, Cond.instanceMethod yX0_writeList, Cond.selects RX0 yX0_writeList yX0_writeList, Cond.code yX0_writeList cX0_writeList 5 none, Cond.fieldLink RX0 34 "LevelScores$Score" "levels" "[J", Cond.methodLink RX0 38 yX0_writeNumber, Cond.instanceMethod yX0_writeNumber, Cond.selects RX0 yX0_writeNumber yX0_writeNumber, Cond.code yX0_writeNumber cX0_writeNumber 7 none, Cond.fieldLink RX0 15 "LevelScores$Page" "digits" "[B"]
def wsX0_writeBent_r4 : List Cond := [Cond.constantLong RX0 72 (48), Cond.constantLong RX0 74 (10)]
def wsX0_writeBent : List Cond := .code yX0_writeBent cX0_writeBent 2 none :: ((wsX0_writeBent_r1 ++ (wsX0_writeBent_r2 ++ (wsX0_writeBent_r3 ++ wsX0_writeBent_r4))) ++ wsX20 ++ wsX00)
def wsX0_writePlain_r1 : List Cond := [Cond.fieldLink RX0 34 "LevelScores$Score" "levels" "[J", Cond.fieldLink RX0 22 "LevelScores$Score" "shape" "I", Cond.methodLink RX0 38 yX0_writeNumber, Cond.instanceMethod yX0_writeNumber, Cond.selects RX0 yX0_writeNumber yX0_writeNumber, Cond.initialized RX0, Cond.code yX0_writeNumber cX0_writeNumber 7 none, Cond.fieldLink RX0 15 "LevelScores$Page" "digits" "[B", Cond.constantLong RX0 72 (48), Cond.constantLong RX0 74 (10), Cond.methodLink RX0 68 yX0_append, Cond.instanceMethod yX0_append, Cond.selects RX0 yX0_append yX0_append, Cond.code yX0_append cX0_append 2 none, Cond.fieldLink RX0 18 "LevelScores$Page" "length" "I", Cond.fieldLink RX0 9 "LevelScores$Page" "bytes" "[B", Cond.methodLink RX0 44 yX0_writeWord, Cond.instanceMethod yX0_writeWord, Cond.selects RX0 yX0_writeWord yX0_writeWord, Cond.code yX0_writeWord cX0_writeWord 3 none, Cond.methodLink RX0 76 yJ0_length_8abf5, Cond.instanceMethod yJ0_length_8abf5, Cond.selects RJ0 yJ0_length_8abf5 yJ0_length_8abf5, Cond.initialized RJ0]
def wsX0_writePlain_r2 : List Cond := [Cond.code yJ0_length_8abf5 cJ0_length_8abf5 1 (some .int), Cond.fieldLink RJ0 9 "java/lang/String" "value" "[B", Cond.methodLink RJ0 335 yJ0_coder_7d493, Cond.instanceMethod yJ0_coder_7d493, Cond.selects RJ0 yJ0_coder_7d493 yJ0_coder_7d493, Cond.code yJ0_coder_7d493 cJ0_coder_7d493 1 (some .byte), Cond.fieldLink RJ0 38 "java/lang/String" "COMPACT_STRINGS" "Z", Cond.fieldLink RJ0 15 "java/lang/String" "coder" "B", Cond.methodLink RX0 81 yJ0_charAt_5068e, Cond.instanceMethod yJ0_charAt_5068e, Cond.selects RJ0 yJ0_charAt_5068e yJ0_charAt_5068e, Cond.code yJ0_charAt_5068e cJ0_charAt_5068e 2 (some .char), Cond.methodLink RJ0 492 yJ0_isLatin1_aae02, Cond.instanceMethod yJ0_isLatin1_aae02, Cond.selects RJ0 yJ0_isLatin1_aae02 yJ0_isLatin1_aae02, Cond.code yJ0_isLatin1_aae02 cJ0_isLatin1_aae02 1 (some .boolean), Cond.methodLink RJ0 495 yJ1_charAt_3b067, Cond.static yJ1_charAt_3b067, Cond.initialized RJ1, Cond.code yJ1_charAt_3b067 cJ1_charAt_3b067 2 (some .char), Cond.methodLink RJ1 9 yJ0_checkIndex_df160, Cond.static yJ0_checkIndex_df160, Cond.code yJ0_checkIndex_df160 cJ0_checkIndex_df160 2 none, Cond.fieldLink RJ0 1053 "jdk/internal/util/Preconditions" "SIOOBE_FORMATTER" "Ljava/util/function/BiFunction;"]
def wsX0_writePlain_r3 : List Cond := [Cond.methodLink RJ0 1059 yJ3_checkIndex_8e157, Cond.static yJ3_checkIndex_8e157, Cond.initialized RJ3, Cond.code yJ3_checkIndex_8e157 cJ3_checkIndex_8e157 3 (some .int), Cond.methodLink RJ0 498 yJ2_charAt_3b067, Cond.static yJ2_charAt_3b067, Cond.initialized RJ2, Cond.code yJ2_charAt_3b067 cJ2_charAt_3b067 2 (some .char), Cond.methodLink RJ2 67 yJ2_checkIndex_2214a, Cond.static yJ2_checkIndex_2214a, Cond.code yJ2_checkIndex_2214a cJ2_checkIndex_2214a 2 none, Cond.methodLink RJ2 48 yJ2_length_9d52b, Cond.static yJ2_length_9d52b, Cond.code yJ2_length_9d52b cJ2_length_9d52b 1 (some .int), Cond.methodLink RJ2 414 yJ0_checkIndex_df160, Cond.methodLink RJ2 71 yJ2_getChar_3b067, Cond.static yJ2_getChar_3b067, Cond.code yJ2_getChar_3b067 cJ2_getChar_3b067 2 (some .char), Cond.fieldLink RJ2 44 "java/lang/StringUTF16" "$assertionsDisabled" "Z", Cond.fieldLink RJ2 59 "java/lang/StringUTF16" "HI_BYTE_SHIFT" "I", Cond.fieldLink RJ2 63 "java/lang/StringUTF16" "LO_BYTE_SHIFT" "I"]
def wsX0_writePlain : List Cond := .code yX0_writePlain cX0_writePlain 2 none :: ((wsX0_writePlain_r1 ++ (wsX0_writePlain_r2 ++ wsX0_writePlain_r3)) ++ wsX20 ++ wsX00)
def wsX0_write_r1 : List Cond := [Cond.fieldLink RX0 18 "LevelScores$Page" "length" "I", Cond.fieldLink RX0 22 "LevelScores$Score" "shape" "I", Cond.methodLink RX0 27 yX0_writeBent, Cond.instanceMethod yX0_writeBent, Cond.selects RX0 yX0_writeBent yX0_writeBent, Cond.initialized RX0, Cond.code yX0_writeBent cX0_writeBent 2 none, Cond.fieldLink RX0 54 "LevelScores$Score" "hard" "I", Cond.fieldLink RX0 63 "LevelScores$Score" "size" "I", Cond.methodLink RX0 44 yX0_writeWord, Cond.instanceMethod yX0_writeWord, Cond.selects RX0 yX0_writeWord yX0_writeWord, Cond.code yX0_writeWord cX0_writeWord 3 none, Cond.methodLink RX0 76 yJ0_length_8abf5, Cond.instanceMethod yJ0_length_8abf5, Cond.selects RJ0 yJ0_length_8abf5 yJ0_length_8abf5, Cond.initialized RJ0, Cond.code yJ0_length_8abf5 cJ0_length_8abf5 1 (some .int), Cond.fieldLink RJ0 9 "java/lang/String" "value" "[B", Cond.methodLink RJ0 335 yJ0_coder_7d493, Cond.instanceMethod yJ0_coder_7d493, Cond.selects RJ0 yJ0_coder_7d493 yJ0_coder_7d493, Cond.code yJ0_coder_7d493 cJ0_coder_7d493 1 (some .byte), Cond.fieldLink RJ0 38 "java/lang/String" "COMPACT_STRINGS" "Z"]
def wsX0_write_r2 : List Cond := [Cond.fieldLink RJ0 15 "java/lang/String" "coder" "B", Cond.methodLink RX0 81 yJ0_charAt_5068e, Cond.instanceMethod yJ0_charAt_5068e, Cond.selects RJ0 yJ0_charAt_5068e yJ0_charAt_5068e, Cond.code yJ0_charAt_5068e cJ0_charAt_5068e 2 (some .char), Cond.methodLink RJ0 492 yJ0_isLatin1_aae02, Cond.instanceMethod yJ0_isLatin1_aae02, Cond.selects RJ0 yJ0_isLatin1_aae02 yJ0_isLatin1_aae02, Cond.code yJ0_isLatin1_aae02 cJ0_isLatin1_aae02 1 (some .boolean), Cond.methodLink RJ0 495 yJ1_charAt_3b067, Cond.static yJ1_charAt_3b067, Cond.initialized RJ1, Cond.code yJ1_charAt_3b067 cJ1_charAt_3b067 2 (some .char), Cond.methodLink RJ1 9 yJ0_checkIndex_df160, Cond.static yJ0_checkIndex_df160, Cond.code yJ0_checkIndex_df160 cJ0_checkIndex_df160 2 none, Cond.fieldLink RJ0 1053 "jdk/internal/util/Preconditions" "SIOOBE_FORMATTER" "Ljava/util/function/BiFunction;", Cond.methodLink RJ0 1059 yJ3_checkIndex_8e157, Cond.static yJ3_checkIndex_8e157, Cond.initialized RJ3, Cond.code yJ3_checkIndex_8e157 cJ3_checkIndex_8e157 3 (some .int), Cond.methodLink RJ0 498 yJ2_charAt_3b067, Cond.static yJ2_charAt_3b067, Cond.initialized RJ2]
def wsX0_write_r3 : List Cond := [Cond.code yJ2_charAt_3b067 cJ2_charAt_3b067 2 (some .char), Cond.methodLink RJ2 67 yJ2_checkIndex_2214a, Cond.static yJ2_checkIndex_2214a, Cond.code yJ2_checkIndex_2214a cJ2_checkIndex_2214a 2 none, Cond.methodLink RJ2 48 yJ2_length_9d52b, Cond.static yJ2_length_9d52b, Cond.code yJ2_length_9d52b cJ2_length_9d52b 1 (some .int), Cond.methodLink RJ2 414 yJ0_checkIndex_df160, Cond.methodLink RJ2 71 yJ2_getChar_3b067, Cond.static yJ2_getChar_3b067, Cond.code yJ2_getChar_3b067 cJ2_getChar_3b067 2 (some .char), Cond.fieldLink RJ2 44 "java/lang/StringUTF16" "$assertionsDisabled" "Z", Cond.fieldLink RJ2 59 "java/lang/StringUTF16" "HI_BYTE_SHIFT" "I", Cond.fieldLink RJ2 63 "java/lang/StringUTF16" "LO_BYTE_SHIFT" "I", Cond.methodLink RX0 68 yX0_append, Cond.instanceMethod yX0_append, Cond.selects RX0 yX0_append yX0_append, Cond.code yX0_append cX0_append 2 none, Cond.fieldLink RX0 9 "LevelScores$Page" "bytes" "[B", Cond.methodLink RX0 57 yX0_writeList, Cond.instanceMethod yX0_writeList, Cond.selects RX0 yX0_writeList yX0_writeList, Cond.code yX0_writeList cX0_writeList 5 none, Cond.fieldLink RX0 34 "LevelScores$Score" "levels" "[J"]
def wsX0_write_r4 : List Cond := [Cond.methodLink RX0 38 yX0_writeNumber, Cond.instanceMethod yX0_writeNumber, Cond.selects RX0 yX0_writeNumber yX0_writeNumber, Cond.code yX0_writeNumber cX0_writeNumber 7 none, Cond.fieldLink RX0 15 "LevelScores$Page" "digits" "[B", Cond.constantLong RX0 72 (48), Cond.constantLong RX0 74 (10), Cond.methodLink RX0 31 yX0_writePlain, Cond.instanceMethod yX0_writePlain, Cond.selects RX0 yX0_writePlain yX0_writePlain, Cond.code yX0_writePlain cX0_writePlain 2 none]
def wsX0_write : List Cond := .code yX0_write cX0_write 2 none :: ((wsX0_write_r1 ++ (wsX0_write_r2 ++ (wsX0_write_r3 ++ wsX0_write_r4))) ++ wsX00 ++ wsX20)
def wsX2_init : List Cond := .code yX2_init cX2_init 1 none :: ([.methodLink RX2 3 objectInit, .instanceMethod objectInit, .code objectInit ⟨#[0xb1]⟩ 1 none, .fieldLink RX2 9 "LevelScores$Score" "shape" "I", .arrayClass .long, .fieldLink RX2 15 "LevelScores$Score" "levels" "[J"] ++ wsX20)
def wsX4_init : List Cond := .code yX4_init cX4_init 1 none :: ([.methodLink RX4 1 objectInit, .instanceMethod objectInit, .code objectInit ⟨#[0xb1]⟩ 1 none])
def wsX2_form : List Cond := .code yX2_form cX2_form 4 none :: ([.fieldLink RX2 9 "LevelScores$Score" "shape" "I", .fieldLink RX2 19 "LevelScores$Score" "hard" "I", .fieldLink RX2 22 "LevelScores$Score" "size" "I"] ++ wsX20)
def wsX1_init_r1 : List Cond := [Cond.methodLink RX1 3 objectInit, Cond.instanceMethod objectInit, Cond.code objectInit ⟨#[0xb1]⟩ 1 none, Cond.classLink RX1 9 RX2, Cond.instantiable RX2 4, Cond.initialized RX2, Cond.fieldLink RX1 12 "LevelScores$Plan" "pattern" "LLevelScores$Score;", Cond.fieldLink RX1 18 "LevelScores$Plan" "weights" "[LLevelScores$Score;", Cond.arrayClass .int, Cond.fieldLink RX1 22 "LevelScores$Plan" "counts" "[I", Cond.fieldLink RX1 26 "LevelScores$Plan" "best" "[LLevelScores$Score;", Cond.fieldLink RX1 29 "LevelScores$Plan" "spare" "LLevelScores$Score;", Cond.classLink RX1 32 RX4, Cond.instantiable RX4 2, Cond.initialized RX4, Cond.fieldLink RX1 35 "LevelScores$Plan" "sum" "LLevelScores$Wide;", Cond.fieldLink RX1 39 "LevelScores$Plan" "part" "LLevelScores$Wide;", Cond.instanceMethod yX2_init, Cond.code yX2_init cX2_init 1 none, Cond.methodLink RX2 3 objectInit, Cond.fieldLink RX2 9 "LevelScores$Score" "shape" "I", Cond.arrayClass .long, Cond.fieldLink RX2 15 "LevelScores$Score" "levels" "[J", Cond.instanceMethod yX4_init]
def wsX1_init_r2 : List Cond := [Cond.code yX4_init cX4_init 1 none, Cond.methodLink RX4 1 objectInit, Cond.methodLink RX1 42 yX2_form, Cond.instanceMethod yX2_form, Cond.selects RX2 yX2_form yX2_form, Cond.code yX2_form cX2_form 4 none, Cond.fieldLink RX2 19 "LevelScores$Score" "hard" "I", Cond.fieldLink RX2 22 "LevelScores$Score" "size" "I"]
def wsX1_init : List Cond := .code yX1_init cX1_init 2 none :: ((wsX1_init_r1 ++ wsX1_init_r2) ++ wsX20 ++ wsX10 ++ wsX40)
def wsX2_formLike : List Cond := .code yX2_formLike cX2_formLike 2 none :: ([.fieldLink RX2 9 "LevelScores$Score" "shape" "I", .fieldLink RX2 19 "LevelScores$Score" "hard" "I", .fieldLink RX2 22 "LevelScores$Score" "size" "I", .methodLink RX2 25 yX2_form, .instanceMethod yX2_form, .selects RX2 yX2_form yX2_form, .initialized RX2, .code yX2_form cX2_form 4 none] ++ wsX20)
def wsX1_begin : List Cond := .code yX1_begin cX1_begin 2 none :: ([.fieldLink RX1 12 "LevelScores$Plan" "pattern" "LLevelScores$Score;", .fieldLink RX1 50 "LevelScores$Plan" "rules" "I", .fieldLink RX1 54 "LevelScores$Plan" "held" "I", .methodLink RX1 46 yX2_formLike, .instanceMethod yX2_formLike, .selects RX2 yX2_formLike yX2_formLike, .initialized RX2, .code yX2_formLike cX2_formLike 2 none, .fieldLink RX2 9 "LevelScores$Score" "shape" "I", .fieldLink RX2 19 "LevelScores$Score" "hard" "I", .fieldLink RX2 22 "LevelScores$Score" "size" "I", .methodLink RX2 25 yX2_form, .instanceMethod yX2_form, .selects RX2 yX2_form yX2_form, .code yX2_form cX2_form 4 none] ++ wsX10 ++ wsX20)
def wsX1_hasRule : List Cond := .code yX1_hasRule cX1_hasRule 2 (some .boolean) :: ([.fieldLink RX1 50 "LevelScores$Plan" "rules" "I"] ++ wsX10)
def wsX2_copy : List Cond := .code yX2_copy cX2_copy 3 none :: ([.fieldLink RX2 22 "LevelScores$Score" "size" "I", .fieldLink RX2 15 "LevelScores$Score" "levels" "[J", .methodLink RX2 29 yX2_formLike, .instanceMethod yX2_formLike, .selects RX2 yX2_formLike yX2_formLike, .initialized RX2, .code yX2_formLike cX2_formLike 2 none, .fieldLink RX2 9 "LevelScores$Score" "shape" "I", .fieldLink RX2 19 "LevelScores$Score" "hard" "I", .methodLink RX2 25 yX2_form, .instanceMethod yX2_form, .selects RX2 yX2_form yX2_form, .code yX2_form cX2_form 4 none] ++ wsX20)
def wsX1_addRule : List Cond := .code yX1_addRule cX1_addRule 2 (some .int) :: ([.fieldLink RX1 18 "LevelScores$Plan" "weights" "[LLevelScores$Score;", .fieldLink RX1 50 "LevelScores$Plan" "rules" "I", .fieldLink RX1 22 "LevelScores$Plan" "counts" "[I", .methodLink RX1 57 yX2_copy, .instanceMethod yX2_copy, .selects RX2 yX2_copy yX2_copy, .initialized RX2, .code yX2_copy cX2_copy 3 none, .fieldLink RX2 22 "LevelScores$Score" "size" "I", .fieldLink RX2 15 "LevelScores$Score" "levels" "[J", .methodLink RX2 29 yX2_formLike, .instanceMethod yX2_formLike, .selects RX2 yX2_formLike yX2_formLike, .code yX2_formLike cX2_formLike 2 none, .fieldLink RX2 9 "LevelScores$Score" "shape" "I", .fieldLink RX2 19 "LevelScores$Score" "hard" "I", .methodLink RX2 25 yX2_form, .instanceMethod yX2_form, .selects RX2 yX2_form yX2_form, .code yX2_form cX2_form 4 none] ++ wsX10 ++ wsX20)
def wsX4_clear : List Cond := .code yX4_clear cX4_clear 1 none :: ([.fieldLink RX4 7 "LevelScores$Wide" "high" "J", .fieldLink RX4 13 "LevelScores$Wide" "low" "J"] ++ wsX40)
def wsX4_addProduct : List Cond := .code yX4_addProduct cX4_addProduct 9 none :: ([.constantLong RX4 16 (4294967295), .fieldLink RX4 13 "LevelScores$Wide" "low" "J", .fieldLink RX4 7 "LevelScores$Wide" "high" "J"] ++ wsX40)
def wsX1_pricePart : List Cond := .code yX1_pricePart cX1_pricePart 3 none :: ([.fieldLink RX1 39 "LevelScores$Plan" "part" "LLevelScores$Wide;", .fieldLink RX1 18 "LevelScores$Plan" "weights" "[LLevelScores$Score;", .fieldLink RX1 88 "LevelScores$Score" "levels" "[J", .fieldLink RX1 22 "LevelScores$Plan" "counts" "[I", .methodLink RX1 85 yX4_clear, .instanceMethod yX4_clear, .selects RX4 yX4_clear yX4_clear, .initialized RX4, .code yX4_clear cX4_clear 1 none, .fieldLink RX4 7 "LevelScores$Wide" "high" "J", .fieldLink RX4 13 "LevelScores$Wide" "low" "J", .methodLink RX1 92 yX4_addProduct, .instanceMethod yX4_addProduct, .selects RX4 yX4_addProduct yX4_addProduct, .code yX4_addProduct cX4_addProduct 9 none, .constantLong RX4 16 (4294967295)] ++ wsX10 ++ wsX20 ++ wsX40)
def wsX4_fits : List Cond := .code yX4_fits cX4_fits 1 (some .boolean) :: ([.fieldLink RX4 7 "LevelScores$Wide" "high" "J", .constantLong RX4 29 (-2147483648), .constantLong RX4 31 (2147483647)] ++ wsX40)
def wsX1_priceSum : List Cond := .code yX1_priceSum cX1_priceSum 3 none :: ([.fieldLink RX1 35 "LevelScores$Plan" "sum" "LLevelScores$Wide;", .fieldLink RX1 50 "LevelScores$Plan" "rules" "I", .fieldLink RX1 18 "LevelScores$Plan" "weights" "[LLevelScores$Score;", .fieldLink RX1 88 "LevelScores$Score" "levels" "[J", .fieldLink RX1 22 "LevelScores$Plan" "counts" "[I", .methodLink RX1 85 yX4_clear, .instanceMethod yX4_clear, .selects RX4 yX4_clear yX4_clear, .initialized RX4, .code yX4_clear cX4_clear 1 none, .fieldLink RX4 7 "LevelScores$Wide" "high" "J", .fieldLink RX4 13 "LevelScores$Wide" "low" "J", .methodLink RX1 92 yX4_addProduct, .instanceMethod yX4_addProduct, .selects RX4 yX4_addProduct yX4_addProduct, .code yX4_addProduct cX4_addProduct 9 none, .constantLong RX4 16 (4294967295)] ++ wsX10 ++ wsX20 ++ wsX40)
def wsX1_fitsAt_r1 : List Cond := [Cond.fieldLink RX1 50 "LevelScores$Plan" "rules" "I", Cond.fieldLink RX1 39 "LevelScores$Plan" "part" "LLevelScores$Wide;", Cond.fieldLink RX1 35 "LevelScores$Plan" "sum" "LLevelScores$Wide;", Cond.methodLink RX1 75 yX1_pricePart, Cond.instanceMethod yX1_pricePart, Cond.selects RX1 yX1_pricePart yX1_pricePart, Cond.initialized RX1, Cond.code yX1_pricePart cX1_pricePart 3 none, Cond.fieldLink RX1 18 "LevelScores$Plan" "weights" "[LLevelScores$Score;", Cond.fieldLink RX1 88 "LevelScores$Score" "levels" "[J", Cond.fieldLink RX1 22 "LevelScores$Plan" "counts" "[I", Cond.methodLink RX1 85 yX4_clear, Cond.instanceMethod yX4_clear, Cond.selects RX4 yX4_clear yX4_clear, Cond.initialized RX4, Cond.code yX4_clear cX4_clear 1 none, Cond.fieldLink RX4 7 "LevelScores$Wide" "high" "J", Cond.fieldLink RX4 13 "LevelScores$Wide" "low" "J", Cond.methodLink RX1 92 yX4_addProduct, Cond.instanceMethod yX4_addProduct, Cond.selects RX4 yX4_addProduct yX4_addProduct, Cond.code yX4_addProduct cX4_addProduct 9 none, Cond.constantLong RX4 16 (4294967295), Cond.methodLink RX1 79 yX4_fits]
def wsX1_fitsAt_r2 : List Cond := [Cond.instanceMethod yX4_fits, Cond.selects RX4 yX4_fits yX4_fits, Cond.code yX4_fits cX4_fits 1 (some .boolean), Cond.constantLong RX4 29 (-2147483648), Cond.constantLong RX4 31 (2147483647), Cond.methodLink RX1 82 yX1_priceSum, Cond.instanceMethod yX1_priceSum, Cond.selects RX1 yX1_priceSum yX1_priceSum, Cond.code yX1_priceSum cX1_priceSum 3 none]
def wsX1_fitsAt : List Cond := .code yX1_fitsAt cX1_fitsAt 3 (some .boolean) :: ((wsX1_fitsAt_r1 ++ wsX1_fitsAt_r2) ++ wsX10 ++ wsX20 ++ wsX40)
def wsX1_allFit_r1 : List Cond := [Cond.fieldLink RX1 12 "LevelScores$Plan" "pattern" "LLevelScores$Score;", Cond.fieldLink RX1 68 "LevelScores$Score" "size" "I", Cond.methodLink RX1 71 yX1_fitsAt, Cond.instanceMethod yX1_fitsAt, Cond.selects RX1 yX1_fitsAt yX1_fitsAt, Cond.initialized RX1, Cond.code yX1_fitsAt cX1_fitsAt 3 (some .boolean), Cond.fieldLink RX1 50 "LevelScores$Plan" "rules" "I", Cond.fieldLink RX1 39 "LevelScores$Plan" "part" "LLevelScores$Wide;", Cond.fieldLink RX1 35 "LevelScores$Plan" "sum" "LLevelScores$Wide;", Cond.methodLink RX1 75 yX1_pricePart, Cond.instanceMethod yX1_pricePart, Cond.selects RX1 yX1_pricePart yX1_pricePart, Cond.code yX1_pricePart cX1_pricePart 3 none, Cond.fieldLink RX1 18 "LevelScores$Plan" "weights" "[LLevelScores$Score;", Cond.fieldLink RX1 88 "LevelScores$Score" "levels" "[J", Cond.fieldLink RX1 22 "LevelScores$Plan" "counts" "[I", Cond.methodLink RX1 85 yX4_clear, Cond.instanceMethod yX4_clear, Cond.selects RX4 yX4_clear yX4_clear, Cond.initialized RX4, Cond.code yX4_clear cX4_clear 1 none, Cond.fieldLink RX4 7 "LevelScores$Wide" "high" "J", Cond.fieldLink RX4 13 "LevelScores$Wide" "low" "J"]
def wsX1_allFit_r2 : List Cond := [Cond.methodLink RX1 92 yX4_addProduct, Cond.instanceMethod yX4_addProduct, Cond.selects RX4 yX4_addProduct yX4_addProduct, Cond.code yX4_addProduct cX4_addProduct 9 none, Cond.constantLong RX4 16 (4294967295), Cond.methodLink RX1 79 yX4_fits, Cond.instanceMethod yX4_fits, Cond.selects RX4 yX4_fits yX4_fits, Cond.code yX4_fits cX4_fits 1 (some .boolean), Cond.constantLong RX4 29 (-2147483648), Cond.constantLong RX4 31 (2147483647), Cond.methodLink RX1 82 yX1_priceSum, Cond.instanceMethod yX1_priceSum, Cond.selects RX1 yX1_priceSum yX1_priceSum, Cond.code yX1_priceSum cX1_priceSum 3 none]
def wsX1_allFit : List Cond := .code yX1_allFit cX1_allFit 2 (some .boolean) :: ((wsX1_allFit_r1 ++ wsX1_allFit_r2) ++ wsX10 ++ wsX20 ++ wsX40)
def wsX1_changeCount_r1 : List Cond := [Cond.fieldLink RX1 22 "LevelScores$Plan" "counts" "[I", Cond.methodLink RX1 60 yX1_allFit, Cond.instanceMethod yX1_allFit, Cond.selects RX1 yX1_allFit yX1_allFit, Cond.initialized RX1, Cond.code yX1_allFit cX1_allFit 2 (some .boolean), Cond.fieldLink RX1 12 "LevelScores$Plan" "pattern" "LLevelScores$Score;", Cond.fieldLink RX1 68 "LevelScores$Score" "size" "I", Cond.methodLink RX1 71 yX1_fitsAt, Cond.instanceMethod yX1_fitsAt, Cond.selects RX1 yX1_fitsAt yX1_fitsAt, Cond.code yX1_fitsAt cX1_fitsAt 3 (some .boolean), Cond.fieldLink RX1 50 "LevelScores$Plan" "rules" "I", Cond.fieldLink RX1 39 "LevelScores$Plan" "part" "LLevelScores$Wide;", Cond.fieldLink RX1 35 "LevelScores$Plan" "sum" "LLevelScores$Wide;", Cond.methodLink RX1 75 yX1_pricePart, Cond.instanceMethod yX1_pricePart, Cond.selects RX1 yX1_pricePart yX1_pricePart, Cond.code yX1_pricePart cX1_pricePart 3 none, Cond.fieldLink RX1 18 "LevelScores$Plan" "weights" "[LLevelScores$Score;", Cond.fieldLink RX1 88 "LevelScores$Score" "levels" "[J", Cond.methodLink RX1 85 yX4_clear, Cond.instanceMethod yX4_clear, Cond.selects RX4 yX4_clear yX4_clear]
def wsX1_changeCount_r2 : List Cond := [Cond.initialized RX4, Cond.code yX4_clear cX4_clear 1 none, Cond.fieldLink RX4 7 "LevelScores$Wide" "high" "J", Cond.fieldLink RX4 13 "LevelScores$Wide" "low" "J", Cond.methodLink RX1 92 yX4_addProduct, Cond.instanceMethod yX4_addProduct, Cond.selects RX4 yX4_addProduct yX4_addProduct, Cond.code yX4_addProduct cX4_addProduct 9 none, Cond.constantLong RX4 16 (4294967295), Cond.methodLink RX1 79 yX4_fits, Cond.instanceMethod yX4_fits, Cond.selects RX4 yX4_fits yX4_fits, Cond.code yX4_fits cX4_fits 1 (some .boolean), Cond.constantLong RX4 29 (-2147483648), Cond.constantLong RX4 31 (2147483647), Cond.methodLink RX1 82 yX1_priceSum, Cond.instanceMethod yX1_priceSum, Cond.selects RX1 yX1_priceSum yX1_priceSum, Cond.code yX1_priceSum cX1_priceSum 3 none]
def wsX1_changeCount : List Cond := .code yX1_changeCount cX1_changeCount 4 (some .boolean) :: ((wsX1_changeCount_r1 ++ wsX1_changeCount_r2) ++ wsX10 ++ wsX20 ++ wsX40)
def wsX1_tradeSpare : List Cond := .code yX1_tradeSpare cX1_tradeSpare 3 none :: ([.fieldLink RX1 18 "LevelScores$Plan" "weights" "[LLevelScores$Score;", .fieldLink RX1 29 "LevelScores$Plan" "spare" "LLevelScores$Score;"] ++ wsX10)
def wsX1_changeWeight_r1 : List Cond := [Cond.fieldLink RX1 29 "LevelScores$Plan" "spare" "LLevelScores$Score;", Cond.methodLink RX1 57 yX2_copy, Cond.instanceMethod yX2_copy, Cond.selects RX2 yX2_copy yX2_copy, Cond.initialized RX2, Cond.code yX2_copy cX2_copy 3 none, Cond.fieldLink RX2 22 "LevelScores$Score" "size" "I", Cond.fieldLink RX2 15 "LevelScores$Score" "levels" "[J", Cond.methodLink RX2 29 yX2_formLike, Cond.instanceMethod yX2_formLike, Cond.selects RX2 yX2_formLike yX2_formLike, Cond.code yX2_formLike cX2_formLike 2 none, Cond.fieldLink RX2 9 "LevelScores$Score" "shape" "I", Cond.fieldLink RX2 19 "LevelScores$Score" "hard" "I", Cond.methodLink RX2 25 yX2_form, Cond.instanceMethod yX2_form, Cond.selects RX2 yX2_form yX2_form, Cond.code yX2_form cX2_form 4 none, Cond.methodLink RX1 64 yX1_tradeSpare, Cond.instanceMethod yX1_tradeSpare, Cond.selects RX1 yX1_tradeSpare yX1_tradeSpare, Cond.initialized RX1, Cond.code yX1_tradeSpare cX1_tradeSpare 3 none, Cond.fieldLink RX1 18 "LevelScores$Plan" "weights" "[LLevelScores$Score;"]
def wsX1_changeWeight_r2 : List Cond := [Cond.methodLink RX1 60 yX1_allFit, Cond.instanceMethod yX1_allFit, Cond.selects RX1 yX1_allFit yX1_allFit, Cond.code yX1_allFit cX1_allFit 2 (some .boolean), Cond.fieldLink RX1 12 "LevelScores$Plan" "pattern" "LLevelScores$Score;", Cond.fieldLink RX1 68 "LevelScores$Score" "size" "I", Cond.methodLink RX1 71 yX1_fitsAt, Cond.instanceMethod yX1_fitsAt, Cond.selects RX1 yX1_fitsAt yX1_fitsAt, Cond.code yX1_fitsAt cX1_fitsAt 3 (some .boolean), Cond.fieldLink RX1 50 "LevelScores$Plan" "rules" "I", Cond.fieldLink RX1 39 "LevelScores$Plan" "part" "LLevelScores$Wide;", Cond.fieldLink RX1 35 "LevelScores$Plan" "sum" "LLevelScores$Wide;", Cond.methodLink RX1 75 yX1_pricePart, Cond.instanceMethod yX1_pricePart, Cond.selects RX1 yX1_pricePart yX1_pricePart, Cond.code yX1_pricePart cX1_pricePart 3 none, Cond.fieldLink RX1 88 "LevelScores$Score" "levels" "[J", Cond.fieldLink RX1 22 "LevelScores$Plan" "counts" "[I", Cond.methodLink RX1 85 yX4_clear, Cond.instanceMethod yX4_clear, Cond.selects RX4 yX4_clear yX4_clear, Cond.initialized RX4, Cond.code yX4_clear cX4_clear 1 none]
def wsX1_changeWeight_r3 : List Cond := [Cond.fieldLink RX4 7 "LevelScores$Wide" "high" "J", Cond.fieldLink RX4 13 "LevelScores$Wide" "low" "J", Cond.methodLink RX1 92 yX4_addProduct, Cond.instanceMethod yX4_addProduct, Cond.selects RX4 yX4_addProduct yX4_addProduct, Cond.code yX4_addProduct cX4_addProduct 9 none, Cond.constantLong RX4 16 (4294967295), Cond.methodLink RX1 79 yX4_fits, Cond.instanceMethod yX4_fits, Cond.selects RX4 yX4_fits yX4_fits, Cond.code yX4_fits cX4_fits 1 (some .boolean), Cond.constantLong RX4 29 (-2147483648), Cond.constantLong RX4 31 (2147483647), Cond.methodLink RX1 82 yX1_priceSum, Cond.instanceMethod yX1_priceSum, Cond.selects RX1 yX1_priceSum yX1_priceSum, Cond.code yX1_priceSum cX1_priceSum 3 none]
def wsX1_changeWeight : List Cond := .code yX1_changeWeight cX1_changeWeight 3 (some .boolean) :: ((wsX1_changeWeight_r1 ++ (wsX1_changeWeight_r2 ++ wsX1_changeWeight_r3)) ++ wsX10 ++ wsX20 ++ wsX40)
def wsX4_value : List Cond := .code yX4_value cX4_value 1 (some .long) :: ([.fieldLink RX4 7 "LevelScores$Wide" "high" "J", .fieldLink RX4 13 "LevelScores$Wide" "low" "J"] ++ wsX40)
def wsX1_sumInto_r1 : List Cond := [Cond.fieldLink RX1 12 "LevelScores$Plan" "pattern" "LLevelScores$Score;", Cond.fieldLink RX1 68 "LevelScores$Score" "size" "I", Cond.fieldLink RX1 88 "LevelScores$Score" "levels" "[J", Cond.fieldLink RX1 35 "LevelScores$Plan" "sum" "LLevelScores$Wide;", Cond.methodLink RX1 46 yX2_formLike, Cond.instanceMethod yX2_formLike, Cond.selects RX2 yX2_formLike yX2_formLike, Cond.initialized RX2, Cond.code yX2_formLike cX2_formLike 2 none, Cond.fieldLink RX2 9 "LevelScores$Score" "shape" "I", Cond.fieldLink RX2 19 "LevelScores$Score" "hard" "I", Cond.fieldLink RX2 22 "LevelScores$Score" "size" "I", Cond.methodLink RX2 25 yX2_form, Cond.instanceMethod yX2_form, Cond.selects RX2 yX2_form yX2_form, Cond.code yX2_form cX2_form 4 none, Cond.methodLink RX1 82 yX1_priceSum, Cond.instanceMethod yX1_priceSum, Cond.selects RX1 yX1_priceSum yX1_priceSum, Cond.initialized RX1, Cond.code yX1_priceSum cX1_priceSum 3 none, Cond.fieldLink RX1 50 "LevelScores$Plan" "rules" "I", Cond.fieldLink RX1 18 "LevelScores$Plan" "weights" "[LLevelScores$Score;", Cond.fieldLink RX1 22 "LevelScores$Plan" "counts" "[I"]
def wsX1_sumInto_r2 : List Cond := [Cond.methodLink RX1 85 yX4_clear, Cond.instanceMethod yX4_clear, Cond.selects RX4 yX4_clear yX4_clear, Cond.initialized RX4, Cond.code yX4_clear cX4_clear 1 none, Cond.fieldLink RX4 7 "LevelScores$Wide" "high" "J", Cond.fieldLink RX4 13 "LevelScores$Wide" "low" "J", Cond.methodLink RX1 92 yX4_addProduct, Cond.instanceMethod yX4_addProduct, Cond.selects RX4 yX4_addProduct yX4_addProduct, Cond.code yX4_addProduct cX4_addProduct 9 none, Cond.constantLong RX4 16 (4294967295), Cond.methodLink RX1 96 yX4_value, Cond.instanceMethod yX4_value, Cond.selects RX4 yX4_value yX4_value, Cond.code yX4_value cX4_value 1 (some .long)]
def wsX1_sumInto : List Cond := .code yX1_sumInto cX1_sumInto 3 none :: ((wsX1_sumInto_r1 ++ wsX1_sumInto_r2) ++ wsX10 ++ wsX20 ++ wsX40)
def wsX1_partInto_r1 : List Cond := [Cond.fieldLink RX1 12 "LevelScores$Plan" "pattern" "LLevelScores$Score;", Cond.fieldLink RX1 68 "LevelScores$Score" "size" "I", Cond.fieldLink RX1 88 "LevelScores$Score" "levels" "[J", Cond.fieldLink RX1 39 "LevelScores$Plan" "part" "LLevelScores$Wide;", Cond.methodLink RX1 46 yX2_formLike, Cond.instanceMethod yX2_formLike, Cond.selects RX2 yX2_formLike yX2_formLike, Cond.initialized RX2, Cond.code yX2_formLike cX2_formLike 2 none, Cond.fieldLink RX2 9 "LevelScores$Score" "shape" "I", Cond.fieldLink RX2 19 "LevelScores$Score" "hard" "I", Cond.fieldLink RX2 22 "LevelScores$Score" "size" "I", Cond.methodLink RX2 25 yX2_form, Cond.instanceMethod yX2_form, Cond.selects RX2 yX2_form yX2_form, Cond.code yX2_form cX2_form 4 none, Cond.methodLink RX1 75 yX1_pricePart, Cond.instanceMethod yX1_pricePart, Cond.selects RX1 yX1_pricePart yX1_pricePart, Cond.initialized RX1, Cond.code yX1_pricePart cX1_pricePart 3 none, Cond.fieldLink RX1 18 "LevelScores$Plan" "weights" "[LLevelScores$Score;", Cond.fieldLink RX1 22 "LevelScores$Plan" "counts" "[I", Cond.methodLink RX1 85 yX4_clear]
def wsX1_partInto_r2 : List Cond := [Cond.instanceMethod yX4_clear, Cond.selects RX4 yX4_clear yX4_clear, Cond.initialized RX4, Cond.code yX4_clear cX4_clear 1 none, Cond.fieldLink RX4 7 "LevelScores$Wide" "high" "J", Cond.fieldLink RX4 13 "LevelScores$Wide" "low" "J", Cond.methodLink RX1 92 yX4_addProduct, Cond.instanceMethod yX4_addProduct, Cond.selects RX4 yX4_addProduct yX4_addProduct, Cond.code yX4_addProduct cX4_addProduct 9 none, Cond.constantLong RX4 16 (4294967295), Cond.methodLink RX1 96 yX4_value, Cond.instanceMethod yX4_value, Cond.selects RX4 yX4_value yX4_value, Cond.code yX4_value cX4_value 1 (some .long)]
def wsX1_partInto : List Cond := .code yX1_partInto cX1_partInto 4 none :: ((wsX1_partInto_r1 ++ wsX1_partInto_r2) ++ wsX10 ++ wsX20 ++ wsX40)
def wsX1_bearsAt : List Cond := .code yX1_bearsAt cX1_bearsAt 7 (some .boolean) :: ([.fieldLink RX1 35 "LevelScores$Plan" "sum" "LLevelScores$Wide;", .fieldLink RX1 50 "LevelScores$Plan" "rules" "I", .fieldLink RX1 18 "LevelScores$Plan" "weights" "[LLevelScores$Score;", .fieldLink RX1 88 "LevelScores$Score" "levels" "[J", .methodLink RX1 85 yX4_clear, .instanceMethod yX4_clear, .selects RX4 yX4_clear yX4_clear, .initialized RX4, .code yX4_clear cX4_clear 1 none, .fieldLink RX4 7 "LevelScores$Wide" "high" "J", .fieldLink RX4 13 "LevelScores$Wide" "low" "J", .methodLink RX1 92 yX4_addProduct, .instanceMethod yX4_addProduct, .selects RX4 yX4_addProduct yX4_addProduct, .code yX4_addProduct cX4_addProduct 9 none, .constantLong RX4 16 (4294967295), .methodLink RX1 79 yX4_fits, .instanceMethod yX4_fits, .selects RX4 yX4_fits yX4_fits, .code yX4_fits cX4_fits 1 (some .boolean), .constantLong RX4 29 (-2147483648), .constantLong RX4 31 (2147483647)] ++ wsX10 ++ wsX20 ++ wsX40)
def wsX1_bears_r1 : List Cond := [Cond.fieldLink RX1 12 "LevelScores$Plan" "pattern" "LLevelScores$Score;", Cond.fieldLink RX1 68 "LevelScores$Score" "size" "I", Cond.methodLink RX1 100 yX1_bearsAt, Cond.instanceMethod yX1_bearsAt, Cond.selects RX1 yX1_bearsAt yX1_bearsAt, Cond.initialized RX1, Cond.code yX1_bearsAt cX1_bearsAt 7 (some .boolean), Cond.fieldLink RX1 35 "LevelScores$Plan" "sum" "LLevelScores$Wide;", Cond.fieldLink RX1 50 "LevelScores$Plan" "rules" "I", Cond.fieldLink RX1 18 "LevelScores$Plan" "weights" "[LLevelScores$Score;", Cond.fieldLink RX1 88 "LevelScores$Score" "levels" "[J", Cond.methodLink RX1 85 yX4_clear, Cond.instanceMethod yX4_clear, Cond.selects RX4 yX4_clear yX4_clear, Cond.initialized RX4, Cond.code yX4_clear cX4_clear 1 none, Cond.fieldLink RX4 7 "LevelScores$Wide" "high" "J", Cond.fieldLink RX4 13 "LevelScores$Wide" "low" "J", Cond.methodLink RX1 92 yX4_addProduct, Cond.instanceMethod yX4_addProduct, Cond.selects RX4 yX4_addProduct yX4_addProduct, Cond.code yX4_addProduct cX4_addProduct 9 none, Cond.constantLong RX4 16 (4294967295), Cond.methodLink RX1 79 yX4_fits]
def wsX1_bears_r2 : List Cond := [Cond.instanceMethod yX4_fits, Cond.selects RX4 yX4_fits yX4_fits, Cond.code yX4_fits cX4_fits 1 (some .boolean), Cond.constantLong RX4 29 (-2147483648), Cond.constantLong RX4 31 (2147483647)]
def wsX1_bears : List Cond := .code yX1_bears cX1_bears 3 (some .boolean) :: ((wsX1_bears_r1 ++ wsX1_bears_r2) ++ wsX10 ++ wsX20 ++ wsX40)
def wsX2_compareWith : List Cond := .code yX2_compareWith cX2_compareWith 3 (some .int) :: ([.fieldLink RX2 22 "LevelScores$Score" "size" "I", .fieldLink RX2 15 "LevelScores$Score" "levels" "[J"] ++ wsX20)
def wsX1_admit : List Cond := .code yX1_admit cX1_admit 5 (some .int) :: ([.fieldLink RX1 54 "LevelScores$Plan" "held" "I", .fieldLink RX1 26 "LevelScores$Plan" "best" "[LLevelScores$Score;", .methodLink RX1 104 yX2_compareWith, .instanceMethod yX2_compareWith, .selects RX2 yX2_compareWith yX2_compareWith, .initialized RX2, .code yX2_compareWith cX2_compareWith 3 (some .int), .fieldLink RX2 22 "LevelScores$Score" "size" "I", .fieldLink RX2 15 "LevelScores$Score" "levels" "[J", .methodLink RX1 57 yX2_copy, .instanceMethod yX2_copy, .selects RX2 yX2_copy yX2_copy, .code yX2_copy cX2_copy 3 none, .methodLink RX2 29 yX2_formLike, .instanceMethod yX2_formLike, .selects RX2 yX2_formLike yX2_formLike, .code yX2_formLike cX2_formLike 2 none, .fieldLink RX2 9 "LevelScores$Score" "shape" "I", .fieldLink RX2 19 "LevelScores$Score" "hard" "I", .methodLink RX2 25 yX2_form, .instanceMethod yX2_form, .selects RX2 yX2_form yX2_form, .code yX2_form cX2_form 4 none] ++ wsX10 ++ wsX20)
def wsX2_clear : List Cond := .code yX2_clear cX2_clear 2 none :: ([.fieldLink RX2 22 "LevelScores$Score" "size" "I", .fieldLink RX2 15 "LevelScores$Score" "levels" "[J"] ++ wsX20)
def wsX2_isNothing : List Cond := .code yX2_isNothing cX2_isNothing 1 (some .boolean) :: ([.fieldLink RX2 9 "LevelScores$Score" "shape" "I"] ++ wsX20)
def wsX2_isLike : List Cond := .code yX2_isLike cX2_isLike 2 (some .boolean) :: ([.fieldLink RX2 9 "LevelScores$Score" "shape" "I", .fieldLink RX2 19 "LevelScores$Score" "hard" "I", .fieldLink RX2 22 "LevelScores$Score" "size" "I"] ++ wsX20)
def wsX2_hasLevel : List Cond := .code yX2_hasLevel cX2_hasLevel 2 (some .boolean) :: ([.fieldLink RX2 22 "LevelScores$Score" "size" "I"] ++ wsX20)
def wsX2_isFeasible : List Cond := .code yX2_isFeasible cX2_isFeasible 2 (some .boolean) :: ([.fieldLink RX2 19 "LevelScores$Score" "hard" "I", .fieldLink RX2 15 "LevelScores$Score" "levels" "[J"] ++ wsX20)
def wsX2_becomeSum : List Cond := .code yX2_becomeSum cX2_becomeSum 10 (some .boolean) :: ([.fieldLink RX2 22 "LevelScores$Score" "size" "I", .fieldLink RX2 15 "LevelScores$Score" "levels" "[J", .methodLink RX2 29 yX2_formLike, .instanceMethod yX2_formLike, .selects RX2 yX2_formLike yX2_formLike, .initialized RX2, .code yX2_formLike cX2_formLike 2 none, .fieldLink RX2 9 "LevelScores$Score" "shape" "I", .fieldLink RX2 19 "LevelScores$Score" "hard" "I", .methodLink RX2 25 yX2_form, .instanceMethod yX2_form, .selects RX2 yX2_form yX2_form, .code yX2_form cX2_form 4 none] ++ wsX20)
def wsX2_becomeDifference : List Cond := .code yX2_becomeDifference cX2_becomeDifference 10 (some .boolean) :: ([.fieldLink RX2 22 "LevelScores$Score" "size" "I", .fieldLink RX2 15 "LevelScores$Score" "levels" "[J", .methodLink RX2 29 yX2_formLike, .instanceMethod yX2_formLike, .selects RX2 yX2_formLike yX2_formLike, .initialized RX2, .code yX2_formLike cX2_formLike 2 none, .fieldLink RX2 9 "LevelScores$Score" "shape" "I", .fieldLink RX2 19 "LevelScores$Score" "hard" "I", .methodLink RX2 25 yX2_form, .instanceMethod yX2_form, .selects RX2 yX2_form yX2_form, .code yX2_form cX2_form 4 none] ++ wsX20)
def wsX2_becomeGreaterLevels : List Cond := .code yX2_becomeGreaterLevels cX2_becomeGreaterLevels 4 none :: ([.fieldLink RX2 22 "LevelScores$Score" "size" "I", .fieldLink RX2 15 "LevelScores$Score" "levels" "[J", .methodLink RX2 33 Lib.MathLoose.max_long.x, .static Lib.MathLoose.max_long.x, .initialized "java/lang/Math", .code Lib.MathLoose.max_long.x Lib.MathLoose.max_long.code 4 (some .long), .methodLink RX2 29 yX2_formLike, .instanceMethod yX2_formLike, .selects RX2 yX2_formLike yX2_formLike, .initialized RX2, .code yX2_formLike cX2_formLike 2 none, .fieldLink RX2 9 "LevelScores$Score" "shape" "I", .fieldLink RX2 19 "LevelScores$Score" "hard" "I", .methodLink RX2 25 yX2_form, .instanceMethod yX2_form, .selects RX2 yX2_form yX2_form, .code yX2_form cX2_form 4 none] ++ wsX20)
def wsX2_becomeLesserLevels : List Cond := .code yX2_becomeLesserLevels cX2_becomeLesserLevels 4 none :: ([.fieldLink RX2 22 "LevelScores$Score" "size" "I", .fieldLink RX2 15 "LevelScores$Score" "levels" "[J", .methodLink RX2 39 Lib.MathLoose.min_long.x, .static Lib.MathLoose.min_long.x, .initialized "java/lang/Math", .code Lib.MathLoose.min_long.x Lib.MathLoose.min_long.code 4 (some .long), .methodLink RX2 29 yX2_formLike, .instanceMethod yX2_formLike, .selects RX2 yX2_formLike yX2_formLike, .initialized RX2, .code yX2_formLike cX2_formLike 2 none, .fieldLink RX2 9 "LevelScores$Score" "shape" "I", .fieldLink RX2 19 "LevelScores$Score" "hard" "I", .methodLink RX2 25 yX2_form, .instanceMethod yX2_form, .selects RX2 yX2_form yX2_form, .code yX2_form cX2_form 4 none] ++ wsX20)
def wsX3_init : List Cond := .code yX3_init cX3_init 1 none :: ([.methodLink RX3 3 objectInit, .instanceMethod objectInit, .code objectInit ⟨#[0xb1]⟩ 1 none, .arrayClass .byte, .fieldLink RX3 9 "LevelScores$Tape" "bytes" "[B"] ++ wsX30)
def wsX3_append : List Cond := .code yX3_append cX3_append 2 none :: ([.fieldLink RX3 15 "LevelScores$Tape" "length" "I", .fieldLink RX3 9 "LevelScores$Tape" "bytes" "[B"] ++ wsX30)
def wsX3_isNext : List Cond := .code yX3_isNext cX3_isNext 2 (some .boolean) :: ([.fieldLink RX3 19 "LevelScores$Tape" "place" "I", .fieldLink RX3 15 "LevelScores$Tape" "length" "I", .fieldLink RX3 9 "LevelScores$Tape" "bytes" "[B"] ++ wsX30)
def wsX3_nextDigit : List Cond := .code yX3_nextDigit cX3_nextDigit 1 (some .int) :: ([.fieldLink RX3 19 "LevelScores$Tape" "place" "I", .fieldLink RX3 15 "LevelScores$Tape" "length" "I", .fieldLink RX3 9 "LevelScores$Tape" "bytes" "[B"] ++ wsX30)
def wsX3_parseNumber : List Cond := .code yX3_parseNumber cX3_parseNumber 11 (some .boolean) :: ([.fieldLink RX3 19 "LevelScores$Tape" "place" "I", .constantLong RX3 67 (-9223372036854775808), .constantLong RX3 69 (-9223372036854775807), .constantLong RX3 71 (10), .fieldLink RX3 73 "LevelScores$Score" "levels" "[J", .methodLink RX3 22 yX3_isNext, .instanceMethod yX3_isNext, .selects RX3 yX3_isNext yX3_isNext, .initialized RX3, .code yX3_isNext cX3_isNext 2 (some .boolean), .fieldLink RX3 15 "LevelScores$Tape" "length" "I", .fieldLink RX3 9 "LevelScores$Tape" "bytes" "[B", .methodLink RX3 61 yX3_nextDigit, .instanceMethod yX3_nextDigit, .selects RX3 yX3_nextDigit yX3_nextDigit, .code yX3_nextDigit cX3_nextDigit 1 (some .int)] ++ wsX30 ++ wsX20)
def wsX3_parseList : List Cond := .code yX3_parseList cX3_parseList 5 (some .int) :: ([.fieldLink RX3 19 "LevelScores$Tape" "place" "I", .methodLink RX3 22 yX3_isNext, .instanceMethod yX3_isNext, .selects RX3 yX3_isNext yX3_isNext, .initialized RX3, .code yX3_isNext cX3_isNext 2 (some .boolean), .fieldLink RX3 15 "LevelScores$Tape" "length" "I", .fieldLink RX3 9 "LevelScores$Tape" "bytes" "[B", .methodLink RX3 33 yX3_parseNumber, .instanceMethod yX3_parseNumber, .selects RX3 yX3_parseNumber yX3_parseNumber, .code yX3_parseNumber cX3_parseNumber 11 (some .boolean), .constantLong RX3 67 (-9223372036854775808), .constantLong RX3 69 (-9223372036854775807), .constantLong RX3 71 (10), .fieldLink RX3 73 "LevelScores$Score" "levels" "[J", .methodLink RX3 61 yX3_nextDigit, .instanceMethod yX3_nextDigit, .selects RX3 yX3_nextDigit yX3_nextDigit, .code yX3_nextDigit cX3_nextDigit 1 (some .int)] ++ wsX30 ++ wsX20)
def wsX3_parseWord_r1 : List Cond := [Cond.fieldLink RX3 19 "LevelScores$Tape" "place" "I", Cond.methodLink RX3 77 yJ0_length_8abf5, Cond.instanceMethod yJ0_length_8abf5, Cond.selects RJ0 yJ0_length_8abf5 yJ0_length_8abf5, Cond.initialized RJ0, Cond.code yJ0_length_8abf5 cJ0_length_8abf5 1 (some .int), Cond.fieldLink RJ0 9 "java/lang/String" "value" "[B", Cond.methodLink RJ0 335 yJ0_coder_7d493, Cond.instanceMethod yJ0_coder_7d493, Cond.selects RJ0 yJ0_coder_7d493 yJ0_coder_7d493, Cond.code yJ0_coder_7d493 cJ0_coder_7d493 1 (some .byte), Cond.fieldLink RJ0 38 "java/lang/String" "COMPACT_STRINGS" "Z", Cond.fieldLink RJ0 15 "java/lang/String" "coder" "B", Cond.methodLink RX3 81 yJ0_charAt_5068e, Cond.instanceMethod yJ0_charAt_5068e, Cond.selects RJ0 yJ0_charAt_5068e yJ0_charAt_5068e, Cond.code yJ0_charAt_5068e cJ0_charAt_5068e 2 (some .char), Cond.methodLink RJ0 492 yJ0_isLatin1_aae02, Cond.instanceMethod yJ0_isLatin1_aae02, Cond.selects RJ0 yJ0_isLatin1_aae02 yJ0_isLatin1_aae02, Cond.code yJ0_isLatin1_aae02 cJ0_isLatin1_aae02 1 (some .boolean), Cond.methodLink RJ0 495 yJ1_charAt_3b067, Cond.static yJ1_charAt_3b067, Cond.initialized RJ1]
def wsX3_parseWord_r2 : List Cond := [Cond.code yJ1_charAt_3b067 cJ1_charAt_3b067 2 (some .char), Cond.methodLink RJ1 9 yJ0_checkIndex_df160, Cond.static yJ0_checkIndex_df160, Cond.code yJ0_checkIndex_df160 cJ0_checkIndex_df160 2 none, Cond.fieldLink RJ0 1053 "jdk/internal/util/Preconditions" "SIOOBE_FORMATTER" "Ljava/util/function/BiFunction;", Cond.methodLink RJ0 1059 yJ3_checkIndex_8e157, Cond.static yJ3_checkIndex_8e157, Cond.initialized RJ3, Cond.code yJ3_checkIndex_8e157 cJ3_checkIndex_8e157 3 (some .int), Cond.methodLink RJ0 498 yJ2_charAt_3b067, Cond.static yJ2_charAt_3b067, Cond.initialized RJ2, Cond.code yJ2_charAt_3b067 cJ2_charAt_3b067 2 (some .char), Cond.methodLink RJ2 67 yJ2_checkIndex_2214a, Cond.static yJ2_checkIndex_2214a, Cond.code yJ2_checkIndex_2214a cJ2_checkIndex_2214a 2 none, Cond.methodLink RJ2 48 yJ2_length_9d52b, Cond.static yJ2_length_9d52b, Cond.code yJ2_length_9d52b cJ2_length_9d52b 1 (some .int), Cond.methodLink RJ2 414 yJ0_checkIndex_df160, Cond.methodLink RJ2 71 yJ2_getChar_3b067, Cond.static yJ2_getChar_3b067, Cond.code yJ2_getChar_3b067 cJ2_getChar_3b067 2 (some .char), Cond.fieldLink RJ2 44 "java/lang/StringUTF16" "$assertionsDisabled" "Z"]
def wsX3_parseWord_r3 : List Cond := [Cond.fieldLink RJ2 59 "java/lang/StringUTF16" "HI_BYTE_SHIFT" "I", Cond.fieldLink RJ2 63 "java/lang/StringUTF16" "LO_BYTE_SHIFT" "I", Cond.methodLink RX3 22 yX3_isNext, Cond.instanceMethod yX3_isNext, Cond.selects RX3 yX3_isNext yX3_isNext, Cond.initialized RX3, Cond.code yX3_isNext cX3_isNext 2 (some .boolean), Cond.fieldLink RX3 15 "LevelScores$Tape" "length" "I", Cond.fieldLink RX3 9 "LevelScores$Tape" "bytes" "[B"]
def wsX3_parseWord : List Cond := .code yX3_parseWord cX3_parseWord 3 (some .boolean) :: ((wsX3_parseWord_r1 ++ (wsX3_parseWord_r2 ++ wsX3_parseWord_r3)) ++ wsX30)
def wsX3_parseBent_r1 : List Cond := [Cond.fieldLink RX3 19 "LevelScores$Tape" "place" "I", Cond.methodLink RX3 53 yX3_parseList, Cond.instanceMethod yX3_parseList, Cond.selects RX3 yX3_parseList yX3_parseList, Cond.initialized RX3, Cond.code yX3_parseList cX3_parseList 5 (some .int), Cond.methodLink RX3 22 yX3_isNext, Cond.instanceMethod yX3_isNext, Cond.selects RX3 yX3_isNext yX3_isNext, Cond.code yX3_isNext cX3_isNext 2 (some .boolean), Cond.fieldLink RX3 15 "LevelScores$Tape" "length" "I", Cond.fieldLink RX3 9 "LevelScores$Tape" "bytes" "[B", Cond.methodLink RX3 33 yX3_parseNumber, Cond.instanceMethod yX3_parseNumber, Cond.selects RX3 yX3_parseNumber yX3_parseNumber, Cond.code yX3_parseNumber cX3_parseNumber 11 (some .boolean), Cond.constantLong RX3 67 (-9223372036854775808), Cond.constantLong RX3 69 (-9223372036854775807), Cond.constantLong RX3 71 (10), Cond.fieldLink RX3 73 "LevelScores$Score" "levels" "[J", Cond.methodLink RX3 61 yX3_nextDigit, Cond.instanceMethod yX3_nextDigit, Cond.selects RX3 yX3_nextDigit yX3_nextDigit, Cond.code yX3_nextDigit cX3_nextDigit 1 (some .int)]
def wsX3_parseBent_r2 : List Cond := [Cond.methodLink RX3 45 yX3_parseWord, Cond.instanceMethod yX3_parseWord, Cond.selects RX3 yX3_parseWord yX3_parseWord, Cond.code yX3_parseWord cX3_parseWord 3 (some .boolean), Cond.methodLink RX3 77 yJ0_length_8abf5, Cond.instanceMethod yJ0_length_8abf5, Cond.selects RJ0 yJ0_length_8abf5 yJ0_length_8abf5, Cond.initialized RJ0, Cond.code yJ0_length_8abf5 cJ0_length_8abf5 1 (some .int), Cond.fieldLink RJ0 9 "java/lang/String" "value" "[B", Cond.methodLink RJ0 335 yJ0_coder_7d493, Cond.instanceMethod yJ0_coder_7d493, Cond.selects RJ0 yJ0_coder_7d493 yJ0_coder_7d493, Cond.code yJ0_coder_7d493 cJ0_coder_7d493 1 (some .byte), Cond.fieldLink RJ0 38 "java/lang/String" "COMPACT_STRINGS" "Z", Cond.fieldLink RJ0 15 "java/lang/String" "coder" "B", Cond.methodLink RX3 81 yJ0_charAt_5068e, Cond.instanceMethod yJ0_charAt_5068e, Cond.selects RJ0 yJ0_charAt_5068e yJ0_charAt_5068e, Cond.code yJ0_charAt_5068e cJ0_charAt_5068e 2 (some .char), Cond.methodLink RJ0 492 yJ0_isLatin1_aae02, Cond.instanceMethod yJ0_isLatin1_aae02, Cond.selects RJ0 yJ0_isLatin1_aae02 yJ0_isLatin1_aae02, Cond.code yJ0_isLatin1_aae02 cJ0_isLatin1_aae02 1 (some .boolean)]
def wsX3_parseBent_r3 : List Cond := [Cond.methodLink RJ0 495 yJ1_charAt_3b067, Cond.static yJ1_charAt_3b067, Cond.initialized RJ1, Cond.code yJ1_charAt_3b067 cJ1_charAt_3b067 2 (some .char), Cond.methodLink RJ1 9 yJ0_checkIndex_df160, Cond.static yJ0_checkIndex_df160, Cond.code yJ0_checkIndex_df160 cJ0_checkIndex_df160 2 none, Cond.fieldLink RJ0 1053 "jdk/internal/util/Preconditions" "SIOOBE_FORMATTER" "Ljava/util/function/BiFunction;", Cond.methodLink RJ0 1059 yJ3_checkIndex_8e157, Cond.static yJ3_checkIndex_8e157, Cond.initialized RJ3, Cond.code yJ3_checkIndex_8e157 cJ3_checkIndex_8e157 3 (some .int), Cond.methodLink RJ0 498 yJ2_charAt_3b067, Cond.static yJ2_charAt_3b067, Cond.initialized RJ2, Cond.code yJ2_charAt_3b067 cJ2_charAt_3b067 2 (some .char), Cond.methodLink RJ2 67 yJ2_checkIndex_2214a, Cond.static yJ2_checkIndex_2214a, Cond.code yJ2_checkIndex_2214a cJ2_checkIndex_2214a 2 none, Cond.methodLink RJ2 48 yJ2_length_9d52b, Cond.static yJ2_length_9d52b, Cond.code yJ2_length_9d52b cJ2_length_9d52b 1 (some .int), Cond.methodLink RJ2 414 yJ0_checkIndex_df160, Cond.methodLink RJ2 71 yJ2_getChar_3b067]
def wsX3_parseBent_r4 : List Cond := [Cond.static yJ2_getChar_3b067, Cond.code yJ2_getChar_3b067 cJ2_getChar_3b067 2 (some .char), Cond.fieldLink RJ2 44 "java/lang/StringUTF16" "$assertionsDisabled" "Z", Cond.fieldLink RJ2 59 "java/lang/StringUTF16" "HI_BYTE_SHIFT" "I", Cond.fieldLink RJ2 63 "java/lang/StringUTF16" "LO_BYTE_SHIFT" "I", Cond.methodLink RX3 37 yX2_form, Cond.instanceMethod yX2_form, Cond.selects RX2 yX2_form yX2_form, Cond.initialized RX2, Cond.code yX2_form cX2_form 4 none, Cond.fieldLink RX2 9 "LevelScores$Score" "shape" "I", Cond.fieldLink RX2 19 "LevelScores$Score" "hard" "I", Cond.fieldLink RX2 22 "LevelScores$Score" "size" "I"]
def wsX3_parseBent : List Cond := .code yX3_parseBent cX3_parseBent 4 (some .boolean) :: ((wsX3_parseBent_r1 ++ (wsX3_parseBent_r2 ++ (wsX3_parseBent_r3 ++ wsX3_parseBent_r4))) ++ wsX30 ++ wsX20)
def wsX3_parsePlain_r1 : List Cond := [Cond.fieldLink RX3 19 "LevelScores$Tape" "place" "I", Cond.fieldLink RX3 15 "LevelScores$Tape" "length" "I", Cond.methodLink RX3 33 yX3_parseNumber, Cond.instanceMethod yX3_parseNumber, Cond.selects RX3 yX3_parseNumber yX3_parseNumber, Cond.initialized RX3, Cond.code yX3_parseNumber cX3_parseNumber 11 (some .boolean), Cond.constantLong RX3 67 (-9223372036854775808), Cond.constantLong RX3 69 (-9223372036854775807), Cond.constantLong RX3 71 (10), Cond.fieldLink RX3 73 "LevelScores$Score" "levels" "[J", Cond.methodLink RX3 22 yX3_isNext, Cond.instanceMethod yX3_isNext, Cond.selects RX3 yX3_isNext yX3_isNext, Cond.code yX3_isNext cX3_isNext 2 (some .boolean), Cond.fieldLink RX3 9 "LevelScores$Tape" "bytes" "[B", Cond.methodLink RX3 61 yX3_nextDigit, Cond.instanceMethod yX3_nextDigit, Cond.selects RX3 yX3_nextDigit yX3_nextDigit, Cond.code yX3_nextDigit cX3_nextDigit 1 (some .int), Cond.methodLink RX3 37 yX2_form, Cond.instanceMethod yX2_form, Cond.selects RX2 yX2_form yX2_form, Cond.initialized RX2]
def wsX3_parsePlain_r2 : List Cond := [Cond.code yX2_form cX2_form 4 none, Cond.fieldLink RX2 9 "LevelScores$Score" "shape" "I", Cond.fieldLink RX2 19 "LevelScores$Score" "hard" "I", Cond.fieldLink RX2 22 "LevelScores$Score" "size" "I", Cond.methodLink RX3 45 yX3_parseWord, Cond.instanceMethod yX3_parseWord, Cond.selects RX3 yX3_parseWord yX3_parseWord, Cond.code yX3_parseWord cX3_parseWord 3 (some .boolean), Cond.methodLink RX3 77 yJ0_length_8abf5, Cond.instanceMethod yJ0_length_8abf5, Cond.selects RJ0 yJ0_length_8abf5 yJ0_length_8abf5, Cond.initialized RJ0, Cond.code yJ0_length_8abf5 cJ0_length_8abf5 1 (some .int), Cond.fieldLink RJ0 9 "java/lang/String" "value" "[B", Cond.methodLink RJ0 335 yJ0_coder_7d493, Cond.instanceMethod yJ0_coder_7d493, Cond.selects RJ0 yJ0_coder_7d493 yJ0_coder_7d493, Cond.code yJ0_coder_7d493 cJ0_coder_7d493 1 (some .byte), Cond.fieldLink RJ0 38 "java/lang/String" "COMPACT_STRINGS" "Z", Cond.fieldLink RJ0 15 "java/lang/String" "coder" "B", Cond.methodLink RX3 81 yJ0_charAt_5068e, Cond.instanceMethod yJ0_charAt_5068e, Cond.selects RJ0 yJ0_charAt_5068e yJ0_charAt_5068e, Cond.code yJ0_charAt_5068e cJ0_charAt_5068e 2 (some .char)]
def wsX3_parsePlain_r3 : List Cond := [Cond.methodLink RJ0 492 yJ0_isLatin1_aae02, Cond.instanceMethod yJ0_isLatin1_aae02, Cond.selects RJ0 yJ0_isLatin1_aae02 yJ0_isLatin1_aae02, Cond.code yJ0_isLatin1_aae02 cJ0_isLatin1_aae02 1 (some .boolean), Cond.methodLink RJ0 495 yJ1_charAt_3b067, Cond.static yJ1_charAt_3b067, Cond.initialized RJ1, Cond.code yJ1_charAt_3b067 cJ1_charAt_3b067 2 (some .char), Cond.methodLink RJ1 9 yJ0_checkIndex_df160, Cond.static yJ0_checkIndex_df160, Cond.code yJ0_checkIndex_df160 cJ0_checkIndex_df160 2 none, Cond.fieldLink RJ0 1053 "jdk/internal/util/Preconditions" "SIOOBE_FORMATTER" "Ljava/util/function/BiFunction;", Cond.methodLink RJ0 1059 yJ3_checkIndex_8e157, Cond.static yJ3_checkIndex_8e157, Cond.initialized RJ3, Cond.code yJ3_checkIndex_8e157 cJ3_checkIndex_8e157 3 (some .int), Cond.methodLink RJ0 498 yJ2_charAt_3b067, Cond.static yJ2_charAt_3b067, Cond.initialized RJ2, Cond.code yJ2_charAt_3b067 cJ2_charAt_3b067 2 (some .char), Cond.methodLink RJ2 67 yJ2_checkIndex_2214a, Cond.static yJ2_checkIndex_2214a, Cond.code yJ2_checkIndex_2214a cJ2_checkIndex_2214a 2 none, Cond.methodLink RJ2 48 yJ2_length_9d52b]
def wsX3_parsePlain_r4 : List Cond := [Cond.static yJ2_length_9d52b, Cond.code yJ2_length_9d52b cJ2_length_9d52b 1 (some .int), Cond.methodLink RJ2 414 yJ0_checkIndex_df160, Cond.methodLink RJ2 71 yJ2_getChar_3b067, Cond.static yJ2_getChar_3b067, Cond.code yJ2_getChar_3b067 cJ2_getChar_3b067 2 (some .char), Cond.fieldLink RJ2 44 "java/lang/StringUTF16" "$assertionsDisabled" "Z", Cond.fieldLink RJ2 59 "java/lang/StringUTF16" "HI_BYTE_SHIFT" "I", Cond.fieldLink RJ2 63 "java/lang/StringUTF16" "LO_BYTE_SHIFT" "I"]
def wsX3_parsePlain : List Cond := .code yX3_parsePlain cX3_parsePlain 2 (some .boolean) :: ((wsX3_parsePlain_r1 ++ (wsX3_parsePlain_r2 ++ (wsX3_parsePlain_r3 ++ wsX3_parsePlain_r4))) ++ wsX30 ++ wsX20)
def wsX3_parse_r1 : List Cond := [Cond.fieldLink RX3 19 "LevelScores$Tape" "place" "I", Cond.fieldLink RX3 15 "LevelScores$Tape" "length" "I", Cond.methodLink RX3 22 yX3_isNext, Cond.instanceMethod yX3_isNext, Cond.selects RX3 yX3_isNext yX3_isNext, Cond.initialized RX3, Cond.code yX3_isNext cX3_isNext 2 (some .boolean), Cond.fieldLink RX3 9 "LevelScores$Tape" "bytes" "[B", Cond.methodLink RX3 26 yX3_parseBent, Cond.instanceMethod yX3_parseBent, Cond.selects RX3 yX3_parseBent yX3_parseBent, Cond.code yX3_parseBent cX3_parseBent 4 (some .boolean), Cond.methodLink RX3 53 yX3_parseList, Cond.instanceMethod yX3_parseList, Cond.selects RX3 yX3_parseList yX3_parseList, Cond.code yX3_parseList cX3_parseList 5 (some .int), Cond.methodLink RX3 33 yX3_parseNumber, Cond.instanceMethod yX3_parseNumber, Cond.selects RX3 yX3_parseNumber yX3_parseNumber, Cond.code yX3_parseNumber cX3_parseNumber 11 (some .boolean), Cond.constantLong RX3 67 (-9223372036854775808), Cond.constantLong RX3 69 (-9223372036854775807), Cond.constantLong RX3 71 (10), Cond.fieldLink RX3 73 "LevelScores$Score" "levels" "[J"]
def wsX3_parse_r2 : List Cond := [Cond.methodLink RX3 61 yX3_nextDigit, Cond.instanceMethod yX3_nextDigit, Cond.selects RX3 yX3_nextDigit yX3_nextDigit, Cond.code yX3_nextDigit cX3_nextDigit 1 (some .int), Cond.methodLink RX3 45 yX3_parseWord, Cond.instanceMethod yX3_parseWord, Cond.selects RX3 yX3_parseWord yX3_parseWord, Cond.code yX3_parseWord cX3_parseWord 3 (some .boolean), Cond.methodLink RX3 77 yJ0_length_8abf5, Cond.instanceMethod yJ0_length_8abf5, Cond.selects RJ0 yJ0_length_8abf5 yJ0_length_8abf5, Cond.initialized RJ0, Cond.code yJ0_length_8abf5 cJ0_length_8abf5 1 (some .int), Cond.fieldLink RJ0 9 "java/lang/String" "value" "[B", Cond.methodLink RJ0 335 yJ0_coder_7d493, Cond.instanceMethod yJ0_coder_7d493, Cond.selects RJ0 yJ0_coder_7d493 yJ0_coder_7d493, Cond.code yJ0_coder_7d493 cJ0_coder_7d493 1 (some .byte), Cond.fieldLink RJ0 38 "java/lang/String" "COMPACT_STRINGS" "Z", Cond.fieldLink RJ0 15 "java/lang/String" "coder" "B", Cond.methodLink RX3 81 yJ0_charAt_5068e, Cond.instanceMethod yJ0_charAt_5068e, Cond.selects RJ0 yJ0_charAt_5068e yJ0_charAt_5068e, Cond.code yJ0_charAt_5068e cJ0_charAt_5068e 2 (some .char)]
def wsX3_parse_r3 : List Cond := [Cond.methodLink RJ0 492 yJ0_isLatin1_aae02, Cond.instanceMethod yJ0_isLatin1_aae02, Cond.selects RJ0 yJ0_isLatin1_aae02 yJ0_isLatin1_aae02, Cond.code yJ0_isLatin1_aae02 cJ0_isLatin1_aae02 1 (some .boolean), Cond.methodLink RJ0 495 yJ1_charAt_3b067, Cond.static yJ1_charAt_3b067, Cond.initialized RJ1, Cond.code yJ1_charAt_3b067 cJ1_charAt_3b067 2 (some .char), Cond.methodLink RJ1 9 yJ0_checkIndex_df160, Cond.static yJ0_checkIndex_df160, Cond.code yJ0_checkIndex_df160 cJ0_checkIndex_df160 2 none, Cond.fieldLink RJ0 1053 "jdk/internal/util/Preconditions" "SIOOBE_FORMATTER" "Ljava/util/function/BiFunction;", Cond.methodLink RJ0 1059 yJ3_checkIndex_8e157, Cond.static yJ3_checkIndex_8e157, Cond.initialized RJ3, Cond.code yJ3_checkIndex_8e157 cJ3_checkIndex_8e157 3 (some .int), Cond.methodLink RJ0 498 yJ2_charAt_3b067, Cond.static yJ2_charAt_3b067, Cond.initialized RJ2, Cond.code yJ2_charAt_3b067 cJ2_charAt_3b067 2 (some .char), Cond.methodLink RJ2 67 yJ2_checkIndex_2214a, Cond.static yJ2_checkIndex_2214a, Cond.code yJ2_checkIndex_2214a cJ2_checkIndex_2214a 2 none, Cond.methodLink RJ2 48 yJ2_length_9d52b]
def wsX3_parse_r4 : List Cond := [Cond.static yJ2_length_9d52b, Cond.code yJ2_length_9d52b cJ2_length_9d52b 1 (some .int), Cond.methodLink RJ2 414 yJ0_checkIndex_df160, Cond.methodLink RJ2 71 yJ2_getChar_3b067, Cond.static yJ2_getChar_3b067, Cond.code yJ2_getChar_3b067 cJ2_getChar_3b067 2 (some .char), Cond.fieldLink RJ2 44 "java/lang/StringUTF16" "$assertionsDisabled" "Z", Cond.fieldLink RJ2 59 "java/lang/StringUTF16" "HI_BYTE_SHIFT" "I", Cond.fieldLink RJ2 63 "java/lang/StringUTF16" "LO_BYTE_SHIFT" "I", Cond.methodLink RX3 37 yX2_form, Cond.instanceMethod yX2_form, Cond.selects RX2 yX2_form yX2_form, Cond.initialized RX2, Cond.code yX2_form cX2_form 4 none, Cond.fieldLink RX2 9 "LevelScores$Score" "shape" "I", Cond.fieldLink RX2 19 "LevelScores$Score" "hard" "I", Cond.fieldLink RX2 22 "LevelScores$Score" "size" "I", Cond.methodLink RX3 30 yX3_parsePlain, Cond.instanceMethod yX3_parsePlain, Cond.selects RX3 yX3_parsePlain yX3_parsePlain, Cond.code yX3_parsePlain cX3_parsePlain 2 (some .boolean)]
def wsX3_parse : List Cond := .code yX3_parse cX3_parse 3 (some .boolean) :: ((wsX3_parse_r1 ++ (wsX3_parse_r2 ++ (wsX3_parse_r3 ++ wsX3_parse_r4))) ++ wsX30 ++ wsX20)
def wsJ9_floorMod_f86c9 : List Cond := .code yJ9_floorMod_f86c9 cJ9_floorMod_f86c9 6 (some .long) :: ([])
def wsJ9_floorDiv_f86c9 : List Cond := .code yJ9_floorDiv_f86c9 cJ9_floorDiv_f86c9 6 (some .long) :: ([])
def wsX4_divideDown : List Cond := .code yX4_divideDown cX4_divideDown 5 none :: ([.fieldLink RX4 7 "LevelScores$Wide" "high" "J", .fieldLink RX4 13 "LevelScores$Wide" "low" "J", .methodLink RX4 18 yJ9_floorMod_f86c9, .static yJ9_floorMod_f86c9, .initialized RJ9, .code yJ9_floorMod_f86c9 cJ9_floorMod_f86c9 6 (some .long), .methodLink RX4 24 yJ9_floorDiv_f86c9, .static yJ9_floorDiv_f86c9, .code yJ9_floorDiv_f86c9 cJ9_floorDiv_f86c9 6 (some .long)] ++ wsX40)
def wsX5_init_r1 : List Cond := [Cond.methodLink RX5 1 objectInit, Cond.instanceMethod objectInit, Cond.code objectInit ⟨#[0xb1]⟩ 1 none, Cond.classLink RX5 9 RX2, Cond.fieldLink RX5 11 "LevelScores" "scores" "[LLevelScores$Score;", Cond.instantiable RX2 4, Cond.initialized RX2, Cond.classLink RX5 16 RX3, Cond.instantiable RX3 3, Cond.initialized RX3, Cond.fieldLink RX5 19 "LevelScores" "tape" "LLevelScores$Tape;", Cond.classLink RX5 23 RX0, Cond.instantiable RX0 3, Cond.initialized RX0, Cond.fieldLink RX5 26 "LevelScores" "page" "LLevelScores$Page;", Cond.classLink RX5 30 RX1, Cond.instantiable RX1 9, Cond.initialized RX1, Cond.fieldLink RX5 33 "LevelScores" "thePlan" "LLevelScores$Plan;", Cond.classLink RX5 37 RX4, Cond.instantiable RX4 2, Cond.initialized RX4, Cond.fieldLink RX5 40 "LevelScores" "wide" "LLevelScores$Wide;", Cond.instanceMethod yX2_init]
def wsX5_init_r2 : List Cond := [Cond.code yX2_init cX2_init 1 none, Cond.methodLink RX2 3 objectInit, Cond.fieldLink RX2 9 "LevelScores$Score" "shape" "I", Cond.arrayClass .long, Cond.fieldLink RX2 15 "LevelScores$Score" "levels" "[J", Cond.instanceMethod yX3_init, Cond.code yX3_init cX3_init 1 none, Cond.methodLink RX3 3 objectInit, Cond.arrayClass .byte, Cond.fieldLink RX3 9 "LevelScores$Tape" "bytes" "[B", Cond.instanceMethod yX0_init, Cond.code yX0_init cX0_init 1 none, Cond.methodLink RX0 3 objectInit, Cond.fieldLink RX0 9 "LevelScores$Page" "bytes" "[B", Cond.fieldLink RX0 15 "LevelScores$Page" "digits" "[B", Cond.methodLink RX5 32 yX1_init, Cond.instanceMethod yX1_init, Cond.code yX1_init cX1_init 2 none, Cond.methodLink RX1 3 objectInit, Cond.classLink RX1 9 RX2, Cond.fieldLink RX1 12 "LevelScores$Plan" "pattern" "LLevelScores$Score;", Cond.fieldLink RX1 18 "LevelScores$Plan" "weights" "[LLevelScores$Score;", Cond.arrayClass .int, Cond.fieldLink RX1 22 "LevelScores$Plan" "counts" "[I"]
def wsX5_init_r3 : List Cond := [Cond.fieldLink RX1 26 "LevelScores$Plan" "best" "[LLevelScores$Score;", Cond.fieldLink RX1 29 "LevelScores$Plan" "spare" "LLevelScores$Score;", Cond.classLink RX1 32 RX4, Cond.fieldLink RX1 35 "LevelScores$Plan" "sum" "LLevelScores$Wide;", Cond.fieldLink RX1 39 "LevelScores$Plan" "part" "LLevelScores$Wide;", Cond.instanceMethod yX4_init, Cond.code yX4_init cX4_init 1 none, Cond.methodLink RX4 1 objectInit, Cond.methodLink RX1 42 yX2_form, Cond.instanceMethod yX2_form, Cond.selects RX2 yX2_form yX2_form, Cond.code yX2_form cX2_form 4 none, Cond.fieldLink RX2 19 "LevelScores$Score" "hard" "I", Cond.fieldLink RX2 22 "LevelScores$Score" "size" "I"]
def wsX5_init : List Cond := .code yX5_init cX5_init 2 none :: ((wsX5_init_r1 ++ (wsX5_init_r2 ++ wsX5_init_r3)) ++ wsX50 ++ wsX20 ++ wsX30 ++ wsX00 ++ wsX10 ++ wsX40)
def wsX5_isFull : List Cond := .code yX5_isFull cX5_isFull 1 (some .boolean) :: ([.fieldLink RX5 48 "LevelScores" "numbers" "I"] ++ wsX50)
def wsX5_takeNumber : List Cond := .code yX5_takeNumber cX5_takeNumber 1 (some .int) :: ([.fieldLink RX5 48 "LevelScores" "numbers" "I"] ++ wsX50)
def wsX5_make : List Cond := .code yX5_make cX5_make 5 (some .int) :: ([.fieldLink RX5 11 "LevelScores" "scores" "[LLevelScores$Score;", .fieldLink RX5 48 "LevelScores" "numbers" "I", .methodLink RX5 44 yX5_isFull, .instanceMethod yX5_isFull, .selects RX5 yX5_isFull yX5_isFull, .initialized RX5, .code yX5_isFull cX5_isFull 1 (some .boolean), .methodLink RX5 52 yX2_form, .instanceMethod yX2_form, .selects RX2 yX2_form yX2_form, .initialized RX2, .code yX2_form cX2_form 4 none, .fieldLink RX2 9 "LevelScores$Score" "shape" "I", .fieldLink RX2 19 "LevelScores$Score" "hard" "I", .fieldLink RX2 22 "LevelScores$Score" "size" "I", .methodLink RX5 56 yX2_clear, .instanceMethod yX2_clear, .selects RX2 yX2_clear yX2_clear, .code yX2_clear cX2_clear 2 none, .fieldLink RX2 15 "LevelScores$Score" "levels" "[J", .methodLink RX5 59 yX5_takeNumber, .instanceMethod yX5_takeNumber, .selects RX5 yX5_takeNumber yX5_takeNumber, .code yX5_takeNumber cX5_takeNumber 1 (some .int)] ++ wsX50 ++ wsX20)
def wsX5_nothing : List Cond := .code yX5_nothing cX5_nothing 1 (some .int) :: ([.fieldLink RX5 11 "LevelScores" "scores" "[LLevelScores$Score;", .fieldLink RX5 48 "LevelScores" "numbers" "I", .methodLink RX5 44 yX5_isFull, .instanceMethod yX5_isFull, .selects RX5 yX5_isFull yX5_isFull, .initialized RX5, .code yX5_isFull cX5_isFull 1 (some .boolean), .methodLink RX5 52 yX2_form, .instanceMethod yX2_form, .selects RX2 yX2_form yX2_form, .initialized RX2, .code yX2_form cX2_form 4 none, .fieldLink RX2 9 "LevelScores$Score" "shape" "I", .fieldLink RX2 19 "LevelScores$Score" "hard" "I", .fieldLink RX2 22 "LevelScores$Score" "size" "I", .methodLink RX5 59 yX5_takeNumber, .instanceMethod yX5_takeNumber, .selects RX5 yX5_takeNumber yX5_takeNumber, .code yX5_takeNumber cX5_takeNumber 1 (some .int)] ++ wsX50 ++ wsX20)
def wsX5_isNumber : List Cond := .code yX5_isNumber cX5_isNumber 2 (some .boolean) :: ([.fieldLink RX5 48 "LevelScores" "numbers" "I"] ++ wsX50)
def wsX5_set : List Cond := .code yX5_set cX5_set 5 (some .int) :: ([.fieldLink RX5 11 "LevelScores" "scores" "[LLevelScores$Score;", .fieldLink RX5 73 "LevelScores$Score" "levels" "[J", .methodLink RX5 63 yX5_isNumber, .instanceMethod yX5_isNumber, .selects RX5 yX5_isNumber yX5_isNumber, .initialized RX5, .code yX5_isNumber cX5_isNumber 2 (some .boolean), .fieldLink RX5 48 "LevelScores" "numbers" "I", .methodLink RX5 67 yX2_isNothing, .instanceMethod yX2_isNothing, .selects RX2 yX2_isNothing yX2_isNothing, .initialized RX2, .code yX2_isNothing cX2_isNothing 1 (some .boolean), .fieldLink RX2 9 "LevelScores$Score" "shape" "I", .methodLink RX5 70 yX2_hasLevel, .instanceMethod yX2_hasLevel, .selects RX2 yX2_hasLevel yX2_hasLevel, .code yX2_hasLevel cX2_hasLevel 2 (some .boolean), .fieldLink RX2 22 "LevelScores$Score" "size" "I"] ++ wsX50 ++ wsX20)
def wsX5_told : List Cond := .code yX5_told cX5_told 4 (some .int) :: ([.fieldLink RX5 11 "LevelScores" "scores" "[LLevelScores$Score;", .fieldLink RX5 91 "LevelScores$Score" "shape" "I", .fieldLink RX5 94 "LevelScores$Score" "hard" "I", .fieldLink RX5 97 "LevelScores$Score" "size" "I", .methodLink RX5 63 yX5_isNumber, .instanceMethod yX5_isNumber, .selects RX5 yX5_isNumber yX5_isNumber, .initialized RX5, .code yX5_isNumber cX5_isNumber 2 (some .boolean), .fieldLink RX5 48 "LevelScores" "numbers" "I", .methodLink RX5 67 yX2_isNothing, .instanceMethod yX2_isNothing, .selects RX2 yX2_isNothing yX2_isNothing, .initialized RX2, .code yX2_isNothing cX2_isNothing 1 (some .boolean), .fieldLink RX2 9 "LevelScores$Score" "shape" "I", .methodLink RX5 100 yX2_isFeasible, .instanceMethod yX2_isFeasible, .selects RX2 yX2_isFeasible yX2_isFeasible, .code yX2_isFeasible cX2_isFeasible 2 (some .boolean), .fieldLink RX2 19 "LevelScores$Score" "hard" "I", .fieldLink RX2 15 "LevelScores$Score" "levels" "[J"] ++ wsX50 ++ wsX20)
def wsX5_failureOfPair : List Cond := .code yX5_failureOfPair cX5_failureOfPair 2 (some .int) :: ([.methodLink RX5 67 yX2_isNothing, .instanceMethod yX2_isNothing, .selects RX2 yX2_isNothing yX2_isNothing, .initialized RX2, .code yX2_isNothing cX2_isNothing 1 (some .boolean), .fieldLink RX2 9 "LevelScores$Score" "shape" "I", .methodLink RX5 196 yX2_isLike, .instanceMethod yX2_isLike, .selects RX2 yX2_isLike yX2_isLike, .code yX2_isLike cX2_isLike 2 (some .boolean), .fieldLink RX2 19 "LevelScores$Score" "hard" "I", .fieldLink RX2 22 "LevelScores$Score" "size" "I"] ++ wsX20)
def wsX5_combine_r1 : List Cond := [Cond.methodLink RX5 199 yX2_becomeSum, Cond.instanceMethod yX2_becomeSum, Cond.selects RX2 yX2_becomeSum yX2_becomeSum, Cond.initialized RX2, Cond.code yX2_becomeSum cX2_becomeSum 10 (some .boolean), Cond.fieldLink RX2 22 "LevelScores$Score" "size" "I", Cond.fieldLink RX2 15 "LevelScores$Score" "levels" "[J", Cond.methodLink RX2 29 yX2_formLike, Cond.instanceMethod yX2_formLike, Cond.selects RX2 yX2_formLike yX2_formLike, Cond.code yX2_formLike cX2_formLike 2 none, Cond.fieldLink RX2 9 "LevelScores$Score" "shape" "I", Cond.fieldLink RX2 19 "LevelScores$Score" "hard" "I", Cond.methodLink RX2 25 yX2_form, Cond.instanceMethod yX2_form, Cond.selects RX2 yX2_form yX2_form, Cond.code yX2_form cX2_form 4 none, Cond.methodLink RX5 203 yX2_becomeDifference, Cond.instanceMethod yX2_becomeDifference, Cond.selects RX2 yX2_becomeDifference yX2_becomeDifference, Cond.code yX2_becomeDifference cX2_becomeDifference 10 (some .boolean), Cond.methodLink RX5 115 yX2_compareWith, Cond.instanceMethod yX2_compareWith, Cond.selects RX2 yX2_compareWith yX2_compareWith]
def wsX5_combine_r2 : List Cond := [Cond.code yX2_compareWith cX2_compareWith 3 (some .int), Cond.methodLink RX5 192 yX2_copy, Cond.instanceMethod yX2_copy, Cond.selects RX2 yX2_copy yX2_copy, Cond.code yX2_copy cX2_copy 3 none, Cond.methodLink RX5 206 yX2_becomeGreaterLevels, Cond.instanceMethod yX2_becomeGreaterLevels, Cond.selects RX2 yX2_becomeGreaterLevels yX2_becomeGreaterLevels, Cond.code yX2_becomeGreaterLevels cX2_becomeGreaterLevels 4 none, Cond.methodLink RX2 33 Lib.MathLoose.max_long.x, Cond.static Lib.MathLoose.max_long.x, Cond.initialized "java/lang/Math", Cond.code Lib.MathLoose.max_long.x Lib.MathLoose.max_long.code 4 (some .long), Cond.methodLink RX5 210 yX2_becomeLesserLevels, Cond.instanceMethod yX2_becomeLesserLevels, Cond.selects RX2 yX2_becomeLesserLevels yX2_becomeLesserLevels, Cond.code yX2_becomeLesserLevels cX2_becomeLesserLevels 4 none, Cond.methodLink RX2 39 Lib.MathLoose.min_long.x, Cond.static Lib.MathLoose.min_long.x, Cond.code Lib.MathLoose.min_long.x Lib.MathLoose.min_long.code 4 (some .long)]
def wsX5_combine : List Cond := .code yX5_combine cX5_combine 4 (some .boolean) :: ((wsX5_combine_r1 ++ wsX5_combine_r2) ++ wsX20)
def wsX5_act_r1 : List Cond := [Cond.fieldLink RX5 11 "LevelScores" "scores" "[LLevelScores$Score;", Cond.fieldLink RX5 48 "LevelScores" "numbers" "I", Cond.methodLink RX5 63 yX5_isNumber, Cond.instanceMethod yX5_isNumber, Cond.selects RX5 yX5_isNumber yX5_isNumber, Cond.initialized RX5, Cond.code yX5_isNumber cX5_isNumber 2 (some .boolean), Cond.methodLink RX5 44 yX5_isFull, Cond.instanceMethod yX5_isFull, Cond.selects RX5 yX5_isFull yX5_isFull, Cond.code yX5_isFull cX5_isFull 1 (some .boolean), Cond.methodLink RX5 103 yX5_failureOfPair, Cond.static yX5_failureOfPair, Cond.code yX5_failureOfPair cX5_failureOfPair 2 (some .int), Cond.methodLink RX5 67 yX2_isNothing, Cond.instanceMethod yX2_isNothing, Cond.selects RX2 yX2_isNothing yX2_isNothing, Cond.initialized RX2, Cond.code yX2_isNothing cX2_isNothing 1 (some .boolean), Cond.fieldLink RX2 9 "LevelScores$Score" "shape" "I", Cond.methodLink RX5 196 yX2_isLike, Cond.instanceMethod yX2_isLike, Cond.selects RX2 yX2_isLike yX2_isLike, Cond.code yX2_isLike cX2_isLike 2 (some .boolean)]
def wsX5_act_r2 : List Cond := [Cond.fieldLink RX2 19 "LevelScores$Score" "hard" "I", Cond.fieldLink RX2 22 "LevelScores$Score" "size" "I", Cond.methodLink RX5 107 yX5_combine, Cond.static yX5_combine, Cond.code yX5_combine cX5_combine 4 (some .boolean), Cond.methodLink RX5 199 yX2_becomeSum, Cond.instanceMethod yX2_becomeSum, Cond.selects RX2 yX2_becomeSum yX2_becomeSum, Cond.code yX2_becomeSum cX2_becomeSum 10 (some .boolean), Cond.fieldLink RX2 15 "LevelScores$Score" "levels" "[J", Cond.methodLink RX2 29 yX2_formLike, Cond.instanceMethod yX2_formLike, Cond.selects RX2 yX2_formLike yX2_formLike, Cond.code yX2_formLike cX2_formLike 2 none, Cond.methodLink RX2 25 yX2_form, Cond.instanceMethod yX2_form, Cond.selects RX2 yX2_form yX2_form, Cond.code yX2_form cX2_form 4 none, Cond.methodLink RX5 203 yX2_becomeDifference, Cond.instanceMethod yX2_becomeDifference, Cond.selects RX2 yX2_becomeDifference yX2_becomeDifference, Cond.code yX2_becomeDifference cX2_becomeDifference 10 (some .boolean), Cond.methodLink RX5 115 yX2_compareWith, Cond.instanceMethod yX2_compareWith]
def wsX5_act_r3 : List Cond := [Cond.selects RX2 yX2_compareWith yX2_compareWith, Cond.code yX2_compareWith cX2_compareWith 3 (some .int), Cond.methodLink RX5 192 yX2_copy, Cond.instanceMethod yX2_copy, Cond.selects RX2 yX2_copy yX2_copy, Cond.code yX2_copy cX2_copy 3 none, Cond.methodLink RX5 206 yX2_becomeGreaterLevels, Cond.instanceMethod yX2_becomeGreaterLevels, Cond.selects RX2 yX2_becomeGreaterLevels yX2_becomeGreaterLevels, Cond.code yX2_becomeGreaterLevels cX2_becomeGreaterLevels 4 none, Cond.methodLink RX2 33 Lib.MathLoose.max_long.x, Cond.static Lib.MathLoose.max_long.x, Cond.initialized "java/lang/Math", Cond.code Lib.MathLoose.max_long.x Lib.MathLoose.max_long.code 4 (some .long), Cond.methodLink RX5 210 yX2_becomeLesserLevels, Cond.instanceMethod yX2_becomeLesserLevels, Cond.selects RX2 yX2_becomeLesserLevels yX2_becomeLesserLevels, Cond.code yX2_becomeLesserLevels cX2_becomeLesserLevels 4 none, Cond.methodLink RX2 39 Lib.MathLoose.min_long.x, Cond.static Lib.MathLoose.min_long.x, Cond.code Lib.MathLoose.min_long.x Lib.MathLoose.min_long.code 4 (some .long), Cond.methodLink RX5 59 yX5_takeNumber, Cond.instanceMethod yX5_takeNumber, Cond.selects RX5 yX5_takeNumber yX5_takeNumber]
def wsX5_act_r4 : List Cond := [Cond.code yX5_takeNumber cX5_takeNumber 1 (some .int)]
def wsX5_act : List Cond := .code yX5_act cX5_act 5 (some .int) :: ((wsX5_act_r1 ++ (wsX5_act_r2 ++ (wsX5_act_r3 ++ wsX5_act_r4))) ++ wsX50 ++ wsX20)
def wsX5_scale_r1 : List Cond := [Cond.fieldLink RX5 97 "LevelScores$Score" "size" "I", Cond.fieldLink RX5 40 "LevelScores" "wide" "LLevelScores$Wide;", Cond.fieldLink RX5 73 "LevelScores$Score" "levels" "[J", Cond.methodLink RX5 213 yX2_formLike, Cond.instanceMethod yX2_formLike, Cond.selects RX2 yX2_formLike yX2_formLike, Cond.initialized RX2, Cond.code yX2_formLike cX2_formLike 2 none, Cond.fieldLink RX2 9 "LevelScores$Score" "shape" "I", Cond.fieldLink RX2 19 "LevelScores$Score" "hard" "I", Cond.fieldLink RX2 22 "LevelScores$Score" "size" "I", Cond.methodLink RX2 25 yX2_form, Cond.instanceMethod yX2_form, Cond.selects RX2 yX2_form yX2_form, Cond.code yX2_form cX2_form 4 none, Cond.methodLink RX5 216 yX4_clear, Cond.instanceMethod yX4_clear, Cond.selects RX4 yX4_clear yX4_clear, Cond.initialized RX4, Cond.code yX4_clear cX4_clear 1 none, Cond.fieldLink RX4 7 "LevelScores$Wide" "high" "J", Cond.fieldLink RX4 13 "LevelScores$Wide" "low" "J", Cond.methodLink RX5 217 yX4_addProduct, Cond.instanceMethod yX4_addProduct]
def wsX5_scale_r2 : List Cond := [Cond.selects RX4 yX4_addProduct yX4_addProduct, Cond.code yX4_addProduct cX4_addProduct 9 none, Cond.constantLong RX4 16 (4294967295), Cond.methodLink RX5 221 yX4_divideDown, Cond.instanceMethod yX4_divideDown, Cond.selects RX4 yX4_divideDown yX4_divideDown, Cond.code yX4_divideDown cX4_divideDown 5 none, Cond.methodLink RX4 18 yJ9_floorMod_f86c9, Cond.static yJ9_floorMod_f86c9, Cond.initialized RJ9, Cond.code yJ9_floorMod_f86c9 cJ9_floorMod_f86c9 6 (some .long), Cond.methodLink RX4 24 yJ9_floorDiv_f86c9, Cond.static yJ9_floorDiv_f86c9, Cond.code yJ9_floorDiv_f86c9 cJ9_floorDiv_f86c9 6 (some .long), Cond.methodLink RX5 225 yX4_fits, Cond.instanceMethod yX4_fits, Cond.selects RX4 yX4_fits yX4_fits, Cond.code yX4_fits cX4_fits 1 (some .boolean), Cond.constantLong RX4 29 (-2147483648), Cond.constantLong RX4 31 (2147483647), Cond.methodLink RX5 228 yX4_value, Cond.instanceMethod yX4_value, Cond.selects RX4 yX4_value yX4_value, Cond.code yX4_value cX4_value 1 (some .long)]
def wsX5_scale : List Cond := .code yX5_scale cX5_scale 10 (some .boolean) :: ((wsX5_scale_r1 ++ wsX5_scale_r2) ++ wsX20 ++ wsX50 ++ wsX40)
def wsX5_times_r1 : List Cond := [Cond.fieldLink RX5 11 "LevelScores" "scores" "[LLevelScores$Score;", Cond.fieldLink RX5 48 "LevelScores" "numbers" "I", Cond.methodLink RX5 63 yX5_isNumber, Cond.instanceMethod yX5_isNumber, Cond.selects RX5 yX5_isNumber yX5_isNumber, Cond.initialized RX5, Cond.code yX5_isNumber cX5_isNumber 2 (some .boolean), Cond.methodLink RX5 44 yX5_isFull, Cond.instanceMethod yX5_isFull, Cond.selects RX5 yX5_isFull yX5_isFull, Cond.code yX5_isFull cX5_isFull 1 (some .boolean), Cond.methodLink RX5 67 yX2_isNothing, Cond.instanceMethod yX2_isNothing, Cond.selects RX2 yX2_isNothing yX2_isNothing, Cond.initialized RX2, Cond.code yX2_isNothing cX2_isNothing 1 (some .boolean), Cond.fieldLink RX2 9 "LevelScores$Score" "shape" "I", Cond.methodLink RX5 111 yX5_scale, Cond.instanceMethod yX5_scale, Cond.selects RX5 yX5_scale yX5_scale, Cond.code yX5_scale cX5_scale 10 (some .boolean), Cond.fieldLink RX5 97 "LevelScores$Score" "size" "I", Cond.fieldLink RX5 40 "LevelScores" "wide" "LLevelScores$Wide;", Cond.fieldLink RX5 73 "LevelScores$Score" "levels" "[J"]
def wsX5_times_r2 : List Cond := [Cond.methodLink RX5 213 yX2_formLike, Cond.instanceMethod yX2_formLike, Cond.selects RX2 yX2_formLike yX2_formLike, Cond.code yX2_formLike cX2_formLike 2 none, Cond.fieldLink RX2 19 "LevelScores$Score" "hard" "I", Cond.fieldLink RX2 22 "LevelScores$Score" "size" "I", Cond.methodLink RX2 25 yX2_form, Cond.instanceMethod yX2_form, Cond.selects RX2 yX2_form yX2_form, Cond.code yX2_form cX2_form 4 none, Cond.methodLink RX5 216 yX4_clear, Cond.instanceMethod yX4_clear, Cond.selects RX4 yX4_clear yX4_clear, Cond.initialized RX4, Cond.code yX4_clear cX4_clear 1 none, Cond.fieldLink RX4 7 "LevelScores$Wide" "high" "J", Cond.fieldLink RX4 13 "LevelScores$Wide" "low" "J", Cond.methodLink RX5 217 yX4_addProduct, Cond.instanceMethod yX4_addProduct, Cond.selects RX4 yX4_addProduct yX4_addProduct, Cond.code yX4_addProduct cX4_addProduct 9 none, Cond.constantLong RX4 16 (4294967295), Cond.methodLink RX5 221 yX4_divideDown, Cond.instanceMethod yX4_divideDown]
def wsX5_times_r3 : List Cond := [Cond.selects RX4 yX4_divideDown yX4_divideDown, Cond.code yX4_divideDown cX4_divideDown 5 none, Cond.methodLink RX4 18 yJ9_floorMod_f86c9, Cond.static yJ9_floorMod_f86c9, Cond.initialized RJ9, Cond.code yJ9_floorMod_f86c9 cJ9_floorMod_f86c9 6 (some .long), Cond.methodLink RX4 24 yJ9_floorDiv_f86c9, Cond.static yJ9_floorDiv_f86c9, Cond.code yJ9_floorDiv_f86c9 cJ9_floorDiv_f86c9 6 (some .long), Cond.methodLink RX5 225 yX4_fits, Cond.instanceMethod yX4_fits, Cond.selects RX4 yX4_fits yX4_fits, Cond.code yX4_fits cX4_fits 1 (some .boolean), Cond.constantLong RX4 29 (-2147483648), Cond.constantLong RX4 31 (2147483647), Cond.methodLink RX5 228 yX4_value, Cond.instanceMethod yX4_value, Cond.selects RX4 yX4_value yX4_value, Cond.code yX4_value cX4_value 1 (some .long), Cond.methodLink RX5 59 yX5_takeNumber, Cond.instanceMethod yX5_takeNumber, Cond.selects RX5 yX5_takeNumber yX5_takeNumber, Cond.code yX5_takeNumber cX5_takeNumber 1 (some .int)]
def wsX5_times : List Cond := .code yX5_times cX5_times 4 (some .int) :: ((wsX5_times_r1 ++ (wsX5_times_r2 ++ wsX5_times_r3)) ++ wsX50 ++ wsX20 ++ wsX40)
def wsX5_order_r1 : List Cond := [Cond.fieldLink RX5 11 "LevelScores" "scores" "[LLevelScores$Score;", Cond.methodLink RX5 63 yX5_isNumber, Cond.instanceMethod yX5_isNumber, Cond.selects RX5 yX5_isNumber yX5_isNumber, Cond.initialized RX5, Cond.code yX5_isNumber cX5_isNumber 2 (some .boolean), Cond.fieldLink RX5 48 "LevelScores" "numbers" "I", Cond.methodLink RX5 103 yX5_failureOfPair, Cond.static yX5_failureOfPair, Cond.code yX5_failureOfPair cX5_failureOfPair 2 (some .int), Cond.methodLink RX5 67 yX2_isNothing, Cond.instanceMethod yX2_isNothing, Cond.selects RX2 yX2_isNothing yX2_isNothing, Cond.initialized RX2, Cond.code yX2_isNothing cX2_isNothing 1 (some .boolean), Cond.fieldLink RX2 9 "LevelScores$Score" "shape" "I", Cond.methodLink RX5 196 yX2_isLike, Cond.instanceMethod yX2_isLike, Cond.selects RX2 yX2_isLike yX2_isLike, Cond.code yX2_isLike cX2_isLike 2 (some .boolean), Cond.fieldLink RX2 19 "LevelScores$Score" "hard" "I", Cond.fieldLink RX2 22 "LevelScores$Score" "size" "I", Cond.methodLink RX5 115 yX2_compareWith, Cond.instanceMethod yX2_compareWith]
def wsX5_order_r2 : List Cond := [Cond.selects RX2 yX2_compareWith yX2_compareWith, Cond.code yX2_compareWith cX2_compareWith 3 (some .int), Cond.fieldLink RX2 15 "LevelScores$Score" "levels" "[J"]
def wsX5_order : List Cond := .code yX5_order cX5_order 4 (some .int) :: ((wsX5_order_r1 ++ wsX5_order_r2) ++ wsX50 ++ wsX20)
def wsX5_put : List Cond := .code yX5_put cX5_put 2 (some .int) :: ([.fieldLink RX5 19 "LevelScores" "tape" "LLevelScores$Tape;", .fieldLink RX5 119 "LevelScores$Tape" "length" "I", .methodLink RX5 122 yX3_append, .instanceMethod yX3_append, .selects RX3 yX3_append yX3_append, .initialized RX3, .code yX3_append cX3_append 2 none, .fieldLink RX3 15 "LevelScores$Tape" "length" "I", .fieldLink RX3 9 "LevelScores$Tape" "bytes" "[B"] ++ wsX50 ++ wsX30)
def wsX5_read_r1 : List Cond := [Cond.fieldLink RX5 19 "LevelScores" "tape" "LLevelScores$Tape;", Cond.fieldLink RX5 119 "LevelScores$Tape" "length" "I", Cond.fieldLink RX5 11 "LevelScores" "scores" "[LLevelScores$Score;", Cond.fieldLink RX5 48 "LevelScores" "numbers" "I", Cond.fieldLink RX5 130 "LevelScores$Tape" "place" "I", Cond.methodLink RX5 44 yX5_isFull, Cond.instanceMethod yX5_isFull, Cond.selects RX5 yX5_isFull yX5_isFull, Cond.initialized RX5, Cond.code yX5_isFull cX5_isFull 1 (some .boolean), Cond.methodLink RX5 126 yX3_parse, Cond.instanceMethod yX3_parse, Cond.selects RX3 yX3_parse yX3_parse, Cond.initialized RX3, Cond.code yX3_parse cX3_parse 3 (some .boolean), Cond.fieldLink RX3 19 "LevelScores$Tape" "place" "I", Cond.fieldLink RX3 15 "LevelScores$Tape" "length" "I", Cond.methodLink RX3 22 yX3_isNext, Cond.instanceMethod yX3_isNext, Cond.selects RX3 yX3_isNext yX3_isNext, Cond.code yX3_isNext cX3_isNext 2 (some .boolean), Cond.fieldLink RX3 9 "LevelScores$Tape" "bytes" "[B", Cond.methodLink RX3 26 yX3_parseBent, Cond.instanceMethod yX3_parseBent]
def wsX5_read_r2 : List Cond := [Cond.selects RX3 yX3_parseBent yX3_parseBent, Cond.code yX3_parseBent cX3_parseBent 4 (some .boolean), Cond.methodLink RX3 53 yX3_parseList, Cond.instanceMethod yX3_parseList, Cond.selects RX3 yX3_parseList yX3_parseList, Cond.code yX3_parseList cX3_parseList 5 (some .int), Cond.methodLink RX3 33 yX3_parseNumber, Cond.instanceMethod yX3_parseNumber, Cond.selects RX3 yX3_parseNumber yX3_parseNumber, Cond.code yX3_parseNumber cX3_parseNumber 11 (some .boolean), Cond.constantLong RX3 67 (-9223372036854775808), Cond.constantLong RX3 69 (-9223372036854775807), Cond.constantLong RX3 71 (10), Cond.fieldLink RX3 73 "LevelScores$Score" "levels" "[J", Cond.methodLink RX3 61 yX3_nextDigit, Cond.instanceMethod yX3_nextDigit, Cond.selects RX3 yX3_nextDigit yX3_nextDigit, Cond.code yX3_nextDigit cX3_nextDigit 1 (some .int), Cond.methodLink RX3 45 yX3_parseWord, Cond.instanceMethod yX3_parseWord, Cond.selects RX3 yX3_parseWord yX3_parseWord, Cond.code yX3_parseWord cX3_parseWord 3 (some .boolean), Cond.methodLink RX3 77 yJ0_length_8abf5, Cond.instanceMethod yJ0_length_8abf5]
def wsX5_read_r3 : List Cond := [Cond.selects RJ0 yJ0_length_8abf5 yJ0_length_8abf5, Cond.initialized RJ0, Cond.code yJ0_length_8abf5 cJ0_length_8abf5 1 (some .int), Cond.fieldLink RJ0 9 "java/lang/String" "value" "[B", Cond.methodLink RJ0 335 yJ0_coder_7d493, Cond.instanceMethod yJ0_coder_7d493, Cond.selects RJ0 yJ0_coder_7d493 yJ0_coder_7d493, Cond.code yJ0_coder_7d493 cJ0_coder_7d493 1 (some .byte), Cond.fieldLink RJ0 38 "java/lang/String" "COMPACT_STRINGS" "Z", Cond.fieldLink RJ0 15 "java/lang/String" "coder" "B", Cond.methodLink RX3 81 yJ0_charAt_5068e, Cond.instanceMethod yJ0_charAt_5068e, Cond.selects RJ0 yJ0_charAt_5068e yJ0_charAt_5068e, Cond.code yJ0_charAt_5068e cJ0_charAt_5068e 2 (some .char), Cond.methodLink RJ0 492 yJ0_isLatin1_aae02, Cond.instanceMethod yJ0_isLatin1_aae02, Cond.selects RJ0 yJ0_isLatin1_aae02 yJ0_isLatin1_aae02, Cond.code yJ0_isLatin1_aae02 cJ0_isLatin1_aae02 1 (some .boolean), Cond.methodLink RJ0 495 yJ1_charAt_3b067, Cond.static yJ1_charAt_3b067, Cond.initialized RJ1, Cond.code yJ1_charAt_3b067 cJ1_charAt_3b067 2 (some .char), Cond.methodLink RJ1 9 yJ0_checkIndex_df160, Cond.static yJ0_checkIndex_df160]
def wsX5_read_r4 : List Cond := [Cond.code yJ0_checkIndex_df160 cJ0_checkIndex_df160 2 none, Cond.fieldLink RJ0 1053 "jdk/internal/util/Preconditions" "SIOOBE_FORMATTER" "Ljava/util/function/BiFunction;", Cond.methodLink RJ0 1059 yJ3_checkIndex_8e157, Cond.static yJ3_checkIndex_8e157, Cond.initialized RJ3, Cond.code yJ3_checkIndex_8e157 cJ3_checkIndex_8e157 3 (some .int), Cond.methodLink RJ0 498 yJ2_charAt_3b067, Cond.static yJ2_charAt_3b067, Cond.initialized RJ2, Cond.code yJ2_charAt_3b067 cJ2_charAt_3b067 2 (some .char), Cond.methodLink RJ2 67 yJ2_checkIndex_2214a, Cond.static yJ2_checkIndex_2214a, Cond.code yJ2_checkIndex_2214a cJ2_checkIndex_2214a 2 none, Cond.methodLink RJ2 48 yJ2_length_9d52b, Cond.static yJ2_length_9d52b, Cond.code yJ2_length_9d52b cJ2_length_9d52b 1 (some .int), Cond.methodLink RJ2 414 yJ0_checkIndex_df160, Cond.methodLink RJ2 71 yJ2_getChar_3b067, Cond.static yJ2_getChar_3b067, Cond.code yJ2_getChar_3b067 cJ2_getChar_3b067 2 (some .char), Cond.fieldLink RJ2 44 "java/lang/StringUTF16" "$assertionsDisabled" "Z", Cond.fieldLink RJ2 59 "java/lang/StringUTF16" "HI_BYTE_SHIFT" "I", Cond.fieldLink RJ2 63 "java/lang/StringUTF16" "LO_BYTE_SHIFT" "I", Cond.methodLink RX3 37 yX2_form]
def wsX5_read_r5 : List Cond := [Cond.instanceMethod yX2_form, Cond.selects RX2 yX2_form yX2_form, Cond.initialized RX2, Cond.code yX2_form cX2_form 4 none, Cond.fieldLink RX2 9 "LevelScores$Score" "shape" "I", Cond.fieldLink RX2 19 "LevelScores$Score" "hard" "I", Cond.fieldLink RX2 22 "LevelScores$Score" "size" "I", Cond.methodLink RX3 30 yX3_parsePlain, Cond.instanceMethod yX3_parsePlain, Cond.selects RX3 yX3_parsePlain yX3_parsePlain, Cond.code yX3_parsePlain cX3_parsePlain 2 (some .boolean), Cond.methodLink RX5 59 yX5_takeNumber, Cond.instanceMethod yX5_takeNumber, Cond.selects RX5 yX5_takeNumber yX5_takeNumber, Cond.code yX5_takeNumber cX5_takeNumber 1 (some .int)]
def wsX5_read : List Cond := .code yX5_read cX5_read 2 (some .int) :: ((wsX5_read_r1 ++ (wsX5_read_r2 ++ (wsX5_read_r3 ++ (wsX5_read_r4 ++ wsX5_read_r5)))) ++ wsX50 ++ wsX30 ++ wsX20)
def wsX5_print_r1 : List Cond := [Cond.fieldLink RX5 11 "LevelScores" "scores" "[LLevelScores$Score;", Cond.fieldLink RX5 26 "LevelScores" "page" "LLevelScores$Page;", Cond.fieldLink RX5 137 "LevelScores$Page" "length" "I", Cond.methodLink RX5 63 yX5_isNumber, Cond.instanceMethod yX5_isNumber, Cond.selects RX5 yX5_isNumber yX5_isNumber, Cond.initialized RX5, Cond.code yX5_isNumber cX5_isNumber 2 (some .boolean), Cond.fieldLink RX5 48 "LevelScores" "numbers" "I", Cond.methodLink RX5 67 yX2_isNothing, Cond.instanceMethod yX2_isNothing, Cond.selects RX2 yX2_isNothing yX2_isNothing, Cond.initialized RX2, Cond.code yX2_isNothing cX2_isNothing 1 (some .boolean), Cond.fieldLink RX2 9 "LevelScores$Score" "shape" "I", Cond.methodLink RX5 133 yX0_write, Cond.instanceMethod yX0_write, Cond.selects RX0 yX0_write yX0_write, Cond.initialized RX0, Cond.code yX0_write cX0_write 2 none, Cond.fieldLink RX0 18 "LevelScores$Page" "length" "I", Cond.fieldLink RX0 22 "LevelScores$Score" "shape" "I", Cond.methodLink RX0 27 yX0_writeBent, Cond.instanceMethod yX0_writeBent]
def wsX5_print_r2 : List Cond := [Cond.selects RX0 yX0_writeBent yX0_writeBent, Cond.code yX0_writeBent cX0_writeBent 2 none, Cond.fieldLink RX0 54 "LevelScores$Score" "hard" "I", Cond.fieldLink RX0 63 "LevelScores$Score" "size" "I", Cond.methodLink RX0 44 yX0_writeWord, Cond.instanceMethod yX0_writeWord, Cond.selects RX0 yX0_writeWord yX0_writeWord, Cond.code yX0_writeWord cX0_writeWord 3 none, Cond.methodLink RX0 76 yJ0_length_8abf5, Cond.instanceMethod yJ0_length_8abf5, Cond.selects RJ0 yJ0_length_8abf5 yJ0_length_8abf5, Cond.initialized RJ0, Cond.code yJ0_length_8abf5 cJ0_length_8abf5 1 (some .int), Cond.fieldLink RJ0 9 "java/lang/String" "value" "[B", Cond.methodLink RJ0 335 yJ0_coder_7d493, Cond.instanceMethod yJ0_coder_7d493, Cond.selects RJ0 yJ0_coder_7d493 yJ0_coder_7d493, Cond.code yJ0_coder_7d493 cJ0_coder_7d493 1 (some .byte), Cond.fieldLink RJ0 38 "java/lang/String" "COMPACT_STRINGS" "Z", Cond.fieldLink RJ0 15 "java/lang/String" "coder" "B", Cond.methodLink RX0 81 yJ0_charAt_5068e, Cond.instanceMethod yJ0_charAt_5068e, Cond.selects RJ0 yJ0_charAt_5068e yJ0_charAt_5068e, Cond.code yJ0_charAt_5068e cJ0_charAt_5068e 2 (some .char)]
def wsX5_print_r3 : List Cond := [Cond.methodLink RJ0 492 yJ0_isLatin1_aae02, Cond.instanceMethod yJ0_isLatin1_aae02, Cond.selects RJ0 yJ0_isLatin1_aae02 yJ0_isLatin1_aae02, Cond.code yJ0_isLatin1_aae02 cJ0_isLatin1_aae02 1 (some .boolean), Cond.methodLink RJ0 495 yJ1_charAt_3b067, Cond.static yJ1_charAt_3b067, Cond.initialized RJ1, Cond.code yJ1_charAt_3b067 cJ1_charAt_3b067 2 (some .char), Cond.methodLink RJ1 9 yJ0_checkIndex_df160, Cond.static yJ0_checkIndex_df160, Cond.code yJ0_checkIndex_df160 cJ0_checkIndex_df160 2 none, Cond.fieldLink RJ0 1053 "jdk/internal/util/Preconditions" "SIOOBE_FORMATTER" "Ljava/util/function/BiFunction;", Cond.methodLink RJ0 1059 yJ3_checkIndex_8e157, Cond.static yJ3_checkIndex_8e157, Cond.initialized RJ3, Cond.code yJ3_checkIndex_8e157 cJ3_checkIndex_8e157 3 (some .int), Cond.methodLink RJ0 498 yJ2_charAt_3b067, Cond.static yJ2_charAt_3b067, Cond.initialized RJ2, Cond.code yJ2_charAt_3b067 cJ2_charAt_3b067 2 (some .char), Cond.methodLink RJ2 67 yJ2_checkIndex_2214a, Cond.static yJ2_checkIndex_2214a, Cond.code yJ2_checkIndex_2214a cJ2_checkIndex_2214a 2 none, Cond.methodLink RJ2 48 yJ2_length_9d52b]
def wsX5_print_r4 : List Cond := [Cond.static yJ2_length_9d52b, Cond.code yJ2_length_9d52b cJ2_length_9d52b 1 (some .int), Cond.methodLink RJ2 414 yJ0_checkIndex_df160, Cond.methodLink RJ2 71 yJ2_getChar_3b067, Cond.static yJ2_getChar_3b067, Cond.code yJ2_getChar_3b067 cJ2_getChar_3b067 2 (some .char), Cond.fieldLink RJ2 44 "java/lang/StringUTF16" "$assertionsDisabled" "Z", Cond.fieldLink RJ2 59 "java/lang/StringUTF16" "HI_BYTE_SHIFT" "I", Cond.fieldLink RJ2 63 "java/lang/StringUTF16" "LO_BYTE_SHIFT" "I", Cond.methodLink RX0 68 yX0_append, Cond.instanceMethod yX0_append, Cond.selects RX0 yX0_append yX0_append, Cond.code yX0_append cX0_append 2 none, Cond.fieldLink RX0 9 "LevelScores$Page" "bytes" "[B", Cond.methodLink RX0 57 yX0_writeList, Cond.instanceMethod yX0_writeList, Cond.selects RX0 yX0_writeList yX0_writeList, Cond.code yX0_writeList cX0_writeList 5 none, Cond.fieldLink RX0 34 "LevelScores$Score" "levels" "[J", Cond.methodLink RX0 38 yX0_writeNumber, Cond.instanceMethod yX0_writeNumber, Cond.selects RX0 yX0_writeNumber yX0_writeNumber, Cond.code yX0_writeNumber cX0_writeNumber 7 none, Cond.fieldLink RX0 15 "LevelScores$Page" "digits" "[B"]
def wsX5_print_r5 : List Cond := [Cond.constantLong RX0 72 (48), Cond.constantLong RX0 74 (10), Cond.methodLink RX0 31 yX0_writePlain, Cond.instanceMethod yX0_writePlain, Cond.selects RX0 yX0_writePlain yX0_writePlain, Cond.code yX0_writePlain cX0_writePlain 2 none]
def wsX5_print : List Cond := .code yX5_print cX5_print 2 (some .int) :: ((wsX5_print_r1 ++ (wsX5_print_r2 ++ (wsX5_print_r3 ++ (wsX5_print_r4 ++ wsX5_print_r5)))) ++ wsX50 ++ wsX00 ++ wsX20)
def wsX5_out : List Cond := .code yX5_out cX5_out 2 (some .int) :: ([.fieldLink RX5 26 "LevelScores" "page" "LLevelScores$Page;", .fieldLink RX5 137 "LevelScores$Page" "length" "I", .fieldLink RX5 138 "LevelScores$Page" "bytes" "[B"] ++ wsX50 ++ wsX00)
def wsX5_plan_r1 : List Cond := [Cond.fieldLink RX5 11 "LevelScores" "scores" "[LLevelScores$Score;", Cond.fieldLink RX5 33 "LevelScores" "thePlan" "LLevelScores$Plan;", Cond.fieldLink RX5 142 "LevelScores$Plan" "rules" "I", Cond.methodLink RX5 63 yX5_isNumber, Cond.instanceMethod yX5_isNumber, Cond.selects RX5 yX5_isNumber yX5_isNumber, Cond.initialized RX5, Cond.code yX5_isNumber cX5_isNumber 2 (some .boolean), Cond.fieldLink RX5 48 "LevelScores" "numbers" "I", Cond.methodLink RX5 67 yX2_isNothing, Cond.instanceMethod yX2_isNothing, Cond.selects RX2 yX2_isNothing yX2_isNothing, Cond.initialized RX2, Cond.code yX2_isNothing cX2_isNothing 1 (some .boolean), Cond.fieldLink RX2 9 "LevelScores$Score" "shape" "I", Cond.methodLink RX5 145 yX1_begin, Cond.instanceMethod yX1_begin, Cond.selects RX1 yX1_begin yX1_begin, Cond.initialized RX1, Cond.code yX1_begin cX1_begin 2 none, Cond.fieldLink RX1 12 "LevelScores$Plan" "pattern" "LLevelScores$Score;", Cond.fieldLink RX1 50 "LevelScores$Plan" "rules" "I", Cond.fieldLink RX1 54 "LevelScores$Plan" "held" "I", Cond.methodLink RX1 46 yX2_formLike]
def wsX5_plan_r2 : List Cond := [Cond.instanceMethod yX2_formLike, Cond.selects RX2 yX2_formLike yX2_formLike, Cond.code yX2_formLike cX2_formLike 2 none, Cond.fieldLink RX2 19 "LevelScores$Score" "hard" "I", Cond.fieldLink RX2 22 "LevelScores$Score" "size" "I", Cond.methodLink RX2 25 yX2_form, Cond.instanceMethod yX2_form, Cond.selects RX2 yX2_form yX2_form, Cond.code yX2_form cX2_form 4 none]
def wsX5_plan : List Cond := .code yX5_plan cX5_plan 3 (some .int) :: ((wsX5_plan_r1 ++ wsX5_plan_r2) ++ wsX50 ++ wsX10 ++ wsX20)
def wsX5_rule_r1 : List Cond := [Cond.fieldLink RX5 33 "LevelScores" "thePlan" "LLevelScores$Plan;", Cond.fieldLink RX5 142 "LevelScores$Plan" "rules" "I", Cond.fieldLink RX5 11 "LevelScores" "scores" "[LLevelScores$Score;", Cond.fieldLink RX5 148 "LevelScores$Plan" "pattern" "LLevelScores$Score;", Cond.methodLink RX5 63 yX5_isNumber, Cond.instanceMethod yX5_isNumber, Cond.selects RX5 yX5_isNumber yX5_isNumber, Cond.initialized RX5, Cond.code yX5_isNumber cX5_isNumber 2 (some .boolean), Cond.fieldLink RX5 48 "LevelScores" "numbers" "I", Cond.methodLink RX5 103 yX5_failureOfPair, Cond.static yX5_failureOfPair, Cond.code yX5_failureOfPair cX5_failureOfPair 2 (some .int), Cond.methodLink RX5 67 yX2_isNothing, Cond.instanceMethod yX2_isNothing, Cond.selects RX2 yX2_isNothing yX2_isNothing, Cond.initialized RX2, Cond.code yX2_isNothing cX2_isNothing 1 (some .boolean), Cond.fieldLink RX2 9 "LevelScores$Score" "shape" "I", Cond.methodLink RX5 196 yX2_isLike, Cond.instanceMethod yX2_isLike, Cond.selects RX2 yX2_isLike yX2_isLike, Cond.code yX2_isLike cX2_isLike 2 (some .boolean), Cond.fieldLink RX2 19 "LevelScores$Score" "hard" "I"]
def wsX5_rule_r2 : List Cond := [Cond.fieldLink RX2 22 "LevelScores$Score" "size" "I", Cond.methodLink RX5 152 yX1_addRule, Cond.instanceMethod yX1_addRule, Cond.selects RX1 yX1_addRule yX1_addRule, Cond.initialized RX1, Cond.code yX1_addRule cX1_addRule 2 (some .int), Cond.fieldLink RX1 18 "LevelScores$Plan" "weights" "[LLevelScores$Score;", Cond.fieldLink RX1 50 "LevelScores$Plan" "rules" "I", Cond.fieldLink RX1 22 "LevelScores$Plan" "counts" "[I", Cond.methodLink RX1 57 yX2_copy, Cond.instanceMethod yX2_copy, Cond.selects RX2 yX2_copy yX2_copy, Cond.code yX2_copy cX2_copy 3 none, Cond.fieldLink RX2 15 "LevelScores$Score" "levels" "[J", Cond.methodLink RX2 29 yX2_formLike, Cond.instanceMethod yX2_formLike, Cond.selects RX2 yX2_formLike yX2_formLike, Cond.code yX2_formLike cX2_formLike 2 none, Cond.methodLink RX2 25 yX2_form, Cond.instanceMethod yX2_form, Cond.selects RX2 yX2_form yX2_form, Cond.code yX2_form cX2_form 4 none]
def wsX5_rule : List Cond := .code yX5_rule cX5_rule 3 (some .int) :: ((wsX5_rule_r1 ++ wsX5_rule_r2) ++ wsX50 ++ wsX10 ++ wsX20)
def wsX5_isCount : List Cond := .code yX5_isCount cX5_isCount 1 (some .boolean) :: ([.constant RX5 195 (1000000)])
def wsX5_count_r1 : List Cond := [Cond.fieldLink RX5 33 "LevelScores" "thePlan" "LLevelScores$Plan;", Cond.fieldLink RX5 161 "LevelScores$Plan" "counts" "[I", Cond.methodLink RX5 155 yX1_hasRule, Cond.instanceMethod yX1_hasRule, Cond.selects RX1 yX1_hasRule yX1_hasRule, Cond.initialized RX1, Cond.code yX1_hasRule cX1_hasRule 2 (some .boolean), Cond.fieldLink RX1 50 "LevelScores$Plan" "rules" "I", Cond.methodLink RX5 158 yX5_isCount, Cond.static yX5_isCount, Cond.initialized RX5, Cond.code yX5_isCount cX5_isCount 1 (some .boolean), Cond.constant RX5 195 (1000000), Cond.methodLink RX5 165 yX1_changeCount, Cond.instanceMethod yX1_changeCount, Cond.selects RX1 yX1_changeCount yX1_changeCount, Cond.code yX1_changeCount cX1_changeCount 4 (some .boolean), Cond.fieldLink RX1 22 "LevelScores$Plan" "counts" "[I", Cond.methodLink RX1 60 yX1_allFit, Cond.instanceMethod yX1_allFit, Cond.selects RX1 yX1_allFit yX1_allFit, Cond.code yX1_allFit cX1_allFit 2 (some .boolean), Cond.fieldLink RX1 12 "LevelScores$Plan" "pattern" "LLevelScores$Score;", Cond.fieldLink RX1 68 "LevelScores$Score" "size" "I"]
def wsX5_count_r2 : List Cond := [Cond.methodLink RX1 71 yX1_fitsAt, Cond.instanceMethod yX1_fitsAt, Cond.selects RX1 yX1_fitsAt yX1_fitsAt, Cond.code yX1_fitsAt cX1_fitsAt 3 (some .boolean), Cond.fieldLink RX1 39 "LevelScores$Plan" "part" "LLevelScores$Wide;", Cond.fieldLink RX1 35 "LevelScores$Plan" "sum" "LLevelScores$Wide;", Cond.methodLink RX1 75 yX1_pricePart, Cond.instanceMethod yX1_pricePart, Cond.selects RX1 yX1_pricePart yX1_pricePart, Cond.code yX1_pricePart cX1_pricePart 3 none, Cond.fieldLink RX1 18 "LevelScores$Plan" "weights" "[LLevelScores$Score;", Cond.fieldLink RX1 88 "LevelScores$Score" "levels" "[J", Cond.methodLink RX1 85 yX4_clear, Cond.instanceMethod yX4_clear, Cond.selects RX4 yX4_clear yX4_clear, Cond.initialized RX4, Cond.code yX4_clear cX4_clear 1 none, Cond.fieldLink RX4 7 "LevelScores$Wide" "high" "J", Cond.fieldLink RX4 13 "LevelScores$Wide" "low" "J", Cond.methodLink RX1 92 yX4_addProduct, Cond.instanceMethod yX4_addProduct, Cond.selects RX4 yX4_addProduct yX4_addProduct, Cond.code yX4_addProduct cX4_addProduct 9 none, Cond.constantLong RX4 16 (4294967295)]
def wsX5_count_r3 : List Cond := [Cond.methodLink RX1 79 yX4_fits, Cond.instanceMethod yX4_fits, Cond.selects RX4 yX4_fits yX4_fits, Cond.code yX4_fits cX4_fits 1 (some .boolean), Cond.constantLong RX4 29 (-2147483648), Cond.constantLong RX4 31 (2147483647), Cond.methodLink RX1 82 yX1_priceSum, Cond.instanceMethod yX1_priceSum, Cond.selects RX1 yX1_priceSum yX1_priceSum, Cond.code yX1_priceSum cX1_priceSum 3 none]
def wsX5_count : List Cond := .code yX5_count cX5_count 4 (some .int) :: ((wsX5_count_r1 ++ (wsX5_count_r2 ++ wsX5_count_r3)) ++ wsX50 ++ wsX10 ++ wsX20 ++ wsX40)
def wsX5_weight_r1 : List Cond := [Cond.fieldLink RX5 33 "LevelScores" "thePlan" "LLevelScores$Plan;", Cond.fieldLink RX5 11 "LevelScores" "scores" "[LLevelScores$Score;", Cond.fieldLink RX5 148 "LevelScores$Plan" "pattern" "LLevelScores$Score;", Cond.methodLink RX5 155 yX1_hasRule, Cond.instanceMethod yX1_hasRule, Cond.selects RX1 yX1_hasRule yX1_hasRule, Cond.initialized RX1, Cond.code yX1_hasRule cX1_hasRule 2 (some .boolean), Cond.fieldLink RX1 50 "LevelScores$Plan" "rules" "I", Cond.methodLink RX5 63 yX5_isNumber, Cond.instanceMethod yX5_isNumber, Cond.selects RX5 yX5_isNumber yX5_isNumber, Cond.initialized RX5, Cond.code yX5_isNumber cX5_isNumber 2 (some .boolean), Cond.fieldLink RX5 48 "LevelScores" "numbers" "I", Cond.methodLink RX5 103 yX5_failureOfPair, Cond.static yX5_failureOfPair, Cond.code yX5_failureOfPair cX5_failureOfPair 2 (some .int), Cond.methodLink RX5 67 yX2_isNothing, Cond.instanceMethod yX2_isNothing, Cond.selects RX2 yX2_isNothing yX2_isNothing, Cond.initialized RX2, Cond.code yX2_isNothing cX2_isNothing 1 (some .boolean), Cond.fieldLink RX2 9 "LevelScores$Score" "shape" "I"]
def wsX5_weight_r2 : List Cond := [Cond.methodLink RX5 196 yX2_isLike, Cond.instanceMethod yX2_isLike, Cond.selects RX2 yX2_isLike yX2_isLike, Cond.code yX2_isLike cX2_isLike 2 (some .boolean), Cond.fieldLink RX2 19 "LevelScores$Score" "hard" "I", Cond.fieldLink RX2 22 "LevelScores$Score" "size" "I", Cond.methodLink RX5 169 yX1_changeWeight, Cond.instanceMethod yX1_changeWeight, Cond.selects RX1 yX1_changeWeight yX1_changeWeight, Cond.code yX1_changeWeight cX1_changeWeight 3 (some .boolean), Cond.fieldLink RX1 29 "LevelScores$Plan" "spare" "LLevelScores$Score;", Cond.methodLink RX1 57 yX2_copy, Cond.instanceMethod yX2_copy, Cond.selects RX2 yX2_copy yX2_copy, Cond.code yX2_copy cX2_copy 3 none, Cond.fieldLink RX2 15 "LevelScores$Score" "levels" "[J", Cond.methodLink RX2 29 yX2_formLike, Cond.instanceMethod yX2_formLike, Cond.selects RX2 yX2_formLike yX2_formLike, Cond.code yX2_formLike cX2_formLike 2 none, Cond.methodLink RX2 25 yX2_form, Cond.instanceMethod yX2_form, Cond.selects RX2 yX2_form yX2_form, Cond.code yX2_form cX2_form 4 none]
def wsX5_weight_r3 : List Cond := [Cond.methodLink RX1 64 yX1_tradeSpare, Cond.instanceMethod yX1_tradeSpare, Cond.selects RX1 yX1_tradeSpare yX1_tradeSpare, Cond.code yX1_tradeSpare cX1_tradeSpare 3 none, Cond.fieldLink RX1 18 "LevelScores$Plan" "weights" "[LLevelScores$Score;", Cond.methodLink RX1 60 yX1_allFit, Cond.instanceMethod yX1_allFit, Cond.selects RX1 yX1_allFit yX1_allFit, Cond.code yX1_allFit cX1_allFit 2 (some .boolean), Cond.fieldLink RX1 12 "LevelScores$Plan" "pattern" "LLevelScores$Score;", Cond.fieldLink RX1 68 "LevelScores$Score" "size" "I", Cond.methodLink RX1 71 yX1_fitsAt, Cond.instanceMethod yX1_fitsAt, Cond.selects RX1 yX1_fitsAt yX1_fitsAt, Cond.code yX1_fitsAt cX1_fitsAt 3 (some .boolean), Cond.fieldLink RX1 39 "LevelScores$Plan" "part" "LLevelScores$Wide;", Cond.fieldLink RX1 35 "LevelScores$Plan" "sum" "LLevelScores$Wide;", Cond.methodLink RX1 75 yX1_pricePart, Cond.instanceMethod yX1_pricePart, Cond.selects RX1 yX1_pricePart yX1_pricePart, Cond.code yX1_pricePart cX1_pricePart 3 none, Cond.fieldLink RX1 88 "LevelScores$Score" "levels" "[J", Cond.fieldLink RX1 22 "LevelScores$Plan" "counts" "[I", Cond.methodLink RX1 85 yX4_clear]
def wsX5_weight_r4 : List Cond := [Cond.instanceMethod yX4_clear, Cond.selects RX4 yX4_clear yX4_clear, Cond.initialized RX4, Cond.code yX4_clear cX4_clear 1 none, Cond.fieldLink RX4 7 "LevelScores$Wide" "high" "J", Cond.fieldLink RX4 13 "LevelScores$Wide" "low" "J", Cond.methodLink RX1 92 yX4_addProduct, Cond.instanceMethod yX4_addProduct, Cond.selects RX4 yX4_addProduct yX4_addProduct, Cond.code yX4_addProduct cX4_addProduct 9 none, Cond.constantLong RX4 16 (4294967295), Cond.methodLink RX1 79 yX4_fits, Cond.instanceMethod yX4_fits, Cond.selects RX4 yX4_fits yX4_fits, Cond.code yX4_fits cX4_fits 1 (some .boolean), Cond.constantLong RX4 29 (-2147483648), Cond.constantLong RX4 31 (2147483647), Cond.methodLink RX1 82 yX1_priceSum, Cond.instanceMethod yX1_priceSum, Cond.selects RX1 yX1_priceSum yX1_priceSum, Cond.code yX1_priceSum cX1_priceSum 3 none]
def wsX5_weight : List Cond := .code yX5_weight cX5_weight 4 (some .int) :: ((wsX5_weight_r1 ++ (wsX5_weight_r2 ++ (wsX5_weight_r3 ++ wsX5_weight_r4))) ++ wsX50 ++ wsX10 ++ wsX20 ++ wsX40)
def wsX5_total_r1 : List Cond := [Cond.fieldLink RX5 33 "LevelScores" "thePlan" "LLevelScores$Plan;", Cond.fieldLink RX5 11 "LevelScores" "scores" "[LLevelScores$Score;", Cond.fieldLink RX5 48 "LevelScores" "numbers" "I", Cond.methodLink RX5 155 yX1_hasRule, Cond.instanceMethod yX1_hasRule, Cond.selects RX1 yX1_hasRule yX1_hasRule, Cond.initialized RX1, Cond.code yX1_hasRule cX1_hasRule 2 (some .boolean), Cond.fieldLink RX1 50 "LevelScores$Plan" "rules" "I", Cond.methodLink RX5 44 yX5_isFull, Cond.instanceMethod yX5_isFull, Cond.selects RX5 yX5_isFull yX5_isFull, Cond.initialized RX5, Cond.code yX5_isFull cX5_isFull 1 (some .boolean), Cond.methodLink RX5 173 yX1_sumInto, Cond.instanceMethod yX1_sumInto, Cond.selects RX1 yX1_sumInto yX1_sumInto, Cond.code yX1_sumInto cX1_sumInto 3 none, Cond.fieldLink RX1 12 "LevelScores$Plan" "pattern" "LLevelScores$Score;", Cond.fieldLink RX1 68 "LevelScores$Score" "size" "I", Cond.fieldLink RX1 88 "LevelScores$Score" "levels" "[J", Cond.fieldLink RX1 35 "LevelScores$Plan" "sum" "LLevelScores$Wide;", Cond.methodLink RX1 46 yX2_formLike, Cond.instanceMethod yX2_formLike]
def wsX5_total_r2 : List Cond := [Cond.selects RX2 yX2_formLike yX2_formLike, Cond.initialized RX2, Cond.code yX2_formLike cX2_formLike 2 none, Cond.fieldLink RX2 9 "LevelScores$Score" "shape" "I", Cond.fieldLink RX2 19 "LevelScores$Score" "hard" "I", Cond.fieldLink RX2 22 "LevelScores$Score" "size" "I", Cond.methodLink RX2 25 yX2_form, Cond.instanceMethod yX2_form, Cond.selects RX2 yX2_form yX2_form, Cond.code yX2_form cX2_form 4 none, Cond.methodLink RX1 82 yX1_priceSum, Cond.instanceMethod yX1_priceSum, Cond.selects RX1 yX1_priceSum yX1_priceSum, Cond.code yX1_priceSum cX1_priceSum 3 none, Cond.fieldLink RX1 18 "LevelScores$Plan" "weights" "[LLevelScores$Score;", Cond.fieldLink RX1 22 "LevelScores$Plan" "counts" "[I", Cond.methodLink RX1 85 yX4_clear, Cond.instanceMethod yX4_clear, Cond.selects RX4 yX4_clear yX4_clear, Cond.initialized RX4, Cond.code yX4_clear cX4_clear 1 none, Cond.fieldLink RX4 7 "LevelScores$Wide" "high" "J", Cond.fieldLink RX4 13 "LevelScores$Wide" "low" "J", Cond.methodLink RX1 92 yX4_addProduct]
def wsX5_total_r3 : List Cond := [Cond.instanceMethod yX4_addProduct, Cond.selects RX4 yX4_addProduct yX4_addProduct, Cond.code yX4_addProduct cX4_addProduct 9 none, Cond.constantLong RX4 16 (4294967295), Cond.methodLink RX1 96 yX4_value, Cond.instanceMethod yX4_value, Cond.selects RX4 yX4_value yX4_value, Cond.code yX4_value cX4_value 1 (some .long), Cond.methodLink RX5 176 yX1_partInto, Cond.instanceMethod yX1_partInto, Cond.selects RX1 yX1_partInto yX1_partInto, Cond.code yX1_partInto cX1_partInto 4 none, Cond.fieldLink RX1 39 "LevelScores$Plan" "part" "LLevelScores$Wide;", Cond.methodLink RX1 75 yX1_pricePart, Cond.instanceMethod yX1_pricePart, Cond.selects RX1 yX1_pricePart yX1_pricePart, Cond.code yX1_pricePart cX1_pricePart 3 none, Cond.methodLink RX5 59 yX5_takeNumber, Cond.instanceMethod yX5_takeNumber, Cond.selects RX5 yX5_takeNumber yX5_takeNumber, Cond.code yX5_takeNumber cX5_takeNumber 1 (some .int)]
def wsX5_total : List Cond := .code yX5_total cX5_total 2 (some .int) :: ((wsX5_total_r1 ++ (wsX5_total_r2 ++ wsX5_total_r3)) ++ wsX50 ++ wsX10 ++ wsX20 ++ wsX40)
def wsX5_safe_r1 : List Cond := [Cond.fieldLink RX5 33 "LevelScores" "thePlan" "LLevelScores$Plan;", Cond.methodLink RX5 158 yX5_isCount, Cond.static yX5_isCount, Cond.initialized RX5, Cond.code yX5_isCount cX5_isCount 1 (some .boolean), Cond.constant RX5 195 (1000000), Cond.methodLink RX5 180 yX1_bears, Cond.instanceMethod yX1_bears, Cond.selects RX1 yX1_bears yX1_bears, Cond.initialized RX1, Cond.code yX1_bears cX1_bears 3 (some .boolean), Cond.fieldLink RX1 12 "LevelScores$Plan" "pattern" "LLevelScores$Score;", Cond.fieldLink RX1 68 "LevelScores$Score" "size" "I", Cond.methodLink RX1 100 yX1_bearsAt, Cond.instanceMethod yX1_bearsAt, Cond.selects RX1 yX1_bearsAt yX1_bearsAt, Cond.code yX1_bearsAt cX1_bearsAt 7 (some .boolean), Cond.fieldLink RX1 35 "LevelScores$Plan" "sum" "LLevelScores$Wide;", Cond.fieldLink RX1 50 "LevelScores$Plan" "rules" "I", Cond.fieldLink RX1 18 "LevelScores$Plan" "weights" "[LLevelScores$Score;", Cond.fieldLink RX1 88 "LevelScores$Score" "levels" "[J", Cond.methodLink RX1 85 yX4_clear, Cond.instanceMethod yX4_clear, Cond.selects RX4 yX4_clear yX4_clear]
def wsX5_safe_r2 : List Cond := [Cond.initialized RX4, Cond.code yX4_clear cX4_clear 1 none, Cond.fieldLink RX4 7 "LevelScores$Wide" "high" "J", Cond.fieldLink RX4 13 "LevelScores$Wide" "low" "J", Cond.methodLink RX1 92 yX4_addProduct, Cond.instanceMethod yX4_addProduct, Cond.selects RX4 yX4_addProduct yX4_addProduct, Cond.code yX4_addProduct cX4_addProduct 9 none, Cond.constantLong RX4 16 (4294967295), Cond.methodLink RX1 79 yX4_fits, Cond.instanceMethod yX4_fits, Cond.selects RX4 yX4_fits yX4_fits, Cond.code yX4_fits cX4_fits 1 (some .boolean), Cond.constantLong RX4 29 (-2147483648), Cond.constantLong RX4 31 (2147483647)]
def wsX5_safe : List Cond := .code yX5_safe cX5_safe 2 (some .int) :: ((wsX5_safe_r1 ++ wsX5_safe_r2) ++ wsX50 ++ wsX10 ++ wsX20 ++ wsX40)
def wsX5_keep_r1 : List Cond := [Cond.fieldLink RX5 11 "LevelScores" "scores" "[LLevelScores$Score;", Cond.fieldLink RX5 33 "LevelScores" "thePlan" "LLevelScores$Plan;", Cond.fieldLink RX5 148 "LevelScores$Plan" "pattern" "LLevelScores$Score;", Cond.methodLink RX5 63 yX5_isNumber, Cond.instanceMethod yX5_isNumber, Cond.selects RX5 yX5_isNumber yX5_isNumber, Cond.initialized RX5, Cond.code yX5_isNumber cX5_isNumber 2 (some .boolean), Cond.fieldLink RX5 48 "LevelScores" "numbers" "I", Cond.methodLink RX5 103 yX5_failureOfPair, Cond.static yX5_failureOfPair, Cond.code yX5_failureOfPair cX5_failureOfPair 2 (some .int), Cond.methodLink RX5 67 yX2_isNothing, Cond.instanceMethod yX2_isNothing, Cond.selects RX2 yX2_isNothing yX2_isNothing, Cond.initialized RX2, Cond.code yX2_isNothing cX2_isNothing 1 (some .boolean), Cond.fieldLink RX2 9 "LevelScores$Score" "shape" "I", Cond.methodLink RX5 196 yX2_isLike, Cond.instanceMethod yX2_isLike, Cond.selects RX2 yX2_isLike yX2_isLike, Cond.code yX2_isLike cX2_isLike 2 (some .boolean), Cond.fieldLink RX2 19 "LevelScores$Score" "hard" "I", Cond.fieldLink RX2 22 "LevelScores$Score" "size" "I"]
def wsX5_keep_r2 : List Cond := [Cond.methodLink RX5 183 yX1_admit, Cond.instanceMethod yX1_admit, Cond.selects RX1 yX1_admit yX1_admit, Cond.initialized RX1, Cond.code yX1_admit cX1_admit 5 (some .int), Cond.fieldLink RX1 54 "LevelScores$Plan" "held" "I", Cond.fieldLink RX1 26 "LevelScores$Plan" "best" "[LLevelScores$Score;", Cond.methodLink RX1 104 yX2_compareWith, Cond.instanceMethod yX2_compareWith, Cond.selects RX2 yX2_compareWith yX2_compareWith, Cond.code yX2_compareWith cX2_compareWith 3 (some .int), Cond.fieldLink RX2 15 "LevelScores$Score" "levels" "[J", Cond.methodLink RX1 57 yX2_copy, Cond.instanceMethod yX2_copy, Cond.selects RX2 yX2_copy yX2_copy, Cond.code yX2_copy cX2_copy 3 none, Cond.methodLink RX2 29 yX2_formLike, Cond.instanceMethod yX2_formLike, Cond.selects RX2 yX2_formLike yX2_formLike, Cond.code yX2_formLike cX2_formLike 2 none, Cond.methodLink RX2 25 yX2_form, Cond.instanceMethod yX2_form, Cond.selects RX2 yX2_form yX2_form, Cond.code yX2_form cX2_form 4 none]
def wsX5_keep : List Cond := .code yX5_keep cX5_keep 3 (some .int) :: ((wsX5_keep_r1 ++ wsX5_keep_r2) ++ wsX50 ++ wsX10 ++ wsX20)
def wsX5_kept_r1 : List Cond := [Cond.fieldLink RX5 33 "LevelScores" "thePlan" "LLevelScores$Plan;", Cond.fieldLink RX5 186 "LevelScores$Plan" "held" "I", Cond.fieldLink RX5 11 "LevelScores" "scores" "[LLevelScores$Score;", Cond.fieldLink RX5 48 "LevelScores" "numbers" "I", Cond.fieldLink RX5 189 "LevelScores$Plan" "best" "[LLevelScores$Score;", Cond.methodLink RX5 44 yX5_isFull, Cond.instanceMethod yX5_isFull, Cond.selects RX5 yX5_isFull yX5_isFull, Cond.initialized RX5, Cond.code yX5_isFull cX5_isFull 1 (some .boolean), Cond.methodLink RX5 192 yX2_copy, Cond.instanceMethod yX2_copy, Cond.selects RX2 yX2_copy yX2_copy, Cond.initialized RX2, Cond.code yX2_copy cX2_copy 3 none, Cond.fieldLink RX2 22 "LevelScores$Score" "size" "I", Cond.fieldLink RX2 15 "LevelScores$Score" "levels" "[J", Cond.methodLink RX2 29 yX2_formLike, Cond.instanceMethod yX2_formLike, Cond.selects RX2 yX2_formLike yX2_formLike, Cond.code yX2_formLike cX2_formLike 2 none, Cond.fieldLink RX2 9 "LevelScores$Score" "shape" "I", Cond.fieldLink RX2 19 "LevelScores$Score" "hard" "I", Cond.methodLink RX2 25 yX2_form]
def wsX5_kept_r2 : List Cond := [Cond.instanceMethod yX2_form, Cond.selects RX2 yX2_form yX2_form, Cond.code yX2_form cX2_form 4 none, Cond.methodLink RX5 59 yX5_takeNumber, Cond.instanceMethod yX5_takeNumber, Cond.selects RX5 yX5_takeNumber yX5_takeNumber, Cond.code yX5_takeNumber cX5_takeNumber 1 (some .int)]
def wsX5_kept : List Cond := .code yX5_kept cX5_kept 2 (some .int) :: ((wsX5_kept_r1 ++ wsX5_kept_r2) ++ wsX50 ++ wsX10 ++ wsX20)
def wsX5_many : List Cond := .code yX5_many cX5_many 2 (some .int) :: ([.fieldLink RX5 48 "LevelScores" "numbers" "I", .fieldLink RX5 33 "LevelScores" "thePlan" "LLevelScores$Plan;", .fieldLink RX5 142 "LevelScores$Plan" "rules" "I", .fieldLink RX5 186 "LevelScores$Plan" "held" "I", .fieldLink RX5 19 "LevelScores" "tape" "LLevelScores$Tape;", .fieldLink RX5 119 "LevelScores$Tape" "length" "I", .fieldLink RX5 26 "LevelScores" "page" "LLevelScores$Page;", .fieldLink RX5 137 "LevelScores$Page" "length" "I"] ++ wsX50 ++ wsX10 ++ wsX30 ++ wsX00)
def wsX5_drop : List Cond := .code yX5_drop cX5_drop 1 (some .int) :: ([.fieldLink RX5 48 "LevelScores" "numbers" "I"] ++ wsX50)
def wsX6_init : List Cond := .code yX6_init cX6_init 1 none :: ([.methodLink RX6 1 objectInit, .instanceMethod objectInit, .code objectInit ⟨#[0xb1]⟩ 1 none, .arrayClass .int, .fieldLink RX6 7 "LevelScoresModel" "shapes" "[I", .fieldLink RX6 13 "LevelScoresModel" "hards" "[I", .fieldLink RX6 16 "LevelScoresModel" "sizes" "[I", .arrayClass .long, .fieldLink RX6 19 "LevelScoresModel" "levels" "[J", .fieldLink RX6 23 "LevelScoresModel" "planSize" "I", .fieldLink RX6 27 "LevelScoresModel" "weights" "[J", .fieldLink RX6 30 "LevelScoresModel" "counts" "[I", .fieldLink RX6 33 "LevelScoresModel" "keeps" "[J", .fieldLink RX6 36 "LevelScoresModel" "tape" "[I", .fieldLink RX6 39 "LevelScoresModel" "out" "[I", .fieldLink RX6 42 "LevelScoresModel" "had" "[J"] ++ wsX60)
def wsX6_in : List Cond := .code yX6_in cX6_in 6 (some .boolean) :: ([])
def wsX6_isNumber : List Cond := .code yX6_isNumber cX6_isNumber 2 (some .boolean) :: ([.fieldLink RX6 45 "LevelScoresModel" "scores" "I", .methodLink RX6 48 yX6_in, .static yX6_in, .initialized RX6, .code yX6_in cX6_in 6 (some .boolean)] ++ wsX60)
def wsX6_isNothing : List Cond := .code yX6_isNothing cX6_isNothing 2 (some .boolean) :: ([.fieldLink RX6 7 "LevelScoresModel" "shapes" "[I"] ++ wsX60)
def wsX6_areLike : List Cond := .code yX6_areLike cX6_areLike 3 (some .boolean) :: ([.fieldLink RX6 7 "LevelScoresModel" "shapes" "[I", .fieldLink RX6 13 "LevelScoresModel" "hards" "[I", .fieldLink RX6 16 "LevelScoresModel" "sizes" "[I"] ++ wsX60)
def wsX6_isLikePlan : List Cond := .code yX6_isLikePlan cX6_isLikePlan 2 (some .boolean) :: ([.fieldLink RX6 7 "LevelScoresModel" "shapes" "[I", .fieldLink RX6 52 "LevelScoresModel" "planShape" "I", .fieldLink RX6 13 "LevelScoresModel" "hards" "[I", .fieldLink RX6 55 "LevelScoresModel" "planHard" "I", .fieldLink RX6 16 "LevelScoresModel" "sizes" "[I", .fieldLink RX6 23 "LevelScoresModel" "planSize" "I"] ++ wsX60)
def wsX6_lay : List Cond := .code yX6_lay cX6_lay 5 none :: ([.fieldLink RX6 7 "LevelScoresModel" "shapes" "[I", .fieldLink RX6 45 "LevelScoresModel" "scores" "I", .fieldLink RX6 13 "LevelScoresModel" "hards" "[I", .fieldLink RX6 16 "LevelScoresModel" "sizes" "[I", .fieldLink RX6 19 "LevelScoresModel" "levels" "[J"] ++ wsX60)
def wsX6_keepScore : List Cond := .code yX6_keepScore cX6_keepScore 1 (some .int) :: ([.fieldLink RX6 45 "LevelScoresModel" "scores" "I"] ++ wsX60)
def wsX6_make : List Cond := .code yX6_make cX6_make 4 (some .int) :: ([.constantLong RX6 58 (3), .fieldLink RX6 45 "LevelScoresModel" "scores" "I", .methodLink RX6 48 yX6_in, .static yX6_in, .initialized RX6, .code yX6_in cX6_in 6 (some .boolean), .methodLink RX6 60 yX6_lay, .instanceMethod yX6_lay, .selects RX6 yX6_lay yX6_lay, .code yX6_lay cX6_lay 5 none, .fieldLink RX6 7 "LevelScoresModel" "shapes" "[I", .fieldLink RX6 13 "LevelScoresModel" "hards" "[I", .fieldLink RX6 16 "LevelScoresModel" "sizes" "[I", .fieldLink RX6 19 "LevelScoresModel" "levels" "[J", .methodLink RX6 64 yX6_keepScore, .instanceMethod yX6_keepScore, .selects RX6 yX6_keepScore yX6_keepScore, .code yX6_keepScore cX6_keepScore 1 (some .int)] ++ wsX60)
def wsX6_nothing : List Cond := .code yX6_nothing cX6_nothing 1 (some .int) :: ([.fieldLink RX6 45 "LevelScoresModel" "scores" "I", .methodLink RX6 60 yX6_lay, .instanceMethod yX6_lay, .selects RX6 yX6_lay yX6_lay, .initialized RX6, .code yX6_lay cX6_lay 5 none, .fieldLink RX6 7 "LevelScoresModel" "shapes" "[I", .fieldLink RX6 13 "LevelScoresModel" "hards" "[I", .fieldLink RX6 16 "LevelScoresModel" "sizes" "[I", .fieldLink RX6 19 "LevelScoresModel" "levels" "[J", .methodLink RX6 64 yX6_keepScore, .instanceMethod yX6_keepScore, .selects RX6 yX6_keepScore yX6_keepScore, .code yX6_keepScore cX6_keepScore 1 (some .int)] ++ wsX60)
def wsX6_set : List Cond := .code yX6_set cX6_set 5 (some .int) :: ([.fieldLink RX6 16 "LevelScoresModel" "sizes" "[I", .fieldLink RX6 19 "LevelScoresModel" "levels" "[J", .methodLink RX6 68 yX6_isNumber, .instanceMethod yX6_isNumber, .selects RX6 yX6_isNumber yX6_isNumber, .initialized RX6, .code yX6_isNumber cX6_isNumber 2 (some .boolean), .fieldLink RX6 45 "LevelScoresModel" "scores" "I", .methodLink RX6 48 yX6_in, .static yX6_in, .code yX6_in cX6_in 6 (some .boolean), .methodLink RX6 72 yX6_isNothing, .instanceMethod yX6_isNothing, .selects RX6 yX6_isNothing yX6_isNothing, .code yX6_isNothing cX6_isNothing 2 (some .boolean), .fieldLink RX6 7 "LevelScoresModel" "shapes" "[I"] ++ wsX60)
def wsX6_thrown : List Cond := .code yX6_thrown cX6_thrown 1 (some .int) :: ([.fieldLink RX6 75 "LevelScoresModel" "thrown" "I"] ++ wsX60)
def wsX6_at : List Cond := .code yX6_at cX6_at 3 (some .long) :: ([.fieldLink RX6 16 "LevelScoresModel" "sizes" "[I", .fieldLink RX6 75 "LevelScoresModel" "thrown" "I", .fieldLink RX6 19 "LevelScoresModel" "levels" "[J", .methodLink RX6 68 yX6_isNumber, .instanceMethod yX6_isNumber, .selects RX6 yX6_isNumber yX6_isNumber, .initialized RX6, .code yX6_isNumber cX6_isNumber 2 (some .boolean), .fieldLink RX6 45 "LevelScoresModel" "scores" "I", .methodLink RX6 48 yX6_in, .static yX6_in, .code yX6_in cX6_in 6 (some .boolean), .methodLink RX6 72 yX6_isNothing, .instanceMethod yX6_isNothing, .selects RX6 yX6_isNothing yX6_isNothing, .code yX6_isNothing cX6_isNothing 2 (some .boolean), .fieldLink RX6 7 "LevelScoresModel" "shapes" "[I"] ++ wsX60)
def wsX6_told : List Cond := .code yX6_told cX6_told 5 (some .int) :: ([.constantLong RX6 58 (3), .fieldLink RX6 13 "LevelScoresModel" "hards" "[I", .fieldLink RX6 19 "LevelScoresModel" "levels" "[J", .fieldLink RX6 7 "LevelScoresModel" "shapes" "[I", .fieldLink RX6 16 "LevelScoresModel" "sizes" "[I", .methodLink RX6 68 yX6_isNumber, .instanceMethod yX6_isNumber, .selects RX6 yX6_isNumber yX6_isNumber, .initialized RX6, .code yX6_isNumber cX6_isNumber 2 (some .boolean), .fieldLink RX6 45 "LevelScoresModel" "scores" "I", .methodLink RX6 48 yX6_in, .static yX6_in, .code yX6_in cX6_in 6 (some .boolean), .methodLink RX6 72 yX6_isNothing, .instanceMethod yX6_isNothing, .selects RX6 yX6_isNothing yX6_isNothing, .code yX6_isNothing cX6_isNothing 2 (some .boolean)] ++ wsX60)
def wsX6_zero : List Cond := .code yX6_zero cX6_zero 1 none :: ([.fieldLink RX6 78 "LevelScoresModel" "high" "J", .fieldLink RX6 82 "LevelScoresModel" "low" "J"] ++ wsX60)
def wsX6_add : List Cond := .code yX6_add cX6_add 5 none :: ([.fieldLink RX6 78 "LevelScoresModel" "high" "J", .fieldLink RX6 82 "LevelScoresModel" "low" "J", .constantLong RX6 85 (4294967295)] ++ wsX60)
def wsX6_fits : List Cond := .code yX6_fits cX6_fits 1 (some .boolean) :: ([.fieldLink RX6 78 "LevelScoresModel" "high" "J", .constantLong RX6 87 (-2147483648), .constantLong RX6 89 (2147483647), .methodLink RX6 48 yX6_in, .static yX6_in, .initialized RX6, .code yX6_in cX6_in 6 (some .boolean)] ++ wsX60)
def wsX6_number : List Cond := .code yX6_number cX6_number 1 (some .long) :: ([.fieldLink RX6 78 "LevelScoresModel" "high" "J", .fieldLink RX6 82 "LevelScoresModel" "low" "J"] ++ wsX60)
def wsX6_compare : List Cond := .code yX6_compare cX6_compare 7 (some .int) :: ([])
def wsX6_refusal : List Cond := .code yX6_refusal cX6_refusal 3 (some .int) :: ([.methodLink RX6 72 yX6_isNothing, .instanceMethod yX6_isNothing, .selects RX6 yX6_isNothing yX6_isNothing, .initialized RX6, .code yX6_isNothing cX6_isNothing 2 (some .boolean), .fieldLink RX6 7 "LevelScoresModel" "shapes" "[I", .methodLink RX6 91 yX6_areLike, .instanceMethod yX6_areLike, .selects RX6 yX6_areLike yX6_areLike, .code yX6_areLike cX6_areLike 3 (some .boolean), .fieldLink RX6 13 "LevelScoresModel" "hards" "[I", .fieldLink RX6 16 "LevelScoresModel" "sizes" "[I"] ++ wsX60)
def wsX6_act_r1 : List Cond := [Cond.constantLong RX6 95 (5), Cond.fieldLink RX6 45 "LevelScoresModel" "scores" "I", Cond.fieldLink RX6 7 "LevelScoresModel" "shapes" "[I", Cond.fieldLink RX6 13 "LevelScoresModel" "hards" "[I", Cond.fieldLink RX6 16 "LevelScoresModel" "sizes" "[I", Cond.fieldLink RX6 19 "LevelScoresModel" "levels" "[J", Cond.constantLong RX6 112 (-1), Cond.methodLink RX6 68 yX6_isNumber, Cond.instanceMethod yX6_isNumber, Cond.selects RX6 yX6_isNumber yX6_isNumber, Cond.initialized RX6, Cond.code yX6_isNumber cX6_isNumber 2 (some .boolean), Cond.methodLink RX6 48 yX6_in, Cond.static yX6_in, Cond.code yX6_in cX6_in 6 (some .boolean), Cond.methodLink RX6 97 yX6_refusal, Cond.instanceMethod yX6_refusal, Cond.selects RX6 yX6_refusal yX6_refusal, Cond.code yX6_refusal cX6_refusal 3 (some .int), Cond.methodLink RX6 72 yX6_isNothing, Cond.instanceMethod yX6_isNothing, Cond.selects RX6 yX6_isNothing yX6_isNothing, Cond.code yX6_isNothing cX6_isNothing 2 (some .boolean), Cond.methodLink RX6 91 yX6_areLike]
def wsX6_act_r2 : List Cond := [Cond.instanceMethod yX6_areLike, Cond.selects RX6 yX6_areLike yX6_areLike, Cond.code yX6_areLike cX6_areLike 3 (some .boolean), Cond.methodLink RX6 60 yX6_lay, Cond.instanceMethod yX6_lay, Cond.selects RX6 yX6_lay yX6_lay, Cond.code yX6_lay cX6_lay 5 none, Cond.methodLink RX6 101 yX6_compare, Cond.instanceMethod yX6_compare, Cond.selects RX6 yX6_compare yX6_compare, Cond.code yX6_compare cX6_compare 7 (some .int), Cond.methodLink RX6 105 yX6_zero, Cond.instanceMethod yX6_zero, Cond.selects RX6 yX6_zero yX6_zero, Cond.code yX6_zero cX6_zero 1 none, Cond.fieldLink RX6 78 "LevelScoresModel" "high" "J", Cond.fieldLink RX6 82 "LevelScoresModel" "low" "J", Cond.methodLink RX6 108 yX6_add, Cond.instanceMethod yX6_add, Cond.selects RX6 yX6_add yX6_add, Cond.code yX6_add cX6_add 5 none, Cond.constantLong RX6 85 (4294967295), Cond.methodLink RX6 114 yX6_fits, Cond.instanceMethod yX6_fits]
def wsX6_act_r3 : List Cond := [Cond.selects RX6 yX6_fits yX6_fits, Cond.code yX6_fits cX6_fits 1 (some .boolean), Cond.constantLong RX6 87 (-2147483648), Cond.constantLong RX6 89 (2147483647), Cond.methodLink RX6 118 yX6_number, Cond.instanceMethod yX6_number, Cond.selects RX6 yX6_number yX6_number, Cond.code yX6_number cX6_number 1 (some .long), Cond.methodLink RX6 64 yX6_keepScore, Cond.instanceMethod yX6_keepScore, Cond.selects RX6 yX6_keepScore yX6_keepScore, Cond.code yX6_keepScore cX6_keepScore 1 (some .int)]
def wsX6_act : List Cond := .code yX6_act cX6_act 14 (some .int) :: ((wsX6_act_r1 ++ (wsX6_act_r2 ++ wsX6_act_r3)) ++ wsX60)
def wsX6_times_r1 : List Cond := [Cond.fieldLink RX6 45 "LevelScoresModel" "scores" "I", Cond.fieldLink RX6 7 "LevelScoresModel" "shapes" "[I", Cond.fieldLink RX6 13 "LevelScoresModel" "hards" "[I", Cond.fieldLink RX6 16 "LevelScoresModel" "sizes" "[I", Cond.fieldLink RX6 19 "LevelScoresModel" "levels" "[J", Cond.methodLink RX6 68 yX6_isNumber, Cond.instanceMethod yX6_isNumber, Cond.selects RX6 yX6_isNumber yX6_isNumber, Cond.initialized RX6, Cond.code yX6_isNumber cX6_isNumber 2 (some .boolean), Cond.methodLink RX6 48 yX6_in, Cond.static yX6_in, Cond.code yX6_in cX6_in 6 (some .boolean), Cond.methodLink RX6 72 yX6_isNothing, Cond.instanceMethod yX6_isNothing, Cond.selects RX6 yX6_isNothing yX6_isNothing, Cond.code yX6_isNothing cX6_isNothing 2 (some .boolean), Cond.methodLink RX6 60 yX6_lay, Cond.instanceMethod yX6_lay, Cond.selects RX6 yX6_lay yX6_lay, Cond.code yX6_lay cX6_lay 5 none, Cond.methodLink RX6 105 yX6_zero, Cond.instanceMethod yX6_zero, Cond.selects RX6 yX6_zero yX6_zero]
def wsX6_times_r2 : List Cond := [Cond.code yX6_zero cX6_zero 1 none, Cond.fieldLink RX6 78 "LevelScoresModel" "high" "J", Cond.fieldLink RX6 82 "LevelScoresModel" "low" "J", Cond.methodLink RX6 108 yX6_add, Cond.instanceMethod yX6_add, Cond.selects RX6 yX6_add yX6_add, Cond.code yX6_add cX6_add 5 none, Cond.constantLong RX6 85 (4294967295), Cond.methodLink RX6 114 yX6_fits, Cond.instanceMethod yX6_fits, Cond.selects RX6 yX6_fits yX6_fits, Cond.code yX6_fits cX6_fits 1 (some .boolean), Cond.constantLong RX6 87 (-2147483648), Cond.constantLong RX6 89 (2147483647), Cond.methodLink RX6 118 yX6_number, Cond.instanceMethod yX6_number, Cond.selects RX6 yX6_number yX6_number, Cond.code yX6_number cX6_number 1 (some .long), Cond.methodLink RX6 64 yX6_keepScore, Cond.instanceMethod yX6_keepScore, Cond.selects RX6 yX6_keepScore yX6_keepScore, Cond.code yX6_keepScore cX6_keepScore 1 (some .int)]
def wsX6_times : List Cond := .code yX6_times cX6_times 19 (some .int) :: ((wsX6_times_r1 ++ wsX6_times_r2) ++ wsX60)
def wsX6_order_r1 : List Cond := [Cond.fieldLink RX6 19 "LevelScoresModel" "levels" "[J", Cond.fieldLink RX6 16 "LevelScoresModel" "sizes" "[I", Cond.methodLink RX6 68 yX6_isNumber, Cond.instanceMethod yX6_isNumber, Cond.selects RX6 yX6_isNumber yX6_isNumber, Cond.initialized RX6, Cond.code yX6_isNumber cX6_isNumber 2 (some .boolean), Cond.fieldLink RX6 45 "LevelScoresModel" "scores" "I", Cond.methodLink RX6 48 yX6_in, Cond.static yX6_in, Cond.code yX6_in cX6_in 6 (some .boolean), Cond.methodLink RX6 97 yX6_refusal, Cond.instanceMethod yX6_refusal, Cond.selects RX6 yX6_refusal yX6_refusal, Cond.code yX6_refusal cX6_refusal 3 (some .int), Cond.methodLink RX6 72 yX6_isNothing, Cond.instanceMethod yX6_isNothing, Cond.selects RX6 yX6_isNothing yX6_isNothing, Cond.code yX6_isNothing cX6_isNothing 2 (some .boolean), Cond.fieldLink RX6 7 "LevelScoresModel" "shapes" "[I", Cond.methodLink RX6 91 yX6_areLike, Cond.instanceMethod yX6_areLike, Cond.selects RX6 yX6_areLike yX6_areLike, Cond.code yX6_areLike cX6_areLike 3 (some .boolean)]
def wsX6_order_r2 : List Cond := [Cond.fieldLink RX6 13 "LevelScoresModel" "hards" "[I", Cond.methodLink RX6 101 yX6_compare, Cond.instanceMethod yX6_compare, Cond.selects RX6 yX6_compare yX6_compare, Cond.code yX6_compare cX6_compare 7 (some .int)]
def wsX6_order : List Cond := .code yX6_order cX6_order 4 (some .int) :: ((wsX6_order_r1 ++ wsX6_order_r2) ++ wsX60)
def wsX6_put : List Cond := .code yX6_put cX6_put 2 (some .int) :: ([.constantLong RX6 122 (127), .fieldLink RX6 124 "LevelScoresModel" "tapeSize" "I", .fieldLink RX6 36 "LevelScoresModel" "tape" "[I", .methodLink RX6 48 yX6_in, .static yX6_in, .initialized RX6, .code yX6_in cX6_in 6 (some .boolean)] ++ wsX60)
def wsX6_here : List Cond := .code yX6_here cX6_here 1 (some .int) :: ([.fieldLink RX6 127 "LevelScoresModel" "place" "I", .fieldLink RX6 124 "LevelScoresModel" "tapeSize" "I", .fieldLink RX6 36 "LevelScoresModel" "tape" "[I"] ++ wsX60)
def wsX6_isFigure : List Cond := .code yX6_isFigure cX6_isFigure 1 (some .boolean) :: ([.constantLong RX6 133 (48), .constantLong RX6 135 (57), .methodLink RX6 130 yX6_here, .instanceMethod yX6_here, .selects RX6 yX6_here yX6_here, .initialized RX6, .code yX6_here cX6_here 1 (some .int), .fieldLink RX6 127 "LevelScoresModel" "place" "I", .fieldLink RX6 124 "LevelScoresModel" "tapeSize" "I", .fieldLink RX6 36 "LevelScoresModel" "tape" "[I", .methodLink RX6 48 yX6_in, .static yX6_in, .code yX6_in cX6_in 6 (some .boolean)] ++ wsX60)
def wsX6_take : List Cond := .code yX6_take cX6_take 2 none :: ([.fieldLink RX6 137 "LevelScoresModel" "stuck" "Z", .fieldLink RX6 127 "LevelScoresModel" "place" "I", .methodLink RX6 130 yX6_here, .instanceMethod yX6_here, .selects RX6 yX6_here yX6_here, .initialized RX6, .code yX6_here cX6_here 1 (some .int), .fieldLink RX6 124 "LevelScoresModel" "tapeSize" "I", .fieldLink RX6 36 "LevelScoresModel" "tape" "[I"] ++ wsX60)
def wsX6_letter : List Cond := .code yX6_letter cX6_letter 2 (some .long) :: ([])
def wsX6_word : List Cond := .code yX6_word cX6_word 6 none :: ([.constantLong RX6 122 (127), .methodLink RX6 141 yX6_letter, .static yX6_letter, .initialized RX6, .code yX6_letter cX6_letter 2 (some .long), .methodLink RX6 145 yX6_take, .instanceMethod yX6_take, .selects RX6 yX6_take yX6_take, .code yX6_take cX6_take 2 none, .fieldLink RX6 137 "LevelScoresModel" "stuck" "Z", .fieldLink RX6 127 "LevelScoresModel" "place" "I", .methodLink RX6 130 yX6_here, .instanceMethod yX6_here, .selects RX6 yX6_here yX6_here, .code yX6_here cX6_here 1 (some .int), .fieldLink RX6 124 "LevelScoresModel" "tapeSize" "I", .fieldLink RX6 36 "LevelScoresModel" "tape" "[I"] ++ wsX60)
def wsX6_figure : List Cond := .code yX6_figure cX6_figure 7 none :: ([.fieldLink RX6 137 "LevelScoresModel" "stuck" "Z", .fieldLink RX6 127 "LevelScoresModel" "place" "I", .constantLong RX6 152 (-922337203685477580), .constantLong RX6 154 (10), .fieldLink RX6 156 "LevelScoresModel" "read" "J", .methodLink RX6 130 yX6_here, .instanceMethod yX6_here, .selects RX6 yX6_here yX6_here, .initialized RX6, .code yX6_here cX6_here 1 (some .int), .fieldLink RX6 124 "LevelScoresModel" "tapeSize" "I", .fieldLink RX6 36 "LevelScoresModel" "tape" "[I", .methodLink RX6 149 yX6_isFigure, .instanceMethod yX6_isFigure, .selects RX6 yX6_isFigure yX6_isFigure, .code yX6_isFigure cX6_isFigure 1 (some .boolean), .constantLong RX6 133 (48), .constantLong RX6 135 (57), .methodLink RX6 48 yX6_in, .static yX6_in, .code yX6_in cX6_in 6 (some .boolean)] ++ wsX60)
def wsX6_level : List Cond := .code yX6_level cX6_level 2 none :: ([.fieldLink RX6 137 "LevelScoresModel" "stuck" "Z", .fieldLink RX6 19 "LevelScoresModel" "levels" "[J", .fieldLink RX6 45 "LevelScoresModel" "scores" "I", .fieldLink RX6 156 "LevelScoresModel" "read" "J"] ++ wsX60)
def wsX6_row_r1 : List Cond := [Cond.fieldLink RX6 137 "LevelScoresModel" "stuck" "Z", Cond.fieldLink RX6 127 "LevelScoresModel" "place" "I", Cond.methodLink RX6 130 yX6_here, Cond.instanceMethod yX6_here, Cond.selects RX6 yX6_here yX6_here, Cond.initialized RX6, Cond.code yX6_here cX6_here 1 (some .int), Cond.fieldLink RX6 124 "LevelScoresModel" "tapeSize" "I", Cond.fieldLink RX6 36 "LevelScoresModel" "tape" "[I", Cond.methodLink RX6 159 yX6_figure, Cond.instanceMethod yX6_figure, Cond.selects RX6 yX6_figure yX6_figure, Cond.code yX6_figure cX6_figure 7 none, Cond.constantLong RX6 152 (-922337203685477580), Cond.constantLong RX6 154 (10), Cond.fieldLink RX6 156 "LevelScoresModel" "read" "J", Cond.methodLink RX6 149 yX6_isFigure, Cond.instanceMethod yX6_isFigure, Cond.selects RX6 yX6_isFigure yX6_isFigure, Cond.code yX6_isFigure cX6_isFigure 1 (some .boolean), Cond.constantLong RX6 133 (48), Cond.constantLong RX6 135 (57), Cond.methodLink RX6 48 yX6_in, Cond.static yX6_in]
def wsX6_row_r2 : List Cond := [Cond.code yX6_in cX6_in 6 (some .boolean), Cond.methodLink RX6 162 yX6_level, Cond.instanceMethod yX6_level, Cond.selects RX6 yX6_level yX6_level, Cond.code yX6_level cX6_level 2 none, Cond.fieldLink RX6 19 "LevelScoresModel" "levels" "[J", Cond.fieldLink RX6 45 "LevelScoresModel" "scores" "I"]
def wsX6_row : List Cond := .code yX6_row cX6_row 3 (some .int) :: ((wsX6_row_r1 ++ wsX6_row_r2) ++ wsX60)
def wsX6_bent_r1 : List Cond := [Cond.fieldLink RX6 137 "LevelScoresModel" "stuck" "Z", Cond.fieldLink RX6 7 "LevelScoresModel" "shapes" "[I", Cond.fieldLink RX6 45 "LevelScoresModel" "scores" "I", Cond.fieldLink RX6 13 "LevelScoresModel" "hards" "[I", Cond.fieldLink RX6 16 "LevelScoresModel" "sizes" "[I", Cond.methodLink RX6 145 yX6_take, Cond.instanceMethod yX6_take, Cond.selects RX6 yX6_take yX6_take, Cond.initialized RX6, Cond.code yX6_take cX6_take 2 none, Cond.fieldLink RX6 127 "LevelScoresModel" "place" "I", Cond.methodLink RX6 130 yX6_here, Cond.instanceMethod yX6_here, Cond.selects RX6 yX6_here yX6_here, Cond.code yX6_here cX6_here 1 (some .int), Cond.fieldLink RX6 124 "LevelScoresModel" "tapeSize" "I", Cond.fieldLink RX6 36 "LevelScoresModel" "tape" "[I", Cond.methodLink RX6 165 yX6_row, Cond.instanceMethod yX6_row, Cond.selects RX6 yX6_row yX6_row, Cond.code yX6_row cX6_row 3 (some .int), Cond.methodLink RX6 159 yX6_figure, Cond.instanceMethod yX6_figure, Cond.selects RX6 yX6_figure yX6_figure]
def wsX6_bent_r2 : List Cond := [Cond.code yX6_figure cX6_figure 7 none, Cond.constantLong RX6 152 (-922337203685477580), Cond.constantLong RX6 154 (10), Cond.fieldLink RX6 156 "LevelScoresModel" "read" "J", Cond.methodLink RX6 149 yX6_isFigure, Cond.instanceMethod yX6_isFigure, Cond.selects RX6 yX6_isFigure yX6_isFigure, Cond.code yX6_isFigure cX6_isFigure 1 (some .boolean), Cond.constantLong RX6 133 (48), Cond.constantLong RX6 135 (57), Cond.methodLink RX6 48 yX6_in, Cond.static yX6_in, Cond.code yX6_in cX6_in 6 (some .boolean), Cond.methodLink RX6 162 yX6_level, Cond.instanceMethod yX6_level, Cond.selects RX6 yX6_level yX6_level, Cond.code yX6_level cX6_level 2 none, Cond.fieldLink RX6 19 "LevelScoresModel" "levels" "[J", Cond.methodLink RX6 169 yX6_word, Cond.instanceMethod yX6_word, Cond.selects RX6 yX6_word yX6_word, Cond.code yX6_word cX6_word 6 none, Cond.constantLong RX6 122 (127), Cond.methodLink RX6 141 yX6_letter]
def wsX6_bent_r3 : List Cond := [Cond.static yX6_letter, Cond.code yX6_letter cX6_letter 2 (some .long)]
def wsX6_bent : List Cond := .code yX6_bent cX6_bent 3 none :: ((wsX6_bent_r1 ++ (wsX6_bent_r2 ++ wsX6_bent_r3)) ++ wsX60)
def wsX6_plain_r1 : List Cond := [Cond.fieldLink RX6 137 "LevelScoresModel" "stuck" "Z", Cond.fieldLink RX6 127 "LevelScoresModel" "place" "I", Cond.fieldLink RX6 124 "LevelScoresModel" "tapeSize" "I", Cond.fieldLink RX6 7 "LevelScoresModel" "shapes" "[I", Cond.fieldLink RX6 45 "LevelScoresModel" "scores" "I", Cond.fieldLink RX6 13 "LevelScoresModel" "hards" "[I", Cond.fieldLink RX6 16 "LevelScoresModel" "sizes" "[I", Cond.methodLink RX6 159 yX6_figure, Cond.instanceMethod yX6_figure, Cond.selects RX6 yX6_figure yX6_figure, Cond.initialized RX6, Cond.code yX6_figure cX6_figure 7 none, Cond.constantLong RX6 152 (-922337203685477580), Cond.constantLong RX6 154 (10), Cond.fieldLink RX6 156 "LevelScoresModel" "read" "J", Cond.methodLink RX6 130 yX6_here, Cond.instanceMethod yX6_here, Cond.selects RX6 yX6_here yX6_here, Cond.code yX6_here cX6_here 1 (some .int), Cond.fieldLink RX6 36 "LevelScoresModel" "tape" "[I", Cond.methodLink RX6 149 yX6_isFigure, Cond.instanceMethod yX6_isFigure, Cond.selects RX6 yX6_isFigure yX6_isFigure, Cond.code yX6_isFigure cX6_isFigure 1 (some .boolean)]
def wsX6_plain_r2 : List Cond := [Cond.constantLong RX6 133 (48), Cond.constantLong RX6 135 (57), Cond.methodLink RX6 48 yX6_in, Cond.static yX6_in, Cond.code yX6_in cX6_in 6 (some .boolean), Cond.methodLink RX6 162 yX6_level, Cond.instanceMethod yX6_level, Cond.selects RX6 yX6_level yX6_level, Cond.code yX6_level cX6_level 2 none, Cond.fieldLink RX6 19 "LevelScoresModel" "levels" "[J", Cond.methodLink RX6 169 yX6_word, Cond.instanceMethod yX6_word, Cond.selects RX6 yX6_word yX6_word, Cond.code yX6_word cX6_word 6 none, Cond.constantLong RX6 122 (127), Cond.methodLink RX6 141 yX6_letter, Cond.static yX6_letter, Cond.code yX6_letter cX6_letter 2 (some .long), Cond.methodLink RX6 145 yX6_take, Cond.instanceMethod yX6_take, Cond.selects RX6 yX6_take yX6_take, Cond.code yX6_take cX6_take 2 none]
def wsX6_plain : List Cond := .code yX6_plain cX6_plain 2 none :: ((wsX6_plain_r1 ++ wsX6_plain_r2) ++ wsX60)
def wsX6_read_r1 : List Cond := [Cond.fieldLink RX6 45 "LevelScoresModel" "scores" "I", Cond.fieldLink RX6 124 "LevelScoresModel" "tapeSize" "I", Cond.fieldLink RX6 127 "LevelScoresModel" "place" "I", Cond.fieldLink RX6 137 "LevelScoresModel" "stuck" "Z", Cond.fieldLink RX6 16 "LevelScoresModel" "sizes" "[I", Cond.methodLink RX6 60 yX6_lay, Cond.instanceMethod yX6_lay, Cond.selects RX6 yX6_lay yX6_lay, Cond.initialized RX6, Cond.code yX6_lay cX6_lay 5 none, Cond.fieldLink RX6 7 "LevelScoresModel" "shapes" "[I", Cond.fieldLink RX6 13 "LevelScoresModel" "hards" "[I", Cond.fieldLink RX6 19 "LevelScoresModel" "levels" "[J", Cond.methodLink RX6 130 yX6_here, Cond.instanceMethod yX6_here, Cond.selects RX6 yX6_here yX6_here, Cond.code yX6_here cX6_here 1 (some .int), Cond.fieldLink RX6 36 "LevelScoresModel" "tape" "[I", Cond.methodLink RX6 172 yX6_bent, Cond.instanceMethod yX6_bent, Cond.selects RX6 yX6_bent yX6_bent, Cond.code yX6_bent cX6_bent 3 none, Cond.methodLink RX6 145 yX6_take, Cond.instanceMethod yX6_take]
def wsX6_read_r2 : List Cond := [Cond.selects RX6 yX6_take yX6_take, Cond.code yX6_take cX6_take 2 none, Cond.methodLink RX6 165 yX6_row, Cond.instanceMethod yX6_row, Cond.selects RX6 yX6_row yX6_row, Cond.code yX6_row cX6_row 3 (some .int), Cond.methodLink RX6 159 yX6_figure, Cond.instanceMethod yX6_figure, Cond.selects RX6 yX6_figure yX6_figure, Cond.code yX6_figure cX6_figure 7 none, Cond.constantLong RX6 152 (-922337203685477580), Cond.constantLong RX6 154 (10), Cond.fieldLink RX6 156 "LevelScoresModel" "read" "J", Cond.methodLink RX6 149 yX6_isFigure, Cond.instanceMethod yX6_isFigure, Cond.selects RX6 yX6_isFigure yX6_isFigure, Cond.code yX6_isFigure cX6_isFigure 1 (some .boolean), Cond.constantLong RX6 133 (48), Cond.constantLong RX6 135 (57), Cond.methodLink RX6 48 yX6_in, Cond.static yX6_in, Cond.code yX6_in cX6_in 6 (some .boolean), Cond.methodLink RX6 162 yX6_level, Cond.instanceMethod yX6_level]
def wsX6_read_r3 : List Cond := [Cond.selects RX6 yX6_level yX6_level, Cond.code yX6_level cX6_level 2 none, Cond.methodLink RX6 169 yX6_word, Cond.instanceMethod yX6_word, Cond.selects RX6 yX6_word yX6_word, Cond.code yX6_word cX6_word 6 none, Cond.constantLong RX6 122 (127), Cond.methodLink RX6 141 yX6_letter, Cond.static yX6_letter, Cond.code yX6_letter cX6_letter 2 (some .long), Cond.methodLink RX6 175 yX6_plain, Cond.instanceMethod yX6_plain, Cond.selects RX6 yX6_plain yX6_plain, Cond.code yX6_plain cX6_plain 2 none, Cond.methodLink RX6 64 yX6_keepScore, Cond.instanceMethod yX6_keepScore, Cond.selects RX6 yX6_keepScore yX6_keepScore, Cond.code yX6_keepScore cX6_keepScore 1 (some .int)]
def wsX6_read : List Cond := .code yX6_read cX6_read 3 (some .int) :: ((wsX6_read_r1 ++ (wsX6_read_r2 ++ wsX6_read_r3)) ++ wsX60)
def wsX6_write : List Cond := .code yX6_write cX6_write 2 none :: ([.fieldLink RX6 39 "LevelScoresModel" "out" "[I", .fieldLink RX6 178 "LevelScoresModel" "outSize" "I"] ++ wsX60)
def wsX6_writeNumber : List Cond := .code yX6_writeNumber cX6_writeNumber 9 none :: ([.constantLong RX6 184 (9), .constantLong RX6 186 (-9), .constantLong RX6 154 (10), .methodLink RX6 181 yX6_write, .instanceMethod yX6_write, .selects RX6 yX6_write yX6_write, .initialized RX6, .code yX6_write cX6_write 2 none, .fieldLink RX6 39 "LevelScoresModel" "out" "[I", .fieldLink RX6 178 "LevelScoresModel" "outSize" "I"] ++ wsX60)
def wsX6_writeWord : List Cond := .code yX6_writeWord cX6_writeWord 6 none :: ([.constantLong RX6 122 (127), .methodLink RX6 141 yX6_letter, .static yX6_letter, .initialized RX6, .code yX6_letter cX6_letter 2 (some .long), .methodLink RX6 181 yX6_write, .instanceMethod yX6_write, .selects RX6 yX6_write yX6_write, .code yX6_write cX6_write 2 none, .fieldLink RX6 39 "LevelScoresModel" "out" "[I", .fieldLink RX6 178 "LevelScoresModel" "outSize" "I"] ++ wsX60)
def wsX6_writeRow : List Cond := .code yX6_writeRow cX6_writeRow 5 none :: ([.fieldLink RX6 19 "LevelScoresModel" "levels" "[J", .methodLink RX6 181 yX6_write, .instanceMethod yX6_write, .selects RX6 yX6_write yX6_write, .initialized RX6, .code yX6_write cX6_write 2 none, .fieldLink RX6 39 "LevelScoresModel" "out" "[I", .fieldLink RX6 178 "LevelScoresModel" "outSize" "I", .methodLink RX6 188 yX6_writeNumber, .instanceMethod yX6_writeNumber, .selects RX6 yX6_writeNumber yX6_writeNumber, .code yX6_writeNumber cX6_writeNumber 9 none, .constantLong RX6 184 (9), .constantLong RX6 186 (-9), .constantLong RX6 154 (10)] ++ wsX60)
def wsX6_print_r1 : List Cond := [Cond.fieldLink RX6 178 "LevelScoresModel" "outSize" "I", Cond.fieldLink RX6 7 "LevelScoresModel" "shapes" "[I", Cond.fieldLink RX6 13 "LevelScoresModel" "hards" "[I", Cond.fieldLink RX6 16 "LevelScoresModel" "sizes" "[I", Cond.fieldLink RX6 19 "LevelScoresModel" "levels" "[J", Cond.methodLink RX6 68 yX6_isNumber, Cond.instanceMethod yX6_isNumber, Cond.selects RX6 yX6_isNumber yX6_isNumber, Cond.initialized RX6, Cond.code yX6_isNumber cX6_isNumber 2 (some .boolean), Cond.fieldLink RX6 45 "LevelScoresModel" "scores" "I", Cond.methodLink RX6 48 yX6_in, Cond.static yX6_in, Cond.code yX6_in cX6_in 6 (some .boolean), Cond.methodLink RX6 72 yX6_isNothing, Cond.instanceMethod yX6_isNothing, Cond.selects RX6 yX6_isNothing yX6_isNothing, Cond.code yX6_isNothing cX6_isNothing 2 (some .boolean), Cond.methodLink RX6 192 yX6_writeRow, Cond.instanceMethod yX6_writeRow, Cond.selects RX6 yX6_writeRow yX6_writeRow, Cond.code yX6_writeRow cX6_writeRow 5 none, Cond.methodLink RX6 181 yX6_write, Cond.instanceMethod yX6_write]
def wsX6_print_r2 : List Cond := [Cond.selects RX6 yX6_write yX6_write, Cond.code yX6_write cX6_write 2 none, Cond.fieldLink RX6 39 "LevelScoresModel" "out" "[I", Cond.methodLink RX6 188 yX6_writeNumber, Cond.instanceMethod yX6_writeNumber, Cond.selects RX6 yX6_writeNumber yX6_writeNumber, Cond.code yX6_writeNumber cX6_writeNumber 9 none, Cond.constantLong RX6 184 (9), Cond.constantLong RX6 186 (-9), Cond.constantLong RX6 154 (10), Cond.methodLink RX6 195 yX6_writeWord, Cond.instanceMethod yX6_writeWord, Cond.selects RX6 yX6_writeWord yX6_writeWord, Cond.code yX6_writeWord cX6_writeWord 6 none, Cond.constantLong RX6 122 (127), Cond.methodLink RX6 141 yX6_letter, Cond.static yX6_letter, Cond.code yX6_letter cX6_letter 2 (some .long)]
def wsX6_print : List Cond := .code yX6_print cX6_print 2 (some .int) :: ((wsX6_print_r1 ++ wsX6_print_r2) ++ wsX60)
def wsX6_out : List Cond := .code yX6_out cX6_out 2 (some .int) :: ([.fieldLink RX6 178 "LevelScoresModel" "outSize" "I", .fieldLink RX6 39 "LevelScoresModel" "out" "[I", .methodLink RX6 48 yX6_in, .static yX6_in, .initialized RX6, .code yX6_in cX6_in 6 (some .boolean)] ++ wsX60)
def wsX6_plan : List Cond := .code yX6_plan cX6_plan 3 (some .int) :: ([.fieldLink RX6 198 "LevelScoresModel" "rules" "I", .fieldLink RX6 7 "LevelScoresModel" "shapes" "[I", .fieldLink RX6 52 "LevelScoresModel" "planShape" "I", .fieldLink RX6 13 "LevelScoresModel" "hards" "[I", .fieldLink RX6 55 "LevelScoresModel" "planHard" "I", .fieldLink RX6 16 "LevelScoresModel" "sizes" "[I", .fieldLink RX6 23 "LevelScoresModel" "planSize" "I", .fieldLink RX6 201 "LevelScoresModel" "kept" "I", .methodLink RX6 68 yX6_isNumber, .instanceMethod yX6_isNumber, .selects RX6 yX6_isNumber yX6_isNumber, .initialized RX6, .code yX6_isNumber cX6_isNumber 2 (some .boolean), .fieldLink RX6 45 "LevelScoresModel" "scores" "I", .methodLink RX6 48 yX6_in, .static yX6_in, .code yX6_in cX6_in 6 (some .boolean), .methodLink RX6 72 yX6_isNothing, .instanceMethod yX6_isNothing, .selects RX6 yX6_isNothing yX6_isNothing, .code yX6_isNothing cX6_isNothing 2 (some .boolean)] ++ wsX60)
def wsX6_rule_r1 : List Cond := [Cond.fieldLink RX6 198 "LevelScoresModel" "rules" "I", Cond.fieldLink RX6 27 "LevelScoresModel" "weights" "[J", Cond.fieldLink RX6 19 "LevelScoresModel" "levels" "[J", Cond.fieldLink RX6 30 "LevelScoresModel" "counts" "[I", Cond.methodLink RX6 68 yX6_isNumber, Cond.instanceMethod yX6_isNumber, Cond.selects RX6 yX6_isNumber yX6_isNumber, Cond.initialized RX6, Cond.code yX6_isNumber cX6_isNumber 2 (some .boolean), Cond.fieldLink RX6 45 "LevelScoresModel" "scores" "I", Cond.methodLink RX6 48 yX6_in, Cond.static yX6_in, Cond.code yX6_in cX6_in 6 (some .boolean), Cond.methodLink RX6 72 yX6_isNothing, Cond.instanceMethod yX6_isNothing, Cond.selects RX6 yX6_isNothing yX6_isNothing, Cond.code yX6_isNothing cX6_isNothing 2 (some .boolean), Cond.fieldLink RX6 7 "LevelScoresModel" "shapes" "[I", Cond.methodLink RX6 204 yX6_isLikePlan, Cond.instanceMethod yX6_isLikePlan, Cond.selects RX6 yX6_isLikePlan yX6_isLikePlan, Cond.code yX6_isLikePlan cX6_isLikePlan 2 (some .boolean), Cond.fieldLink RX6 52 "LevelScoresModel" "planShape" "I", Cond.fieldLink RX6 13 "LevelScoresModel" "hards" "[I"]
def wsX6_rule_r2 : List Cond := [Cond.fieldLink RX6 55 "LevelScoresModel" "planHard" "I", Cond.fieldLink RX6 16 "LevelScoresModel" "sizes" "[I", Cond.fieldLink RX6 23 "LevelScoresModel" "planSize" "I"]
def wsX6_rule : List Cond := .code yX6_rule cX6_rule 3 (some .int) :: ((wsX6_rule_r1 ++ wsX6_rule_r2) ++ wsX60)
def wsX6_layPart : List Cond := .code yX6_layPart cX6_layPart 3 none :: ([.fieldLink RX6 27 "LevelScoresModel" "weights" "[J", .fieldLink RX6 30 "LevelScoresModel" "counts" "[I", .methodLink RX6 105 yX6_zero, .instanceMethod yX6_zero, .selects RX6 yX6_zero yX6_zero, .initialized RX6, .code yX6_zero cX6_zero 1 none, .fieldLink RX6 78 "LevelScoresModel" "high" "J", .fieldLink RX6 82 "LevelScoresModel" "low" "J", .methodLink RX6 108 yX6_add, .instanceMethod yX6_add, .selects RX6 yX6_add yX6_add, .code yX6_add cX6_add 5 none, .constantLong RX6 85 (4294967295)] ++ wsX60)
def wsX6_hasRoom_r1 : List Cond := [Cond.fieldLink RX6 23 "LevelScoresModel" "planSize" "I", Cond.fieldLink RX6 198 "LevelScoresModel" "rules" "I", Cond.fieldLink RX6 27 "LevelScoresModel" "weights" "[J", Cond.fieldLink RX6 30 "LevelScoresModel" "counts" "[I", Cond.methodLink RX6 207 yX6_layPart, Cond.instanceMethod yX6_layPart, Cond.selects RX6 yX6_layPart yX6_layPart, Cond.initialized RX6, Cond.code yX6_layPart cX6_layPart 3 none, Cond.methodLink RX6 105 yX6_zero, Cond.instanceMethod yX6_zero, Cond.selects RX6 yX6_zero yX6_zero, Cond.code yX6_zero cX6_zero 1 none, Cond.fieldLink RX6 78 "LevelScoresModel" "high" "J", Cond.fieldLink RX6 82 "LevelScoresModel" "low" "J", Cond.methodLink RX6 108 yX6_add, Cond.instanceMethod yX6_add, Cond.selects RX6 yX6_add yX6_add, Cond.code yX6_add cX6_add 5 none, Cond.constantLong RX6 85 (4294967295), Cond.methodLink RX6 114 yX6_fits, Cond.instanceMethod yX6_fits, Cond.selects RX6 yX6_fits yX6_fits, Cond.code yX6_fits cX6_fits 1 (some .boolean)]
def wsX6_hasRoom_r2 : List Cond := [Cond.constantLong RX6 87 (-2147483648), Cond.constantLong RX6 89 (2147483647), Cond.methodLink RX6 48 yX6_in, Cond.static yX6_in, Cond.code yX6_in cX6_in 6 (some .boolean)]
def wsX6_hasRoom : List Cond := .code yX6_hasRoom cX6_hasRoom 4 (some .boolean) :: ((wsX6_hasRoom_r1 ++ wsX6_hasRoom_r2) ++ wsX60)
def wsX6_count_r1 : List Cond := [Cond.fieldLink RX6 198 "LevelScoresModel" "rules" "I", Cond.constantLong RX6 211 (1000000), Cond.fieldLink RX6 30 "LevelScoresModel" "counts" "[I", Cond.methodLink RX6 48 yX6_in, Cond.static yX6_in, Cond.initialized RX6, Cond.code yX6_in cX6_in 6 (some .boolean), Cond.methodLink RX6 213 yX6_hasRoom, Cond.instanceMethod yX6_hasRoom, Cond.selects RX6 yX6_hasRoom yX6_hasRoom, Cond.code yX6_hasRoom cX6_hasRoom 4 (some .boolean), Cond.fieldLink RX6 23 "LevelScoresModel" "planSize" "I", Cond.fieldLink RX6 27 "LevelScoresModel" "weights" "[J", Cond.methodLink RX6 207 yX6_layPart, Cond.instanceMethod yX6_layPart, Cond.selects RX6 yX6_layPart yX6_layPart, Cond.code yX6_layPart cX6_layPart 3 none, Cond.methodLink RX6 105 yX6_zero, Cond.instanceMethod yX6_zero, Cond.selects RX6 yX6_zero yX6_zero, Cond.code yX6_zero cX6_zero 1 none, Cond.fieldLink RX6 78 "LevelScoresModel" "high" "J", Cond.fieldLink RX6 82 "LevelScoresModel" "low" "J", Cond.methodLink RX6 108 yX6_add]
def wsX6_count_r2 : List Cond := [Cond.instanceMethod yX6_add, Cond.selects RX6 yX6_add yX6_add, Cond.code yX6_add cX6_add 5 none, Cond.constantLong RX6 85 (4294967295), Cond.methodLink RX6 114 yX6_fits, Cond.instanceMethod yX6_fits, Cond.selects RX6 yX6_fits yX6_fits, Cond.code yX6_fits cX6_fits 1 (some .boolean), Cond.constantLong RX6 87 (-2147483648), Cond.constantLong RX6 89 (2147483647)]
def wsX6_count : List Cond := .code yX6_count cX6_count 4 (some .int) :: ((wsX6_count_r1 ++ wsX6_count_r2) ++ wsX60)
def wsX6_weight_r1 : List Cond := [Cond.fieldLink RX6 198 "LevelScoresModel" "rules" "I", Cond.fieldLink RX6 42 "LevelScoresModel" "had" "[J", Cond.fieldLink RX6 27 "LevelScoresModel" "weights" "[J", Cond.fieldLink RX6 19 "LevelScoresModel" "levels" "[J", Cond.methodLink RX6 48 yX6_in, Cond.static yX6_in, Cond.initialized RX6, Cond.code yX6_in cX6_in 6 (some .boolean), Cond.methodLink RX6 68 yX6_isNumber, Cond.instanceMethod yX6_isNumber, Cond.selects RX6 yX6_isNumber yX6_isNumber, Cond.code yX6_isNumber cX6_isNumber 2 (some .boolean), Cond.fieldLink RX6 45 "LevelScoresModel" "scores" "I", Cond.methodLink RX6 72 yX6_isNothing, Cond.instanceMethod yX6_isNothing, Cond.selects RX6 yX6_isNothing yX6_isNothing, Cond.code yX6_isNothing cX6_isNothing 2 (some .boolean), Cond.fieldLink RX6 7 "LevelScoresModel" "shapes" "[I", Cond.methodLink RX6 204 yX6_isLikePlan, Cond.instanceMethod yX6_isLikePlan, Cond.selects RX6 yX6_isLikePlan yX6_isLikePlan, Cond.code yX6_isLikePlan cX6_isLikePlan 2 (some .boolean), Cond.fieldLink RX6 52 "LevelScoresModel" "planShape" "I", Cond.fieldLink RX6 13 "LevelScoresModel" "hards" "[I"]
def wsX6_weight_r2 : List Cond := [Cond.fieldLink RX6 55 "LevelScoresModel" "planHard" "I", Cond.fieldLink RX6 16 "LevelScoresModel" "sizes" "[I", Cond.fieldLink RX6 23 "LevelScoresModel" "planSize" "I", Cond.methodLink RX6 213 yX6_hasRoom, Cond.instanceMethod yX6_hasRoom, Cond.selects RX6 yX6_hasRoom yX6_hasRoom, Cond.code yX6_hasRoom cX6_hasRoom 4 (some .boolean), Cond.fieldLink RX6 30 "LevelScoresModel" "counts" "[I", Cond.methodLink RX6 207 yX6_layPart, Cond.instanceMethod yX6_layPart, Cond.selects RX6 yX6_layPart yX6_layPart, Cond.code yX6_layPart cX6_layPart 3 none, Cond.methodLink RX6 105 yX6_zero, Cond.instanceMethod yX6_zero, Cond.selects RX6 yX6_zero yX6_zero, Cond.code yX6_zero cX6_zero 1 none, Cond.fieldLink RX6 78 "LevelScoresModel" "high" "J", Cond.fieldLink RX6 82 "LevelScoresModel" "low" "J", Cond.methodLink RX6 108 yX6_add, Cond.instanceMethod yX6_add, Cond.selects RX6 yX6_add yX6_add, Cond.code yX6_add cX6_add 5 none, Cond.constantLong RX6 85 (4294967295), Cond.methodLink RX6 114 yX6_fits]
def wsX6_weight_r3 : List Cond := [Cond.instanceMethod yX6_fits, Cond.selects RX6 yX6_fits yX6_fits, Cond.code yX6_fits cX6_fits 1 (some .boolean), Cond.constantLong RX6 87 (-2147483648), Cond.constantLong RX6 89 (2147483647)]
def wsX6_weight : List Cond := .code yX6_weight cX6_weight 4 (some .int) :: ((wsX6_weight_r1 ++ (wsX6_weight_r2 ++ wsX6_weight_r3)) ++ wsX60)
def wsX6_total_r1 : List Cond := [Cond.constantLong RX6 112 (-1), Cond.fieldLink RX6 198 "LevelScoresModel" "rules" "I", Cond.fieldLink RX6 45 "LevelScoresModel" "scores" "I", Cond.fieldLink RX6 52 "LevelScoresModel" "planShape" "I", Cond.fieldLink RX6 55 "LevelScoresModel" "planHard" "I", Cond.fieldLink RX6 23 "LevelScoresModel" "planSize" "I", Cond.fieldLink RX6 27 "LevelScoresModel" "weights" "[J", Cond.fieldLink RX6 30 "LevelScoresModel" "counts" "[I", Cond.fieldLink RX6 19 "LevelScoresModel" "levels" "[J", Cond.methodLink RX6 48 yX6_in, Cond.static yX6_in, Cond.initialized RX6, Cond.code yX6_in cX6_in 6 (some .boolean), Cond.methodLink RX6 60 yX6_lay, Cond.instanceMethod yX6_lay, Cond.selects RX6 yX6_lay yX6_lay, Cond.code yX6_lay cX6_lay 5 none, Cond.fieldLink RX6 7 "LevelScoresModel" "shapes" "[I", Cond.fieldLink RX6 13 "LevelScoresModel" "hards" "[I", Cond.fieldLink RX6 16 "LevelScoresModel" "sizes" "[I", Cond.methodLink RX6 105 yX6_zero, Cond.instanceMethod yX6_zero, Cond.selects RX6 yX6_zero yX6_zero, Cond.code yX6_zero cX6_zero 1 none]
def wsX6_total_r2 : List Cond := [Cond.fieldLink RX6 78 "LevelScoresModel" "high" "J", Cond.fieldLink RX6 82 "LevelScoresModel" "low" "J", Cond.methodLink RX6 108 yX6_add, Cond.instanceMethod yX6_add, Cond.selects RX6 yX6_add yX6_add, Cond.code yX6_add cX6_add 5 none, Cond.constantLong RX6 85 (4294967295), Cond.methodLink RX6 118 yX6_number, Cond.instanceMethod yX6_number, Cond.selects RX6 yX6_number yX6_number, Cond.code yX6_number cX6_number 1 (some .long), Cond.methodLink RX6 64 yX6_keepScore, Cond.instanceMethod yX6_keepScore, Cond.selects RX6 yX6_keepScore yX6_keepScore, Cond.code yX6_keepScore cX6_keepScore 1 (some .int)]
def wsX6_total : List Cond := .code yX6_total cX6_total 4 (some .int) :: ((wsX6_total_r1 ++ wsX6_total_r2) ++ wsX60)
def wsX6_safe_r1 : List Cond := [Cond.constantLong RX6 211 (1000000), Cond.fieldLink RX6 23 "LevelScoresModel" "planSize" "I", Cond.fieldLink RX6 198 "LevelScoresModel" "rules" "I", Cond.fieldLink RX6 27 "LevelScoresModel" "weights" "[J", Cond.methodLink RX6 48 yX6_in, Cond.static yX6_in, Cond.initialized RX6, Cond.code yX6_in cX6_in 6 (some .boolean), Cond.methodLink RX6 105 yX6_zero, Cond.instanceMethod yX6_zero, Cond.selects RX6 yX6_zero yX6_zero, Cond.code yX6_zero cX6_zero 1 none, Cond.fieldLink RX6 78 "LevelScoresModel" "high" "J", Cond.fieldLink RX6 82 "LevelScoresModel" "low" "J", Cond.methodLink RX6 108 yX6_add, Cond.instanceMethod yX6_add, Cond.selects RX6 yX6_add yX6_add, Cond.code yX6_add cX6_add 5 none, Cond.constantLong RX6 85 (4294967295), Cond.methodLink RX6 114 yX6_fits, Cond.instanceMethod yX6_fits, Cond.selects RX6 yX6_fits yX6_fits, Cond.code yX6_fits cX6_fits 1 (some .boolean), Cond.constantLong RX6 87 (-2147483648)]
def wsX6_safe_r2 : List Cond := [Cond.constantLong RX6 89 (2147483647)]
def wsX6_safe : List Cond := .code yX6_safe cX6_safe 8 (some .int) :: ((wsX6_safe_r1 ++ wsX6_safe_r2) ++ wsX60)
def wsX6_keep_r1 : List Cond := [Cond.fieldLink RX6 201 "LevelScoresModel" "kept" "I", Cond.fieldLink RX6 33 "LevelScoresModel" "keeps" "[J", Cond.fieldLink RX6 19 "LevelScoresModel" "levels" "[J", Cond.fieldLink RX6 23 "LevelScoresModel" "planSize" "I", Cond.methodLink RX6 68 yX6_isNumber, Cond.instanceMethod yX6_isNumber, Cond.selects RX6 yX6_isNumber yX6_isNumber, Cond.initialized RX6, Cond.code yX6_isNumber cX6_isNumber 2 (some .boolean), Cond.fieldLink RX6 45 "LevelScoresModel" "scores" "I", Cond.methodLink RX6 48 yX6_in, Cond.static yX6_in, Cond.code yX6_in cX6_in 6 (some .boolean), Cond.methodLink RX6 72 yX6_isNothing, Cond.instanceMethod yX6_isNothing, Cond.selects RX6 yX6_isNothing yX6_isNothing, Cond.code yX6_isNothing cX6_isNothing 2 (some .boolean), Cond.fieldLink RX6 7 "LevelScoresModel" "shapes" "[I", Cond.methodLink RX6 204 yX6_isLikePlan, Cond.instanceMethod yX6_isLikePlan, Cond.selects RX6 yX6_isLikePlan yX6_isLikePlan, Cond.code yX6_isLikePlan cX6_isLikePlan 2 (some .boolean), Cond.fieldLink RX6 52 "LevelScoresModel" "planShape" "I", Cond.fieldLink RX6 13 "LevelScoresModel" "hards" "[I"]
def wsX6_keep_r2 : List Cond := [Cond.fieldLink RX6 55 "LevelScoresModel" "planHard" "I", Cond.fieldLink RX6 16 "LevelScoresModel" "sizes" "[I", Cond.methodLink RX6 101 yX6_compare, Cond.instanceMethod yX6_compare, Cond.selects RX6 yX6_compare yX6_compare, Cond.code yX6_compare cX6_compare 7 (some .int)]
def wsX6_keep : List Cond := .code yX6_keep cX6_keep 4 (some .int) :: ((wsX6_keep_r1 ++ wsX6_keep_r2) ++ wsX60)
def wsX6_kept : List Cond := .code yX6_kept cX6_kept 3 (some .int) :: ([.fieldLink RX6 201 "LevelScoresModel" "kept" "I", .fieldLink RX6 45 "LevelScoresModel" "scores" "I", .fieldLink RX6 52 "LevelScoresModel" "planShape" "I", .fieldLink RX6 55 "LevelScoresModel" "planHard" "I", .fieldLink RX6 23 "LevelScoresModel" "planSize" "I", .fieldLink RX6 19 "LevelScoresModel" "levels" "[J", .fieldLink RX6 33 "LevelScoresModel" "keeps" "[J", .methodLink RX6 48 yX6_in, .static yX6_in, .initialized RX6, .code yX6_in cX6_in 6 (some .boolean), .methodLink RX6 60 yX6_lay, .instanceMethod yX6_lay, .selects RX6 yX6_lay yX6_lay, .code yX6_lay cX6_lay 5 none, .fieldLink RX6 7 "LevelScoresModel" "shapes" "[I", .fieldLink RX6 13 "LevelScoresModel" "hards" "[I", .fieldLink RX6 16 "LevelScoresModel" "sizes" "[I", .methodLink RX6 64 yX6_keepScore, .instanceMethod yX6_keepScore, .selects RX6 yX6_keepScore yX6_keepScore, .code yX6_keepScore cX6_keepScore 1 (some .int)] ++ wsX60)
def wsX6_many : List Cond := .code yX6_many cX6_many 2 (some .int) :: ([.fieldLink RX6 45 "LevelScoresModel" "scores" "I", .fieldLink RX6 198 "LevelScoresModel" "rules" "I", .fieldLink RX6 201 "LevelScoresModel" "kept" "I", .fieldLink RX6 124 "LevelScoresModel" "tapeSize" "I", .fieldLink RX6 178 "LevelScoresModel" "outSize" "I"] ++ wsX60)
def wsX6_drop : List Cond := .code yX6_drop cX6_drop 1 (some .int) :: ([.fieldLink RX6 45 "LevelScoresModel" "scores" "I"] ++ wsX60)
def wsJ9_max_f86c9 : List Cond := .code yJ9_max_f86c9 cJ9_max_f86c9 4 (some .long) :: ([])
def wsJ9_min_f86c9 : List Cond := .code yJ9_min_f86c9 cJ9_min_f86c9 4 (some .long) :: ([])
abbrev vwCl : List vw_C := [(RX0, TX0, 3), (RX1, TX1, 9), (RX2, TX2, 4), (RX3, TX3, 3), (RX4, TX4, 2), (RX5, TX5, 6), (RX6, TX6, 24)]
end
section
theorem dX2_init_0 : decode cX2_init 0 = .ok (.aload_n 0, 1) := by decide +kernel
theorem dX2_init_1 : decode cX2_init 1 = .ok (.invokespecial 3, 3) := by decide +kernel
theorem dX2_init_4 : decode cX2_init 4 = .ok (.aload_n 0, 1) := by decide +kernel
theorem dX2_init_5 : decode cX2_init 5 = .ok (.iconst (-1), 1) := by decide +kernel
theorem dX2_init_6 : decode cX2_init 6 = .ok (.putfield 9, 3) := by decide +kernel
theorem dX2_init_9 : decode cX2_init 9 = .ok (.aload_n 0, 1) := by decide +kernel
theorem dX2_init_10 : decode cX2_init 10 = .ok (.bipush 12, 2) := by decide +kernel
theorem dX2_init_12 : decode cX2_init 12 = .ok (.newarray .long, 2) := by decide +kernel
theorem dX2_init_14 : decode cX2_init 14 = .ok (.putfield 15, 3) := by decide +kernel
theorem dX2_init_17 : decode cX2_init 17 = .ok (.return_, 1) := by decide +kernel
theorem dX2_form_0 : decode cX2_form 0 = .ok (.aload_n 0, 1) := by decide +kernel
theorem dX2_form_1 : decode cX2_form 1 = .ok (.iload_n 1, 1) := by decide +kernel
theorem dX2_form_2 : decode cX2_form 2 = .ok (.putfield 9, 3) := by decide +kernel
theorem dX2_form_5 : decode cX2_form 5 = .ok (.aload_n 0, 1) := by decide +kernel
theorem dX2_form_6 : decode cX2_form 6 = .ok (.iload_n 2, 1) := by decide +kernel
theorem dX2_form_7 : decode cX2_form 7 = .ok (.putfield 19, 3) := by decide +kernel
theorem dX2_form_10 : decode cX2_form 10 = .ok (.aload_n 0, 1) := by decide +kernel
theorem dX2_form_11 : decode cX2_form 11 = .ok (.iload_n 3, 1) := by decide +kernel
theorem dX2_form_12 : decode cX2_form 12 = .ok (.putfield 22, 3) := by decide +kernel
theorem dX2_form_15 : decode cX2_form 15 = .ok (.return_, 1) := by decide +kernel
set_option maxRecDepth 20000 in
theorem ggX2_formLike_X2_form : GoodIn wsX2_formLike wsX2_form := goodIn_r _ [8, 1, 2, 3, 9, 10, 11, 12] (by decide +kernel) (by decide +kernel)
set_option maxRecDepth 20000 in
theorem gX2_formLike_X2_form : GoodIn wsX2_formLike (wsV RX2 25 RX2 yX2_form wsX2_form) := goodIn_app (goodIn_of _ (by decide +kernel)) ggX2_formLike_X2_form
theorem dX2_formLike_0 : decode cX2_formLike 0 = .ok (.aload_n 0, 1) := by decide +kernel
theorem dX2_formLike_1 : decode cX2_formLike 1 = .ok (.aload_n 1, 1) := by decide +kernel
theorem dX2_formLike_2 : decode cX2_formLike 2 = .ok (.getfield 9, 3) := by decide +kernel
theorem dX2_formLike_5 : decode cX2_formLike 5 = .ok (.aload_n 1, 1) := by decide +kernel
theorem dX2_formLike_6 : decode cX2_formLike 6 = .ok (.getfield 19, 3) := by decide +kernel
theorem dX2_formLike_9 : decode cX2_formLike 9 = .ok (.aload_n 1, 1) := by decide +kernel
theorem dX2_formLike_10 : decode cX2_formLike 10 = .ok (.getfield 22, 3) := by decide +kernel
theorem dX2_formLike_13 : decode cX2_formLike 13 = .ok (.invokevirtual 25, 3) := by decide +kernel
theorem dX2_formLike_16 : decode cX2_formLike 16 = .ok (.return_, 1) := by decide +kernel
theorem dX2_clear_0 : decode cX2_clear 0 = .ok (.iconst 0, 1) := by decide +kernel
theorem dX2_clear_1 : decode cX2_clear 1 = .ok (.istore_n 1, 1) := by decide +kernel
theorem dX2_clear_2 : decode cX2_clear 2 = .ok (.iload_n 1, 1) := by decide +kernel
theorem dX2_clear_3 : decode cX2_clear 3 = .ok (.aload_n 0, 1) := by decide +kernel
theorem dX2_clear_4 : decode cX2_clear 4 = .ok (.getfield 22, 3) := by decide +kernel
theorem dX2_clear_7 : decode cX2_clear 7 = .ok (.if_icmp .ge 16, 3) := by decide +kernel
theorem dX2_clear_10 : decode cX2_clear 10 = .ok (.aload_n 0, 1) := by decide +kernel
theorem dX2_clear_11 : decode cX2_clear 11 = .ok (.getfield 15, 3) := by decide +kernel
theorem dX2_clear_14 : decode cX2_clear 14 = .ok (.iload_n 1, 1) := by decide +kernel
theorem dX2_clear_15 : decode cX2_clear 15 = .ok (.lconst 0, 1) := by decide +kernel
theorem dX2_clear_16 : decode cX2_clear 16 = .ok (.lastore, 1) := by decide +kernel
theorem dX2_clear_17 : decode cX2_clear 17 = .ok (.iinc 1 1, 3) := by decide +kernel
theorem dX2_clear_20 : decode cX2_clear 20 = .ok (.goto (-18), 3) := by decide +kernel
theorem dX2_clear_23 : decode cX2_clear 23 = .ok (.return_, 1) := by decide +kernel
set_option maxRecDepth 20000 in
theorem ggX2_copy_X2_formLike : GoodIn wsX2_copy wsX2_formLike := goodIn_r _ [7, 8, 9, 1, 10, 11, 12, 6, 13, 14, 15, 16, 17] (by decide +kernel) (by decide +kernel)
set_option maxRecDepth 20000 in
theorem gX2_copy_X2_formLike : GoodIn wsX2_copy (wsV RX2 29 RX2 yX2_formLike wsX2_formLike) := goodIn_app (goodIn_of _ (by decide +kernel)) ggX2_copy_X2_formLike
theorem dX2_copy_0 : decode cX2_copy 0 = .ok (.aload_n 0, 1) := by decide +kernel
theorem dX2_copy_1 : decode cX2_copy 1 = .ok (.aload_n 1, 1) := by decide +kernel
theorem dX2_copy_2 : decode cX2_copy 2 = .ok (.invokevirtual 29, 3) := by decide +kernel
theorem dX2_copy_5 : decode cX2_copy 5 = .ok (.iconst 0, 1) := by decide +kernel
theorem dX2_copy_6 : decode cX2_copy 6 = .ok (.istore_n 2, 1) := by decide +kernel
theorem dX2_copy_7 : decode cX2_copy 7 = .ok (.iload_n 2, 1) := by decide +kernel
theorem dX2_copy_8 : decode cX2_copy 8 = .ok (.aload_n 0, 1) := by decide +kernel
theorem dX2_copy_9 : decode cX2_copy 9 = .ok (.getfield 22, 3) := by decide +kernel
theorem dX2_copy_12 : decode cX2_copy 12 = .ok (.if_icmp .ge 21, 3) := by decide +kernel
theorem dX2_copy_15 : decode cX2_copy 15 = .ok (.aload_n 0, 1) := by decide +kernel
theorem dX2_copy_16 : decode cX2_copy 16 = .ok (.getfield 15, 3) := by decide +kernel
theorem dX2_copy_19 : decode cX2_copy 19 = .ok (.iload_n 2, 1) := by decide +kernel
theorem dX2_copy_20 : decode cX2_copy 20 = .ok (.aload_n 1, 1) := by decide +kernel
theorem dX2_copy_21 : decode cX2_copy 21 = .ok (.getfield 15, 3) := by decide +kernel
theorem dX2_copy_24 : decode cX2_copy 24 = .ok (.iload_n 2, 1) := by decide +kernel
theorem dX2_copy_25 : decode cX2_copy 25 = .ok (.laload, 1) := by decide +kernel
theorem dX2_copy_26 : decode cX2_copy 26 = .ok (.lastore, 1) := by decide +kernel
theorem dX2_copy_27 : decode cX2_copy 27 = .ok (.iinc 2 1, 3) := by decide +kernel
theorem dX2_copy_30 : decode cX2_copy 30 = .ok (.goto (-23), 3) := by decide +kernel
theorem dX2_copy_33 : decode cX2_copy 33 = .ok (.return_, 1) := by decide +kernel
theorem dX2_isNothing_0 : decode cX2_isNothing 0 = .ok (.aload_n 0, 1) := by decide +kernel
theorem dX2_isNothing_1 : decode cX2_isNothing 1 = .ok (.getfield 9, 3) := by decide +kernel
theorem dX2_isNothing_4 : decode cX2_isNothing 4 = .ok (.iconst (-1), 1) := by decide +kernel
theorem dX2_isNothing_5 : decode cX2_isNothing 5 = .ok (.if_icmp .ne 7, 3) := by decide +kernel
theorem dX2_isNothing_8 : decode cX2_isNothing 8 = .ok (.iconst 1, 1) := by decide +kernel
theorem dX2_isNothing_9 : decode cX2_isNothing 9 = .ok (.goto 4, 3) := by decide +kernel
theorem dX2_isNothing_12 : decode cX2_isNothing 12 = .ok (.iconst 0, 1) := by decide +kernel
theorem dX2_isNothing_13 : decode cX2_isNothing 13 = .ok (.ireturn, 1) := by decide +kernel
theorem dX2_isLike_0 : decode cX2_isLike 0 = .ok (.aload_n 0, 1) := by decide +kernel
theorem dX2_isLike_1 : decode cX2_isLike 1 = .ok (.getfield 9, 3) := by decide +kernel
theorem dX2_isLike_4 : decode cX2_isLike 4 = .ok (.aload_n 1, 1) := by decide +kernel
theorem dX2_isLike_5 : decode cX2_isLike 5 = .ok (.getfield 9, 3) := by decide +kernel
theorem dX2_isLike_8 : decode cX2_isLike 8 = .ok (.if_icmp .ne 29, 3) := by decide +kernel
theorem dX2_isLike_11 : decode cX2_isLike 11 = .ok (.aload_n 0, 1) := by decide +kernel
theorem dX2_isLike_12 : decode cX2_isLike 12 = .ok (.getfield 19, 3) := by decide +kernel
theorem dX2_isLike_15 : decode cX2_isLike 15 = .ok (.aload_n 1, 1) := by decide +kernel
theorem dX2_isLike_16 : decode cX2_isLike 16 = .ok (.getfield 19, 3) := by decide +kernel
theorem dX2_isLike_19 : decode cX2_isLike 19 = .ok (.if_icmp .ne 18, 3) := by decide +kernel
theorem dX2_isLike_22 : decode cX2_isLike 22 = .ok (.aload_n 0, 1) := by decide +kernel
theorem dX2_isLike_23 : decode cX2_isLike 23 = .ok (.getfield 22, 3) := by decide +kernel
theorem dX2_isLike_26 : decode cX2_isLike 26 = .ok (.aload_n 1, 1) := by decide +kernel
theorem dX2_isLike_27 : decode cX2_isLike 27 = .ok (.getfield 22, 3) := by decide +kernel
theorem dX2_isLike_30 : decode cX2_isLike 30 = .ok (.if_icmp .ne 7, 3) := by decide +kernel
theorem dX2_isLike_33 : decode cX2_isLike 33 = .ok (.iconst 1, 1) := by decide +kernel
theorem dX2_isLike_34 : decode cX2_isLike 34 = .ok (.goto 4, 3) := by decide +kernel
theorem dX2_isLike_37 : decode cX2_isLike 37 = .ok (.iconst 0, 1) := by decide +kernel
theorem dX2_isLike_38 : decode cX2_isLike 38 = .ok (.ireturn, 1) := by decide +kernel
theorem dX2_hasLevel_0 : decode cX2_hasLevel 0 = .ok (.iload_n 1, 1) := by decide +kernel
theorem dX2_hasLevel_1 : decode cX2_hasLevel 1 = .ok (.ifCond .lt 15, 3) := by decide +kernel
theorem dX2_hasLevel_4 : decode cX2_hasLevel 4 = .ok (.iload_n 1, 1) := by decide +kernel
theorem dX2_hasLevel_5 : decode cX2_hasLevel 5 = .ok (.aload_n 0, 1) := by decide +kernel
theorem dX2_hasLevel_6 : decode cX2_hasLevel 6 = .ok (.getfield 22, 3) := by decide +kernel
theorem dX2_hasLevel_9 : decode cX2_hasLevel 9 = .ok (.if_icmp .ge 7, 3) := by decide +kernel
theorem dX2_hasLevel_12 : decode cX2_hasLevel 12 = .ok (.iconst 1, 1) := by decide +kernel
theorem dX2_hasLevel_13 : decode cX2_hasLevel 13 = .ok (.goto 4, 3) := by decide +kernel
theorem dX2_hasLevel_16 : decode cX2_hasLevel 16 = .ok (.iconst 0, 1) := by decide +kernel
theorem dX2_hasLevel_17 : decode cX2_hasLevel 17 = .ok (.ireturn, 1) := by decide +kernel
theorem dX2_isFeasible_0 : decode cX2_isFeasible 0 = .ok (.iconst 0, 1) := by decide +kernel
theorem dX2_isFeasible_1 : decode cX2_isFeasible 1 = .ok (.istore_n 1, 1) := by decide +kernel
theorem dX2_isFeasible_2 : decode cX2_isFeasible 2 = .ok (.iload_n 1, 1) := by decide +kernel
theorem dX2_isFeasible_3 : decode cX2_isFeasible 3 = .ok (.aload_n 0, 1) := by decide +kernel
theorem dX2_isFeasible_4 : decode cX2_isFeasible 4 = .ok (.getfield 19, 3) := by decide +kernel
theorem dX2_isFeasible_7 : decode cX2_isFeasible 7 = .ok (.if_icmp .ge 22, 3) := by decide +kernel
theorem dX2_isFeasible_10 : decode cX2_isFeasible 10 = .ok (.aload_n 0, 1) := by decide +kernel
theorem dX2_isFeasible_11 : decode cX2_isFeasible 11 = .ok (.getfield 15, 3) := by decide +kernel
theorem dX2_isFeasible_14 : decode cX2_isFeasible 14 = .ok (.iload_n 1, 1) := by decide +kernel
theorem dX2_isFeasible_15 : decode cX2_isFeasible 15 = .ok (.laload, 1) := by decide +kernel
theorem dX2_isFeasible_16 : decode cX2_isFeasible 16 = .ok (.lconst 0, 1) := by decide +kernel
theorem dX2_isFeasible_17 : decode cX2_isFeasible 17 = .ok (.lcmp, 1) := by decide +kernel
theorem dX2_isFeasible_18 : decode cX2_isFeasible 18 = .ok (.ifCond .ge 5, 3) := by decide +kernel
theorem dX2_isFeasible_21 : decode cX2_isFeasible 21 = .ok (.iconst 0, 1) := by decide +kernel
theorem dX2_isFeasible_22 : decode cX2_isFeasible 22 = .ok (.ireturn, 1) := by decide +kernel
theorem dX2_isFeasible_23 : decode cX2_isFeasible 23 = .ok (.iinc 1 1, 3) := by decide +kernel
theorem dX2_isFeasible_26 : decode cX2_isFeasible 26 = .ok (.goto (-24), 3) := by decide +kernel
theorem dX2_isFeasible_29 : decode cX2_isFeasible 29 = .ok (.iconst 1, 1) := by decide +kernel
theorem dX2_isFeasible_30 : decode cX2_isFeasible 30 = .ok (.ireturn, 1) := by decide +kernel
theorem dX2_compareWith_0 : decode cX2_compareWith 0 = .ok (.iconst 0, 1) := by decide +kernel
theorem dX2_compareWith_1 : decode cX2_compareWith 1 = .ok (.istore_n 2, 1) := by decide +kernel
theorem dX2_compareWith_2 : decode cX2_compareWith 2 = .ok (.iload_n 2, 1) := by decide +kernel
theorem dX2_compareWith_3 : decode cX2_compareWith 3 = .ok (.aload_n 0, 1) := by decide +kernel
theorem dX2_compareWith_4 : decode cX2_compareWith 4 = .ok (.getfield 22, 3) := by decide +kernel
theorem dX2_compareWith_7 : decode cX2_compareWith 7 = .ok (.if_icmp .ge 47, 3) := by decide +kernel
theorem dX2_compareWith_10 : decode cX2_compareWith 10 = .ok (.aload_n 0, 1) := by decide +kernel
theorem dX2_compareWith_11 : decode cX2_compareWith 11 = .ok (.getfield 15, 3) := by decide +kernel
theorem dX2_compareWith_14 : decode cX2_compareWith 14 = .ok (.iload_n 2, 1) := by decide +kernel
theorem dX2_compareWith_15 : decode cX2_compareWith 15 = .ok (.laload, 1) := by decide +kernel
theorem dX2_compareWith_16 : decode cX2_compareWith 16 = .ok (.aload_n 1, 1) := by decide +kernel
theorem dX2_compareWith_17 : decode cX2_compareWith 17 = .ok (.getfield 15, 3) := by decide +kernel
theorem dX2_compareWith_20 : decode cX2_compareWith 20 = .ok (.iload_n 2, 1) := by decide +kernel
theorem dX2_compareWith_21 : decode cX2_compareWith 21 = .ok (.laload, 1) := by decide +kernel
theorem dX2_compareWith_22 : decode cX2_compareWith 22 = .ok (.lcmp, 1) := by decide +kernel
theorem dX2_compareWith_23 : decode cX2_compareWith 23 = .ok (.ifCond .eq 25, 3) := by decide +kernel
theorem dX2_compareWith_26 : decode cX2_compareWith 26 = .ok (.aload_n 0, 1) := by decide +kernel
theorem dX2_compareWith_27 : decode cX2_compareWith 27 = .ok (.getfield 15, 3) := by decide +kernel
theorem dX2_compareWith_30 : decode cX2_compareWith 30 = .ok (.iload_n 2, 1) := by decide +kernel
theorem dX2_compareWith_31 : decode cX2_compareWith 31 = .ok (.laload, 1) := by decide +kernel
theorem dX2_compareWith_32 : decode cX2_compareWith 32 = .ok (.aload_n 1, 1) := by decide +kernel
theorem dX2_compareWith_33 : decode cX2_compareWith 33 = .ok (.getfield 15, 3) := by decide +kernel
theorem dX2_compareWith_36 : decode cX2_compareWith 36 = .ok (.iload_n 2, 1) := by decide +kernel
theorem dX2_compareWith_37 : decode cX2_compareWith 37 = .ok (.laload, 1) := by decide +kernel
theorem dX2_compareWith_38 : decode cX2_compareWith 38 = .ok (.lcmp, 1) := by decide +kernel
theorem dX2_compareWith_39 : decode cX2_compareWith 39 = .ok (.ifCond .ge 7, 3) := by decide +kernel
theorem dX2_compareWith_42 : decode cX2_compareWith 42 = .ok (.iconst (-1), 1) := by decide +kernel
theorem dX2_compareWith_43 : decode cX2_compareWith 43 = .ok (.goto 4, 3) := by decide +kernel
theorem dX2_compareWith_46 : decode cX2_compareWith 46 = .ok (.iconst 1, 1) := by decide +kernel
theorem dX2_compareWith_47 : decode cX2_compareWith 47 = .ok (.ireturn, 1) := by decide +kernel
theorem dX2_compareWith_48 : decode cX2_compareWith 48 = .ok (.iinc 2 1, 3) := by decide +kernel
theorem dX2_compareWith_51 : decode cX2_compareWith 51 = .ok (.goto (-49), 3) := by decide +kernel
theorem dX2_compareWith_54 : decode cX2_compareWith 54 = .ok (.iconst 0, 1) := by decide +kernel
theorem dX2_compareWith_55 : decode cX2_compareWith 55 = .ok (.ireturn, 1) := by decide +kernel
set_option maxRecDepth 20000 in
theorem ggX2_becomeSum_X2_formLike : GoodIn wsX2_becomeSum wsX2_formLike := goodIn_r _ [7, 8, 9, 1, 10, 11, 12, 6, 13, 14, 15, 16, 17] (by decide +kernel) (by decide +kernel)
set_option maxRecDepth 20000 in
theorem gX2_becomeSum_X2_formLike : GoodIn wsX2_becomeSum (wsV RX2 29 RX2 yX2_formLike wsX2_formLike) := goodIn_app (goodIn_of _ (by decide +kernel)) ggX2_becomeSum_X2_formLike
theorem dX2_becomeSum_0 : decode cX2_becomeSum 0 = .ok (.aload_n 0, 1) := by decide +kernel
theorem dX2_becomeSum_1 : decode cX2_becomeSum 1 = .ok (.aload_n 1, 1) := by decide +kernel
theorem dX2_becomeSum_2 : decode cX2_becomeSum 2 = .ok (.invokevirtual 29, 3) := by decide +kernel
theorem dX2_becomeSum_5 : decode cX2_becomeSum 5 = .ok (.iconst 0, 1) := by decide +kernel
theorem dX2_becomeSum_6 : decode cX2_becomeSum 6 = .ok (.istore_n 3, 1) := by decide +kernel
theorem dX2_becomeSum_7 : decode cX2_becomeSum 7 = .ok (.iload_n 3, 1) := by decide +kernel
theorem dX2_becomeSum_8 : decode cX2_becomeSum 8 = .ok (.aload_n 0, 1) := by decide +kernel
theorem dX2_becomeSum_9 : decode cX2_becomeSum 9 = .ok (.getfield 22, 3) := by decide +kernel
theorem dX2_becomeSum_12 : decode cX2_becomeSum 12 = .ok (.if_icmp .ge 58, 3) := by decide +kernel
theorem dX2_becomeSum_15 : decode cX2_becomeSum 15 = .ok (.aload_n 1, 1) := by decide +kernel
theorem dX2_becomeSum_16 : decode cX2_becomeSum 16 = .ok (.getfield 15, 3) := by decide +kernel
theorem dX2_becomeSum_19 : decode cX2_becomeSum 19 = .ok (.iload_n 3, 1) := by decide +kernel
theorem dX2_becomeSum_20 : decode cX2_becomeSum 20 = .ok (.laload, 1) := by decide +kernel
theorem dX2_becomeSum_21 : decode cX2_becomeSum 21 = .ok (.lstore 4, 2) := by decide +kernel
theorem dX2_becomeSum_23 : decode cX2_becomeSum 23 = .ok (.aload_n 2, 1) := by decide +kernel
theorem dX2_becomeSum_24 : decode cX2_becomeSum 24 = .ok (.getfield 15, 3) := by decide +kernel
theorem dX2_becomeSum_27 : decode cX2_becomeSum 27 = .ok (.iload_n 3, 1) := by decide +kernel
theorem dX2_becomeSum_28 : decode cX2_becomeSum 28 = .ok (.laload, 1) := by decide +kernel
theorem dX2_becomeSum_29 : decode cX2_becomeSum 29 = .ok (.lstore 6, 2) := by decide +kernel
theorem dX2_becomeSum_31 : decode cX2_becomeSum 31 = .ok (.lload 4, 2) := by decide +kernel
theorem dX2_becomeSum_33 : decode cX2_becomeSum 33 = .ok (.lload 6, 2) := by decide +kernel
theorem dX2_becomeSum_35 : decode cX2_becomeSum 35 = .ok (.ladd, 1) := by decide +kernel
theorem dX2_becomeSum_36 : decode cX2_becomeSum 36 = .ok (.lstore 8, 2) := by decide +kernel
theorem dX2_becomeSum_38 : decode cX2_becomeSum 38 = .ok (.lload 4, 2) := by decide +kernel
theorem dX2_becomeSum_40 : decode cX2_becomeSum 40 = .ok (.lload 8, 2) := by decide +kernel
theorem dX2_becomeSum_42 : decode cX2_becomeSum 42 = .ok (.lxor, 1) := by decide +kernel
theorem dX2_becomeSum_43 : decode cX2_becomeSum 43 = .ok (.lload 6, 2) := by decide +kernel
theorem dX2_becomeSum_45 : decode cX2_becomeSum 45 = .ok (.lload 8, 2) := by decide +kernel
theorem dX2_becomeSum_47 : decode cX2_becomeSum 47 = .ok (.lxor, 1) := by decide +kernel
theorem dX2_becomeSum_48 : decode cX2_becomeSum 48 = .ok (.land, 1) := by decide +kernel
theorem dX2_becomeSum_49 : decode cX2_becomeSum 49 = .ok (.lconst 0, 1) := by decide +kernel
theorem dX2_becomeSum_50 : decode cX2_becomeSum 50 = .ok (.lcmp, 1) := by decide +kernel
theorem dX2_becomeSum_51 : decode cX2_becomeSum 51 = .ok (.ifCond .ge 5, 3) := by decide +kernel
theorem dX2_becomeSum_54 : decode cX2_becomeSum 54 = .ok (.iconst 0, 1) := by decide +kernel
theorem dX2_becomeSum_55 : decode cX2_becomeSum 55 = .ok (.ireturn, 1) := by decide +kernel
theorem dX2_becomeSum_56 : decode cX2_becomeSum 56 = .ok (.aload_n 0, 1) := by decide +kernel
theorem dX2_becomeSum_57 : decode cX2_becomeSum 57 = .ok (.getfield 15, 3) := by decide +kernel
theorem dX2_becomeSum_60 : decode cX2_becomeSum 60 = .ok (.iload_n 3, 1) := by decide +kernel
theorem dX2_becomeSum_61 : decode cX2_becomeSum 61 = .ok (.lload 8, 2) := by decide +kernel
theorem dX2_becomeSum_63 : decode cX2_becomeSum 63 = .ok (.lastore, 1) := by decide +kernel
theorem dX2_becomeSum_64 : decode cX2_becomeSum 64 = .ok (.iinc 3 1, 3) := by decide +kernel
theorem dX2_becomeSum_67 : decode cX2_becomeSum 67 = .ok (.goto (-60), 3) := by decide +kernel
theorem dX2_becomeSum_70 : decode cX2_becomeSum 70 = .ok (.iconst 1, 1) := by decide +kernel
theorem dX2_becomeSum_71 : decode cX2_becomeSum 71 = .ok (.ireturn, 1) := by decide +kernel
set_option maxRecDepth 20000 in
theorem ggX2_becomeDifference_X2_formLike : GoodIn wsX2_becomeDifference wsX2_formLike := goodIn_r _ [7, 8, 9, 1, 10, 11, 12, 6, 13, 14, 15, 16, 17] (by decide +kernel) (by decide +kernel)
set_option maxRecDepth 20000 in
theorem gX2_becomeDifference_X2_formLike : GoodIn wsX2_becomeDifference (wsV RX2 29 RX2 yX2_formLike wsX2_formLike) := goodIn_app (goodIn_of _ (by decide +kernel)) ggX2_becomeDifference_X2_formLike
theorem dX2_becomeDifference_0 : decode cX2_becomeDifference 0 = .ok (.aload_n 0, 1) := by decide +kernel
theorem dX2_becomeDifference_1 : decode cX2_becomeDifference 1 = .ok (.aload_n 1, 1) := by decide +kernel
theorem dX2_becomeDifference_2 : decode cX2_becomeDifference 2 = .ok (.invokevirtual 29, 3) := by decide +kernel
theorem dX2_becomeDifference_5 : decode cX2_becomeDifference 5 = .ok (.iconst 0, 1) := by decide +kernel
theorem dX2_becomeDifference_6 : decode cX2_becomeDifference 6 = .ok (.istore_n 3, 1) := by decide +kernel
theorem dX2_becomeDifference_7 : decode cX2_becomeDifference 7 = .ok (.iload_n 3, 1) := by decide +kernel
theorem dX2_becomeDifference_8 : decode cX2_becomeDifference 8 = .ok (.aload_n 0, 1) := by decide +kernel
theorem dX2_becomeDifference_9 : decode cX2_becomeDifference 9 = .ok (.getfield 22, 3) := by decide +kernel
theorem dX2_becomeDifference_12 : decode cX2_becomeDifference 12 = .ok (.if_icmp .ge 58, 3) := by decide +kernel
theorem dX2_becomeDifference_15 : decode cX2_becomeDifference 15 = .ok (.aload_n 1, 1) := by decide +kernel
theorem dX2_becomeDifference_16 : decode cX2_becomeDifference 16 = .ok (.getfield 15, 3) := by decide +kernel
theorem dX2_becomeDifference_19 : decode cX2_becomeDifference 19 = .ok (.iload_n 3, 1) := by decide +kernel
theorem dX2_becomeDifference_20 : decode cX2_becomeDifference 20 = .ok (.laload, 1) := by decide +kernel
theorem dX2_becomeDifference_21 : decode cX2_becomeDifference 21 = .ok (.lstore 4, 2) := by decide +kernel
theorem dX2_becomeDifference_23 : decode cX2_becomeDifference 23 = .ok (.aload_n 2, 1) := by decide +kernel
theorem dX2_becomeDifference_24 : decode cX2_becomeDifference 24 = .ok (.getfield 15, 3) := by decide +kernel
theorem dX2_becomeDifference_27 : decode cX2_becomeDifference 27 = .ok (.iload_n 3, 1) := by decide +kernel
theorem dX2_becomeDifference_28 : decode cX2_becomeDifference 28 = .ok (.laload, 1) := by decide +kernel
theorem dX2_becomeDifference_29 : decode cX2_becomeDifference 29 = .ok (.lstore 6, 2) := by decide +kernel
theorem dX2_becomeDifference_31 : decode cX2_becomeDifference 31 = .ok (.lload 4, 2) := by decide +kernel
theorem dX2_becomeDifference_33 : decode cX2_becomeDifference 33 = .ok (.lload 6, 2) := by decide +kernel
theorem dX2_becomeDifference_35 : decode cX2_becomeDifference 35 = .ok (.lsub, 1) := by decide +kernel
theorem dX2_becomeDifference_36 : decode cX2_becomeDifference 36 = .ok (.lstore 8, 2) := by decide +kernel
theorem dX2_becomeDifference_38 : decode cX2_becomeDifference 38 = .ok (.lload 4, 2) := by decide +kernel
theorem dX2_becomeDifference_40 : decode cX2_becomeDifference 40 = .ok (.lload 6, 2) := by decide +kernel
theorem dX2_becomeDifference_42 : decode cX2_becomeDifference 42 = .ok (.lxor, 1) := by decide +kernel
theorem dX2_becomeDifference_43 : decode cX2_becomeDifference 43 = .ok (.lload 4, 2) := by decide +kernel
theorem dX2_becomeDifference_45 : decode cX2_becomeDifference 45 = .ok (.lload 8, 2) := by decide +kernel
theorem dX2_becomeDifference_47 : decode cX2_becomeDifference 47 = .ok (.lxor, 1) := by decide +kernel
theorem dX2_becomeDifference_48 : decode cX2_becomeDifference 48 = .ok (.land, 1) := by decide +kernel
theorem dX2_becomeDifference_49 : decode cX2_becomeDifference 49 = .ok (.lconst 0, 1) := by decide +kernel
theorem dX2_becomeDifference_50 : decode cX2_becomeDifference 50 = .ok (.lcmp, 1) := by decide +kernel
theorem dX2_becomeDifference_51 : decode cX2_becomeDifference 51 = .ok (.ifCond .ge 5, 3) := by decide +kernel
theorem dX2_becomeDifference_54 : decode cX2_becomeDifference 54 = .ok (.iconst 0, 1) := by decide +kernel
theorem dX2_becomeDifference_55 : decode cX2_becomeDifference 55 = .ok (.ireturn, 1) := by decide +kernel
theorem dX2_becomeDifference_56 : decode cX2_becomeDifference 56 = .ok (.aload_n 0, 1) := by decide +kernel
theorem dX2_becomeDifference_57 : decode cX2_becomeDifference 57 = .ok (.getfield 15, 3) := by decide +kernel
theorem dX2_becomeDifference_60 : decode cX2_becomeDifference 60 = .ok (.iload_n 3, 1) := by decide +kernel
theorem dX2_becomeDifference_61 : decode cX2_becomeDifference 61 = .ok (.lload 8, 2) := by decide +kernel
theorem dX2_becomeDifference_63 : decode cX2_becomeDifference 63 = .ok (.lastore, 1) := by decide +kernel
theorem dX2_becomeDifference_64 : decode cX2_becomeDifference 64 = .ok (.iinc 3 1, 3) := by decide +kernel
theorem dX2_becomeDifference_67 : decode cX2_becomeDifference 67 = .ok (.goto (-60), 3) := by decide +kernel
theorem dX2_becomeDifference_70 : decode cX2_becomeDifference 70 = .ok (.iconst 1, 1) := by decide +kernel
theorem dX2_becomeDifference_71 : decode cX2_becomeDifference 71 = .ok (.ireturn, 1) := by decide +kernel
set_option maxRecDepth 20000 in
theorem ggX2_becomeGreaterLevels_X2_formLike : GoodIn wsX2_becomeGreaterLevels wsX2_formLike := goodIn_r _ [11, 12, 13, 1, 14, 15, 16, 10, 17, 18, 19, 20, 21] (by decide +kernel) (by decide +kernel)
set_option maxRecDepth 20000 in
theorem gX2_becomeGreaterLevels_X2_formLike : GoodIn wsX2_becomeGreaterLevels (wsV RX2 29 RX2 yX2_formLike wsX2_formLike) := goodIn_app (goodIn_of _ (by decide +kernel)) ggX2_becomeGreaterLevels_X2_formLike
theorem dX2_becomeGreaterLevels_0 : decode cX2_becomeGreaterLevels 0 = .ok (.aload_n 0, 1) := by decide +kernel
theorem dX2_becomeGreaterLevels_1 : decode cX2_becomeGreaterLevels 1 = .ok (.aload_n 1, 1) := by decide +kernel
theorem dX2_becomeGreaterLevels_2 : decode cX2_becomeGreaterLevels 2 = .ok (.invokevirtual 29, 3) := by decide +kernel
theorem dX2_becomeGreaterLevels_5 : decode cX2_becomeGreaterLevels 5 = .ok (.iconst 0, 1) := by decide +kernel
theorem dX2_becomeGreaterLevels_6 : decode cX2_becomeGreaterLevels 6 = .ok (.istore_n 3, 1) := by decide +kernel
theorem dX2_becomeGreaterLevels_7 : decode cX2_becomeGreaterLevels 7 = .ok (.iload_n 3, 1) := by decide +kernel
theorem dX2_becomeGreaterLevels_8 : decode cX2_becomeGreaterLevels 8 = .ok (.aload_n 0, 1) := by decide +kernel
theorem dX2_becomeGreaterLevels_9 : decode cX2_becomeGreaterLevels 9 = .ok (.getfield 22, 3) := by decide +kernel
theorem dX2_becomeGreaterLevels_12 : decode cX2_becomeGreaterLevels 12 = .ok (.if_icmp .ge 30, 3) := by decide +kernel
theorem dX2_becomeGreaterLevels_15 : decode cX2_becomeGreaterLevels 15 = .ok (.aload_n 0, 1) := by decide +kernel
theorem dX2_becomeGreaterLevels_16 : decode cX2_becomeGreaterLevels 16 = .ok (.getfield 15, 3) := by decide +kernel
theorem dX2_becomeGreaterLevels_19 : decode cX2_becomeGreaterLevels 19 = .ok (.iload_n 3, 1) := by decide +kernel
theorem dX2_becomeGreaterLevels_20 : decode cX2_becomeGreaterLevels 20 = .ok (.aload_n 1, 1) := by decide +kernel
theorem dX2_becomeGreaterLevels_21 : decode cX2_becomeGreaterLevels 21 = .ok (.getfield 15, 3) := by decide +kernel
theorem dX2_becomeGreaterLevels_24 : decode cX2_becomeGreaterLevels 24 = .ok (.iload_n 3, 1) := by decide +kernel
theorem dX2_becomeGreaterLevels_25 : decode cX2_becomeGreaterLevels 25 = .ok (.laload, 1) := by decide +kernel
theorem dX2_becomeGreaterLevels_26 : decode cX2_becomeGreaterLevels 26 = .ok (.aload_n 2, 1) := by decide +kernel
theorem dX2_becomeGreaterLevels_27 : decode cX2_becomeGreaterLevels 27 = .ok (.getfield 15, 3) := by decide +kernel
theorem dX2_becomeGreaterLevels_30 : decode cX2_becomeGreaterLevels 30 = .ok (.iload_n 3, 1) := by decide +kernel
theorem dX2_becomeGreaterLevels_31 : decode cX2_becomeGreaterLevels 31 = .ok (.laload, 1) := by decide +kernel
theorem dX2_becomeGreaterLevels_32 : decode cX2_becomeGreaterLevels 32 = .ok (.invokestatic 33, 3) := by decide +kernel
theorem dX2_becomeGreaterLevels_35 : decode cX2_becomeGreaterLevels 35 = .ok (.lastore, 1) := by decide +kernel
theorem dX2_becomeGreaterLevels_36 : decode cX2_becomeGreaterLevels 36 = .ok (.iinc 3 1, 3) := by decide +kernel
theorem dX2_becomeGreaterLevels_39 : decode cX2_becomeGreaterLevels 39 = .ok (.goto (-32), 3) := by decide +kernel
theorem dX2_becomeGreaterLevels_42 : decode cX2_becomeGreaterLevels 42 = .ok (.return_, 1) := by decide +kernel
set_option maxRecDepth 20000 in
theorem ggX2_becomeLesserLevels_X2_formLike : GoodIn wsX2_becomeLesserLevels wsX2_formLike := goodIn_r _ [11, 12, 13, 1, 14, 15, 16, 10, 17, 18, 19, 20, 21] (by decide +kernel) (by decide +kernel)
set_option maxRecDepth 20000 in
theorem gX2_becomeLesserLevels_X2_formLike : GoodIn wsX2_becomeLesserLevels (wsV RX2 29 RX2 yX2_formLike wsX2_formLike) := goodIn_app (goodIn_of _ (by decide +kernel)) ggX2_becomeLesserLevels_X2_formLike
theorem dX2_becomeLesserLevels_0 : decode cX2_becomeLesserLevels 0 = .ok (.aload_n 0, 1) := by decide +kernel
theorem dX2_becomeLesserLevels_1 : decode cX2_becomeLesserLevels 1 = .ok (.aload_n 1, 1) := by decide +kernel
theorem dX2_becomeLesserLevels_2 : decode cX2_becomeLesserLevels 2 = .ok (.invokevirtual 29, 3) := by decide +kernel
theorem dX2_becomeLesserLevels_5 : decode cX2_becomeLesserLevels 5 = .ok (.iconst 0, 1) := by decide +kernel
theorem dX2_becomeLesserLevels_6 : decode cX2_becomeLesserLevels 6 = .ok (.istore_n 3, 1) := by decide +kernel
theorem dX2_becomeLesserLevels_7 : decode cX2_becomeLesserLevels 7 = .ok (.iload_n 3, 1) := by decide +kernel
theorem dX2_becomeLesserLevels_8 : decode cX2_becomeLesserLevels 8 = .ok (.aload_n 0, 1) := by decide +kernel
theorem dX2_becomeLesserLevels_9 : decode cX2_becomeLesserLevels 9 = .ok (.getfield 22, 3) := by decide +kernel
theorem dX2_becomeLesserLevels_12 : decode cX2_becomeLesserLevels 12 = .ok (.if_icmp .ge 30, 3) := by decide +kernel
theorem dX2_becomeLesserLevels_15 : decode cX2_becomeLesserLevels 15 = .ok (.aload_n 0, 1) := by decide +kernel
theorem dX2_becomeLesserLevels_16 : decode cX2_becomeLesserLevels 16 = .ok (.getfield 15, 3) := by decide +kernel
theorem dX2_becomeLesserLevels_19 : decode cX2_becomeLesserLevels 19 = .ok (.iload_n 3, 1) := by decide +kernel
theorem dX2_becomeLesserLevels_20 : decode cX2_becomeLesserLevels 20 = .ok (.aload_n 1, 1) := by decide +kernel
theorem dX2_becomeLesserLevels_21 : decode cX2_becomeLesserLevels 21 = .ok (.getfield 15, 3) := by decide +kernel
theorem dX2_becomeLesserLevels_24 : decode cX2_becomeLesserLevels 24 = .ok (.iload_n 3, 1) := by decide +kernel
theorem dX2_becomeLesserLevels_25 : decode cX2_becomeLesserLevels 25 = .ok (.laload, 1) := by decide +kernel
theorem dX2_becomeLesserLevels_26 : decode cX2_becomeLesserLevels 26 = .ok (.aload_n 2, 1) := by decide +kernel
theorem dX2_becomeLesserLevels_27 : decode cX2_becomeLesserLevels 27 = .ok (.getfield 15, 3) := by decide +kernel
theorem dX2_becomeLesserLevels_30 : decode cX2_becomeLesserLevels 30 = .ok (.iload_n 3, 1) := by decide +kernel
theorem dX2_becomeLesserLevels_31 : decode cX2_becomeLesserLevels 31 = .ok (.laload, 1) := by decide +kernel
theorem dX2_becomeLesserLevels_32 : decode cX2_becomeLesserLevels 32 = .ok (.invokestatic 39, 3) := by decide +kernel
theorem dX2_becomeLesserLevels_35 : decode cX2_becomeLesserLevels 35 = .ok (.lastore, 1) := by decide +kernel
theorem dX2_becomeLesserLevels_36 : decode cX2_becomeLesserLevels 36 = .ok (.iinc 3 1, 3) := by decide +kernel
theorem dX2_becomeLesserLevels_39 : decode cX2_becomeLesserLevels 39 = .ok (.goto (-32), 3) := by decide +kernel
theorem dX2_becomeLesserLevels_42 : decode cX2_becomeLesserLevels 42 = .ok (.return_, 1) := by decide +kernel
theorem dX4_init_0 : decode cX4_init 0 = .ok (.aload_n 0, 1) := by decide +kernel
theorem dX4_init_1 : decode cX4_init 1 = .ok (.invokespecial 1, 3) := by decide +kernel
theorem dX4_init_4 : decode cX4_init 4 = .ok (.return_, 1) := by decide +kernel
theorem dX4_clear_0 : decode cX4_clear 0 = .ok (.aload_n 0, 1) := by decide +kernel
theorem dX4_clear_1 : decode cX4_clear 1 = .ok (.lconst 0, 1) := by decide +kernel
theorem dX4_clear_2 : decode cX4_clear 2 = .ok (.putfield 7, 3) := by decide +kernel
theorem dX4_clear_5 : decode cX4_clear 5 = .ok (.aload_n 0, 1) := by decide +kernel
theorem dX4_clear_6 : decode cX4_clear 6 = .ok (.lconst 0, 1) := by decide +kernel
theorem dX4_clear_7 : decode cX4_clear 7 = .ok (.putfield 13, 3) := by decide +kernel
theorem dX4_clear_10 : decode cX4_clear 10 = .ok (.return_, 1) := by decide +kernel
theorem dX4_addProduct_0 : decode cX4_addProduct 0 = .ok (.lload_n 1, 1) := by decide +kernel
theorem dX4_addProduct_1 : decode cX4_addProduct 1 = .ok (.ldc2_w 16, 3) := by decide +kernel
theorem dX4_addProduct_4 : decode cX4_addProduct 4 = .ok (.land, 1) := by decide +kernel
theorem dX4_addProduct_5 : decode cX4_addProduct 5 = .ok (.lload_n 3, 1) := by decide +kernel
theorem dX4_addProduct_6 : decode cX4_addProduct 6 = .ok (.lmul, 1) := by decide +kernel
theorem dX4_addProduct_7 : decode cX4_addProduct 7 = .ok (.lstore 5, 2) := by decide +kernel
theorem dX4_addProduct_9 : decode cX4_addProduct 9 = .ok (.aload_n 0, 1) := by decide +kernel
theorem dX4_addProduct_10 : decode cX4_addProduct 10 = .ok (.getfield 13, 3) := by decide +kernel
theorem dX4_addProduct_13 : decode cX4_addProduct 13 = .ok (.lload 5, 2) := by decide +kernel
theorem dX4_addProduct_15 : decode cX4_addProduct 15 = .ok (.ldc2_w 16, 3) := by decide +kernel
theorem dX4_addProduct_18 : decode cX4_addProduct 18 = .ok (.land, 1) := by decide +kernel
theorem dX4_addProduct_19 : decode cX4_addProduct 19 = .ok (.ladd, 1) := by decide +kernel
theorem dX4_addProduct_20 : decode cX4_addProduct 20 = .ok (.lstore 7, 2) := by decide +kernel
theorem dX4_addProduct_22 : decode cX4_addProduct 22 = .ok (.aload_n 0, 1) := by decide +kernel
theorem dX4_addProduct_23 : decode cX4_addProduct 23 = .ok (.dup, 1) := by decide +kernel
theorem dX4_addProduct_24 : decode cX4_addProduct 24 = .ok (.getfield 7, 3) := by decide +kernel
theorem dX4_addProduct_27 : decode cX4_addProduct 27 = .ok (.lload_n 1, 1) := by decide +kernel
theorem dX4_addProduct_28 : decode cX4_addProduct 28 = .ok (.bipush 32, 2) := by decide +kernel
theorem dX4_addProduct_30 : decode cX4_addProduct 30 = .ok (.lshr, 1) := by decide +kernel
theorem dX4_addProduct_31 : decode cX4_addProduct 31 = .ok (.lload_n 3, 1) := by decide +kernel
theorem dX4_addProduct_32 : decode cX4_addProduct 32 = .ok (.lmul, 1) := by decide +kernel
theorem dX4_addProduct_33 : decode cX4_addProduct 33 = .ok (.lload 5, 2) := by decide +kernel
theorem dX4_addProduct_35 : decode cX4_addProduct 35 = .ok (.bipush 32, 2) := by decide +kernel
theorem dX4_addProduct_37 : decode cX4_addProduct 37 = .ok (.lshr, 1) := by decide +kernel
theorem dX4_addProduct_38 : decode cX4_addProduct 38 = .ok (.ladd, 1) := by decide +kernel
theorem dX4_addProduct_39 : decode cX4_addProduct 39 = .ok (.lload 7, 2) := by decide +kernel
theorem dX4_addProduct_41 : decode cX4_addProduct 41 = .ok (.bipush 32, 2) := by decide +kernel
theorem dX4_addProduct_43 : decode cX4_addProduct 43 = .ok (.lshr, 1) := by decide +kernel
theorem dX4_addProduct_44 : decode cX4_addProduct 44 = .ok (.ladd, 1) := by decide +kernel
theorem dX4_addProduct_45 : decode cX4_addProduct 45 = .ok (.ladd, 1) := by decide +kernel
theorem dX4_addProduct_46 : decode cX4_addProduct 46 = .ok (.putfield 7, 3) := by decide +kernel
theorem dX4_addProduct_49 : decode cX4_addProduct 49 = .ok (.aload_n 0, 1) := by decide +kernel
theorem dX4_addProduct_50 : decode cX4_addProduct 50 = .ok (.lload 7, 2) := by decide +kernel
theorem dX4_addProduct_52 : decode cX4_addProduct 52 = .ok (.ldc2_w 16, 3) := by decide +kernel
theorem dX4_addProduct_55 : decode cX4_addProduct 55 = .ok (.land, 1) := by decide +kernel
theorem dX4_addProduct_56 : decode cX4_addProduct 56 = .ok (.putfield 13, 3) := by decide +kernel
theorem dX4_addProduct_59 : decode cX4_addProduct 59 = .ok (.return_, 1) := by decide +kernel
set_option maxRecDepth 20000 in
theorem ggX4_divideDown_J9_floorMod_f86c9 : GoodIn wsX4_divideDown wsJ9_floorMod_f86c9 := goodIn_r _ [6] (by decide +kernel) (by decide +kernel)
set_option maxRecDepth 20000 in
theorem gX4_divideDown_J9_floorMod_f86c9 : GoodIn wsX4_divideDown (va_wsS RX4 18 yJ9_floorMod_f86c9 wsJ9_floorMod_f86c9) := goodIn_app (goodIn_of _ (by decide +kernel)) ggX4_divideDown_J9_floorMod_f86c9
set_option maxRecDepth 20000 in
theorem ggX4_divideDown_J9_floorDiv_f86c9 : GoodIn wsX4_divideDown wsJ9_floorDiv_f86c9 := goodIn_r _ [9] (by decide +kernel) (by decide +kernel)
set_option maxRecDepth 20000 in
theorem gX4_divideDown_J9_floorDiv_f86c9 : GoodIn wsX4_divideDown (va_wsS RX4 24 yJ9_floorDiv_f86c9 wsJ9_floorDiv_f86c9) := goodIn_app (goodIn_of _ (by decide +kernel)) ggX4_divideDown_J9_floorDiv_f86c9
theorem dX4_divideDown_0 : decode cX4_divideDown 0 = .ok (.lload_n 1, 1) := by decide +kernel
theorem dX4_divideDown_1 : decode cX4_divideDown 1 = .ok (.lconst 1, 1) := by decide +kernel
theorem dX4_divideDown_2 : decode cX4_divideDown 2 = .ok (.lcmp, 1) := by decide +kernel
theorem dX4_divideDown_3 : decode cX4_divideDown 3 = .ok (.ifCond .ge 4, 3) := by decide +kernel
theorem dX4_divideDown_6 : decode cX4_divideDown 6 = .ok (.return_, 1) := by decide +kernel
theorem dX4_divideDown_7 : decode cX4_divideDown 7 = .ok (.aload_n 0, 1) := by decide +kernel
theorem dX4_divideDown_8 : decode cX4_divideDown 8 = .ok (.getfield 7, 3) := by decide +kernel
theorem dX4_divideDown_11 : decode cX4_divideDown 11 = .ok (.lload_n 1, 1) := by decide +kernel
theorem dX4_divideDown_12 : decode cX4_divideDown 12 = .ok (.invokestatic 18, 3) := by decide +kernel
theorem dX4_divideDown_15 : decode cX4_divideDown 15 = .ok (.lstore_n 3, 1) := by decide +kernel
theorem dX4_divideDown_16 : decode cX4_divideDown 16 = .ok (.aload_n 0, 1) := by decide +kernel
theorem dX4_divideDown_17 : decode cX4_divideDown 17 = .ok (.aload_n 0, 1) := by decide +kernel
theorem dX4_divideDown_18 : decode cX4_divideDown 18 = .ok (.getfield 7, 3) := by decide +kernel
theorem dX4_divideDown_21 : decode cX4_divideDown 21 = .ok (.lload_n 1, 1) := by decide +kernel
theorem dX4_divideDown_22 : decode cX4_divideDown 22 = .ok (.invokestatic 24, 3) := by decide +kernel
theorem dX4_divideDown_25 : decode cX4_divideDown 25 = .ok (.putfield 7, 3) := by decide +kernel
theorem dX4_divideDown_28 : decode cX4_divideDown 28 = .ok (.aload_n 0, 1) := by decide +kernel
theorem dX4_divideDown_29 : decode cX4_divideDown 29 = .ok (.lload_n 3, 1) := by decide +kernel
theorem dX4_divideDown_30 : decode cX4_divideDown 30 = .ok (.bipush 32, 2) := by decide +kernel
theorem dX4_divideDown_32 : decode cX4_divideDown 32 = .ok (.lshl, 1) := by decide +kernel
theorem dX4_divideDown_33 : decode cX4_divideDown 33 = .ok (.aload_n 0, 1) := by decide +kernel
theorem dX4_divideDown_34 : decode cX4_divideDown 34 = .ok (.getfield 13, 3) := by decide +kernel
theorem dX4_divideDown_37 : decode cX4_divideDown 37 = .ok (.lor, 1) := by decide +kernel
theorem dX4_divideDown_38 : decode cX4_divideDown 38 = .ok (.lload_n 1, 1) := by decide +kernel
theorem dX4_divideDown_39 : decode cX4_divideDown 39 = .ok (.ldiv, 1) := by decide +kernel
theorem dX4_divideDown_40 : decode cX4_divideDown 40 = .ok (.putfield 13, 3) := by decide +kernel
theorem dX4_divideDown_43 : decode cX4_divideDown 43 = .ok (.return_, 1) := by decide +kernel
theorem dX4_fits_0 : decode cX4_fits 0 = .ok (.aload_n 0, 1) := by decide +kernel
theorem dX4_fits_1 : decode cX4_fits 1 = .ok (.getfield 7, 3) := by decide +kernel
theorem dX4_fits_4 : decode cX4_fits 4 = .ok (.ldc2_w 29, 3) := by decide +kernel
theorem dX4_fits_7 : decode cX4_fits 7 = .ok (.lcmp, 1) := by decide +kernel
theorem dX4_fits_8 : decode cX4_fits 8 = .ok (.ifCond .lt 18, 3) := by decide +kernel
theorem dX4_fits_11 : decode cX4_fits 11 = .ok (.aload_n 0, 1) := by decide +kernel
theorem dX4_fits_12 : decode cX4_fits 12 = .ok (.getfield 7, 3) := by decide +kernel
theorem dX4_fits_15 : decode cX4_fits 15 = .ok (.ldc2_w 31, 3) := by decide +kernel
theorem dX4_fits_18 : decode cX4_fits 18 = .ok (.lcmp, 1) := by decide +kernel
theorem dX4_fits_19 : decode cX4_fits 19 = .ok (.ifCond .gt 7, 3) := by decide +kernel
theorem dX4_fits_22 : decode cX4_fits 22 = .ok (.iconst 1, 1) := by decide +kernel
theorem dX4_fits_23 : decode cX4_fits 23 = .ok (.goto 4, 3) := by decide +kernel
theorem dX4_fits_26 : decode cX4_fits 26 = .ok (.iconst 0, 1) := by decide +kernel
theorem dX4_fits_27 : decode cX4_fits 27 = .ok (.ireturn, 1) := by decide +kernel
theorem dX4_value_0 : decode cX4_value 0 = .ok (.aload_n 0, 1) := by decide +kernel
theorem dX4_value_1 : decode cX4_value 1 = .ok (.getfield 7, 3) := by decide +kernel
theorem dX4_value_4 : decode cX4_value 4 = .ok (.bipush 32, 2) := by decide +kernel
theorem dX4_value_6 : decode cX4_value 6 = .ok (.lshl, 1) := by decide +kernel
theorem dX4_value_7 : decode cX4_value 7 = .ok (.aload_n 0, 1) := by decide +kernel
theorem dX4_value_8 : decode cX4_value 8 = .ok (.getfield 13, 3) := by decide +kernel
theorem dX4_value_11 : decode cX4_value 11 = .ok (.lor, 1) := by decide +kernel
theorem dX4_value_12 : decode cX4_value 12 = .ok (.lreturn, 1) := by decide +kernel
theorem dJ9_floorDiv_f86c9_0 : decode cJ9_floorDiv_f86c9 0 = .ok (.lload_n 0, 1) := by decide +kernel
theorem dJ9_floorDiv_f86c9_1 : decode cJ9_floorDiv_f86c9 1 = .ok (.lload_n 2, 1) := by decide +kernel
theorem dJ9_floorDiv_f86c9_2 : decode cJ9_floorDiv_f86c9 2 = .ok (.ldiv, 1) := by decide +kernel
theorem dJ9_floorDiv_f86c9_3 : decode cJ9_floorDiv_f86c9 3 = .ok (.lstore 4, 2) := by decide +kernel
theorem dJ9_floorDiv_f86c9_5 : decode cJ9_floorDiv_f86c9 5 = .ok (.lload_n 0, 1) := by decide +kernel
theorem dJ9_floorDiv_f86c9_6 : decode cJ9_floorDiv_f86c9 6 = .ok (.lload_n 2, 1) := by decide +kernel
theorem dJ9_floorDiv_f86c9_7 : decode cJ9_floorDiv_f86c9 7 = .ok (.lxor, 1) := by decide +kernel
theorem dJ9_floorDiv_f86c9_8 : decode cJ9_floorDiv_f86c9 8 = .ok (.lconst 0, 1) := by decide +kernel
theorem dJ9_floorDiv_f86c9_9 : decode cJ9_floorDiv_f86c9 9 = .ok (.lcmp, 1) := by decide +kernel
theorem dJ9_floorDiv_f86c9_10 : decode cJ9_floorDiv_f86c9 10 = .ok (.ifCond .ge 17, 3) := by decide +kernel
theorem dJ9_floorDiv_f86c9_13 : decode cJ9_floorDiv_f86c9 13 = .ok (.lload 4, 2) := by decide +kernel
theorem dJ9_floorDiv_f86c9_15 : decode cJ9_floorDiv_f86c9 15 = .ok (.lload_n 2, 1) := by decide +kernel
theorem dJ9_floorDiv_f86c9_16 : decode cJ9_floorDiv_f86c9 16 = .ok (.lmul, 1) := by decide +kernel
theorem dJ9_floorDiv_f86c9_17 : decode cJ9_floorDiv_f86c9 17 = .ok (.lload_n 0, 1) := by decide +kernel
theorem dJ9_floorDiv_f86c9_18 : decode cJ9_floorDiv_f86c9 18 = .ok (.lcmp, 1) := by decide +kernel
theorem dJ9_floorDiv_f86c9_19 : decode cJ9_floorDiv_f86c9 19 = .ok (.ifCond .eq 8, 3) := by decide +kernel
theorem dJ9_floorDiv_f86c9_22 : decode cJ9_floorDiv_f86c9 22 = .ok (.lload 4, 2) := by decide +kernel
theorem dJ9_floorDiv_f86c9_24 : decode cJ9_floorDiv_f86c9 24 = .ok (.lconst 1, 1) := by decide +kernel
theorem dJ9_floorDiv_f86c9_25 : decode cJ9_floorDiv_f86c9 25 = .ok (.lsub, 1) := by decide +kernel
theorem dJ9_floorDiv_f86c9_26 : decode cJ9_floorDiv_f86c9 26 = .ok (.lreturn, 1) := by decide +kernel
theorem dJ9_floorDiv_f86c9_27 : decode cJ9_floorDiv_f86c9 27 = .ok (.lload 4, 2) := by decide +kernel
theorem dJ9_floorDiv_f86c9_29 : decode cJ9_floorDiv_f86c9 29 = .ok (.lreturn, 1) := by decide +kernel
theorem dJ9_floorMod_f86c9_0 : decode cJ9_floorMod_f86c9 0 = .ok (.lload_n 0, 1) := by decide +kernel
theorem dJ9_floorMod_f86c9_1 : decode cJ9_floorMod_f86c9 1 = .ok (.lload_n 2, 1) := by decide +kernel
theorem dJ9_floorMod_f86c9_2 : decode cJ9_floorMod_f86c9 2 = .ok (.lrem, 1) := by decide +kernel
theorem dJ9_floorMod_f86c9_3 : decode cJ9_floorMod_f86c9 3 = .ok (.lstore 4, 2) := by decide +kernel
theorem dJ9_floorMod_f86c9_5 : decode cJ9_floorMod_f86c9 5 = .ok (.lload_n 0, 1) := by decide +kernel
theorem dJ9_floorMod_f86c9_6 : decode cJ9_floorMod_f86c9 6 = .ok (.lload_n 2, 1) := by decide +kernel
theorem dJ9_floorMod_f86c9_7 : decode cJ9_floorMod_f86c9 7 = .ok (.lxor, 1) := by decide +kernel
theorem dJ9_floorMod_f86c9_8 : decode cJ9_floorMod_f86c9 8 = .ok (.lconst 0, 1) := by decide +kernel
theorem dJ9_floorMod_f86c9_9 : decode cJ9_floorMod_f86c9 9 = .ok (.lcmp, 1) := by decide +kernel
theorem dJ9_floorMod_f86c9_10 : decode cJ9_floorMod_f86c9 10 = .ok (.ifCond .ge 15, 3) := by decide +kernel
theorem dJ9_floorMod_f86c9_13 : decode cJ9_floorMod_f86c9 13 = .ok (.lload 4, 2) := by decide +kernel
theorem dJ9_floorMod_f86c9_15 : decode cJ9_floorMod_f86c9 15 = .ok (.lconst 0, 1) := by decide +kernel
theorem dJ9_floorMod_f86c9_16 : decode cJ9_floorMod_f86c9 16 = .ok (.lcmp, 1) := by decide +kernel
theorem dJ9_floorMod_f86c9_17 : decode cJ9_floorMod_f86c9 17 = .ok (.ifCond .eq 8, 3) := by decide +kernel
theorem dJ9_floorMod_f86c9_20 : decode cJ9_floorMod_f86c9 20 = .ok (.lload 4, 2) := by decide +kernel
theorem dJ9_floorMod_f86c9_22 : decode cJ9_floorMod_f86c9 22 = .ok (.lload_n 2, 1) := by decide +kernel
theorem dJ9_floorMod_f86c9_23 : decode cJ9_floorMod_f86c9 23 = .ok (.ladd, 1) := by decide +kernel
theorem dJ9_floorMod_f86c9_24 : decode cJ9_floorMod_f86c9 24 = .ok (.lreturn, 1) := by decide +kernel
theorem dJ9_floorMod_f86c9_25 : decode cJ9_floorMod_f86c9 25 = .ok (.lload 4, 2) := by decide +kernel
theorem dJ9_floorMod_f86c9_27 : decode cJ9_floorMod_f86c9 27 = .ok (.lreturn, 1) := by decide +kernel
theorem dJ9_max_f86c9_0 : decode cJ9_max_f86c9 0 = .ok (.lload_n 0, 1) := by decide +kernel
theorem dJ9_max_f86c9_1 : decode cJ9_max_f86c9 1 = .ok (.lload_n 2, 1) := by decide +kernel
theorem dJ9_max_f86c9_2 : decode cJ9_max_f86c9 2 = .ok (.lcmp, 1) := by decide +kernel
theorem dJ9_max_f86c9_3 : decode cJ9_max_f86c9 3 = .ok (.ifCond .lt 7, 3) := by decide +kernel
theorem dJ9_max_f86c9_6 : decode cJ9_max_f86c9 6 = .ok (.lload_n 0, 1) := by decide +kernel
theorem dJ9_max_f86c9_7 : decode cJ9_max_f86c9 7 = .ok (.goto 4, 3) := by decide +kernel
theorem dJ9_max_f86c9_10 : decode cJ9_max_f86c9 10 = .ok (.lload_n 2, 1) := by decide +kernel
theorem dJ9_max_f86c9_11 : decode cJ9_max_f86c9 11 = .ok (.lreturn, 1) := by decide +kernel
theorem dJ9_min_f86c9_0 : decode cJ9_min_f86c9 0 = .ok (.lload_n 0, 1) := by decide +kernel
theorem dJ9_min_f86c9_1 : decode cJ9_min_f86c9 1 = .ok (.lload_n 2, 1) := by decide +kernel
theorem dJ9_min_f86c9_2 : decode cJ9_min_f86c9 2 = .ok (.lcmp, 1) := by decide +kernel
theorem dJ9_min_f86c9_3 : decode cJ9_min_f86c9 3 = .ok (.ifCond .gt 7, 3) := by decide +kernel
theorem dJ9_min_f86c9_6 : decode cJ9_min_f86c9 6 = .ok (.lload_n 0, 1) := by decide +kernel
theorem dJ9_min_f86c9_7 : decode cJ9_min_f86c9 7 = .ok (.goto 4, 3) := by decide +kernel
theorem dJ9_min_f86c9_10 : decode cJ9_min_f86c9 10 = .ok (.lload_n 2, 1) := by decide +kernel
theorem dJ9_min_f86c9_11 : decode cJ9_min_f86c9 11 = .ok (.lreturn, 1) := by decide +kernel
set_option maxRecDepth 20000 in
theorem ggJ0_length_8abf5_J0_coder_7d493 : GoodIn wsJ0_length_8abf5 wsJ0_coder_7d493 := goodIn_r _ [6, 7, 8] (by decide +kernel) (by decide +kernel)
set_option maxRecDepth 20000 in
theorem gJ0_length_8abf5_J0_coder_7d493 : GoodIn wsJ0_length_8abf5 (wsV RJ0 335 RJ0 yJ0_coder_7d493 wsJ0_coder_7d493) := goodIn_app (goodIn_of _ (by decide +kernel)) ggJ0_length_8abf5_J0_coder_7d493
theorem dJ0_length_8abf5_0 : decode cJ0_length_8abf5 0 = .ok (.aload_n 0, 1) := by decide +kernel
theorem dJ0_length_8abf5_1 : decode cJ0_length_8abf5 1 = .ok (.getfield 9, 3) := by decide +kernel
theorem dJ0_length_8abf5_4 : decode cJ0_length_8abf5 4 = .ok (.arraylength, 1) := by decide +kernel
theorem dJ0_length_8abf5_5 : decode cJ0_length_8abf5 5 = .ok (.aload_n 0, 1) := by decide +kernel
theorem dJ0_length_8abf5_6 : decode cJ0_length_8abf5 6 = .ok (.invokevirtual 335, 3) := by decide +kernel
theorem dJ0_length_8abf5_9 : decode cJ0_length_8abf5 9 = .ok (.ishr, 1) := by decide +kernel
theorem dJ0_length_8abf5_10 : decode cJ0_length_8abf5 10 = .ok (.ireturn, 1) := by decide +kernel
set_option maxRecDepth 20000 in
theorem ggJ0_charAt_5068e_J0_isLatin1_aae02 : GoodIn wsJ0_charAt_5068e wsJ0_isLatin1_aae02 := goodIn_r _ [6, 7, 8] (by decide +kernel) (by decide +kernel)
set_option maxRecDepth 20000 in
theorem gJ0_charAt_5068e_J0_isLatin1_aae02 : GoodIn wsJ0_charAt_5068e (wsV RJ0 492 RJ0 yJ0_isLatin1_aae02 wsJ0_isLatin1_aae02) := goodIn_app (goodIn_of _ (by decide +kernel)) ggJ0_charAt_5068e_J0_isLatin1_aae02
set_option maxRecDepth 20000 in
theorem ggJ0_charAt_5068e_J1_charAt_3b067 : GoodIn wsJ0_charAt_5068e wsJ1_charAt_3b067 := goodIn_r _ [12, 13, 14, 5, 15, 16, 17, 18, 19, 20] (by decide +kernel) (by decide +kernel)
set_option maxRecDepth 20000 in
theorem gJ0_charAt_5068e_J1_charAt_3b067 : GoodIn wsJ0_charAt_5068e (va_wsS RJ0 495 yJ1_charAt_3b067 wsJ1_charAt_3b067) := goodIn_app (goodIn_of _ (by decide +kernel)) ggJ0_charAt_5068e_J1_charAt_3b067
set_option maxRecDepth 20000 in
theorem ggJ0_charAt_5068e_J2_charAt_3b067 : GoodIn wsJ0_charAt_5068e wsJ2_charAt_3b067 := goodIn_r _ [24, 25, 26, 23, 27, 28, 29, 30, 31, 14, 5, 15, 16, 17, 18, 19, 20, 32, 33, 34, 35, 36, 37] (by decide +kernel) (by decide +kernel)
set_option maxRecDepth 20000 in
theorem gJ0_charAt_5068e_J2_charAt_3b067 : GoodIn wsJ0_charAt_5068e (va_wsS RJ0 498 yJ2_charAt_3b067 wsJ2_charAt_3b067) := goodIn_app (goodIn_of _ (by decide +kernel)) ggJ0_charAt_5068e_J2_charAt_3b067
theorem dJ0_charAt_5068e_0 : decode cJ0_charAt_5068e 0 = .ok (.aload_n 0, 1) := by decide +kernel
theorem dJ0_charAt_5068e_1 : decode cJ0_charAt_5068e 1 = .ok (.invokevirtual 492, 3) := by decide +kernel
theorem dJ0_charAt_5068e_4 : decode cJ0_charAt_5068e 4 = .ok (.ifCond .eq 12, 3) := by decide +kernel
theorem dJ0_charAt_5068e_7 : decode cJ0_charAt_5068e 7 = .ok (.aload_n 0, 1) := by decide +kernel
theorem dJ0_charAt_5068e_8 : decode cJ0_charAt_5068e 8 = .ok (.getfield 9, 3) := by decide +kernel
theorem dJ0_charAt_5068e_11 : decode cJ0_charAt_5068e 11 = .ok (.iload_n 1, 1) := by decide +kernel
theorem dJ0_charAt_5068e_12 : decode cJ0_charAt_5068e 12 = .ok (.invokestatic 495, 3) := by decide +kernel
theorem dJ0_charAt_5068e_15 : decode cJ0_charAt_5068e 15 = .ok (.ireturn, 1) := by decide +kernel
theorem dJ0_charAt_5068e_16 : decode cJ0_charAt_5068e 16 = .ok (.aload_n 0, 1) := by decide +kernel
theorem dJ0_charAt_5068e_17 : decode cJ0_charAt_5068e 17 = .ok (.getfield 9, 3) := by decide +kernel
theorem dJ0_charAt_5068e_20 : decode cJ0_charAt_5068e 20 = .ok (.iload_n 1, 1) := by decide +kernel
theorem dJ0_charAt_5068e_21 : decode cJ0_charAt_5068e 21 = .ok (.invokestatic 498, 3) := by decide +kernel
theorem dJ0_charAt_5068e_24 : decode cJ0_charAt_5068e 24 = .ok (.ireturn, 1) := by decide +kernel
theorem dJ0_coder_7d493_0 : decode cJ0_coder_7d493 0 = .ok (.getstatic 38, 3) := by decide +kernel
theorem dJ0_coder_7d493_3 : decode cJ0_coder_7d493 3 = .ok (.ifCond .eq 10, 3) := by decide +kernel
theorem dJ0_coder_7d493_6 : decode cJ0_coder_7d493 6 = .ok (.aload_n 0, 1) := by decide +kernel
theorem dJ0_coder_7d493_7 : decode cJ0_coder_7d493 7 = .ok (.getfield 15, 3) := by decide +kernel
theorem dJ0_coder_7d493_10 : decode cJ0_coder_7d493 10 = .ok (.goto 4, 3) := by decide +kernel
theorem dJ0_coder_7d493_13 : decode cJ0_coder_7d493 13 = .ok (.iconst 1, 1) := by decide +kernel
theorem dJ0_coder_7d493_14 : decode cJ0_coder_7d493 14 = .ok (.ireturn, 1) := by decide +kernel
theorem dJ0_isLatin1_aae02_0 : decode cJ0_isLatin1_aae02 0 = .ok (.getstatic 38, 3) := by decide +kernel
theorem dJ0_isLatin1_aae02_3 : decode cJ0_isLatin1_aae02 3 = .ok (.ifCond .eq 14, 3) := by decide +kernel
theorem dJ0_isLatin1_aae02_6 : decode cJ0_isLatin1_aae02 6 = .ok (.aload_n 0, 1) := by decide +kernel
theorem dJ0_isLatin1_aae02_7 : decode cJ0_isLatin1_aae02 7 = .ok (.getfield 15, 3) := by decide +kernel
theorem dJ0_isLatin1_aae02_10 : decode cJ0_isLatin1_aae02 10 = .ok (.ifCond .ne 7, 3) := by decide +kernel
theorem dJ0_isLatin1_aae02_13 : decode cJ0_isLatin1_aae02 13 = .ok (.iconst 1, 1) := by decide +kernel
theorem dJ0_isLatin1_aae02_14 : decode cJ0_isLatin1_aae02 14 = .ok (.goto 4, 3) := by decide +kernel
theorem dJ0_isLatin1_aae02_17 : decode cJ0_isLatin1_aae02 17 = .ok (.iconst 0, 1) := by decide +kernel
theorem dJ0_isLatin1_aae02_18 : decode cJ0_isLatin1_aae02 18 = .ok (.ireturn, 1) := by decide +kernel
set_option maxRecDepth 20000 in
theorem ggJ0_checkIndex_df160_J3_checkIndex_8e157 : GoodIn wsJ0_checkIndex_df160 wsJ3_checkIndex_8e157 := goodIn_r _ [5] (by decide +kernel) (by decide +kernel)
set_option maxRecDepth 20000 in
theorem gJ0_checkIndex_df160_J3_checkIndex_8e157 : GoodIn wsJ0_checkIndex_df160 (va_wsS RJ0 1059 yJ3_checkIndex_8e157 wsJ3_checkIndex_8e157) := goodIn_app (goodIn_of _ (by decide +kernel)) ggJ0_checkIndex_df160_J3_checkIndex_8e157
theorem dJ0_checkIndex_df160_0 : decode cJ0_checkIndex_df160 0 = .ok (.iload_n 0, 1) := by decide +kernel
theorem dJ0_checkIndex_df160_1 : decode cJ0_checkIndex_df160 1 = .ok (.iload_n 1, 1) := by decide +kernel
theorem dJ0_checkIndex_df160_2 : decode cJ0_checkIndex_df160 2 = .ok (.getstatic 1053, 3) := by decide +kernel
theorem dJ0_checkIndex_df160_5 : decode cJ0_checkIndex_df160 5 = .ok (.invokestatic 1059, 3) := by decide +kernel
theorem dJ0_checkIndex_df160_8 : decode cJ0_checkIndex_df160 8 = .ok (.pop, 1) := by decide +kernel
theorem dJ0_checkIndex_df160_9 : decode cJ0_checkIndex_df160 9 = .ok (.return_, 1) := by decide +kernel
set_option maxRecDepth 20000 in
theorem ggJ1_charAt_3b067_J0_checkIndex_df160 : GoodIn wsJ1_charAt_3b067 wsJ0_checkIndex_df160 := goodIn_r _ [4, 5, 6, 7, 8, 9] (by decide +kernel) (by decide +kernel)
set_option maxRecDepth 20000 in
theorem gJ1_charAt_3b067_J0_checkIndex_df160 : GoodIn wsJ1_charAt_3b067 (va_wsS RJ1 9 yJ0_checkIndex_df160 wsJ0_checkIndex_df160) := goodIn_app (goodIn_of _ (by decide +kernel)) ggJ1_charAt_3b067_J0_checkIndex_df160
theorem dJ1_charAt_3b067_0 : decode cJ1_charAt_3b067 0 = .ok (.iload_n 1, 1) := by decide +kernel
theorem dJ1_charAt_3b067_1 : decode cJ1_charAt_3b067 1 = .ok (.aload_n 0, 1) := by decide +kernel
theorem dJ1_charAt_3b067_2 : decode cJ1_charAt_3b067 2 = .ok (.arraylength, 1) := by decide +kernel
theorem dJ1_charAt_3b067_3 : decode cJ1_charAt_3b067 3 = .ok (.invokestatic 9, 3) := by decide +kernel
theorem dJ1_charAt_3b067_6 : decode cJ1_charAt_3b067 6 = .ok (.aload_n 0, 1) := by decide +kernel
theorem dJ1_charAt_3b067_7 : decode cJ1_charAt_3b067 7 = .ok (.iload_n 1, 1) := by decide +kernel
theorem dJ1_charAt_3b067_8 : decode cJ1_charAt_3b067 8 = .ok (.baload, 1) := by decide +kernel
theorem dJ1_charAt_3b067_9 : decode cJ1_charAt_3b067 9 = .ok (.sipush 255, 3) := by decide +kernel
theorem dJ1_charAt_3b067_12 : decode cJ1_charAt_3b067 12 = .ok (.iand, 1) := by decide +kernel
theorem dJ1_charAt_3b067_13 : decode cJ1_charAt_3b067 13 = .ok (.i2c, 1) := by decide +kernel
theorem dJ1_charAt_3b067_14 : decode cJ1_charAt_3b067 14 = .ok (.ireturn, 1) := by decide +kernel
set_option maxRecDepth 20000 in
theorem ggJ2_getChar_3b067_J2_length_9d52b : GoodIn wsJ2_getChar_3b067 wsJ2_length_9d52b := goodIn_r _ [7] (by decide +kernel) (by decide +kernel)
set_option maxRecDepth 20000 in
theorem gJ2_getChar_3b067_J2_length_9d52b : GoodIn wsJ2_getChar_3b067 (va_wsS RJ2 48 yJ2_length_9d52b wsJ2_length_9d52b) := goodIn_app (goodIn_of _ (by decide +kernel)) ggJ2_getChar_3b067_J2_length_9d52b
theorem dJ2_getChar_3b067_0 : decode cJ2_getChar_3b067 0 = .ok (.getstatic 44, 3) := by decide +kernel
theorem dJ2_getChar_3b067_3 : decode cJ2_getChar_3b067 3 = .ok (.ifCond .ne 25, 3) := by decide +kernel
theorem dJ2_getChar_3b067_6 : decode cJ2_getChar_3b067 6 = .ok (.iload_n 1, 1) := by decide +kernel
theorem dJ2_getChar_3b067_7 : decode cJ2_getChar_3b067 7 = .ok (.ifCond .lt 11, 3) := by decide +kernel
theorem dJ2_getChar_3b067_10 : decode cJ2_getChar_3b067 10 = .ok (.iload_n 1, 1) := by decide +kernel
theorem dJ2_getChar_3b067_11 : decode cJ2_getChar_3b067 11 = .ok (.aload_n 0, 1) := by decide +kernel
theorem dJ2_getChar_3b067_12 : decode cJ2_getChar_3b067 12 = .ok (.invokestatic 48, 3) := by decide +kernel
theorem dJ2_getChar_3b067_15 : decode cJ2_getChar_3b067 15 = .ok (.if_icmp .lt 13, 3) := by decide +kernel
theorem dJ2_getChar_3b067_18 : decode cJ2_getChar_3b067 18 = .ok (.new 52, 3) := by decide +kernel
theorem dJ2_getChar_3b067_21 : decode cJ2_getChar_3b067 21 = .ok (.dup, 1) := by decide +kernel
theorem dJ2_getChar_3b067_22 : decode cJ2_getChar_3b067 22 = .ok (.ldc 54, 2) := by decide +kernel
theorem dJ2_getChar_3b067_24 : decode cJ2_getChar_3b067 24 = .ok (.invokespecial 56, 3) := by decide +kernel
theorem dJ2_getChar_3b067_27 : decode cJ2_getChar_3b067 27 = .ok (.athrow, 1) := by decide +kernel
theorem dJ2_getChar_3b067_28 : decode cJ2_getChar_3b067 28 = .ok (.iload_n 1, 1) := by decide +kernel
theorem dJ2_getChar_3b067_29 : decode cJ2_getChar_3b067 29 = .ok (.iconst 1, 1) := by decide +kernel
theorem dJ2_getChar_3b067_30 : decode cJ2_getChar_3b067 30 = .ok (.ishl, 1) := by decide +kernel
theorem dJ2_getChar_3b067_31 : decode cJ2_getChar_3b067 31 = .ok (.istore_n 1, 1) := by decide +kernel
theorem dJ2_getChar_3b067_32 : decode cJ2_getChar_3b067 32 = .ok (.aload_n 0, 1) := by decide +kernel
theorem dJ2_getChar_3b067_33 : decode cJ2_getChar_3b067 33 = .ok (.iload_n 1, 1) := by decide +kernel
theorem dJ2_getChar_3b067_34 : decode cJ2_getChar_3b067 34 = .ok (.iinc 1 1, 3) := by decide +kernel
theorem dJ2_getChar_3b067_37 : decode cJ2_getChar_3b067 37 = .ok (.baload, 1) := by decide +kernel
theorem dJ2_getChar_3b067_38 : decode cJ2_getChar_3b067 38 = .ok (.sipush 255, 3) := by decide +kernel
theorem dJ2_getChar_3b067_41 : decode cJ2_getChar_3b067 41 = .ok (.iand, 1) := by decide +kernel
theorem dJ2_getChar_3b067_42 : decode cJ2_getChar_3b067 42 = .ok (.getstatic 59, 3) := by decide +kernel
theorem dJ2_getChar_3b067_45 : decode cJ2_getChar_3b067 45 = .ok (.ishl, 1) := by decide +kernel
theorem dJ2_getChar_3b067_46 : decode cJ2_getChar_3b067 46 = .ok (.aload_n 0, 1) := by decide +kernel
theorem dJ2_getChar_3b067_47 : decode cJ2_getChar_3b067 47 = .ok (.iload_n 1, 1) := by decide +kernel
theorem dJ2_getChar_3b067_48 : decode cJ2_getChar_3b067 48 = .ok (.baload, 1) := by decide +kernel
theorem dJ2_getChar_3b067_49 : decode cJ2_getChar_3b067 49 = .ok (.sipush 255, 3) := by decide +kernel
theorem dJ2_getChar_3b067_52 : decode cJ2_getChar_3b067 52 = .ok (.iand, 1) := by decide +kernel
theorem dJ2_getChar_3b067_53 : decode cJ2_getChar_3b067 53 = .ok (.getstatic 63, 3) := by decide +kernel
theorem dJ2_getChar_3b067_56 : decode cJ2_getChar_3b067 56 = .ok (.ishl, 1) := by decide +kernel
theorem dJ2_getChar_3b067_57 : decode cJ2_getChar_3b067 57 = .ok (.ior, 1) := by decide +kernel
theorem dJ2_getChar_3b067_58 : decode cJ2_getChar_3b067 58 = .ok (.i2c, 1) := by decide +kernel
theorem dJ2_getChar_3b067_59 : decode cJ2_getChar_3b067 59 = .ok (.ireturn, 1) := by decide +kernel
theorem dJ2_length_9d52b_0 : decode cJ2_length_9d52b 0 = .ok (.aload_n 0, 1) := by decide +kernel
theorem dJ2_length_9d52b_1 : decode cJ2_length_9d52b 1 = .ok (.arraylength, 1) := by decide +kernel
theorem dJ2_length_9d52b_2 : decode cJ2_length_9d52b 2 = .ok (.iconst 1, 1) := by decide +kernel
theorem dJ2_length_9d52b_3 : decode cJ2_length_9d52b 3 = .ok (.ishr, 1) := by decide +kernel
theorem dJ2_length_9d52b_4 : decode cJ2_length_9d52b 4 = .ok (.ireturn, 1) := by decide +kernel
set_option maxRecDepth 20000 in
theorem ggJ2_charAt_3b067_J2_checkIndex_2214a : GoodIn wsJ2_charAt_3b067 wsJ2_checkIndex_2214a := goodIn_r _ [4, 5, 6, 3, 7, 8, 9, 10, 11, 12, 13, 14, 15, 16] (by decide +kernel) (by decide +kernel)
set_option maxRecDepth 20000 in
theorem gJ2_charAt_3b067_J2_checkIndex_2214a : GoodIn wsJ2_charAt_3b067 (va_wsS RJ2 67 yJ2_checkIndex_2214a wsJ2_checkIndex_2214a) := goodIn_app (goodIn_of _ (by decide +kernel)) ggJ2_charAt_3b067_J2_checkIndex_2214a
set_option maxRecDepth 20000 in
theorem ggJ2_charAt_3b067_J2_getChar_3b067 : GoodIn wsJ2_charAt_3b067 wsJ2_getChar_3b067 := goodIn_r _ [19, 20, 21, 22, 5, 6, 3, 7] (by decide +kernel) (by decide +kernel)
set_option maxRecDepth 20000 in
theorem gJ2_charAt_3b067_J2_getChar_3b067 : GoodIn wsJ2_charAt_3b067 (va_wsS RJ2 71 yJ2_getChar_3b067 wsJ2_getChar_3b067) := goodIn_app (goodIn_of _ (by decide +kernel)) ggJ2_charAt_3b067_J2_getChar_3b067
theorem dJ2_charAt_3b067_0 : decode cJ2_charAt_3b067 0 = .ok (.iload_n 1, 1) := by decide +kernel
theorem dJ2_charAt_3b067_1 : decode cJ2_charAt_3b067 1 = .ok (.aload_n 0, 1) := by decide +kernel
theorem dJ2_charAt_3b067_2 : decode cJ2_charAt_3b067 2 = .ok (.invokestatic 67, 3) := by decide +kernel
theorem dJ2_charAt_3b067_5 : decode cJ2_charAt_3b067 5 = .ok (.aload_n 0, 1) := by decide +kernel
theorem dJ2_charAt_3b067_6 : decode cJ2_charAt_3b067 6 = .ok (.iload_n 1, 1) := by decide +kernel
theorem dJ2_charAt_3b067_7 : decode cJ2_charAt_3b067 7 = .ok (.invokestatic 71, 3) := by decide +kernel
theorem dJ2_charAt_3b067_10 : decode cJ2_charAt_3b067 10 = .ok (.ireturn, 1) := by decide +kernel
set_option maxRecDepth 20000 in
theorem ggJ2_checkIndex_2214a_J2_length_9d52b : GoodIn wsJ2_checkIndex_2214a wsJ2_length_9d52b := goodIn_r _ [4] (by decide +kernel) (by decide +kernel)
set_option maxRecDepth 20000 in
theorem gJ2_checkIndex_2214a_J2_length_9d52b : GoodIn wsJ2_checkIndex_2214a (va_wsS RJ2 48 yJ2_length_9d52b wsJ2_length_9d52b) := goodIn_app (goodIn_of _ (by decide +kernel)) ggJ2_checkIndex_2214a_J2_length_9d52b
set_option maxRecDepth 20000 in
theorem ggJ2_checkIndex_2214a_J0_checkIndex_df160 : GoodIn wsJ2_checkIndex_2214a wsJ0_checkIndex_df160 := goodIn_r _ [8, 9, 10, 11, 12, 13] (by decide +kernel) (by decide +kernel)
set_option maxRecDepth 20000 in
theorem gJ2_checkIndex_2214a_J0_checkIndex_df160 : GoodIn wsJ2_checkIndex_2214a (va_wsS RJ2 414 yJ0_checkIndex_df160 wsJ0_checkIndex_df160) := goodIn_app (goodIn_of _ (by decide +kernel)) ggJ2_checkIndex_2214a_J0_checkIndex_df160
theorem dJ2_checkIndex_2214a_0 : decode cJ2_checkIndex_2214a 0 = .ok (.iload_n 0, 1) := by decide +kernel
theorem dJ2_checkIndex_2214a_1 : decode cJ2_checkIndex_2214a 1 = .ok (.aload_n 1, 1) := by decide +kernel
theorem dJ2_checkIndex_2214a_2 : decode cJ2_checkIndex_2214a 2 = .ok (.invokestatic 48, 3) := by decide +kernel
theorem dJ2_checkIndex_2214a_5 : decode cJ2_checkIndex_2214a 5 = .ok (.invokestatic 414, 3) := by decide +kernel
theorem dJ2_checkIndex_2214a_8 : decode cJ2_checkIndex_2214a 8 = .ok (.return_, 1) := by decide +kernel
theorem dJ3_checkIndex_8e157_0 : decode cJ3_checkIndex_8e157 0 = .ok (.iload_n 0, 1) := by decide +kernel
theorem dJ3_checkIndex_8e157_1 : decode cJ3_checkIndex_8e157 1 = .ok (.ifCond .lt 8, 3) := by decide +kernel
theorem dJ3_checkIndex_8e157_4 : decode cJ3_checkIndex_8e157 4 = .ok (.iload_n 0, 1) := by decide +kernel
theorem dJ3_checkIndex_8e157_5 : decode cJ3_checkIndex_8e157 5 = .ok (.iload_n 1, 1) := by decide +kernel
theorem dJ3_checkIndex_8e157_6 : decode cJ3_checkIndex_8e157 6 = .ok (.if_icmp .lt 10, 3) := by decide +kernel
theorem dJ3_checkIndex_8e157_9 : decode cJ3_checkIndex_8e157 9 = .ok (.aload_n 2, 1) := by decide +kernel
theorem dJ3_checkIndex_8e157_10 : decode cJ3_checkIndex_8e157 10 = .ok (.iload_n 0, 1) := by decide +kernel
theorem dJ3_checkIndex_8e157_11 : decode cJ3_checkIndex_8e157 11 = .ok (.iload_n 1, 1) := by decide +kernel
theorem dJ3_checkIndex_8e157_12 : decode cJ3_checkIndex_8e157 12 = .ok (.invokestatic 95, 3) := by decide +kernel
theorem dJ3_checkIndex_8e157_15 : decode cJ3_checkIndex_8e157 15 = .ok (.athrow, 1) := by decide +kernel
theorem dJ3_checkIndex_8e157_16 : decode cJ3_checkIndex_8e157 16 = .ok (.iload_n 0, 1) := by decide +kernel
theorem dJ3_checkIndex_8e157_17 : decode cJ3_checkIndex_8e157 17 = .ok (.ireturn, 1) := by decide +kernel
end
section
/-! A pool: things are named by (kind, place). Kinds 0 .. 6 are the classes of vwCl, 7 byte rows, 8 int rows, 9 long rows, 10 rows of scores.
The ghost G of a pool: class ids and slots, array classes, the list of its things, their addresses, the rows' lengths. Its state S: ints, longs, references (as places). -/
abbrev GT : Type := va_G × (ClassId × ClassId × ClassId × ClassId) × List (Nat × Nat) × (Nat → Nat → Nat) × (Nat → Nat → Nat)
def gD (G : GT) : va_G := G.1
def gB (G : GT) : ClassId := G.2.1.1
def gI (G : GT) : ClassId := G.2.1.2.1
def gJ (G : GT) : ClassId := G.2.1.2.2.1
def gO (G : GT) : ClassId := G.2.1.2.2.2
def gP (G : GT) : List (Nat × Nat) := G.2.2.1
def gA (G : GT) : Nat → Nat → Nat := G.2.2.2.1
def gN (G : GT) : Nat → Nat → Nat := G.2.2.2.2
def gT (G : GT) : List (ClassId × FieldType) := [(gB G, .byte), (gI G, .int), (gJ G, .long), (gO G, .object "LevelScores$Score")]
def PS : Type := (Nat → Nat → Nat → Int32) × (Nat → Nat → Nat → Int64) × (Nat → Nat → Nat → Option Nat)
def sI (S : PS) : Nat → Nat → Nat → Int32 := S.1
def sJ (S : PS) : Nat → Nat → Nat → Int64 := S.2.1
def sQ (S : PS) : Nat → Nat → Nat → Option Nat := S.2.2
def uI (S : PS) (c r k : Nat) (v : Int32) : PS := (fun c' r' k' => if c' = c ∧ r' = r ∧ k' = k then v else S.1 c' r' k', S.2.1, S.2.2)
def uJ (S : PS) (c r k : Nat) (v : Int64) : PS := (S.1, fun c' r' k' => if c' = c ∧ r' = r ∧ k' = k then v else S.2.1 c' r' k', S.2.2)
def uQ (S : PS) (c r k : Nat) (v : Option Nat) : PS := (S.1, S.2.1, fun c' r' k' => if c' = c ∧ r' = r ∧ k' = k then v else S.2.2 c' r' k')
theorem sI_uI (S : PS) (c r k : Nat) (v : Int32) (c' r' k' : Nat) : sI (uI S c r k v) c' r' k' = if c' = c ∧ r' = r ∧ k' = k then v else sI S c' r' k' := rfl
theorem sJ_uI (S : PS) (c r k : Nat) (v : Int32) : sJ (uI S c r k v) = sJ S := rfl
theorem sQ_uI (S : PS) (c r k : Nat) (v : Int32) : sQ (uI S c r k v) = sQ S := rfl
theorem sJ_uJ (S : PS) (c r k : Nat) (v : Int64) (c' r' k' : Nat) : sJ (uJ S c r k v) c' r' k' = if c' = c ∧ r' = r ∧ k' = k then v else sJ S c' r' k' := rfl
theorem sI_uJ (S : PS) (c r k : Nat) (v : Int64) : sI (uJ S c r k v) = sI S := rfl
theorem sQ_uJ (S : PS) (c r k : Nat) (v : Int64) : sQ (uJ S c r k v) = sQ S := rfl
theorem sQ_uQ (S : PS) (c r k : Nat) (v : Option Nat) (c' r' k' : Nat) : sQ (uQ S c r k v) c' r' k' = if c' = c ∧ r' = r ∧ k' = k then v else sQ S c' r' k' := rfl
theorem sI_uQ (S : PS) (c r k : Nat) (v : Option Nat) : sI (uQ S c r k v) = sI S := rfl
theorem sJ_uQ (S : PS) (c r k : Nat) (v : Option Nat) : sJ (uQ S c r k v) = sJ S := rfl
theorem PS_ext {S T : PS} (h1 : ∀ c r k, sI S c r k = sI T c r k) (h2 : ∀ c r k, sJ S c r k = sJ T c r k) (h3 : ∀ c r k, sQ S c r k = sQ T c r k) : S = T := by
  obtain ⟨a, b, d⟩ := S
  obtain ⟨a', b', d'⟩ := T
  have e1 : a = a' := funext fun c => funext fun r => funext fun k => h1 c r k
  have e2 : b = b' := funext fun c => funext fun r => funext fun k => h2 c r k
  have e3 : d = d' := funext fun c => funext fun r => funext fun k => h3 c r k
  rw [e1, e2, e3]
/-- the fields of a class by their types: 0 int, 1 long, 2 boolean, k + 3 a reference to kind k -/
def fdT (c : Nat) : List Nat := match c with
  | 0 => [10, 0, 10]
  | 1 => [5, 13, 11, 0, 13, 0, 5, 7, 7]
  | 2 => [0, 0, 0, 12]
  | 3 => [10, 0, 0]
  | 4 => [1, 1]
  | 5 => [13, 0, 6, 3, 4, 7]
  | _ => [0, 11, 11, 11, 12, 0, 0, 0, 0, 12, 11, 0, 12, 0, 11, 0, 11, 0, 1, 1, 0, 2, 1, 12]
def vl (G : GT) (S : PS) (c r k t : Nat) : Value := match t with
  | 0 => .int (sI S c r k)
  | 1 => .long (sJ S c r k)
  | 2 => .int (sI S c r k)
  | t + 3 => va_rf ((sQ S c r k).map (gA G t))
def fv (G : GT) (S : PS) (c r : Nat) : List Value := (fdT c).mapIdx (fun k t => vl G S c r k t)
def en (G : GT) (S : PS) (c r : Nat) : va_E :=
  if c = 7 then .inl (gB G, gN G 7 r, .inl (sI S 7 r)) else if c = 8 then .inl (gI G, gN G 8 r, .inl (sI S 8 r)) else if c = 9 then .inl (gJ G, gN G 9 r, .inr (.inl (sJ S 9 r)))
  else if c = 10 then .inl (gO G, gN G 10 r, .inr (.inr (.inr (.inr (fun k => (sQ S 10 r k).map (gA G 2)))))) else .inr (c, fv G S c r)
def wl (G : GT) (S : PS) : va_W := (gP G).map (fun x => (gA G x.1 x.2, en G S x.1 x.2))
theorem wl_get {G : GT} (S : PS) {c r : Nat} (h : (c, r) ∈ gP G) : ∃ k : Nat, (wl G S)[k]? = some (gA G c r, en G S c r) := by
  obtain ⟨k, hk⟩ := List.getElem?_of_mem h
  exact ⟨k, by rw [wl, List.getElem?_map, hk]; rfl⟩
theorem wl_place {G : GT} {S : PS} {A : Nat → Prop} {c r k : Nat} (hD : va_D A (wl G S)) (h : (c, r) ∈ gP G) {e : va_E} (hk : (wl G S)[k]? = some (gA G c r, e)) : (gP G)[k]? = some (c, r) := by
  obtain ⟨k', hk'⟩ := List.getElem?_of_mem h
  have h2 : (wl G S)[k']? = some (gA G c r, en G S c r) := by rw [wl, List.getElem?_map, hk']; rfl
  have h3 := hD.1 k k' _ _ hk h2 rfl
  rw [h3]; exact hk'
theorem wl_set {G : GT} {S S' : PS} {A : Nat → Prop} {c r k : Nat} {e0 e : va_E} (hD : va_D A (wl G S)) (h : (c, r) ∈ gP G) (hk : (wl G S)[k]? = some (gA G c r, e0)) (he : en G S' c r = e) (hn : ∀ c' r', ¬ (c' = c ∧ r' = r) → en G S' c' r' = en G S c' r') : (wl G S).set k (gA G c r, e) = wl G S' := by
  have hp := wl_place hD h hk
  refine List.ext_getElem? fun j => ?_
  rw [List.getElem?_set]
  by_cases hj : k = j
  · subst hj
    have hlt : k < (wl G S).length := (List.getElem?_eq_some_iff.mp hk).1
    rw [if_pos rfl, if_pos hlt, wl, List.getElem?_map, hp, ← he]; rfl
  · rw [if_neg hj, wl, wl, List.getElem?_map, List.getElem?_map]
    cases hq : (gP G)[j]? with
    | none => rfl
    | some x =>
      obtain ⟨c2, r2⟩ := x
      have hne : ¬ (c2 = c ∧ r2 = r) := by
        rintro ⟨rfl, rfl⟩
        have h2 : (wl G S)[j]? = some (gA G c2 r2, en G S c2 r2) := by rw [wl, List.getElem?_map, hq]; rfl
        exact hj (hD.1 k j _ _ hk h2 rfl)
      show some (gA G c2 r2, en G S c2 r2) = some (gA G c2 r2, en G S' c2 r2)
      rw [hn c2 r2 hne]
theorem fv_get {G : GT} {S : PS} {c r k t : Nat} (h : (fdT c)[k]? = some t) : (fv G S c r)[k]? = some (vl G S c r k t) := by
  rw [fv, List.getElem?_mapIdx, h]; rfl
theorem fv_set {G : GT} {S S' : PS} {c r k t : Nat} (h : (fdT c)[k]? = some t) (hn : ∀ j t', j ≠ k → vl G S' c r j t' = vl G S c r j t') : fv G S' c r = (fv G S c r).set k (vl G S' c r k t) := by
  refine List.ext_getElem? fun j => ?_
  rw [List.getElem?_set]
  by_cases hj : k = j
  · subst hj
    have hlt : k < (fv G S c r).length := (List.getElem?_eq_some_iff.mp (fv_get (G := G) (S := S) (r := r) h)).1
    rw [if_pos rfl, if_pos hlt, fv_get h]
  · rw [if_neg hj, fv, fv, List.getElem?_mapIdx, List.getElem?_mapIdx]
    cases (fdT c)[j]? with
    | none => rfl
    | some t' => show some (vl G S' c r j t') = some (vl G S c r j t'); rw [hn j t' (fun q => hj q.symm)]
theorem en_obj {G : GT} {S : PS} {c r : Nat} (h : c < 7) : en G S c r = .inr (c, fv G S c r) := by
  unfold en
  rw [if_neg (by omega), if_neg (by omega), if_neg (by omega), if_neg (by omega)]
theorem fv_same {G : GT} {S S' : PS} {c r : Nat} (hi : ∀ k, sI S' c r k = sI S c r k) (hj : ∀ k, sJ S' c r k = sJ S c r k) (hq : ∀ k, sQ S' c r k = sQ S c r k) : fv G S' c r = fv G S c r := by
  unfold fv
  refine List.ext_getElem? fun k => ?_
  rw [List.getElem?_mapIdx, List.getElem?_mapIdx]
  cases (fdT c)[k]? with
  | none => rfl
  | some t =>
    show some _ = some _
    congr 1
    match t with
    | 0 => show Value.int _ = Value.int _; rw [hi]
    | 1 => show Value.long _ = Value.long _; rw [hj]
    | 2 => show Value.int _ = Value.int _; rw [hi]
    | t + 3 => show va_rf _ = va_rf _; rw [hq]
theorem en_same {G : GT} {S S' : PS} {c r : Nat} (hi : ∀ k, sI S' c r k = sI S c r k) (hj : ∀ k, sJ S' c r k = sJ S c r k) (hq : ∀ k, sQ S' c r k = sQ S c r k) : en G S' c r = en G S c r := by
  unfold en
  by_cases h7 : c = 7
  · subst h7; rw [if_pos rfl, if_pos rfl, show sI S' 7 r = sI S 7 r from funext hi]
  rw [if_neg h7, if_neg h7]
  by_cases h8 : c = 8
  · subst h8; rw [if_pos rfl, if_pos rfl, show sI S' 8 r = sI S 8 r from funext hi]
  rw [if_neg h8, if_neg h8]
  by_cases h9 : c = 9
  · subst h9; rw [if_pos rfl, if_pos rfl, show sJ S' 9 r = sJ S 9 r from funext hj]
  rw [if_neg h9, if_neg h9]
  by_cases h10 : c = 10
  · subst h10; rw [if_pos rfl, if_pos rfl, show sQ S' 10 r = sQ S 10 r from funext hq]
  rw [if_neg h10, if_neg h10, fv_same hi hj hq]
theorem uI_far {S : PS} {c r k : Nat} {v : Int32} {c' r' : Nat} (h : ¬ (c' = c ∧ r' = r)) {G : GT} : en G (uI S c r k v) c' r' = en G S c' r' :=
  en_same (fun j => by rw [sI_uI, if_neg (fun q => h ⟨q.1, q.2.1⟩)]) (fun _ => rfl) (fun _ => rfl)
theorem uJ_far {S : PS} {c r k : Nat} {v : Int64} {c' r' : Nat} (h : ¬ (c' = c ∧ r' = r)) {G : GT} : en G (uJ S c r k v) c' r' = en G S c' r' :=
  en_same (fun _ => rfl) (fun j => by rw [sJ_uJ, if_neg (fun q => h ⟨q.1, q.2.1⟩)]) (fun _ => rfl)
theorem uQ_far {S : PS} {c r k : Nat} {v : Option Nat} {c' r' : Nat} (h : ¬ (c' = c ∧ r' = r)) {G : GT} : en G (uQ S c r k v) c' r' = en G S c' r' :=
  en_same (fun _ => rfl) (fun _ => rfl) (fun j => by rw [sQ_uQ, if_neg (fun q => h ⟨q.1, q.2.1⟩)])
theorem vl_uI {G : GT} {S : PS} {c r k : Nat} {v : Int32} {j t : Nat} (h : j ≠ k) : vl G (uI S c r k v) c r j t = vl G S c r j t := by
  match t with
  | 0 => show Value.int _ = Value.int _; rw [sI_uI, if_neg (fun q => h q.2.2)]
  | 1 => rfl
  | 2 => show Value.int _ = Value.int _; rw [sI_uI, if_neg (fun q => h q.2.2)]
  | t + 3 => rfl
theorem vl_uJ {G : GT} {S : PS} {c r k : Nat} {v : Int64} {j t : Nat} (h : j ≠ k) : vl G (uJ S c r k v) c r j t = vl G S c r j t := by
  match t with
  | 0 => rfl
  | 1 => show Value.long _ = Value.long _; rw [sJ_uJ, if_neg (fun q => h q.2.2)]
  | 2 => rfl
  | t + 3 => rfl
theorem vl_uQ {G : GT} {S : PS} {c r k : Nat} {v : Option Nat} {j t : Nat} (h : j ≠ k) : vl G (uQ S c r k v) c r j t = vl G S c r j t := by
  match t with
  | 0 => rfl
  | 1 => rfl
  | 2 => rfl
  | t + 3 => show va_rf _ = va_rf _; rw [sQ_uQ, if_neg (fun q => h q.2.2)]
end
section
/-! One row an instruction, over pools. -/
/-- what holds in a method's body all along -/
def Cx (p : Program) (s : State) (m : MethodId) (args : Array Value) (meth : Method) (c : Code) (cc : ByteArray) (own : String) (Ts : List Cond) (nL : Nat) (G : GT) (A : Nat → Prop) : Prop :=
  p.tables.exec = Jvm.exec ∧ c.code = cc ∧ c.maxLocals = nL ∧ s.vm.findClass own = some m.cls ∧ (∀ w ∈ Ts, w.before args s = true) ∧ va_K (gD G) vwCl (gT G) s ∧ (∀ q : Nat, s.heap.size ≤ q → A q)
/-- the pool in the heap -/
def Wd (G : GT) (A : Nat → Prop) (H0 : Heap) (S : PS) (H : Heap) (locs : List Loc) : Prop := va_P (gD G) vwCl (wl G S) H ∧ va_D A (wl G S) ∧ va_S A H0 H locs
/-- the pool behind a call -/
def Wb (G : GT) (A : Nat → Prop) (S' : PS) (t : State) : Prop := va_P (gD G) vwCl (wl G S') t.heap ∧ va_K (gD G) vwCl (gT G) t ∧ va_D A (wl G S')
def Wa (G : GT) (S : PS) (sz : Nat) (U : State) : Prop := U.heap.size = sz ∧ va_P (gD G) vwCl (wl G S) U.heap ∧ va_K (gD G) vwCl (gT G) U ∧ va_D (fun _ => True) (wl G S)
/-- contracts of methods that make nothing: int or boolean, long, void -/
def CtI (l : Launch) (G : GT) (y : MethodName) (ws : List Cond) (rm : Room) (as : List Value) (S : PS) (post : Int32 → PS → Prop) : Prop :=
  ∀ sz : Nat, Met l y ws rm (va_Pc as (Wa G S sz)) (va_Qi post (Wb G (va_A (wl G S) sz)) (va_A (wl G S) sz)) 0 0 (va_A (wl G S) sz)
def CtL (l : Launch) (G : GT) (y : MethodName) (ws : List Cond) (rm : Room) (as : List Value) (S : PS) (post : Int64 → PS → Prop) : Prop :=
  ∀ sz : Nat, Met l y ws rm (va_Pc as (Wa G S sz)) (va_Ql post (Wb G (va_A (wl G S) sz)) (va_A (wl G S) sz)) 0 0 (va_A (wl G S) sz)
def CtV (l : Launch) (G : GT) (y : MethodName) (ws : List Cond) (rm : Room) (as : List Value) (S : PS) (post : PS → Prop) : Prop :=
  ∀ sz : Nat, Met l y ws rm (va_Pc as (Wa G S sz)) (va_Qv post (Wb G (va_A (wl G S) sz)) (va_A (wl G S) sz)) 0 0 (va_A (wl G S) sz)
/-- a method's room: frames below its own, words of their locals -/
def rmK (f n : Nat) : Room := { frames := f, cells := 0, slots := 0, locals := n }
section RL
variable {l : Launch} {G : GT} {y : MethodName} {ws ws' : List Cond} {f n : Nat} {as : List Value} {S : PS} {cc : ByteArray} {nL : Nat} {ret : Option FieldType}
theorem ofCtI {post : Int32 → PS → Prop} (own : String) (hy : plainName y.cls = true) (hw : ws = Cond.code y cc nL (some .int) :: ws') (hown : y.cls = own) (hlen : (lg_sl as).length ≤ nL)
    (body : ∀ (p : Program) (e : Env) (s : State) (m : MethodId) (args : Array Value) (below : List Frame) (meth : Method) (c : Code) (A : Nat → Prop) (Q : State → Prop) (ls : Array Slot), Cx p s m args meth c cc own ws nL G A → Wd G A s.heap S s.heap [] → lv_has ls nL (lv_args 0 as) →
      (∀ (pc : Nat) (ls : Array Slot) (v : Int32) (S' : PS) (H : Heap) (locs : List Loc), decode cc pc = .ok (.ireturn, 1) → Wd G A s.heap S' H locs → post v S' → W p l e (rmK f n) s m args below meth c H locs 0 0 Q (F0 m pc ls [.int v])) →
      W p l e (rmK f n) s m args below meth c s.heap [] 0 0 Q (F0 m 0 ls [])) : CtI l G y ws (rmK f n) as S post := by
  intro sz
  refine Met.ofW (cc := cc) (maxL := nL) (ret := (some .int)) hy hw ?_
  intro p e s m args below meth c s₁ B hml hv
  obtain ⟨rfl, hsz, hP, hK, hD0⟩ := hv
  have hts := atoms_spec (ws := ws) B.pre
  have ho : s.vm.findClass own = some m.cls := hown ▸ findClass_of_methodNamed B.named
  subst hsz
  have hD := hD0.self (sz := s.heap.size)
  have hl := lv_entry as (n := nL) hlen
  rw [lg_entry_eq]
  refine body p e s m _ below meth c _ _ _ ⟨B.exec, B.bytes, hml, ho, hts, hK, fun q h => Or.inr h⟩ ⟨hP, hD, va_S.rf⟩ hl ?_
  intro pc ls v S' H locs hdg w h
  obtain ⟨hP, hD, hS⟩ := w
  exact W.iret B.exec B.bytes B.returns (fun t ht hW => ⟨⟨v, S', rfl, h, by rw [ht]; exact hP, va_K.moved hW.alike hK, hD⟩, hS.F ht⟩) hS.2.2 hdg B.notSynchronized
theorem ofCtZ {post : Int32 → PS → Prop} (own : String) (hy : plainName y.cls = true) (hw : ws = Cond.code y cc nL (some .boolean) :: ws') (hown : y.cls = own) (hlen : (lg_sl as).length ≤ nL)
    (body : ∀ (p : Program) (e : Env) (s : State) (m : MethodId) (args : Array Value) (below : List Frame) (meth : Method) (c : Code) (A : Nat → Prop) (Q : State → Prop) (ls : Array Slot), Cx p s m args meth c cc own ws nL G A → Wd G A s.heap S s.heap [] → lv_has ls nL (lv_args 0 as) →
      (∀ (pc : Nat) (ls : Array Slot) (v : Int32) (S' : PS) (H : Heap) (locs : List Loc), decode cc pc = .ok (.ireturn, 1) → Wd G A s.heap S' H locs → (v = 0 ∨ v = 1) → post v S' → W p l e (rmK f n) s m args below meth c H locs 0 0 Q (F0 m pc ls [.int v])) →
      W p l e (rmK f n) s m args below meth c s.heap [] 0 0 Q (F0 m 0 ls [])) : CtI l G y ws (rmK f n) as S post := by
  intro sz
  refine Met.ofW (cc := cc) (maxL := nL) (ret := (some .boolean)) hy hw ?_
  intro p e s m args below meth c s₁ B hml hv
  obtain ⟨rfl, hsz, hP, hK, hD0⟩ := hv
  have hts := atoms_spec (ws := ws) B.pre
  have ho : s.vm.findClass own = some m.cls := hown ▸ findClass_of_methodNamed B.named
  subst hsz
  have hD := hD0.self (sz := s.heap.size)
  have hl := lv_entry as (n := nL) hlen
  rw [lg_entry_eq]
  refine body p e s m _ below meth c _ _ _ ⟨B.exec, B.bytes, hml, ho, hts, hK, fun q h => Or.inr h⟩ ⟨hP, hD, va_S.rf⟩ hl ?_
  intro pc ls v S' H locs hdg w hz h
  obtain ⟨hP, hD, hS⟩ := w
  exact W.zret B.exec B.bytes B.returns (by rcases hz with rfl | rfl <;> decide) (fun t ht hW => ⟨⟨v, S', rfl, h, by rw [ht]; exact hP, va_K.moved hW.alike hK, hD⟩, hS.F ht⟩) hS.2.2 hdg B.notSynchronized
theorem ofCtL {post : Int64 → PS → Prop} (own : String) (hy : plainName y.cls = true) (hw : ws = Cond.code y cc nL (some .long) :: ws') (hown : y.cls = own) (hlen : (lg_sl as).length ≤ nL)
    (body : ∀ (p : Program) (e : Env) (s : State) (m : MethodId) (args : Array Value) (below : List Frame) (meth : Method) (c : Code) (A : Nat → Prop) (Q : State → Prop) (ls : Array Slot), Cx p s m args meth c cc own ws nL G A → Wd G A s.heap S s.heap [] → lv_has ls nL (lv_args 0 as) →
      (∀ (pc : Nat) (ls : Array Slot) (v : Int64) (S' : PS) (H : Heap) (locs : List Loc), decode cc pc = .ok (.lreturn, 1) → Wd G A s.heap S' H locs → post v S' → W p l e (rmK f n) s m args below meth c H locs 0 0 Q (F0 m pc ls [.long v])) →
      W p l e (rmK f n) s m args below meth c s.heap [] 0 0 Q (F0 m 0 ls [])) : CtL l G y ws (rmK f n) as S post := by
  intro sz
  refine Met.ofW (cc := cc) (maxL := nL) (ret := (some .long)) hy hw ?_
  intro p e s m args below meth c s₁ B hml hv
  obtain ⟨rfl, hsz, hP, hK, hD0⟩ := hv
  have hts := atoms_spec (ws := ws) B.pre
  have ho : s.vm.findClass own = some m.cls := hown ▸ findClass_of_methodNamed B.named
  subst hsz
  have hD := hD0.self (sz := s.heap.size)
  have hl := lv_entry as (n := nL) hlen
  rw [lg_entry_eq]
  refine body p e s m _ below meth c _ _ _ ⟨B.exec, B.bytes, hml, ho, hts, hK, fun q h => Or.inr h⟩ ⟨hP, hD, va_S.rf⟩ hl ?_
  intro pc ls v S' H locs hdg w h
  obtain ⟨hP, hD, hS⟩ := w
  exact W.lret B.exec B.bytes B.returns (fun t ht hW => ⟨⟨v, S', rfl, h, by rw [ht]; exact hP, va_K.moved hW.alike hK, hD⟩, hS.F ht⟩) hS.2.2 hdg B.notSynchronized
theorem ofCtV {post : PS → Prop} (own : String) (hy : plainName y.cls = true) (hw : ws = Cond.code y cc nL none :: ws') (hown : y.cls = own) (hlen : (lg_sl as).length ≤ nL)
    (body : ∀ (p : Program) (e : Env) (s : State) (m : MethodId) (args : Array Value) (below : List Frame) (meth : Method) (c : Code) (A : Nat → Prop) (Q : State → Prop) (ls : Array Slot), Cx p s m args meth c cc own ws nL G A → Wd G A s.heap S s.heap [] → lv_has ls nL (lv_args 0 as) →
      (∀ (pc : Nat) (ls : Array Slot) (S' : PS) (H : Heap) (locs : List Loc), decode cc pc = .ok (.return_, 1) → Wd G A s.heap S' H locs → post S' → W p l e (rmK f n) s m args below meth c H locs 0 0 Q (F0 m pc ls [])) →
      W p l e (rmK f n) s m args below meth c s.heap [] 0 0 Q (F0 m 0 ls [])) : CtV l G y ws (rmK f n) as S post := by
  intro sz
  refine Met.ofW (cc := cc) (maxL := nL) (ret := none) hy hw ?_
  intro p e s m args below meth c s₁ B hml hv
  obtain ⟨rfl, hsz, hP, hK, hD0⟩ := hv
  have hts := atoms_spec (ws := ws) B.pre
  have ho : s.vm.findClass own = some m.cls := hown ▸ findClass_of_methodNamed B.named
  subst hsz
  have hD := hD0.self (sz := s.heap.size)
  have hl := lv_entry as (n := nL) hlen
  rw [lg_entry_eq]
  refine body p e s m _ below meth c _ _ _ ⟨B.exec, B.bytes, hml, ho, hts, hK, fun q h => Or.inr h⟩ ⟨hP, hD, va_S.rf⟩ hl ?_
  intro pc ls S' H locs hdg w h
  obtain ⟨hP, hD, hS⟩ := w
  exact W.vret B.exec B.bytes B.returns (fun t ht hW => ⟨⟨S', rfl, h, by rw [ht]; exact hP, va_K.moved hW.alike hK, hD⟩, hS.F ht⟩) hS.2.2 hdg B.notSynchronized
end RL
section RW
variable {p : Program} {l : Launch} {e : Env} {R : Room} {s : State} {m : MethodId} {args : Array Value} {below : List Frame} {meth : Method} {c : Code} {H : Heap} {locs : List Loc} {cells slots : Nat} {Q : State → Prop}
variable {cc : ByteArray} {own : String} {Ts : List Cond} {nL : Nat} {G : GT} {A : Nat → Prop} {S : PS} {pc : Nat} {ls : Array Slot} {rest : List Value}
/-- reading a field -/
theorem pgI (c0 k : Nat) {r index : Nat} {Cn ref : String} {T : u_T} {N : Nat} (hc7 : c0 < 7) (hc : vwCl[c0]? = some (Cn, T, N)) (hk : k < N) (ht : (fdT c0)[k]? = some 0 ∨ (fdT c0)[k]? = some 2) (hsame : ref = (T k).1)
    (C : Cx p s m args meth c cc own Ts nL G A) (w : Wd G A s.heap S H locs) (hin : ∀ w ∈ u_ws Cn T N, w ∈ Ts) (hlink : (Cond.fieldLink own index ref (T k).2.1 (T k).2.2.1) ∈ Ts) (hdg : decode cc pc = .ok (.getfield index, 3)) (hP : (c0, r) ∈ gP G) {v : Int32} (hv : sI S c0 r k = v)
    (kk : W p l e R s m args below meth c H locs cells slots Q (F0 m (pc + 3) ls (.int v :: rest))) : W p l e R s m args below meth c H locs cells slots Q (F0 m pc ls (.ref (gA G c0 r) :: rest)) := by
  obtain ⟨hx, hb, -, hown, hts, hK, -⟩ := C
  obtain ⟨q, hq⟩ := wl_get S hP
  rw [en_obj hc7] at hq
  have hf : (fv G S c0 r)[k]? = some (.int v) := by
    rcases ht with ht | ht <;> rw [fv_get ht, ← hv] <;> rfl
  exact va_get hx hb hts hin hown hK w.1 q hq hc k hk (hts _ hlink) (fun x h => by rw [hsame]; exact h) hf hdg kk
theorem pgJ (c0 k : Nat) {r index : Nat} {Cn ref : String} {T : u_T} {N : Nat} (hc7 : c0 < 7) (hc : vwCl[c0]? = some (Cn, T, N)) (hk : k < N) (ht : (fdT c0)[k]? = some 1) (hsame : ref = (T k).1)
    (C : Cx p s m args meth c cc own Ts nL G A) (w : Wd G A s.heap S H locs) (hin : ∀ w ∈ u_ws Cn T N, w ∈ Ts) (hlink : (Cond.fieldLink own index ref (T k).2.1 (T k).2.2.1) ∈ Ts) (hdg : decode cc pc = .ok (.getfield index, 3)) (hP : (c0, r) ∈ gP G) {v : Int64} (hv : sJ S c0 r k = v)
    (kk : W p l e R s m args below meth c H locs cells slots Q (F0 m (pc + 3) ls (.long v :: rest))) : W p l e R s m args below meth c H locs cells slots Q (F0 m pc ls (.ref (gA G c0 r) :: rest)) := by
  obtain ⟨hx, hb, -, hown, hts, hK, -⟩ := C
  obtain ⟨q, hq⟩ := wl_get S hP
  rw [en_obj hc7] at hq
  have hf : (fv G S c0 r)[k]? = some (.long v) := by rw [fv_get ht, ← hv]; rfl
  exact va_get hx hb hts hin hown hK w.1 q hq hc k hk (hts _ hlink) (fun x h => by rw [hsame]; exact h) hf hdg kk
theorem pgQ (c0 k c1 : Nat) {r index : Nat} {Cn ref : String} {T : u_T} {N : Nat} (hc7 : c0 < 7) (hc : vwCl[c0]? = some (Cn, T, N)) (hk : k < N) (ht : (fdT c0)[k]? = some (c1 + 3)) (hsame : ref = (T k).1)
    (C : Cx p s m args meth c cc own Ts nL G A) (w : Wd G A s.heap S H locs) (hin : ∀ w ∈ u_ws Cn T N, w ∈ Ts) (hlink : (Cond.fieldLink own index ref (T k).2.1 (T k).2.2.1) ∈ Ts) (hdg : decode cc pc = .ok (.getfield index, 3)) (hP : (c0, r) ∈ gP G) {r1 : Nat} (hv : sQ S c0 r k = some r1)
    (kk : W p l e R s m args below meth c H locs cells slots Q (F0 m (pc + 3) ls (.ref (gA G c1 r1) :: rest))) : W p l e R s m args below meth c H locs cells slots Q (F0 m pc ls (.ref (gA G c0 r) :: rest)) := by
  obtain ⟨hx, hb, -, hown, hts, hK, -⟩ := C
  obtain ⟨q, hq⟩ := wl_get S hP
  rw [en_obj hc7] at hq
  have hf : (fv G S c0 r)[k]? = some (.ref (gA G c1 r1)) := by
    rw [fv_get ht]
    show some (va_rf ((sQ S c0 r k).map (gA G c1))) = _
    rw [hv]; rfl
  exact va_get hx hb hts hin hown hK w.1 q hq hc k hk (hts _ hlink) (fun x h => by rw [hsame]; exact h) hf hdg kk
/-- writing a field -/
theorem ppI (c0 k : Nat) {r index : Nat} {Cn ref : String} {T : u_T} {N : Nat} {ty0 : Nat → FieldType} (hc7 : c0 < 7) (hc : vwCl[c0]? = some (Cn, T, N)) (hk : k < N) (ht : (fdT c0)[k]? = some 0) (hsame : ref = (T k).1) (hty : ∀ k, k < N → parseFieldDescriptor (T k).2.2.1 = some (ty0 k)) (hnm : ∀ a, a < N → ∀ b, b < N → a ≠ b → (T a).2.1 ≠ (T b).2.1) (hfin : (T k).2.2.2 = false) (hd : parseFieldDescriptor (T k).2.2.1 = some .int)
    (C : Cx p s m args meth c cc own Ts nL G A) (w : Wd G A s.heap S H locs) (hin : ∀ w ∈ u_ws Cn T N, w ∈ Ts) (hlink : (Cond.fieldLink own index ref (T k).2.1 (T k).2.2.1) ∈ Ts) (hdg : decode cc pc = .ok (.putfield index, 3)) (hP : (c0, r) ∈ gP G) {v : Int32}
    (kk : ∀ (H1 : Heap) (locs1 : List Loc), Wd G A s.heap (uI S c0 r k v) H1 locs1 → W p l e R s m args below meth c H1 locs1 cells slots Q (F0 m (pc + 3) ls rest)) : W p l e R s m args below meth c H locs cells slots Q (F0 m pc ls (.int v :: .ref (gA G c0 r) :: rest)) := by
  obtain ⟨hx, hb, -, hown, hts, hK, -⟩ := C
  obtain ⟨q, hq⟩ := wl_get S hP
  have he : en G (uI S c0 r k v) c0 r = .inr (c0, (fv G S c0 r).set k (.int v)) := by
    rw [en_obj hc7, fv_set (S := S) ht (fun j t' hj => vl_uI hj)]
    have h9 : vl G (uI S c0 r k v) c0 r k 0 = .int v := by show Value.int _ = Value.int _; rw [sI_uI, if_pos ⟨rfl, rfl, rfl⟩]
    rw [h9]
  have hset := wl_set (S' := uI S c0 r k v) w.2.1 hP hq he (fun c' r' h => uI_far h)
  rw [en_obj hc7] at hq
  have hl : k < (fv G S c0 r).length := (List.getElem?_eq_some_iff.mp (fv_get (G := G) (S := S) (r := r) ht)).1
  refine va_put hx hb hts hin ty0 hty hnm hown hK w.1 w.2.1 w.2.2 q hq hc k hk (hts _ hlink) (fun x h => by rw [hsame]; exact h) hfin hd rfl rfl hl hdg fun H1 locs1 h1 h2 h3 => ?_
  rw [hset] at h1 h2
  exact kk H1 locs1 ⟨h1, h2, h3⟩
theorem ppZ (c0 k : Nat) {r index : Nat} {Cn ref : String} {T : u_T} {N : Nat} {ty0 : Nat → FieldType} (hc7 : c0 < 7) (hc : vwCl[c0]? = some (Cn, T, N)) (hk : k < N) (ht : (fdT c0)[k]? = some 2) (hsame : ref = (T k).1) (hty : ∀ k, k < N → parseFieldDescriptor (T k).2.2.1 = some (ty0 k)) (hnm : ∀ a, a < N → ∀ b, b < N → a ≠ b → (T a).2.1 ≠ (T b).2.1) (hfin : (T k).2.2.2 = false) (hd : parseFieldDescriptor (T k).2.2.1 = some .boolean)
    (C : Cx p s m args meth c cc own Ts nL G A) (w : Wd G A s.heap S H locs) (hin : ∀ w ∈ u_ws Cn T N, w ∈ Ts) (hlink : (Cond.fieldLink own index ref (T k).2.1 (T k).2.2.1) ∈ Ts) (hdg : decode cc pc = .ok (.putfield index, 3)) (hP : (c0, r) ∈ gP G) {v : Int32} (hv : v = 0 ∨ v = 1)
    (kk : ∀ (H1 : Heap) (locs1 : List Loc), Wd G A s.heap (uI S c0 r k v) H1 locs1 → W p l e R s m args below meth c H1 locs1 cells slots Q (F0 m (pc + 3) ls rest)) : W p l e R s m args below meth c H locs cells slots Q (F0 m pc ls (.int v :: .ref (gA G c0 r) :: rest)) := by
  obtain ⟨hx, hb, -, hown, hts, hK, -⟩ := C
  obtain ⟨q, hq⟩ := wl_get S hP
  have he : en G (uI S c0 r k v) c0 r = .inr (c0, (fv G S c0 r).set k (.int v)) := by
    rw [en_obj hc7, fv_set (S := S) ht (fun j t' hj => vl_uI hj)]
    have h9 : vl G (uI S c0 r k v) c0 r k 2 = .int v := by show Value.int _ = Value.int _; rw [sI_uI, if_pos ⟨rfl, rfl, rfl⟩]
    rw [h9]
  have hset := wl_set (S' := uI S c0 r k v) w.2.1 hP hq he (fun c' r' h => uI_far h)
  rw [en_obj hc7] at hq
  have hl : k < (fv G S c0 r).length := (List.getElem?_eq_some_iff.mp (fv_get (G := G) (S := S) (r := r) ht)).1
  refine va_put hx hb hts hin ty0 hty hnm hown hK w.1 w.2.1 w.2.2 q hq hc k hk (hts _ hlink) (fun x h => by rw [hsame]; exact h) hfin hd (by rcases hv with rfl | rfl <;> decide) (by rcases hv with rfl | rfl <;> decide) hl hdg fun H1 locs1 h1 h2 h3 => ?_
  rw [hset] at h1 h2
  exact kk H1 locs1 ⟨h1, h2, h3⟩
theorem ppJ (c0 k : Nat) {r index : Nat} {Cn ref : String} {T : u_T} {N : Nat} {ty0 : Nat → FieldType} (hc7 : c0 < 7) (hc : vwCl[c0]? = some (Cn, T, N)) (hk : k < N) (ht : (fdT c0)[k]? = some 1) (hsame : ref = (T k).1) (hty : ∀ k, k < N → parseFieldDescriptor (T k).2.2.1 = some (ty0 k)) (hnm : ∀ a, a < N → ∀ b, b < N → a ≠ b → (T a).2.1 ≠ (T b).2.1) (hfin : (T k).2.2.2 = false) (hd : parseFieldDescriptor (T k).2.2.1 = some .long)
    (C : Cx p s m args meth c cc own Ts nL G A) (w : Wd G A s.heap S H locs) (hin : ∀ w ∈ u_ws Cn T N, w ∈ Ts) (hlink : (Cond.fieldLink own index ref (T k).2.1 (T k).2.2.1) ∈ Ts) (hdg : decode cc pc = .ok (.putfield index, 3)) (hP : (c0, r) ∈ gP G) {v : Int64}
    (kk : ∀ (H1 : Heap) (locs1 : List Loc), Wd G A s.heap (uJ S c0 r k v) H1 locs1 → W p l e R s m args below meth c H1 locs1 cells slots Q (F0 m (pc + 3) ls rest)) : W p l e R s m args below meth c H locs cells slots Q (F0 m pc ls (.long v :: .ref (gA G c0 r) :: rest)) := by
  obtain ⟨hx, hb, -, hown, hts, hK, -⟩ := C
  obtain ⟨q, hq⟩ := wl_get S hP
  have he : en G (uJ S c0 r k v) c0 r = .inr (c0, (fv G S c0 r).set k (.long v)) := by
    rw [en_obj hc7, fv_set (S := S) ht (fun j t' hj => vl_uJ hj)]
    have h9 : vl G (uJ S c0 r k v) c0 r k 1 = .long v := by show Value.long _ = Value.long _; rw [sJ_uJ, if_pos ⟨rfl, rfl, rfl⟩]
    rw [h9]
  have hset := wl_set (S' := uJ S c0 r k v) w.2.1 hP hq he (fun c' r' h => uJ_far h)
  rw [en_obj hc7] at hq
  have hl : k < (fv G S c0 r).length := (List.getElem?_eq_some_iff.mp (fv_get (G := G) (S := S) (r := r) ht)).1
  refine va_put hx hb hts hin ty0 hty hnm hown hK w.1 w.2.1 w.2.2 q hq hc k hk (hts _ hlink) (fun x h => by rw [hsame]; exact h) hfin hd rfl rfl hl hdg fun H1 locs1 h1 h2 h3 => ?_
  rw [hset] at h1 h2
  exact kk H1 locs1 ⟨h1, h2, h3⟩
theorem ppQ (c0 k c1 : Nat) {r index : Nat} {Cn ref D : String} {T : u_T} {N : Nat} {ty0 : Nat → FieldType} (hc7 : c0 < 7) (hc : vwCl[c0]? = some (Cn, T, N)) (hk : k < N) (ht : (fdT c0)[k]? = some (c1 + 3)) (hsame : ref = (T k).1) (hty : ∀ k, k < N → parseFieldDescriptor (T k).2.2.1 = some (ty0 k)) (hnm : ∀ a, a < N → ∀ b, b < N → a ≠ b → (T a).2.1 ≠ (T b).2.1) (hfin : (T k).2.2.2 = false) (hd : parseFieldDescriptor (T k).2.2.1 = some (.object D))
    (C : Cx p s m args meth c cc own Ts nL G A) (w : Wd G A s.heap S H locs) (hin : ∀ w ∈ u_ws Cn T N, w ∈ Ts) (hlink : (Cond.fieldLink own index ref (T k).2.1 (T k).2.2.1) ∈ Ts) (hdg : decode cc pc = .ok (.putfield index, 3)) (hP : (c0, r) ∈ gP G) {r1 : Nat}
    (kk : ∀ (H1 : Heap) (locs1 : List Loc), Wd G A s.heap (uQ S c0 r k (some r1)) H1 locs1 → W p l e R s m args below meth c H1 locs1 cells slots Q (F0 m (pc + 3) ls rest)) : W p l e R s m args below meth c H locs cells slots Q (F0 m pc ls (.ref (gA G c1 r1) :: .ref (gA G c0 r) :: rest)) := by
  obtain ⟨hx, hb, -, hown, hts, hK, -⟩ := C
  obtain ⟨q, hq⟩ := wl_get S hP
  have he : en G (uQ S c0 r k (some r1)) c0 r = .inr (c0, (fv G S c0 r).set k (.ref (gA G c1 r1))) := by
    rw [en_obj hc7, fv_set (S := S) ht (fun j t' hj => vl_uQ hj)]
    have h9 : vl G (uQ S c0 r k (some r1)) c0 r k (c1 + 3) = .ref (gA G c1 r1) := by
      show va_rf ((sQ (uQ S c0 r k (some r1)) c0 r k).map (gA G c1)) = _
      rw [sQ_uQ, if_pos ⟨rfl, rfl, rfl⟩]; rfl
    rw [h9]
  have hset := wl_set (S' := uQ S c0 r k (some r1)) w.2.1 hP hq he (fun c' r' h => uQ_far h)
  rw [en_obj hc7] at hq
  have hl : k < (fv G S c0 r).length := (List.getElem?_eq_some_iff.mp (fv_get (G := G) (S := S) (r := r) ht)).1
  refine va_put hx hb hts hin ty0 hty hnm hown hK w.1 w.2.1 w.2.2 q hq hc k hk (hts _ hlink) (fun x h => by rw [hsame]; exact h) hfin hd rfl rfl hl hdg fun H1 locs1 h1 h2 h3 => ?_
  rw [hset] at h1 h2
  exact kk H1 locs1 ⟨h1, h2, h3⟩
end RW
end
section
/-! Rows (arrays) and calls, over pools. -/
section RA
variable {p : Program} {l : Launch} {e : Env} {R : Room} {s : State} {m : MethodId} {args : Array Value} {below : List Frame} {meth : Method} {c : Code} {H : Heap} {locs : List Loc} {cells slots : Nat} {Q : State → Prop}
variable {cc : ByteArray} {own : String} {Ts : List Cond} {nL : Nat} {G : GT} {A : Nat → Prop} {S : PS} {pc : Nat} {ls : Array Slot} {rest : List Value}
theorem paI {r n : Nat} {i v : Int32} (C : Cx p s m args meth c cc own Ts nL G A) (w : Wd G A s.heap S H locs) (hdg : decode cc pc = .ok (.iaload, 1)) (hP : (8, r) ∈ gP G) (hi : i = nI n) {N0 : Nat} (hN0 : gN G 8 r = N0) (hn : n < N0) (hN : N0 < 2 ^ 31) (hv : sI S 8 r n = v)
    (kk : W p l e R s m args below meth c H locs cells slots Q (F0 m (pc + 1) ls (.int v :: rest))) : W p l e R s m args below meth c H locs cells slots Q (F0 m pc ls (.int i :: .ref (gA G 8 r) :: rest)) := by
  obtain ⟨q, hq⟩ := wl_get S hP
  subst hi
  subst hN0
  refine va_iald C.1 C.2.1 C.2.2.2.2.2.1 w.1 q 1 (cA := gI G) (n := gN G 8 r) (f := sI S 8 r) hq rfl (vp_in_nI hn hN) hdg ?_
  rw [nI_clamp (Nat.lt_trans hn hN), hv]; exact kk
theorem paB {r n : Nat} {i v : Int32} (C : Cx p s m args meth c cc own Ts nL G A) (w : Wd G A s.heap S H locs) (hdg : decode cc pc = .ok (.baload, 1)) (hP : (7, r) ∈ gP G) (hi : i = nI n) {N0 : Nat} (hN0 : gN G 7 r = N0) (hn : n < N0) (hN : N0 < 2 ^ 31) (hv : sI S 7 r n = v)
    (kk : W p l e R s m args below meth c H locs cells slots Q (F0 m (pc + 1) ls (.int v :: rest))) : W p l e R s m args below meth c H locs cells slots Q (F0 m pc ls (.int i :: .ref (gA G 7 r) :: rest)) := by
  obtain ⟨q, hq⟩ := wl_get S hP
  subst hi
  subst hN0
  refine va_bald C.1 C.2.1 C.2.2.2.2.2.1 w.1 q 0 (cA := gB G) (n := gN G 7 r) (f := sI S 7 r) hq rfl (vp_in_nI hn hN) hdg ?_
  rw [nI_clamp (Nat.lt_trans hn hN), hv]; exact kk
theorem paJ {r n : Nat} {i : Int32} {v : Int64} (C : Cx p s m args meth c cc own Ts nL G A) (w : Wd G A s.heap S H locs) (hdg : decode cc pc = .ok (.laload, 1)) (hP : (9, r) ∈ gP G) (hi : i = nI n) {N0 : Nat} (hN0 : gN G 9 r = N0) (hn : n < N0) (hN : N0 < 2 ^ 31) (hv : sJ S 9 r n = v)
    (kk : W p l e R s m args below meth c H locs cells slots Q (F0 m (pc + 1) ls (.long v :: rest))) : W p l e R s m args below meth c H locs cells slots Q (F0 m pc ls (.int i :: .ref (gA G 9 r) :: rest)) := by
  obtain ⟨q, hq⟩ := wl_get S hP
  subst hi
  subst hN0
  refine va_lald C.1 C.2.1 C.2.2.2.2.2.1 w.1 q 2 (cA := gJ G) (n := gN G 9 r) (f := sJ S 9 r) hq rfl (vp_in_nI hn hN) hdg ?_
  rw [nI_clamp (Nat.lt_trans hn hN), hv]; exact kk
theorem paQ {r n : Nat} {i : Int32} {r1 : Nat} (C : Cx p s m args meth c cc own Ts nL G A) (w : Wd G A s.heap S H locs) (hdg : decode cc pc = .ok (.aaload, 1)) (hP : (10, r) ∈ gP G) (hi : i = nI n) {N0 : Nat} (hN0 : gN G 10 r = N0) (hn : n < N0) (hN : N0 < 2 ^ 31) (hv : sQ S 10 r n = some r1)
    (kk : W p l e R s m args below meth c H locs cells slots Q (F0 m (pc + 1) ls (.ref (gA G 2 r1) :: rest))) : W p l e R s m args below meth c H locs cells slots Q (F0 m pc ls (.int i :: .ref (gA G 10 r) :: rest)) := by
  obtain ⟨q, hq⟩ := wl_get S hP
  subst hi
  subst hN0
  refine va_aldq C.1 C.2.1 C.2.2.2.2.2.1 w.1 q 3 (cA := gO G) (C := "LevelScores$Score") (n := gN G 10 r) (f := fun k => (sQ S 10 r k).map (gA G 2)) hq rfl (vp_in_nI hn hN) hdg ?_
  rw [nI_clamp (Nat.lt_trans hn hN)]
  show W p l e R s m args below meth c H locs cells slots Q (F0 m (pc + 1) ls (va_rf ((sQ S 10 r n).map (gA G 2)) :: rest))
  rw [hv]; exact kk
theorem plen (c0 : Nat) {r n : Nat} (h7 : c0 = 7 ∨ c0 = 8 ∨ c0 = 9 ∨ c0 = 10) (C : Cx p s m args meth c cc own Ts nL G A) (w : Wd G A s.heap S H locs) (hdg : decode cc pc = .ok (.arraylength, 1)) (hP : (c0, r) ∈ gP G) (hn : gN G c0 r = n)
    (kk : W p l e R s m args below meth c H locs cells slots Q (F0 m (pc + 1) ls (.int (nI n) :: rest))) : W p l e R s m args below meth c H locs cells slots Q (F0 m pc ls (.ref (gA G c0 r) :: rest)) := by
  obtain ⟨q, hq⟩ := wl_get S hP
  subst hn
  rcases h7 with rfl | rfl | rfl | rfl
  · exact va_alen C.1 C.2.1 C.2.2.2.2.2.1 w.1 q 0 (cA := gB G) (x := (gN G 7 r, .inl (sI S 7 r))) hq rfl rfl hdg kk
  · exact va_alen C.1 C.2.1 C.2.2.2.2.2.1 w.1 q 1 (cA := gI G) (x := (gN G 8 r, .inl (sI S 8 r))) hq rfl rfl hdg kk
  · exact va_alen C.1 C.2.1 C.2.2.2.2.2.1 w.1 q 2 (cA := gJ G) (x := (gN G 9 r, .inr (.inl (sJ S 9 r)))) hq rfl rfl hdg kk
  · exact va_alen C.1 C.2.1 C.2.2.2.2.2.1 w.1 q 3 (cA := gO G) (x := (gN G 10 r, .inr (.inr (.inr (.inr (fun k => (sQ S 10 r k).map (gA G 2))))))) hq rfl rfl hdg kk
theorem psI {r n : Nat} {i v : Int32} (C : Cx p s m args meth c cc own Ts nL G A) (w : Wd G A s.heap S H locs) (hdg : decode cc pc = .ok (.iastore, 1)) (hP : (8, r) ∈ gP G) (hi : i = nI n) {N0 : Nat} (hN0 : gN G 8 r = N0) (hn : n < N0) (hN : N0 < 2 ^ 31)
    (kk : ∀ (H1 : Heap) (locs1 : List Loc), Wd G A s.heap (uI S 8 r n v) H1 locs1 → W p l e R s m args below meth c H1 locs1 cells slots Q (F0 m (pc + 1) ls rest)) : W p l e R s m args below meth c H locs cells slots Q (F0 m pc ls (.int v :: .int i :: .ref (gA G 8 r) :: rest)) := by
  obtain ⟨q, hq⟩ := wl_get S hP
  subst hi
  subst hN0
  have he : en G (uI S 8 r n v) 8 r = .inl (gI G, gN G 8 r, .inl (upd (sI S 8 r) n v)) := by
    show Sum.inl (gI G, gN G 8 r, Sum.inl (sI (uI S 8 r n v) 8 r)) = _
    have : sI (uI S 8 r n v) 8 r = upd (sI S 8 r) n v := by
      funext j; rw [sI_uI]; unfold upd
      by_cases h : j = n
      · rw [if_pos ⟨rfl, rfl, h⟩, if_pos h]
      · rw [if_neg (fun q => h q.2.2), if_neg h]
    rw [this]
  have hset := wl_set (S' := uI S 8 r n v) w.2.1 hP hq he (fun c' r' h => uI_far h)
  refine va_iast C.1 C.2.1 C.2.2.2.2.2.1 w.1 w.2.1 w.2.2 q 1 (cA := gI G) (n := gN G 8 r) (f := sI S 8 r) hq rfl (vp_in_nI hn hN) hdg fun H1 locs1 h1 h2 h3 => ?_
  rw [nI_clamp (Nat.lt_trans hn hN), hset] at h1 h2
  exact kk H1 locs1 ⟨h1, h2, h3⟩
theorem psB {r n : Nat} {i v : Int32} (C : Cx p s m args meth c cc own Ts nL G A) (w : Wd G A s.heap S H locs) (hdg : decode cc pc = .ok (.bastore, 1)) (hP : (7, r) ∈ gP G) (hi : i = nI n) {N0 : Nat} (hN0 : gN G 7 r = N0) (hn : n < N0) (hN : N0 < 2 ^ 31)
    (kk : ∀ (H1 : Heap) (locs1 : List Loc), Wd G A s.heap (uI S 7 r n (vp_nar .byte v)) H1 locs1 → W p l e R s m args below meth c H1 locs1 cells slots Q (F0 m (pc + 1) ls rest)) : W p l e R s m args below meth c H locs cells slots Q (F0 m pc ls (.int v :: .int i :: .ref (gA G 7 r) :: rest)) := by
  obtain ⟨q, hq⟩ := wl_get S hP
  subst hi
  subst hN0
  have he : en G (uI S 7 r n (vp_nar .byte v)) 7 r = .inl (gB G, gN G 7 r, .inl (upd (sI S 7 r) n (vp_nar .byte v))) := by
    show Sum.inl (gB G, gN G 7 r, Sum.inl (sI (uI S 7 r n (vp_nar .byte v)) 7 r)) = _
    have : sI (uI S 7 r n (vp_nar .byte v)) 7 r = upd (sI S 7 r) n (vp_nar .byte v) := by
      funext j; rw [sI_uI]; unfold upd
      by_cases h : j = n
      · rw [if_pos ⟨rfl, rfl, h⟩, if_pos h]
      · rw [if_neg (fun q => h q.2.2), if_neg h]
    rw [this]
  have hset := wl_set (S' := uI S 7 r n (vp_nar .byte v)) w.2.1 hP hq he (fun c' r' h => uI_far h)
  refine va_bast C.1 C.2.1 C.2.2.2.2.2.1 w.1 w.2.1 w.2.2 q 0 (cA := gB G) (n := gN G 7 r) (f := sI S 7 r) hq rfl (vp_in_nI hn hN) hdg fun H1 locs1 h1 h2 h3 => ?_
  rw [nI_clamp (Nat.lt_trans hn hN), hset] at h1 h2
  exact kk H1 locs1 ⟨h1, h2, h3⟩
theorem psJ {r n : Nat} {i : Int32} {v : Int64} (C : Cx p s m args meth c cc own Ts nL G A) (w : Wd G A s.heap S H locs) (hdg : decode cc pc = .ok (.lastore, 1)) (hP : (9, r) ∈ gP G) (hi : i = nI n) {N0 : Nat} (hN0 : gN G 9 r = N0) (hn : n < N0) (hN : N0 < 2 ^ 31)
    (kk : ∀ (H1 : Heap) (locs1 : List Loc), Wd G A s.heap (uJ S 9 r n v) H1 locs1 → W p l e R s m args below meth c H1 locs1 cells slots Q (F0 m (pc + 1) ls rest)) : W p l e R s m args below meth c H locs cells slots Q (F0 m pc ls (.long v :: .int i :: .ref (gA G 9 r) :: rest)) := by
  obtain ⟨q, hq⟩ := wl_get S hP
  subst hi
  subst hN0
  have he : en G (uJ S 9 r n v) 9 r = .inl (gJ G, gN G 9 r, .inr (.inl (vp_updL (sJ S 9 r) n v))) := by
    show Sum.inl (gJ G, gN G 9 r, Sum.inr (Sum.inl (sJ (uJ S 9 r n v) 9 r))) = _
    have : sJ (uJ S 9 r n v) 9 r = vp_updL (sJ S 9 r) n v := by
      funext j; rw [sJ_uJ]; unfold vp_updL
      by_cases h : j = n
      · rw [if_pos ⟨rfl, rfl, h⟩, if_pos h]
      · rw [if_neg (fun q => h q.2.2), if_neg h]
    rw [this]
  have hset := wl_set (S' := uJ S 9 r n v) w.2.1 hP hq he (fun c' r' h => uJ_far h)
  refine va_last C.1 C.2.1 C.2.2.2.2.2.1 w.1 w.2.1 w.2.2 q 2 (cA := gJ G) (n := gN G 9 r) (f := sJ S 9 r) hq rfl (vp_in_nI hn hN) hdg fun H1 locs1 h1 h2 h3 => ?_
  rw [nI_clamp (Nat.lt_trans hn hN), hset] at h1 h2
  exact kk H1 locs1 ⟨h1, h2, h3⟩
theorem psQ {r n : Nat} {i : Int32} {r1 : Nat} (C : Cx p s m args meth c cc own Ts nL G A) (w : Wd G A s.heap S H locs) (hdg : decode cc pc = .ok (.aastore, 1)) (hP : (10, r) ∈ gP G) (hP1 : (2, r1) ∈ gP G) (hi : i = nI n) {N0 : Nat} (hN0 : gN G 10 r = N0) (hn : n < N0) (hN : N0 < 2 ^ 31)
    (kk : ∀ (H1 : Heap) (locs1 : List Loc), Wd G A s.heap (uQ S 10 r n (some r1)) H1 locs1 → W p l e R s m args below meth c H1 locs1 cells slots Q (F0 m (pc + 1) ls rest)) : W p l e R s m args below meth c H locs cells slots Q (F0 m pc ls (.ref (gA G 2 r1) :: .int i :: .ref (gA G 10 r) :: rest)) := by
  obtain ⟨q, hq⟩ := wl_get S hP
  obtain ⟨q1, hq1⟩ := wl_get S hP1
  rw [en_obj (by decide)] at hq1
  subst hi
  subst hN0
  have he : en G (uQ S 10 r n (some r1)) 10 r = .inl (gO G, gN G 10 r, .inr (.inr (.inr (.inr (va_up (fun k => (sQ S 10 r k).map (gA G 2)) n (some (gA G 2 r1))))))) := by
    show Sum.inl (gO G, gN G 10 r, Sum.inr (Sum.inr (Sum.inr (Sum.inr (fun k => (sQ (uQ S 10 r n (some r1)) 10 r k).map (gA G 2)))))) = _
    have : (fun k => (sQ (uQ S 10 r n (some r1)) 10 r k).map (gA G 2)) = va_up (fun k => (sQ S 10 r k).map (gA G 2)) n (some (gA G 2 r1)) := by
      funext j; rw [sQ_uQ]; unfold va_up
      by_cases h : j = n
      · rw [if_pos ⟨rfl, rfl, h⟩, if_pos h]; rfl
      · rw [if_neg (fun q => h q.2.2), if_neg h]
    rw [this]
  have hset := wl_set (S' := uQ S 10 r n (some r1)) w.2.1 hP hq he (fun c' r' h => uQ_far h)
  refine va_astq C.1 C.2.1 C.2.2.2.2.2.1 w.1 w.2.1 w.2.2 q 3 q1 2 (cA := gO G) (n := gN G 10 r) (r := (RX2, TX2, 4)) (f := fun k => (sQ S 10 r k).map (gA G 2)) hq rfl hq1 rfl (vp_in_nI hn hN) hdg fun H1 locs1 h1 h2 h3 => ?_
  rw [nI_clamp (Nat.lt_trans hn hN), hset] at h1 h2
  exact kk H1 locs1 ⟨h1, h2, h3⟩
end RA
theorem Wd.free {G : GT} {A : Nat → Prop} {H0 H : Heap} {S : PS} {locs : List Loc} (w : Wd G A H0 S H locs) (hA : ∀ q : Nat, H0.size ≤ q → A q) : ∀ q, va_A (wl G S) H.size q → A q := by
  intro q h
  rcases h with ⟨k, e, h⟩ | h
  · exact w.2.1.2 k _ h
  · exact hA q (Nat.le_trans w.2.2.1 h)
theorem Wa_blind {G : GT} {S : PS} {sz : Nat} {as : List Value} : FrameBlind (va_Pc as (Wa G S sz)) := fun a U g mk q => by
  obtain ⟨q0, q1, qP, qK, qD⟩ := q
  exact ⟨q0, q1, qP, va_K.moved (u := U) (U := U.calling g mk a) (Vm.Alike.refl U.vm) qK, qD⟩
theorem Wa_pre {G : GT} {A : Nat → Prop} {S : PS} {s : State} {H : Heap} {locs : List Loc} {as : List Value} (hK : va_K (gD G) vwCl (gT G) s) (w : Wd G A s.heap S H locs) : ∀ U : State, U.heap = H → s.WarmedH U.vm → va_Pc as (Wa G S H.size) as.toArray U :=
  fun U hU hW => ⟨rfl, by rw [hU], by rw [hU]; exact w.1, va_K.moved hW.alike hK, w.2.1.weaken (fun _ _ _ _ => trivial)⟩
theorem Wb_wd {G : GT} {A : Nat → Prop} {S S' : PS} {s t : State} {H H1 : Heap} {locs locs1 : List Loc} (w : Wd G A s.heap S H locs) (hA : ∀ q : Nat, s.heap.size ≤ q → A q) (ht : t.heap = H1) (hB : Wb G (va_A (wl G S) H.size) S' t) (hS : va_S A s.heap H1 locs1) : Wd G A s.heap S' H1 locs1 := by
  obtain ⟨h1, -, h3⟩ := hB
  rw [ht] at h1
  exact ⟨h1, h3.weaken (fun k q _ h => w.free hA q.1 h), hS⟩
section RC
variable {p : Program} {l : Launch} {e : Env} {R : Room} {s : State} {m : MethodId} {args : Array Value} {below : List Frame} {meth : Method} {c : Code} {H : Heap} {locs : List Loc} {cells slots : Nat} {Q : State → Prop}
variable {cc : ByteArray} {own : String} {Ts : List Cond} {nL : Nat} {G : GT} {A : Nat → Prop} {S : PS} {pc : Nat} {ls : Array Slot} {rest st : List Value} {lv : List (Nat × Value)}
variable {c0 r index n f fn : Nat} {Cn : String} {T : u_T} {N maxL : Nat} {y : MethodName} {bytes : ByteArray} {ret' : Option FieldType} {ws ws' : List Cond} {As : List Value}
/-- invokevirtual: an int or a boolean comes back -/
theorem cvI {post : Int32 → PS → Prop} (C : Cx p s m args meth c cc own Ts nL G A) (w : Wd G A s.heap S H locs) (hl : lv_has ls nL lv) (hdg : decode cc pc = .ok (.invokevirtual index, 3)) (hM : CtI l G y ws (rmK f fn) (.ref (gA G c0 r) :: As) S post) (hT : GoodIn Ts (wsV own index Cn y ws)) (hw : ws = Cond.code y bytes maxL ret' :: ws')
    (hd : y.cls = Cn ∧ y.cls ≠ "java/lang/invoke/MethodHandle" ∧ y.cls ≠ "java/lang/invoke/VarHandle" ∧ (parseMethodDescriptor y.desc).map (fun d => d.parameters.length) = some n) (hn : As.length = n) (hst : st = As.reverse ++ .ref (gA G c0 r) :: rest) (hrest : (rest.map fun v => v.category).sum ≤ 8)
    (hR : f + 1 ≤ R.frames ∧ 8 + (maxL + 11) + fn ≤ R.locals) (hc7 : c0 < 7) (hc : vwCl[c0]? = some (Cn, T, N)) (hP : (c0, r) ∈ gP G)
    (kk : ∀ (v : Int32) (S' : PS) (H1 : Heap) (locs1 : List Loc), post v S' → Wd G A s.heap S' H1 locs1 → W p l e R s m args below meth c H1 locs1 cells slots Q (F0 m (pc + 3) ls (.int v :: rest))) (hf : cells ≤ R.cells ∧ slots ≤ R.slots := by exact ⟨Nat.zero_le _, Nat.zero_le _⟩) : W p l e R s m args below meth c H locs cells slots Q (F0 m pc ls st) := by
  obtain ⟨q, hq⟩ := wl_get S hP
  rw [en_obj hc7] at hq
  subst hst
  have hA := C.2.2.2.2.2.2
  refine va_calli (va_runV (As := As) (rest := rest) ⟨C.1, C.2.1, C.2.2.1, C.2.2.2.1, C.2.2.2.2.1⟩ (hM H.size) (cwV n C.2.2.2.2.1 hT hw rfl rfl hd hR) ⟨Wa_blind, va_recv C.2.2.2.2.2.1 w.1 hc hq, Wa_pre C.2.2.2.2.2.1 w⟩ rfl hn hl.1 rfl (lv_room hrest) hdg hf) w.2.2 (fun q _ h => w.free hA q h) (w.free hA) (fun v u t H1 locs1 ht hvm hp hB hz1 hk1 hS => kk v u H1 locs1 hp (Wb_wd w hA ht hB hS))
theorem cvL {post : Int64 → PS → Prop} (C : Cx p s m args meth c cc own Ts nL G A) (w : Wd G A s.heap S H locs) (hl : lv_has ls nL lv) (hdg : decode cc pc = .ok (.invokevirtual index, 3)) (hM : CtL l G y ws (rmK f fn) (.ref (gA G c0 r) :: As) S post) (hT : GoodIn Ts (wsV own index Cn y ws)) (hw : ws = Cond.code y bytes maxL ret' :: ws')
    (hd : y.cls = Cn ∧ y.cls ≠ "java/lang/invoke/MethodHandle" ∧ y.cls ≠ "java/lang/invoke/VarHandle" ∧ (parseMethodDescriptor y.desc).map (fun d => d.parameters.length) = some n) (hn : As.length = n) (hst : st = As.reverse ++ .ref (gA G c0 r) :: rest) (hrest : (rest.map fun v => v.category).sum ≤ 8)
    (hR : f + 1 ≤ R.frames ∧ 8 + (maxL + 11) + fn ≤ R.locals) (hc7 : c0 < 7) (hc : vwCl[c0]? = some (Cn, T, N)) (hP : (c0, r) ∈ gP G)
    (kk : ∀ (v : Int64) (S' : PS) (H1 : Heap) (locs1 : List Loc), post v S' → Wd G A s.heap S' H1 locs1 → W p l e R s m args below meth c H1 locs1 cells slots Q (F0 m (pc + 3) ls (.long v :: rest))) (hf : cells ≤ R.cells ∧ slots ≤ R.slots := by exact ⟨Nat.zero_le _, Nat.zero_le _⟩) : W p l e R s m args below meth c H locs cells slots Q (F0 m pc ls st) := by
  obtain ⟨q, hq⟩ := wl_get S hP
  rw [en_obj hc7] at hq
  subst hst
  have hA := C.2.2.2.2.2.2
  refine va_calll (va_runV (As := As) (rest := rest) ⟨C.1, C.2.1, C.2.2.1, C.2.2.2.1, C.2.2.2.2.1⟩ (hM H.size) (cwV n C.2.2.2.2.1 hT hw rfl rfl hd hR) ⟨Wa_blind, va_recv C.2.2.2.2.2.1 w.1 hc hq, Wa_pre C.2.2.2.2.2.1 w⟩ rfl hn hl.1 rfl (lv_room hrest) hdg hf) w.2.2 (fun q _ h => w.free hA q h) (w.free hA) (fun v u t H1 locs1 ht hvm hp hB hz1 hk1 hS => kk v u H1 locs1 hp (Wb_wd w hA ht hB hS))
theorem cvV {post : PS → Prop} (C : Cx p s m args meth c cc own Ts nL G A) (w : Wd G A s.heap S H locs) (hl : lv_has ls nL lv) (hdg : decode cc pc = .ok (.invokevirtual index, 3)) (hM : CtV l G y ws (rmK f fn) (.ref (gA G c0 r) :: As) S post) (hT : GoodIn Ts (wsV own index Cn y ws)) (hw : ws = Cond.code y bytes maxL ret' :: ws')
    (hd : y.cls = Cn ∧ y.cls ≠ "java/lang/invoke/MethodHandle" ∧ y.cls ≠ "java/lang/invoke/VarHandle" ∧ (parseMethodDescriptor y.desc).map (fun d => d.parameters.length) = some n) (hn : As.length = n) (hst : st = As.reverse ++ .ref (gA G c0 r) :: rest) (hrest : (rest.map fun v => v.category).sum ≤ 8)
    (hR : f + 1 ≤ R.frames ∧ 8 + (maxL + 11) + fn ≤ R.locals) (hc7 : c0 < 7) (hc : vwCl[c0]? = some (Cn, T, N)) (hP : (c0, r) ∈ gP G)
    (kk : ∀ (S' : PS) (H1 : Heap) (locs1 : List Loc), post S' → Wd G A s.heap S' H1 locs1 → W p l e R s m args below meth c H1 locs1 cells slots Q (F0 m (pc + 3) ls rest)) (hf : cells ≤ R.cells ∧ slots ≤ R.slots := by exact ⟨Nat.zero_le _, Nat.zero_le _⟩) : W p l e R s m args below meth c H locs cells slots Q (F0 m pc ls st) := by
  obtain ⟨q, hq⟩ := wl_get S hP
  rw [en_obj hc7] at hq
  subst hst
  have hA := C.2.2.2.2.2.2
  refine va_callv (va_runV (As := As) (rest := rest) ⟨C.1, C.2.1, C.2.2.1, C.2.2.2.1, C.2.2.2.2.1⟩ (hM H.size) (cwV n C.2.2.2.2.1 hT hw rfl rfl hd hR) ⟨Wa_blind, va_recv C.2.2.2.2.2.1 w.1 hc hq, Wa_pre C.2.2.2.2.2.1 w⟩ rfl hn hl.1 rfl (lv_room hrest) hdg hf) w.2.2 (fun q _ h => w.free hA q h) (w.free hA) (fun u t H1 locs1 ht hvm hp hB hz1 hk1 hS => kk u H1 locs1 hp (Wb_wd w hA ht hB hS))
theorem csI {post : Int32 → PS → Prop} (C : Cx p s m args meth c cc own Ts nL G A) (w : Wd G A s.heap S H locs) (hl : lv_has ls nL lv) (hdg : decode cc pc = .ok (.invokestatic index, 3)) (hM : CtI l G y ws (rmK f fn) As S post) (hT : GoodIn Ts (va_wsS own index y ws)) (hw : ws = Cond.code y bytes maxL ret' :: ws')
    (hd : y.cls ≠ "java/lang/invoke/MethodHandle" ∧ y.cls ≠ "java/lang/invoke/VarHandle" ∧ (parseMethodDescriptor y.desc).map (fun d => d.parameters.length) = some n) (hn : As.length = n) (hst : st = As.reverse ++ rest) (hrest : (rest.map fun v => v.category).sum ≤ 8)
    (hR : f + 1 ≤ R.frames ∧ 8 + (maxL + 11) + fn ≤ R.locals)
    (kk : ∀ (v : Int32) (S' : PS) (H1 : Heap) (locs1 : List Loc), post v S' → Wd G A s.heap S' H1 locs1 → W p l e R s m args below meth c H1 locs1 cells slots Q (F0 m (pc + 3) ls (.int v :: rest))) (hf : cells ≤ R.cells ∧ slots ≤ R.slots := by exact ⟨Nat.zero_le _, Nat.zero_le _⟩) : W p l e R s m args below meth c H locs cells slots Q (F0 m pc ls st) := by
  subst hst
  have hA := C.2.2.2.2.2.2
  refine va_calli (va_runS (As := As) (rest := rest) ⟨C.1, C.2.1, C.2.2.1, C.2.2.2.1, C.2.2.2.2.1⟩ (hM H.size) (va_cwS n C.2.2.2.2.1 hT hw rfl rfl hd hR) ⟨Wa_blind, Wa_pre C.2.2.2.2.2.1 w⟩ rfl hn hl.1 rfl (lv_room hrest) hdg hf) w.2.2 (fun q _ h => w.free hA q h) (w.free hA) (fun v u t H1 locs1 ht hvm hp hB hz1 hk1 hS => kk v u H1 locs1 hp (Wb_wd w hA ht hB hS))
theorem csL {post : Int64 → PS → Prop} (C : Cx p s m args meth c cc own Ts nL G A) (w : Wd G A s.heap S H locs) (hl : lv_has ls nL lv) (hdg : decode cc pc = .ok (.invokestatic index, 3)) (hM : CtL l G y ws (rmK f fn) As S post) (hT : GoodIn Ts (va_wsS own index y ws)) (hw : ws = Cond.code y bytes maxL ret' :: ws')
    (hd : y.cls ≠ "java/lang/invoke/MethodHandle" ∧ y.cls ≠ "java/lang/invoke/VarHandle" ∧ (parseMethodDescriptor y.desc).map (fun d => d.parameters.length) = some n) (hn : As.length = n) (hst : st = As.reverse ++ rest) (hrest : (rest.map fun v => v.category).sum ≤ 8)
    (hR : f + 1 ≤ R.frames ∧ 8 + (maxL + 11) + fn ≤ R.locals)
    (kk : ∀ (v : Int64) (S' : PS) (H1 : Heap) (locs1 : List Loc), post v S' → Wd G A s.heap S' H1 locs1 → W p l e R s m args below meth c H1 locs1 cells slots Q (F0 m (pc + 3) ls (.long v :: rest))) (hf : cells ≤ R.cells ∧ slots ≤ R.slots := by exact ⟨Nat.zero_le _, Nat.zero_le _⟩) : W p l e R s m args below meth c H locs cells slots Q (F0 m pc ls st) := by
  subst hst
  have hA := C.2.2.2.2.2.2
  refine va_calll (va_runS (As := As) (rest := rest) ⟨C.1, C.2.1, C.2.2.1, C.2.2.2.1, C.2.2.2.2.1⟩ (hM H.size) (va_cwS n C.2.2.2.2.1 hT hw rfl rfl hd hR) ⟨Wa_blind, Wa_pre C.2.2.2.2.2.1 w⟩ rfl hn hl.1 rfl (lv_room hrest) hdg hf) w.2.2 (fun q _ h => w.free hA q h) (w.free hA) (fun v u t H1 locs1 ht hvm hp hB hz1 hk1 hS => kk v u H1 locs1 hp (Wb_wd w hA ht hB hS))
end RC
end
section
/-! The class's pool: scores are the places 0 .. 59 of kind 2, the plan's weights, best ones, spare and pattern 60 .. 78; a score's levels have its own place in kind 9. Wide 0 is the object's, 1 the plan's sum, 2 its part. Byte rows: 0 the tape's, 1 the page's, 2 its digits. Rows of scores: 0 the scores, 1 the weights, 2 the best. -/
def okX (G : GT) : Prop := (∀ r, r < 79 → (2, r) ∈ gP G ∧ (9, r) ∈ gP G ∧ gN G 9 r = 12) ∧ ((0, 0) ∈ gP G ∧ (1, 0) ∈ gP G ∧ (3, 0) ∈ gP G ∧ (5, 0) ∈ gP G ∧ (8, 0) ∈ gP G) ∧ (∀ r, r < 3 → (4, r) ∈ gP G ∧ (7, r) ∈ gP G ∧ (10, r) ∈ gP G) ∧ gN G 7 0 = 300 ∧ gN G 7 1 = 263 ∧ gN G 7 2 = 19 ∧ gN G 8 0 = 12 ∧ gN G 10 0 = 60 ∧ gN G 10 1 = 12 ∧ gN G 10 2 = 5
theorem oP2 {G : GT} (h : okX G) {r : Nat} (hr : r < 79) : (2, r) ∈ gP G := (h.1 r hr).1
theorem oP9 {G : GT} (h : okX G) {r : Nat} (hr : r < 79) : (9, r) ∈ gP G := (h.1 r hr).2.1
theorem oN9 {G : GT} (h : okX G) {r : Nat} (hr : r < 79) : gN G 9 r = 12 := (h.1 r hr).2.2
theorem oP0 {G : GT} (h : okX G) : (0, 0) ∈ gP G := h.2.1.1
theorem oP1 {G : GT} (h : okX G) : (1, 0) ∈ gP G := h.2.1.2.1
theorem oP3 {G : GT} (h : okX G) : (3, 0) ∈ gP G := h.2.1.2.2.1
theorem oP5 {G : GT} (h : okX G) : (5, 0) ∈ gP G := h.2.1.2.2.2.1
theorem oP8 {G : GT} (h : okX G) : (8, 0) ∈ gP G := h.2.1.2.2.2.2
theorem oP4 {G : GT} (h : okX G) {r : Nat} (hr : r < 3) : (4, r) ∈ gP G := (h.2.2.1 r hr).1
theorem oP7 {G : GT} (h : okX G) {r : Nat} (hr : r < 3) : (7, r) ∈ gP G := (h.2.2.1 r hr).2.1
theorem oP10 {G : GT} (h : okX G) {r : Nat} (hr : r < 3) : (10, r) ∈ gP G := (h.2.2.1 r hr).2.2
theorem oN70 {G : GT} (h : okX G) : gN G 7 0 = 300 := h.2.2.2.1
theorem oN71 {G : GT} (h : okX G) : gN G 7 1 = 263 := h.2.2.2.2.1
theorem oN72 {G : GT} (h : okX G) : gN G 7 2 = 19 := h.2.2.2.2.2.1
theorem oN8 {G : GT} (h : okX G) : gN G 8 0 = 12 := h.2.2.2.2.2.2.1
theorem oN100 {G : GT} (h : okX G) : gN G 10 0 = 60 := h.2.2.2.2.2.2.2.1
theorem oN101 {G : GT} (h : okX G) : gN G 10 1 = 12 := h.2.2.2.2.2.2.2.2.1
theorem oN102 {G : GT} (h : okX G) : gN G 10 2 = 5 := h.2.2.2.2.2.2.2.2.2
/-- the references that never change -/
def lkX (S : PS) : Prop := (∀ r, r < 79 → sQ S 2 r 3 = some r) ∧ (∀ i, i < 60 → sQ S 10 0 i = some i) ∧ sQ S 5 0 0 = some 0 ∧ sQ S 5 0 2 = some 0 ∧ sQ S 5 0 3 = some 0 ∧ sQ S 5 0 4 = some 0 ∧ sQ S 5 0 5 = some 0 ∧ sQ S 3 0 0 = some 0 ∧ sQ S 0 0 0 = some 1 ∧ sQ S 0 0 2 = some 2
  ∧ sQ S 1 0 0 = some 78 ∧ sQ S 1 0 1 = some 1 ∧ sQ S 1 0 2 = some 0 ∧ sQ S 1 0 4 = some 2 ∧ sQ S 1 0 7 = some 1 ∧ sQ S 1 0 8 = some 2
theorem lk2 {S : PS} (h : lkX S) {r : Nat} (hr : r < 79) : sQ S 2 r 3 = some r := h.1 r hr
theorem lk10 {S : PS} (h : lkX S) {i : Nat} (hi : i < 60) : sQ S 10 0 i = some i := h.2.1 i hi
theorem lkX_of {S S' : PS} (h : lkX S) (e : sQ S' = sQ S) : lkX S' := by unfold lkX; rw [e]; exact h
/-- a score's head; a whole row of levels -/
def fm (S : PS) (r : Nat) (a b z : Int32) : PS := uI (uI (uI S 2 r 0 a) 2 r 1 b) 2 r 2 z
def rw9 (S : PS) (r : Nat) (f : Nat → Int64) : PS := (S.1, fun c' r' k' => if c' = 9 ∧ r' = r then f k' else S.2.1 c' r' k', S.2.2)
theorem sJ_rw9 (S : PS) (r : Nat) (f : Nat → Int64) (c' r' k' : Nat) : sJ (rw9 S r f) c' r' k' = if c' = 9 ∧ r' = r then f k' else sJ S c' r' k' := rfl
theorem sI_rw9 (S : PS) (r : Nat) (f : Nat → Int64) : sI (rw9 S r f) = sI S := rfl
theorem sQ_rw9 (S : PS) (r : Nat) (f : Nat → Int64) : sQ (rw9 S r f) = sQ S := rfl
theorem sJ_fm (S : PS) (r : Nat) (a b z : Int32) : sJ (fm S r a b z) = sJ S := rfl
theorem sQ_fm (S : PS) (r : Nat) (a b z : Int32) : sQ (fm S r a b z) = sQ S := rfl
theorem sI_fm0 (S : PS) (r : Nat) (a b z : Int32) : sI (fm S r a b z) 2 r 0 = a := by simp [fm, sI_uI]
theorem sI_fm1 (S : PS) (r : Nat) (a b z : Int32) : sI (fm S r a b z) 2 r 1 = b := by simp [fm, sI_uI]
theorem sI_fm2 (S : PS) (r : Nat) (a b z : Int32) : sI (fm S r a b z) 2 r 2 = z := by simp [fm, sI_uI]
theorem sI_fm_r {S : PS} {r : Nat} {a b z : Int32} {c' r' k' : Nat} (h : ¬ (c' = 2 ∧ r' = r)) : sI (fm S r a b z) c' r' k' = sI S c' r' k' := by
  unfold fm
  rw [sI_uI, if_neg (fun q => h ⟨q.1, q.2.1⟩), sI_uI, if_neg (fun q => h ⟨q.1, q.2.1⟩), sI_uI, if_neg (fun q => h ⟨q.1, q.2.1⟩)]
theorem sJ_rw9_s (S : PS) (r : Nat) (f : Nat → Int64) (k : Nat) : sJ (rw9 S r f) 9 r k = f k := by rw [sJ_rw9, if_pos ⟨rfl, rfl⟩]
theorem sJ_rw9_n {S : PS} {r : Nat} {f : Nat → Int64} {r' k : Nat} (h : r' ≠ r) : sJ (rw9 S r f) 9 r' k = sJ S 9 r' k := by rw [sJ_rw9, if_neg (fun q => h q.2)]
theorem uJ_rw9 (S : PS) (r : Nat) (f : Nat → Int64) (k : Nat) (v : Int64) : uJ (rw9 S r f) 9 r k v = rw9 S r (fun j => if j = k then v else f j) := by
  refine PS_ext (fun _ _ _ => rfl) (fun c' r' k' => ?_) (fun _ _ _ => rfl)
  rw [sJ_uJ, sJ_rw9, sJ_rw9]
  by_cases h1 : c' = 9 ∧ r' = r
  · obtain ⟨rfl, rfl⟩ := h1
    by_cases h2 : k' = k
    · rw [if_pos ⟨rfl, rfl, h2⟩, if_pos ⟨rfl, rfl⟩, if_pos h2]
    · rw [if_neg (fun q => h2 q.2.2), if_pos ⟨rfl, rfl⟩, if_pos ⟨rfl, rfl⟩, if_neg h2]
  · rw [if_neg (fun q => h1 ⟨q.1, q.2.1⟩), if_neg h1, if_neg h1]
theorem rw9_self (S : PS) (r : Nat) : rw9 S r (fun k => sJ S 9 r k) = S := by
  refine PS_ext (fun _ _ _ => rfl) (fun c' r' k' => ?_) (fun _ _ _ => rfl)
  rw [sJ_rw9]
  by_cases h : c' = 9 ∧ r' = r
  · obtain ⟨rfl, rfl⟩ := h; rw [if_pos ⟨rfl, rfl⟩]
  · rw [if_neg h]
theorem rw9_eq {S : PS} {r : Nat} {f g : Nat → Int64} (h : ∀ k, f k = g k) : rw9 S r f = rw9 S r g := by rw [show f = g from funext h]
/-- the order of two rows from place k on, n levels -/
def cmpG (x y : Nat → Int64) : Nat → Nat → Int32
  | 0, _ => 0
  | n + 1, k => if x k = y k then cmpG x y n (k + 1) else if x k < y k then -1 else 1
theorem cmpG_eq {x y x' y' : Nat → Int64} : ∀ (n k : Nat), (∀ j, k ≤ j → j < k + n → x j = x' j ∧ y j = y' j) → cmpG x y n k = cmpG x' y' n k := by
  intro n
  induction n with
  | zero => intro k _; rfl
  | succ n ih =>
    intro k h
    obtain ⟨h1, h2⟩ := h k (Nat.le_refl _) (by omega)
    unfold cmpG
    rw [h1, h2, ih (k + 1) (fun j a b => h j (by omega) (by omega))]
end
section
set_option maxHeartbeats 4000000 in
set_option maxRecDepth 100000 in
/-- Score.form -/
theorem c_X2_form (l : Launch) (G : GT) (hX : okX G) (S : PS) (r : Nat) (a b z : Int32) (hr : r < 79) : CtV l G yX2_form wsX2_form (rmK 0 0) [.ref (gA G 2 r), .int a, .int b, .int z] S (fun S2 => S2 = fm S r a b z) := by
  refine ofCtV (cc := cX2_form) (nL := 4) RX2 (by decide +kernel) rfl rfl (Nat.le_of_ble_eq_true rfl) ?_
  intro p e s m args below meth c A Q ls C w hl hret
  have hx := C.1
  have hb := C.2.1
  have hown := C.2.2.2.1
  have hts := C.2.2.2.2.1
  have hi2 : ∀ w ∈ wsX20, w ∈ wsX2_form := by decide +kernel
  refine lv_aload_n hx hb dX2_form_0 rfl (lv_at hl 0 rfl) ?_
  refine lv_iload_n hx hb dX2_form_1 rfl (lv_at hl 1 rfl) ?_
  refine ppI 2 0 (by decide) rfl (by decide) rfl rfl tyX2_ok nmX2 rfl (by decide +kernel) C w hi2 (by decide +kernel) dX2_form_2 (oP2 hX (by assumption)) (fun H locs w => ?_)
  refine lv_aload_n hx hb dX2_form_5 rfl (lv_at hl 0 rfl) ?_
  refine lv_iload_n hx hb dX2_form_6 rfl (lv_at hl 2 rfl) ?_
  refine ppI 2 1 (by decide) rfl (by decide) rfl rfl tyX2_ok nmX2 rfl (by decide +kernel) C w hi2 (by decide +kernel) dX2_form_7 (oP2 hX (by assumption)) (fun H locs w => ?_)
  refine lv_aload_n hx hb dX2_form_10 rfl (lv_at hl 0 rfl) ?_
  refine lv_iload_n hx hb dX2_form_11 rfl (lv_at hl 3 rfl) ?_
  refine ppI 2 2 (by decide) rfl (by decide) rfl rfl tyX2_ok nmX2 rfl (by decide +kernel) C w hi2 (by decide +kernel) dX2_form_12 (oP2 hX (by assumption)) (fun H locs w => ?_)
  exact hret _ _ _ _ _ dX2_form_15 w rfl

set_option maxHeartbeats 4000000 in
set_option maxRecDepth 100000 in
/-- Score.formLike -/
theorem c_X2_formLike (l : Launch) (G : GT) (hX : okX G) (S : PS) (r o : Nat) (hr : r < 79) (ho : o < 79) : CtV l G yX2_formLike wsX2_formLike (rmK 1 23) [.ref (gA G 2 r), .ref (gA G 2 o)] S (fun S2 => S2 = fm S r (sI S 2 o 0) (sI S 2 o 1) (sI S 2 o 2)) := by
  refine ofCtV (cc := cX2_formLike) (nL := 2) RX2 (by decide +kernel) rfl rfl (Nat.le_of_ble_eq_true rfl) ?_
  intro p e s m args below meth c A Q ls C w hl hret
  have hx := C.1
  have hb := C.2.1
  have hown := C.2.2.2.1
  have hts := C.2.2.2.2.1
  have hi2 : ∀ w ∈ wsX20, w ∈ wsX2_formLike := by decide +kernel
  refine lv_aload_n hx hb dX2_formLike_0 rfl (lv_at hl 0 rfl) ?_
  refine lv_aload_n hx hb dX2_formLike_1 rfl (lv_at hl 1 rfl) ?_
  refine pgI 2 0 (by decide) rfl (by decide) (Or.inl rfl) rfl C w hi2 (by decide +kernel) dX2_formLike_2 (oP2 hX (by assumption)) rfl ?_
  refine lv_aload_n hx hb dX2_formLike_5 rfl (lv_at hl 1 rfl) ?_
  refine pgI 2 1 (by decide) rfl (by decide) (Or.inl rfl) rfl C w hi2 (by decide +kernel) dX2_formLike_6 (oP2 hX (by assumption)) rfl ?_
  refine lv_aload_n hx hb dX2_formLike_9 rfl (lv_at hl 1 rfl) ?_
  refine pgI 2 2 (by decide) rfl (by decide) (Or.inl rfl) rfl C w hi2 (by decide +kernel) dX2_formLike_10 (oP2 hX (by assumption)) rfl ?_
  refine cvV (n := 3) C w hl dX2_formLike_13 (c_X2_form l G hX S _ _ _ _ (by assumption)) gX2_formLike_X2_form rfl (by decide +kernel) rfl rfl (Nat.le_of_ble_eq_true rfl) ⟨by decide, by decide⟩ (by decide) rfl (oP2 hX (by assumption)) (fun S2 H locs hp w => ?_)
  exact hret _ _ _ _ _ dX2_formLike_16 w hp

set_option maxHeartbeats 4000000 in
set_option maxRecDepth 100000 in
/-- Score.clear -/
theorem c_X2_clear (l : Launch) (G : GT) (hX : okX G) (S : PS) (hS : lkX S) (r z : Nat) (hr : r < 79) (hz : sI S 2 r 2 = nI z) (hz12 : z ≤ 12) : CtV l G yX2_clear wsX2_clear (rmK 0 0) [.ref (gA G 2 r)] S (fun S2 => S2 = rw9 S r (fun k => if k < z then 0 else sJ S 9 r k)) := by
  refine ofCtV (cc := cX2_clear) (nL := 2) RX2 (by decide +kernel) rfl rfl (Nat.le_of_ble_eq_true rfl) ?_
  intro p e s m args below meth c A Q ls C w hl hret
  have hx := C.1
  have hb := C.2.1
  have hown := C.2.2.2.1
  have hts := C.2.2.2.2.1
  have hi2 : ∀ w ∈ wsX20, w ∈ wsX2_clear := by decide +kernel
  refine lv_iconst (v := 0) hx hb dX2_clear_0 (by decide) ?_
  refine lv_istore_n hx hb dX2_clear_1 rfl hl (by decide) rfl (fun ls hl => ?_)
  have loop_2 : ∀ (n : Nat) (k : Nat) (H : Heap) (locs : List Loc) (ls : Array Slot), k + n = z → Wd G A s.heap (rw9 S r (fun j => if j < k then 0 else sJ S 9 r j)) H locs → lv_has ls 2 [(0, .ref (gA G 2 r)), (1, .int (nI k))] → W p l e (rmK 0 0) s m args below meth c H locs 0 0 Q (F0 m 2 ls []) := by
    intro n
    induction n with
    | zero =>
      intro k H locs ls hk w hl
      refine lv_iload_n hx hb dX2_clear_2 rfl (lv_at hl 1 rfl) ?_
      refine lv_aload_n hx hb dX2_clear_3 rfl (lv_at hl 0 rfl) ?_
      refine pgI 2 2 (by decide) rfl (by decide) (Or.inl rfl) rfl C w hi2 (by decide +kernel) dX2_clear_4 (oP2 hX (by assumption)) hz ?_
      refine lv_icmp_ge (tgt := 23) hx hb dX2_clear_7 (by decide) (fun c_7 => ?_) (fun c_7 => absurd (nI_le (by omega) (by omega)) c_7)
      have e : k = z := by omega
      subst e
      exact hret _ _ _ _ _ dX2_clear_23 w rfl
    | succ n ih =>
      intro k H locs ls hk w hl
      refine lv_iload_n hx hb dX2_clear_2 rfl (lv_at hl 1 rfl) ?_
      refine lv_aload_n hx hb dX2_clear_3 rfl (lv_at hl 0 rfl) ?_
      refine pgI 2 2 (by decide) rfl (by decide) (Or.inl rfl) rfl C w hi2 (by decide +kernel) dX2_clear_4 (oP2 hX (by assumption)) hz ?_
      refine lv_icmp_ge (tgt := 23) hx hb dX2_clear_7 (by decide) (fun c_7 => absurd c_7 (nI_ge (by omega) (by omega))) (fun c_7 => ?_)
      refine lv_aload_n hx hb dX2_clear_10 rfl (lv_at hl 0 rfl) ?_
      refine pgQ 2 3 9 (by decide) rfl (by decide) rfl rfl C w hi2 (by decide +kernel) dX2_clear_11 (oP2 hX (by assumption)) (lk2 hS (by assumption)) ?_
      refine lv_iload_n hx hb dX2_clear_14 rfl (lv_at hl 1 rfl) ?_
      refine lv_lconst (v := 0) hx hb dX2_clear_15 (by decide) ?_
      refine psJ C w dX2_clear_16 (oP9 hX (by assumption)) rfl (oN9 hX (by assumption)) (by omega) (by decide) (fun H locs w => ?_)
      refine lv_iinc (v := nI (k + 1)) hx hb dX2_clear_17 hl (k := 1) rfl (nI_1 k) (by decide) rfl (fun ls hl => ?_)
      refine lv_goto (tgt := 2) hx hb dX2_clear_20 (by decide) ?_
      refine ih (k + 1) _ _ _ (by omega) ?_ (lv_sub hl [1, 0] rfl)
      rw [uJ_rw9] at w
      rw [rw9_eq (g := fun j => if j < k + 1 then 0 else sJ S 9 r j)] at w
      · exact w
      · intro j; by_cases h1 : j = k
        · subst h1; simp
        · simp only [h1, if_false]; by_cases h2 : j < k
          · rw [if_pos h2, if_pos (by omega)]
          · rw [if_neg h2, if_neg (by omega)]
  exact loop_2 z 0 _ _ _ (by omega) (by simpa [rw9_self] using w) (lv_sub hl [1, 0] rfl)
end
