/-! ===== BEGIN printed: names, fields, word lists, decode rows ===== -/
def RX0 : String := "TriggerAnalyzer$Ends"
def TX0 : u_T := fun k => match k with
  | 0 => ("TriggerAnalyzer$Ends", "facts", "[I", true)
  | 1 => ("TriggerAnalyzer$Ends", "count", "I", false)
  | _ => ("TriggerAnalyzer$Ends", "nearest", "I", false)
def tyX0 : Nat → FieldType := fun k => match k with
  | 0 => .array .int
  | 1 => .int
  | _ => .int
abbrev wsX00 : List Cond := u_ws RX0 TX0 3
theorem nmX0 : ∀ a, a < 3 → ∀ b, b < 3 → a ≠ b → (TX0 a).2.1 ≠ (TX0 b).2.1 := by decide +kernel
theorem tyX0_ok : ∀ k, k < 3 → parseFieldDescriptor (TX0 k).2.2.1 = some (tyX0 k) := by decide +kernel
abbrev cX0_init : ByteArray := prog_2_method_1_code
def yX0_init : MethodName := ⟨RX0, "<init>", "()V"⟩
abbrev cX0_clear : ByteArray := prog_2_method_2_code
def yX0_clear : MethodName := ⟨RX0, "clear", "()V"⟩
abbrev cX0_size : ByteArray := prog_2_method_3_code
def yX0_size : MethodName := ⟨RX0, "size", "()I"⟩
abbrev cX0_firstDepth : ByteArray := prog_2_method_4_code
def yX0_firstDepth : MethodName := ⟨RX0, "firstDepth", "()I"⟩
abbrev cX0_append : ByteArray := prog_2_method_6_code
def yX0_append : MethodName := ⟨RX0, "append", "(II)V"⟩
def RX1 : String := "TriggerAnalyzer$Exploration"
def TX1 : u_T := fun k => match k with
  | 0 => ("TriggerAnalyzer$Exploration", "book", "LTriggerAnalyzer$RuleBook;", true)
  | 1 => ("TriggerAnalyzer$Exploration", "situations", "[I", true)
  | 2 => ("TriggerAnalyzer$Exploration", "depths", "[I", true)
  | 3 => ("TriggerAnalyzer$Exploration", "nexts", "[I", true)
  | 4 => ("TriggerAnalyzer$Exploration", "places", "[I", true)
  | 5 => ("TriggerAnalyzer$Exploration", "ends", "LTriggerAnalyzer$Ends;", true)
  | 6 => ("TriggerAnalyzer$Exploration", "prospect", "LTriggerAnalyzer$Prospect;", true)
  | 7 => ("TriggerAnalyzer$Exploration", "count", "I", false)
  | 8 => ("TriggerAnalyzer$Exploration", "done", "Z", false)
  | 9 => ("TriggerAnalyzer$Exploration", "tooMany", "Z", false)
  | 10 => ("TriggerAnalyzer$Exploration", "readyEver", "I", false)
  | _ => ("TriggerAnalyzer$Exploration", "choices", "I", false)
def tyX1 : Nat → FieldType := fun k => match k with
  | 0 => .object "TriggerAnalyzer$RuleBook"
  | 1 => .array .int
  | 2 => .array .int
  | 3 => .array .int
  | 4 => .array .int
  | 5 => .object "TriggerAnalyzer$Ends"
  | 6 => .object "TriggerAnalyzer$Prospect"
  | 7 => .int
  | 8 => .boolean
  | 9 => .boolean
  | 10 => .int
  | _ => .int
abbrev wsX10 : List Cond := u_ws RX1 TX1 12
theorem nmX1 : ∀ a, a < 12 → ∀ b, b < 12 → a ≠ b → (TX1 a).2.1 ≠ (TX1 b).2.1 := by decide +kernel
theorem tyX1_ok : ∀ k, k < 12 → parseFieldDescriptor (TX1 k).2.2.1 = some (tyX1 k) := by decide +kernel
abbrev cX1_init : ByteArray := prog_3_method_1_code
def yX1_init : MethodName := ⟨RX1, "<init>", "(LTriggerAnalyzer$RuleBook;)V"⟩
abbrev cX1_isDone : ByteArray := prog_3_method_2_code
def yX1_isDone : MethodName := ⟨RX1, "isDone", "()Z"⟩
abbrev cX1_isUsable : ByteArray := prog_3_method_3_code
def yX1_isUsable : MethodName := ⟨RX1, "isUsable", "()Z"⟩
abbrev cX1_answer : ByteArray := prog_3_method_4_code
def yX1_answer : MethodName := ⟨RX1, "answer", "()I"⟩
abbrev cX1_size : ByteArray := prog_3_method_5_code
def yX1_size : MethodName := ⟨RX1, "size", "()I"⟩
abbrev cX1_forget : ByteArray := prog_3_method_8_code
def yX1_forget : MethodName := ⟨RX1, "forget", "()V"⟩
abbrev cX1_situationAt : ByteArray := prog_3_method_9_code
def yX1_situationAt : MethodName := ⟨RX1, "situationAt", "(I)I"⟩
abbrev cX1_nextOf : ByteArray := prog_3_method_10_code
def yX1_nextOf : MethodName := ⟨RX1, "nextOf", "(II)I"⟩
abbrev cX1_search : ByteArray := prog_3_method_11_code
def yX1_search : MethodName := ⟨RX1, "search", "(I)V"⟩
abbrev cX1_clear : ByteArray := prog_3_method_12_code
def yX1_clear : MethodName := ⟨RX1, "clear", "()V"⟩
abbrev cX1_mark : ByteArray := prog_3_method_13_code
def yX1_mark : MethodName := ⟨RX1, "mark", "(II)V"⟩
abbrev cX1_findOrAdd : ByteArray := prog_3_method_14_code
def yX1_findOrAdd : MethodName := ⟨RX1, "findOrAdd", "(II)I"⟩
abbrev cX1_expand : ByteArray := prog_3_method_15_code
def yX1_expand : MethodName := ⟨RX1, "expand", "(I)V"⟩
abbrev cX1_keepNext : ByteArray := prog_3_method_16_code
def yX1_keepNext : MethodName := ⟨RX1, "keepNext", "(II)V"⟩
def RX2 : String := "TriggerAnalyzer$Judge"
def TX2 : u_T := fun k => match k with
  | 0 => ("TriggerAnalyzer$Judge", "book", "LTriggerAnalyzer$RuleBook;", true)
  | _ => ("TriggerAnalyzer$Judge", "reach", "[I", true)
def tyX2 : Nat → FieldType := fun k => match k with
  | 0 => .object "TriggerAnalyzer$RuleBook"
  | _ => .array .int
abbrev wsX20 : List Cond := u_ws RX2 TX2 2
theorem nmX2 : ∀ a, a < 2 → ∀ b, b < 2 → a ≠ b → (TX2 a).2.1 ≠ (TX2 b).2.1 := by decide +kernel
theorem tyX2_ok : ∀ k, k < 2 → parseFieldDescriptor (TX2 k).2.2.1 = some (tyX2 k) := by decide +kernel
abbrev cX2_init : ByteArray := prog_4_method_1_code
def yX2_init : MethodName := ⟨RX2, "<init>", "(LTriggerAnalyzer$RuleBook;)V"⟩
abbrev cX2_inCircles : ByteArray := prog_4_method_2_code
def yX2_inCircles : MethodName := ⟨RX2, "inCircles", "()I"⟩
abbrev cX2_spreadReach : ByteArray := prog_4_method_3_code
def yX2_spreadReach : MethodName := ⟨RX2, "spreadReach", "()V"⟩
abbrev cX2_areIndependent : ByteArray := prog_4_method_4_code
def yX2_areIndependent : MethodName := ⟨RX2, "areIndependent", "(LTriggerAnalyzer$Rule;LTriggerAnalyzer$Rule;)Z"⟩
abbrev cX2_areInConflict : ByteArray := prog_4_method_5_code
def yX2_areInConflict : MethodName := ⟨RX2, "areInConflict", "(II)Z"⟩
abbrev cX2_countConflicts : ByteArray := prog_4_method_6_code
def yX2_countConflicts : MethodName := ⟨RX2, "countConflicts", "()I"⟩
def RX3 : String := "TriggerAnalyzer$Prospect"
def TX3 : u_T := fun k => match k with
  | 0 => ("TriggerAnalyzer$Prospect", "incoming", "[I", true)
  | 1 => ("TriggerAnalyzer$Prospect", "plays", "[I", true)
  | 2 => ("TriggerAnalyzer$Prospect", "rows", "[J", true)
  | 3 => ("TriggerAnalyzer$Prospect", "queue", "[I", true)
  | 4 => ("TriggerAnalyzer$Prospect", "queued", "I", false)
  | 5 => ("TriggerAnalyzer$Prospect", "finite", "Z", false)
  | 6 => ("TriggerAnalyzer$Prospect", "longestRow", "I", false)
  | _ => ("TriggerAnalyzer$Prospect", "endedRows", "J", false)
def tyX3 : Nat → FieldType := fun k => match k with
  | 0 => .array .int
  | 1 => .array .int
  | 2 => .array .long
  | 3 => .array .int
  | 4 => .int
  | 5 => .boolean
  | 6 => .int
  | _ => .long
abbrev wsX30 : List Cond := u_ws RX3 TX3 8
theorem nmX3 : ∀ a, a < 8 → ∀ b, b < 8 → a ≠ b → (TX3 a).2.1 ≠ (TX3 b).2.1 := by decide +kernel
theorem tyX3_ok : ∀ k, k < 8 → parseFieldDescriptor (TX3 k).2.2.1 = some (tyX3 k) := by decide +kernel
abbrev cX3_init : ByteArray := prog_5_method_1_code
def yX3_init : MethodName := ⟨RX3, "<init>", "()V"⟩
abbrev cX3_isFinite : ByteArray := prog_5_method_2_code
def yX3_isFinite : MethodName := ⟨RX3, "isFinite", "()Z"⟩
abbrev cX3_mostPlays : ByteArray := prog_5_method_3_code
def yX3_mostPlays : MethodName := ⟨RX3, "mostPlays", "()I"⟩
abbrev cX3_wayCount : ByteArray := prog_5_method_4_code
def yX3_wayCount : MethodName := ⟨RX3, "wayCount", "()J"⟩
abbrev cX3_study : ByteArray := prog_5_method_5_code
def yX3_study : MethodName := ⟨RX3, "study", "(LTriggerAnalyzer$Exploration;)V"⟩
abbrev cX3_countIncoming : ByteArray := prog_5_method_6_code
def yX3_countIncoming : MethodName := ⟨RX3, "countIncoming", "(LTriggerAnalyzer$Exploration;)V"⟩
abbrev cX3_startAtFirst : ByteArray := prog_5_method_7_code
def yX3_startAtFirst : MethodName := ⟨RX3, "startAtFirst", "()V"⟩
abbrev cX3_enqueue : ByteArray := prog_5_method_8_code
def yX3_enqueue : MethodName := ⟨RX3, "enqueue", "(I)V"⟩
abbrev cX3_take : ByteArray := prog_5_method_9_code
def yX3_take : MethodName := ⟨RX3, "take", "(LTriggerAnalyzer$Exploration;I)V"⟩
abbrev cX3_lead : ByteArray := prog_5_method_10_code
def yX3_lead : MethodName := ⟨RX3, "lead", "(IIJ)V"⟩
def RX4 : String := "TriggerAnalyzer$Rule"
def TX4 : u_T := fun k => match k with
  | 0 => ("TriggerAnalyzer$Rule", "bit", "I", true)
  | 1 => ("TriggerAnalyzer$Rule", "actions", "[I", true)
  | 2 => ("TriggerAnalyzer$Rule", "event", "I", false)
  | 3 => ("TriggerAnalyzer$Rule", "must", "I", false)
  | 4 => ("TriggerAnalyzer$Rule", "mustNot", "I", false)
  | 5 => ("TriggerAnalyzer$Rule", "on", "Z", false)
  | 6 => ("TriggerAnalyzer$Rule", "actionCount", "I", false)
  | 7 => ("TriggerAnalyzer$Rule", "setFacts", "I", false)
  | 8 => ("TriggerAnalyzer$Rule", "unsetFacts", "I", false)
  | 9 => ("TriggerAnalyzer$Rule", "below", "I", false)
  | _ => ("TriggerAnalyzer$Rule", "above", "I", false)
def tyX4 : Nat → FieldType := fun k => match k with
  | 0 => .int
  | 1 => .array .int
  | 2 => .int
  | 3 => .int
  | 4 => .int
  | 5 => .boolean
  | 6 => .int
  | 7 => .int
  | 8 => .int
  | 9 => .int
  | _ => .int
abbrev wsX40 : List Cond := u_ws RX4 TX4 11
theorem nmX4 : ∀ a, a < 11 → ∀ b, b < 11 → a ≠ b → (TX4 a).2.1 ≠ (TX4 b).2.1 := by decide +kernel
theorem tyX4_ok : ∀ k, k < 11 → parseFieldDescriptor (TX4 k).2.2.1 = some (tyX4 k) := by decide +kernel
abbrev cX4_init : ByteArray := prog_6_method_1_code
def yX4_init : MethodName := ⟨RX4, "<init>", "(I)V"⟩
abbrev cX4_isFull : ByteArray := prog_6_method_2_code
def yX4_isFull : MethodName := ⟨RX4, "isFull", "()Z"⟩
abbrev cX4_append : ByteArray := prog_6_method_3_code
def yX4_append : MethodName := ⟨RX4, "append", "(I)V"⟩
abbrev cX4_actionAt : ByteArray := prog_6_method_4_code
def yX4_actionAt : MethodName := ⟨RX4, "actionAt", "(I)I"⟩
abbrev cX4_isOver : ByteArray := prog_6_method_5_code
def yX4_isOver : MethodName := ⟨RX4, "isOver", "(LTriggerAnalyzer$Rule;)Z"⟩
abbrev cX4_isReadyIn : ByteArray := prog_6_method_6_code
def yX4_isReadyIn : MethodName := ⟨RX4, "isReadyIn", "(I)Z"⟩
abbrev cX4_holdsIn : ByteArray := prog_6_method_7_code
def yX4_holdsIn : MethodName := ⟨RX4, "holdsIn", "(I)Z"⟩
abbrev cX4_changedFacts : ByteArray := prog_6_method_8_code
def yX4_changedFacts : MethodName := ⟨RX4, "changedFacts", "()I"⟩
abbrev cX4_conditionFacts : ByteArray := prog_6_method_9_code
def yX4_conditionFacts : MethodName := ⟨RX4, "conditionFacts", "()I"⟩
def RX5 : String := "TriggerAnalyzer$RuleBook"
def TX5 : u_T := fun k => match k with
  | 0 => ("TriggerAnalyzer$RuleBook", "rules", "[LTriggerAnalyzer$Rule;", true)
  | 1 => ("TriggerAnalyzer$RuleBook", "listeners", "[I", true)
  | _ => ("TriggerAnalyzer$RuleBook", "count", "I", false)
def tyX5 : Nat → FieldType := fun k => match k with
  | 0 => .array (.object "TriggerAnalyzer$Rule")
  | 1 => .array .int
  | _ => .int
abbrev wsX50 : List Cond := u_ws RX5 TX5 3
theorem nmX5 : ∀ a, a < 3 → ∀ b, b < 3 → a ≠ b → (TX5 a).2.1 ≠ (TX5 b).2.1 := by decide +kernel
theorem tyX5_ok : ∀ k, k < 3 → parseFieldDescriptor (TX5 k).2.2.1 = some (tyX5 k) := by decide +kernel
abbrev cX5_init : ByteArray := prog_7_method_1_code
def yX5_init : MethodName := ⟨RX5, "<init>", "()V"⟩
abbrev cX5_size : ByteArray := prog_7_method_2_code
def yX5_size : MethodName := ⟨RX5, "size", "()I"⟩
abbrev cX5_isFull : ByteArray := prog_7_method_3_code
def yX5_isFull : MethodName := ⟨RX5, "isFull", "()Z"⟩
abbrev cX5_ruleOrNull : ByteArray := prog_7_method_4_code
def yX5_ruleOrNull : MethodName := ⟨RX5, "ruleOrNull", "(I)LTriggerAnalyzer$Rule;"⟩
abbrev cX5_append : ByteArray := prog_7_method_5_code
def yX5_append : MethodName := ⟨RX5, "append", "(III)I"⟩
abbrev cX5_switchRule : ByteArray := prog_7_method_6_code
def yX5_switchRule : MethodName := ⟨RX5, "switchRule", "(LTriggerAnalyzer$Rule;Z)V"⟩
abbrev cX5_listenersTo : ByteArray := prog_7_method_7_code
def yX5_listenersTo : MethodName := ⟨RX5, "listenersTo", "(I)I"⟩
abbrev cX5_order : ByteArray := prog_7_method_8_code
def yX5_order : MethodName := ⟨RX5, "order", "(LTriggerAnalyzer$Rule;LTriggerAnalyzer$Rule;)V"⟩
abbrev cX5_changed : ByteArray := prog_7_method_9_code
def yX5_changed : MethodName := ⟨RX5, "changed", "(II)I"⟩
abbrev cX5_readyIn : ByteArray := prog_7_method_10_code
def yX5_readyIn : MethodName := ⟨RX5, "readyIn", "(I)I"⟩
abbrev cX5_firstReadyIn : ByteArray := prog_7_method_11_code
def yX5_firstReadyIn : MethodName := ⟨RX5, "firstReadyIn", "(I)LTriggerAnalyzer$Rule;"⟩
abbrev cX5_played : ByteArray := prog_7_method_12_code
def yX5_played : MethodName := ⟨RX5, "played", "(ILTriggerAnalyzer$Rule;)I"⟩
abbrev cX5_triggerableBy : ByteArray := prog_7_method_13_code
def yX5_triggerableBy : MethodName := ⟨RX5, "triggerableBy", "(LTriggerAnalyzer$Rule;)I"⟩
def RX6 : String := "TriggerAnalyzer"
def TX6 : u_T := fun k => match k with
  | 0 => ("TriggerAnalyzer", "book", "LTriggerAnalyzer$RuleBook;", true)
  | 1 => ("TriggerAnalyzer", "judge", "LTriggerAnalyzer$Judge;", true)
  | 2 => ("TriggerAnalyzer", "exploration", "LTriggerAnalyzer$Exploration;", true)
  | _ => ("TriggerAnalyzer", "present", "I", false)
def tyX6 : Nat → FieldType := fun k => match k with
  | 0 => .object "TriggerAnalyzer$RuleBook"
  | 1 => .object "TriggerAnalyzer$Judge"
  | 2 => .object "TriggerAnalyzer$Exploration"
  | _ => .int
abbrev wsX60 : List Cond := u_ws RX6 TX6 4
theorem nmX6 : ∀ a, a < 4 → ∀ b, b < 4 → a ≠ b → (TX6 a).2.1 ≠ (TX6 b).2.1 := by decide +kernel
theorem tyX6_ok : ∀ k, k < 4 → parseFieldDescriptor (TX6 k).2.2.1 = some (tyX6 k) := by decide +kernel
abbrev cX6_init : ByteArray := prog_1_method_1_code
def yX6_init : MethodName := ⟨RX6, "<init>", "()V"⟩
abbrev cX6_addRule : ByteArray := prog_1_method_2_code
def yX6_addRule : MethodName := ⟨RX6, "addRule", "(IZII)I"⟩
abbrev cX6_addAction : ByteArray := prog_1_method_3_code
def yX6_addAction : MethodName := ⟨RX6, "addAction", "(IIZ)I"⟩
abbrev cX6_turn : ByteArray := prog_1_method_4_code
def yX6_turn : MethodName := ⟨RX6, "turn", "(IZ)Z"⟩
abbrev cX6_rank : ByteArray := prog_1_method_5_code
def yX6_rank : MethodName := ⟨RX6, "rank", "(II)Z"⟩
abbrev cX6_ruleCount : ByteArray := prog_1_method_7_code
def yX6_ruleCount : MethodName := ⟨RX6, "ruleCount", "()I"⟩
abbrev cX6_put : ByteArray := prog_1_method_8_code
def yX6_put : MethodName := ⟨RX6, "put", "(I)I"⟩
abbrev cX6_change : ByteArray := prog_1_method_9_code
def yX6_change : MethodName := ⟨RX6, "change", "(IZ)I"⟩
abbrev cX6_facts : ByteArray := prog_1_method_10_code
def yX6_facts : MethodName := ⟨RX6, "facts", "()I"⟩
abbrev cX6_triggered : ByteArray := prog_1_method_11_code
def yX6_triggered : MethodName := ⟨RX6, "triggered", "()I"⟩
abbrev cX6_run : ByteArray := prog_1_method_14_code
def yX6_run : MethodName := ⟨RX6, "run", "(I)I"⟩
abbrev cX6_explore : ByteArray := prog_1_method_15_code
def yX6_explore : MethodName := ⟨RX6, "explore", "()I"⟩
abbrev cX6_factsOf : ByteArray := prog_1_method_16_code
def yX6_factsOf : MethodName := ⟨RX6, "factsOf", "(I)I"⟩
abbrev cX6_triggeredOf : ByteArray := prog_1_method_17_code
def yX6_triggeredOf : MethodName := ⟨RX6, "triggeredOf", "(I)I"⟩
abbrev cX6_after : ByteArray := prog_1_method_18_code
def yX6_after : MethodName := ⟨RX6, "after", "(II)I"⟩
abbrev cX6_terminates : ByteArray := prog_1_method_19_code
def yX6_terminates : MethodName := ⟨RX6, "terminates", "()Z"⟩
abbrev cX6_endCount : ByteArray := prog_1_method_20_code
def yX6_endCount : MethodName := ⟨RX6, "endCount", "()I"⟩
abbrev cX6_shortest : ByteArray := prog_1_method_22_code
def yX6_shortest : MethodName := ⟨RX6, "shortest", "()I"⟩
abbrev cX6_longest : ByteArray := prog_1_method_23_code
def yX6_longest : MethodName := ⟨RX6, "longest", "()I"⟩
abbrev cX6_ways : ByteArray := prog_1_method_24_code
def yX6_ways : MethodName := ⟨RX6, "ways", "()J"⟩
abbrev cX6_circular : ByteArray := prog_1_method_28_code
def yX6_circular : MethodName := ⟨RX6, "circular", "()I"⟩
abbrev cX6_conflictCount : ByteArray := prog_1_method_30_code
def yX6_conflictCount : MethodName := ⟨RX6, "conflictCount", "()I"⟩
abbrev cX6_ruleAt : ByteArray := prog_1_method_33_code
def yX6_ruleAt : MethodName := ⟨RX6, "ruleAt", "(I)LTriggerAnalyzer$Rule;"⟩
abbrev cX6_exploredAt : ByteArray := prog_1_method_34_code
def yX6_exploredAt : MethodName := ⟨RX6, "exploredAt", "(I)I"⟩
abbrev cX6_needExplored : ByteArray := prog_1_method_35_code
def yX6_needExplored : MethodName := ⟨RX6, "needExplored", "()V"⟩
abbrev cX6_needFact : ByteArray := prog_1_method_36_code
def yX6_needFact : MethodName := ⟨RX6, "needFact", "(I)V"⟩
abbrev cX6_needFactSet : ByteArray := prog_1_method_37_code
def yX6_needFactSet : MethodName := ⟨RX6, "needFactSet", "(I)V"⟩
abbrev cX6_changeCode : ByteArray := prog_1_method_38_code
def yX6_changeCode : MethodName := ⟨RX6, "changeCode", "(IZ)I"⟩
abbrev cX6_situationOf : ByteArray := prog_1_method_39_code
def yX6_situationOf : MethodName := ⟨RX6, "situationOf", "(II)I"⟩
abbrev cX6_factsIn : ByteArray := prog_1_method_40_code
def yX6_factsIn : MethodName := ⟨RX6, "factsIn", "(I)I"⟩
abbrev cX6_triggeredIn : ByteArray := prog_1_method_41_code
def yX6_triggeredIn : MethodName := ⟨RX6, "triggeredIn", "(I)I"⟩
def RX7 : String := "TriggerAnalyzerModel"
def TX7 : u_T := fun k => match k with
  | _ => ("", "", "", false)
def tyX7 : Nat → FieldType := fun k => match k with
  | _ => .int
abbrev wsX70 : List Cond := u_ws RX7 TX7 0
theorem nmX7 : ∀ a, a < 0 → ∀ b, b < 0 → a ≠ b → (TX7 a).2.1 ≠ (TX7 b).2.1 := by decide +kernel
theorem tyX7_ok : ∀ k, k < 0 → parseFieldDescriptor (TX7 k).2.2.1 = some (tyX7 k) := by decide +kernel
def RJ6 : String := "java/lang/Integer"
def TJ6 : u_T := fun k => match k with
  | _ => ("", "", "", false)
def tyJ6 : Nat → FieldType := fun k => match k with
  | _ => .int
abbrev wsJ60 : List Cond := u_ws RJ6 TJ6 0
theorem nmJ6 : ∀ a, a < 0 → ∀ b, b < 0 → a ≠ b → (TJ6 a).2.1 ≠ (TJ6 b).2.1 := by decide +kernel
theorem tyJ6_ok : ∀ k, k < 0 → parseFieldDescriptor (TJ6 k).2.2.1 = some (tyJ6 k) := by decide +kernel
abbrev cJ6_bitCount_0f7a4 : ByteArray := prog_14_method_49_code
def yJ6_bitCount_0f7a4 : MethodName := ⟨RJ6, "bitCount", "(I)I"⟩
def RJ9 : String := "java/lang/Math"
def TJ9 : u_T := fun k => match k with
  | _ => ("", "", "", false)
def tyJ9 : Nat → FieldType := fun k => match k with
  | _ => .int
abbrev wsJ90 : List Cond := u_ws RJ9 TJ9 0
theorem nmJ9 : ∀ a, a < 0 → ∀ b, b < 0 → a ≠ b → (TJ9 a).2.1 ≠ (TJ9 b).2.1 := by decide +kernel
theorem tyJ9_ok : ∀ k, k < 0 → parseFieldDescriptor (TJ9 k).2.2.1 = some (tyJ9 k) := by decide +kernel
abbrev cJ9_max_7cf53 : ByteArray := prog_15_method_65_code
def yJ9_max_7cf53 : MethodName := ⟨RJ9, "max", "(II)I"⟩
def RJ0 : String := "java/lang/String"
def TJ0 : u_T := fun k => match k with
  | _ => ("", "", "", false)
def tyJ0 : Nat → FieldType := fun k => match k with
  | _ => .int
abbrev wsJ00 : List Cond := u_ws RJ0 TJ0 0
theorem nmJ0 : ∀ a, a < 0 → ∀ b, b < 0 → a ≠ b → (TJ0 a).2.1 ≠ (TJ0 b).2.1 := by decide +kernel
theorem tyJ0_ok : ∀ k, k < 0 → parseFieldDescriptor (TJ0 k).2.2.1 = some (tyJ0 k) := by decide +kernel
def RL : String := "TriggerAnalyzerLaw"
abbrev cL_below : ByteArray := method_2_code
def yL_below : MethodName := ⟨RL, "below", "(II)I"⟩
abbrev cL_cell : ByteArray := method_3_code
def yL_cell : MethodName := ⟨RL, "cell", "([II)I"⟩
abbrev cL_build : ByteArray := method_4_code
def yL_build : MethodName := ⟨RL, "build", "(LTriggerAnalyzer;[III[I)I"⟩
abbrev cL_rank : ByteArray := method_5_code
def yL_rank : MethodName := ⟨RL, "rank", "(LTriggerAnalyzer;II[I)Z"⟩
abbrev cL_law : ByteArray := code
def yL_law : MethodName := ⟨RL, "law", "([I)Z"⟩
def wsX0_init : List Cond := .code yX0_init cX0_init 1 none :: ([.methodLink RX0 3 objectInit, .instanceMethod objectInit, .code objectInit ⟨#[0xb1]⟩ 1 none, .arrayClass .int, .fieldLink RX0 9 "TriggerAnalyzer$Ends" "facts" "[I", .fieldLink RX0 15 "TriggerAnalyzer$Ends" "nearest" "I"] ++ wsX00)
def wsX0_clear : List Cond := .code yX0_clear cX0_clear 1 none :: ([.fieldLink RX0 19 "TriggerAnalyzer$Ends" "count" "I", .fieldLink RX0 15 "TriggerAnalyzer$Ends" "nearest" "I"] ++ wsX00)
def wsX0_size : List Cond := .code yX0_size cX0_size 1 (some .int) :: ([.fieldLink RX0 19 "TriggerAnalyzer$Ends" "count" "I"] ++ wsX00)
def wsX0_firstDepth : List Cond := .code yX0_firstDepth cX0_firstDepth 1 (some .int) :: ([.fieldLink RX0 15 "TriggerAnalyzer$Ends" "nearest" "I"] ++ wsX00)
def wsX0_append : List Cond := .code yX0_append cX0_append 3 none :: ([.fieldLink RX0 19 "TriggerAnalyzer$Ends" "count" "I", .fieldLink RX0 9 "TriggerAnalyzer$Ends" "facts" "[I", .fieldLink RX0 15 "TriggerAnalyzer$Ends" "nearest" "I"] ++ wsX00)
def wsX3_init : List Cond := .code yX3_init cX3_init 1 none :: ([.methodLink RX3 3 objectInit, .instanceMethod objectInit, .code objectInit ⟨#[0xb1]⟩ 1 none, .arrayClass .int, .fieldLink RX3 9 "TriggerAnalyzer$Prospect" "incoming" "[I", .fieldLink RX3 15 "TriggerAnalyzer$Prospect" "plays" "[I", .arrayClass .long, .fieldLink RX3 18 "TriggerAnalyzer$Prospect" "rows" "[J", .fieldLink RX3 22 "TriggerAnalyzer$Prospect" "queue" "[I"] ++ wsX30)
def wsX1_init_r1 : List Cond := [Cond.methodLink RX1 3 objectInit, Cond.instanceMethod objectInit, Cond.code objectInit ⟨#[0xb1]⟩ 1 none, Cond.arrayClass .int, Cond.fieldLink RX1 9 "TriggerAnalyzer$Exploration" "situations" "[I", Cond.fieldLink RX1 15 "TriggerAnalyzer$Exploration" "depths" "[I", Cond.fieldLink RX1 18 "TriggerAnalyzer$Exploration" "nexts" "[I", Cond.fieldLink RX1 21 "TriggerAnalyzer$Exploration" "places" "[I", Cond.classLink RX1 24 RX0, Cond.instantiable RX0 3, Cond.initialized RX0, Cond.fieldLink RX1 27 "TriggerAnalyzer$Exploration" "ends" "LTriggerAnalyzer$Ends;", Cond.classLink RX1 31 RX3, Cond.instantiable RX3 8, Cond.initialized RX3, Cond.fieldLink RX1 34 "TriggerAnalyzer$Exploration" "prospect" "LTriggerAnalyzer$Prospect;", Cond.fieldLink RX1 38 "TriggerAnalyzer$Exploration" "book" "LTriggerAnalyzer$RuleBook;", Cond.methodLink RX1 26 yX0_init, Cond.instanceMethod yX0_init, Cond.code yX0_init cX0_init 1 none, Cond.methodLink RX0 3 objectInit, Cond.fieldLink RX0 9 "TriggerAnalyzer$Ends" "facts" "[I", Cond.fieldLink RX0 15 "TriggerAnalyzer$Ends" "nearest" "I", Cond.methodLink RX1 33 yX3_init]
def wsX1_init_r2 : List Cond := [Cond.instanceMethod yX3_init, Cond.code yX3_init cX3_init 1 none, Cond.methodLink RX3 3 objectInit, Cond.fieldLink RX3 9 "TriggerAnalyzer$Prospect" "incoming" "[I", Cond.fieldLink RX3 15 "TriggerAnalyzer$Prospect" "plays" "[I", Cond.arrayClass .long, Cond.fieldLink RX3 18 "TriggerAnalyzer$Prospect" "rows" "[J", Cond.fieldLink RX3 22 "TriggerAnalyzer$Prospect" "queue" "[I"]
def wsX1_init : List Cond := .code yX1_init cX1_init 2 none :: ((wsX1_init_r1 ++ wsX1_init_r2) ++ wsX10 ++ wsX00 ++ wsX30)
def wsX1_isDone : List Cond := .code yX1_isDone cX1_isDone 1 (some .boolean) :: ([.fieldLink RX1 42 "TriggerAnalyzer$Exploration" "done" "Z"] ++ wsX10)
def wsX1_isUsable : List Cond := .code yX1_isUsable cX1_isUsable 1 (some .boolean) :: ([.fieldLink RX1 42 "TriggerAnalyzer$Exploration" "done" "Z", .fieldLink RX1 46 "TriggerAnalyzer$Exploration" "tooMany" "Z"] ++ wsX10)
def wsX1_answer : List Cond := .code yX1_answer cX1_answer 1 (some .int) :: ([.fieldLink RX1 46 "TriggerAnalyzer$Exploration" "tooMany" "Z", .fieldLink RX1 49 "TriggerAnalyzer$Exploration" "count" "I"] ++ wsX10)
def wsX1_size : List Cond := .code yX1_size cX1_size 1 (some .int) :: ([.fieldLink RX1 49 "TriggerAnalyzer$Exploration" "count" "I"] ++ wsX10)
def wsX1_forget : List Cond := .code yX1_forget cX1_forget 1 none :: ([.fieldLink RX1 42 "TriggerAnalyzer$Exploration" "done" "Z"] ++ wsX10)
def wsX1_situationAt : List Cond := .code yX1_situationAt cX1_situationAt 2 (some .int) :: ([.fieldLink RX1 49 "TriggerAnalyzer$Exploration" "count" "I", .fieldLink RX1 9 "TriggerAnalyzer$Exploration" "situations" "[I"] ++ wsX10)
def wsX1_nextOf : List Cond := .code yX1_nextOf cX1_nextOf 4 (some .int) :: ([.fieldLink RX1 49 "TriggerAnalyzer$Exploration" "count" "I", .fieldLink RX1 18 "TriggerAnalyzer$Exploration" "nexts" "[I"] ++ wsX10)
def wsX1_mark : List Cond := .code yX1_mark cX1_mark 3 none :: ([.fieldLink RX1 21 "TriggerAnalyzer$Exploration" "places" "[I"] ++ wsX10)
def wsX1_clear : List Cond := .code yX1_clear cX1_clear 2 none :: ([.fieldLink RX1 49 "TriggerAnalyzer$Exploration" "count" "I", .fieldLink RX1 9 "TriggerAnalyzer$Exploration" "situations" "[I", .fieldLink RX1 46 "TriggerAnalyzer$Exploration" "tooMany" "Z", .fieldLink RX1 53 "TriggerAnalyzer$Exploration" "readyEver" "I", .fieldLink RX1 56 "TriggerAnalyzer$Exploration" "choices" "I", .fieldLink RX1 27 "TriggerAnalyzer$Exploration" "ends" "LTriggerAnalyzer$Ends;", .methodLink RX1 74 yX1_mark, .instanceMethod yX1_mark, .selects RX1 yX1_mark yX1_mark, .initialized RX1, .code yX1_mark cX1_mark 3 none, .fieldLink RX1 21 "TriggerAnalyzer$Exploration" "places" "[I", .methodLink RX1 78 yX0_clear, .instanceMethod yX0_clear, .selects RX0 yX0_clear yX0_clear, .initialized RX0, .code yX0_clear cX0_clear 1 none, .fieldLink RX0 19 "TriggerAnalyzer$Ends" "count" "I", .fieldLink RX0 15 "TriggerAnalyzer$Ends" "nearest" "I"] ++ wsX10 ++ wsX00)
def wsX1_findOrAdd : List Cond := .code yX1_findOrAdd cX1_findOrAdd 3 (some .int) :: ([.fieldLink RX1 21 "TriggerAnalyzer$Exploration" "places" "[I", .fieldLink RX1 49 "TriggerAnalyzer$Exploration" "count" "I", .fieldLink RX1 46 "TriggerAnalyzer$Exploration" "tooMany" "Z", .fieldLink RX1 9 "TriggerAnalyzer$Exploration" "situations" "[I", .fieldLink RX1 15 "TriggerAnalyzer$Exploration" "depths" "[I"] ++ wsX10)
def wsX6_triggeredIn : List Cond := .code yX6_triggeredIn cX6_triggeredIn 1 (some .int) :: ([])
def wsX4_isReadyIn : List Cond := .code yX4_isReadyIn cX4_isReadyIn 3 (some .boolean) :: ([.fieldLink RX4 15 "TriggerAnalyzer$Rule" "bit" "I", .fieldLink RX4 35 "TriggerAnalyzer$Rule" "above" "I", .static yX6_triggeredIn, .initialized RX6, .code yX6_triggeredIn cX6_triggeredIn 1 (some .int)] ++ wsX40)
def wsX5_readyIn : List Cond := .code yX5_readyIn cX5_readyIn 4 (some .int) :: ([.fieldLink RX5 11 "TriggerAnalyzer$RuleBook" "rules" "[LTriggerAnalyzer$Rule;", .fieldLink RX5 45 "TriggerAnalyzer$Rule" "bit" "I", .methodLink RX5 68 yX4_isReadyIn, .instanceMethod yX4_isReadyIn, .selects RX4 yX4_isReadyIn yX4_isReadyIn, .initialized RX4, .code yX4_isReadyIn cX4_isReadyIn 3 (some .boolean), .fieldLink RX4 15 "TriggerAnalyzer$Rule" "bit" "I", .fieldLink RX4 35 "TriggerAnalyzer$Rule" "above" "I", .static yX6_triggeredIn, .initialized RX6, .code yX6_triggeredIn cX6_triggeredIn 1 (some .int)] ++ wsX50 ++ wsX40)
def wsJ6_bitCount_0f7a4 : List Cond := .code yJ6_bitCount_0f7a4 cJ6_bitCount_0f7a4 1 (some .int) :: ([.constant RJ6 265 (1431655765), .constant RJ6 266 (858993459), .constant RJ6 267 (252645135)])
def wsX6_factsIn : List Cond := .code yX6_factsIn cX6_factsIn 1 (some .int) :: ([])
def wsX5_ruleOrNull : List Cond := .code yX5_ruleOrNull cX5_ruleOrNull 2 (some (.object "TriggerAnalyzer$Rule")) :: ([.fieldLink RX5 24 "TriggerAnalyzer$RuleBook" "count" "I", .fieldLink RX5 11 "TriggerAnalyzer$RuleBook" "rules" "[LTriggerAnalyzer$Rule;"] ++ wsX50)
def wsX6_situationOf : List Cond := .code yX6_situationOf cX6_situationOf 2 (some .int) :: ([])
def wsX4_holdsIn : List Cond := .code yX4_holdsIn cX4_holdsIn 3 (some .boolean) :: ([.fieldLink RX4 41 "TriggerAnalyzer$Rule" "must" "I", .fieldLink RX4 44 "TriggerAnalyzer$Rule" "mustNot" "I", .static yX6_factsIn, .initialized RX6, .code yX6_factsIn cX6_factsIn 1 (some .int)] ++ wsX40)
def wsX4_actionAt : List Cond := .code yX4_actionAt cX4_actionAt 2 (some .int) :: ([.fieldLink RX4 9 "TriggerAnalyzer$Rule" "actions" "[I"] ++ wsX40)
def wsX5_listenersTo : List Cond := .code yX5_listenersTo cX5_listenersTo 2 (some .int) :: ([.fieldLink RX5 17 "TriggerAnalyzer$RuleBook" "listeners" "[I"] ++ wsX50)
def wsX5_changed : List Cond := .code yX5_changed cX5_changed 7 (some .int) :: ([.static yX6_triggeredIn, .initialized RX6, .code yX6_triggeredIn cX6_triggeredIn 1 (some .int), .methodLink RX5 58 yX5_listenersTo, .instanceMethod yX5_listenersTo, .selects RX5 yX5_listenersTo yX5_listenersTo, .initialized RX5, .code yX5_listenersTo cX5_listenersTo 2 (some .int), .fieldLink RX5 17 "TriggerAnalyzer$RuleBook" "listeners" "[I", .static yX6_factsIn, .code yX6_factsIn cX6_factsIn 1 (some .int), .static yX6_situationOf, .code yX6_situationOf cX6_situationOf 2 (some .int)] ++ wsX50)
def wsX5_played_r1 : List Cond := [Cond.fieldLink RX5 45 "TriggerAnalyzer$Rule" "bit" "I", Cond.fieldLink RX5 75 "TriggerAnalyzer$Rule" "actionCount" "I", Cond.static yX6_factsIn, Cond.initialized RX6, Cond.code yX6_factsIn cX6_factsIn 1 (some .int), Cond.static yX6_triggeredIn, Cond.code yX6_triggeredIn cX6_triggeredIn 1 (some .int), Cond.static yX6_situationOf, Cond.code yX6_situationOf cX6_situationOf 2 (some .int), Cond.methodLink RX5 72 yX4_holdsIn, Cond.instanceMethod yX4_holdsIn, Cond.selects RX4 yX4_holdsIn yX4_holdsIn, Cond.initialized RX4, Cond.code yX4_holdsIn cX4_holdsIn 3 (some .boolean), Cond.fieldLink RX4 41 "TriggerAnalyzer$Rule" "must" "I", Cond.fieldLink RX4 44 "TriggerAnalyzer$Rule" "mustNot" "I", Cond.methodLink RX5 78 yX4_actionAt, Cond.instanceMethod yX4_actionAt, Cond.selects RX4 yX4_actionAt yX4_actionAt, Cond.code yX4_actionAt cX4_actionAt 2 (some .int), Cond.fieldLink RX4 9 "TriggerAnalyzer$Rule" "actions" "[I", Cond.methodLink RX5 81 yX5_changed, Cond.instanceMethod yX5_changed, Cond.selects RX5 yX5_changed yX5_changed]
def wsX5_played_r2 : List Cond := [Cond.initialized RX5, Cond.code yX5_changed cX5_changed 7 (some .int), Cond.methodLink RX5 58 yX5_listenersTo, Cond.instanceMethod yX5_listenersTo, Cond.selects RX5 yX5_listenersTo yX5_listenersTo, Cond.code yX5_listenersTo cX5_listenersTo 2 (some .int), Cond.fieldLink RX5 17 "TriggerAnalyzer$RuleBook" "listeners" "[I"]
def wsX5_played : List Cond := .code yX5_played cX5_played 5 (some .int) :: ((wsX5_played_r1 ++ wsX5_played_r2) ++ wsX40 ++ wsX50)
def wsX1_keepNext : List Cond := .code yX1_keepNext cX1_keepNext 3 none :: ([.fieldLink RX1 18 "TriggerAnalyzer$Exploration" "nexts" "[I"] ++ wsX10)
def wsX1_expand_r1 : List Cond := [Cond.fieldLink RX1 9 "TriggerAnalyzer$Exploration" "situations" "[I", Cond.fieldLink RX1 38 "TriggerAnalyzer$Exploration" "book" "LTriggerAnalyzer$RuleBook;", Cond.fieldLink RX1 53 "TriggerAnalyzer$Exploration" "readyEver" "I", Cond.fieldLink RX1 56 "TriggerAnalyzer$Exploration" "choices" "I", Cond.fieldLink RX1 27 "TriggerAnalyzer$Exploration" "ends" "LTriggerAnalyzer$Ends;", Cond.fieldLink RX1 15 "TriggerAnalyzer$Exploration" "depths" "[I", Cond.fieldLink RX1 103 "TriggerAnalyzer$Rule" "bit" "I", Cond.methodLink RX1 79 yX5_readyIn, Cond.instanceMethod yX5_readyIn, Cond.selects RX5 yX5_readyIn yX5_readyIn, Cond.initialized RX5, Cond.code yX5_readyIn cX5_readyIn 4 (some .int), Cond.fieldLink RX5 11 "TriggerAnalyzer$RuleBook" "rules" "[LTriggerAnalyzer$Rule;", Cond.fieldLink RX5 45 "TriggerAnalyzer$Rule" "bit" "I", Cond.methodLink RX5 68 yX4_isReadyIn, Cond.instanceMethod yX4_isReadyIn, Cond.selects RX4 yX4_isReadyIn yX4_isReadyIn, Cond.initialized RX4, Cond.code yX4_isReadyIn cX4_isReadyIn 3 (some .boolean), Cond.fieldLink RX4 15 "TriggerAnalyzer$Rule" "bit" "I", Cond.fieldLink RX4 35 "TriggerAnalyzer$Rule" "above" "I", Cond.static yX6_triggeredIn, Cond.initialized RX6, Cond.code yX6_triggeredIn cX6_triggeredIn 1 (some .int)]
def wsX1_expand_r2 : List Cond := [Cond.methodLink RX1 85 yJ6_bitCount_0f7a4, Cond.static yJ6_bitCount_0f7a4, Cond.initialized RJ6, Cond.code yJ6_bitCount_0f7a4 cJ6_bitCount_0f7a4 1 (some .int), Cond.constant RJ6 265 (1431655765), Cond.constant RJ6 266 (858993459), Cond.constant RJ6 267 (252645135), Cond.static yX6_factsIn, Cond.code yX6_factsIn cX6_factsIn 1 (some .int), Cond.methodLink RX1 96 yX0_append, Cond.instanceMethod yX0_append, Cond.selects RX0 yX0_append yX0_append, Cond.initialized RX0, Cond.code yX0_append cX0_append 3 none, Cond.fieldLink RX0 19 "TriggerAnalyzer$Ends" "count" "I", Cond.fieldLink RX0 9 "TriggerAnalyzer$Ends" "facts" "[I", Cond.fieldLink RX0 15 "TriggerAnalyzer$Ends" "nearest" "I", Cond.methodLink RX1 99 yX5_ruleOrNull, Cond.instanceMethod yX5_ruleOrNull, Cond.selects RX5 yX5_ruleOrNull yX5_ruleOrNull, Cond.code yX5_ruleOrNull cX5_ruleOrNull 2 (some (.object "TriggerAnalyzer$Rule")), Cond.fieldLink RX5 24 "TriggerAnalyzer$RuleBook" "count" "I", Cond.methodLink RX1 108 yX5_played, Cond.instanceMethod yX5_played]
def wsX1_expand_r3 : List Cond := [Cond.selects RX5 yX5_played yX5_played, Cond.code yX5_played cX5_played 5 (some .int), Cond.fieldLink RX5 75 "TriggerAnalyzer$Rule" "actionCount" "I", Cond.static yX6_situationOf, Cond.code yX6_situationOf cX6_situationOf 2 (some .int), Cond.methodLink RX5 72 yX4_holdsIn, Cond.instanceMethod yX4_holdsIn, Cond.selects RX4 yX4_holdsIn yX4_holdsIn, Cond.code yX4_holdsIn cX4_holdsIn 3 (some .boolean), Cond.fieldLink RX4 41 "TriggerAnalyzer$Rule" "must" "I", Cond.fieldLink RX4 44 "TriggerAnalyzer$Rule" "mustNot" "I", Cond.methodLink RX5 78 yX4_actionAt, Cond.instanceMethod yX4_actionAt, Cond.selects RX4 yX4_actionAt yX4_actionAt, Cond.code yX4_actionAt cX4_actionAt 2 (some .int), Cond.fieldLink RX4 9 "TriggerAnalyzer$Rule" "actions" "[I", Cond.methodLink RX5 81 yX5_changed, Cond.instanceMethod yX5_changed, Cond.selects RX5 yX5_changed yX5_changed, Cond.code yX5_changed cX5_changed 7 (some .int), Cond.methodLink RX5 58 yX5_listenersTo, Cond.instanceMethod yX5_listenersTo, Cond.selects RX5 yX5_listenersTo yX5_listenersTo, Cond.code yX5_listenersTo cX5_listenersTo 2 (some .int)]
def wsX1_expand_r4 : List Cond := [Cond.fieldLink RX5 17 "TriggerAnalyzer$RuleBook" "listeners" "[I", Cond.methodLink RX1 62 yX1_findOrAdd, Cond.instanceMethod yX1_findOrAdd, Cond.selects RX1 yX1_findOrAdd yX1_findOrAdd, Cond.initialized RX1, Cond.code yX1_findOrAdd cX1_findOrAdd 3 (some .int), Cond.fieldLink RX1 21 "TriggerAnalyzer$Exploration" "places" "[I", Cond.fieldLink RX1 49 "TriggerAnalyzer$Exploration" "count" "I", Cond.fieldLink RX1 46 "TriggerAnalyzer$Exploration" "tooMany" "Z", Cond.methodLink RX1 112 yX1_keepNext, Cond.instanceMethod yX1_keepNext, Cond.selects RX1 yX1_keepNext yX1_keepNext, Cond.code yX1_keepNext cX1_keepNext 3 none, Cond.fieldLink RX1 18 "TriggerAnalyzer$Exploration" "nexts" "[I"]
def wsX1_expand : List Cond := .code yX1_expand cX1_expand 7 none :: ((wsX1_expand_r1 ++ (wsX1_expand_r2 ++ (wsX1_expand_r3 ++ wsX1_expand_r4))) ++ wsX10 ++ wsX40 ++ wsX50 ++ wsX00)
def wsX3_countIncoming : List Cond := .code yX3_countIncoming cX3_countIncoming 5 none :: ([.fieldLink RX3 9 "TriggerAnalyzer$Prospect" "incoming" "[I", .fieldLink RX3 15 "TriggerAnalyzer$Prospect" "plays" "[I", .fieldLink RX3 18 "TriggerAnalyzer$Prospect" "rows" "[J", .methodLink RX3 53 yX1_size, .instanceMethod yX1_size, .selects RX1 yX1_size yX1_size, .initialized RX1, .code yX1_size cX1_size 1 (some .int), .fieldLink RX1 49 "TriggerAnalyzer$Exploration" "count" "I", .methodLink RX3 59 yX1_nextOf, .instanceMethod yX1_nextOf, .selects RX1 yX1_nextOf yX1_nextOf, .code yX1_nextOf cX1_nextOf 4 (some .int), .fieldLink RX1 18 "TriggerAnalyzer$Exploration" "nexts" "[I"] ++ wsX30 ++ wsX10)
def wsX3_enqueue : List Cond := .code yX3_enqueue cX3_enqueue 2 none :: ([.fieldLink RX3 46 "TriggerAnalyzer$Prospect" "queued" "I", .fieldLink RX3 22 "TriggerAnalyzer$Prospect" "queue" "[I"] ++ wsX30)
def wsX3_startAtFirst : List Cond := .code yX3_startAtFirst cX3_startAtFirst 1 none :: ([.fieldLink RX3 46 "TriggerAnalyzer$Prospect" "queued" "I", .fieldLink RX3 29 "TriggerAnalyzer$Prospect" "longestRow" "I", .fieldLink RX3 33 "TriggerAnalyzer$Prospect" "endedRows" "J", .fieldLink RX3 18 "TriggerAnalyzer$Prospect" "rows" "[J", .fieldLink RX3 9 "TriggerAnalyzer$Prospect" "incoming" "[I", .methodLink RX3 63 yX3_enqueue, .instanceMethod yX3_enqueue, .selects RX3 yX3_enqueue yX3_enqueue, .initialized RX3, .code yX3_enqueue cX3_enqueue 2 none, .fieldLink RX3 22 "TriggerAnalyzer$Prospect" "queue" "[I"] ++ wsX30)
def wsX3_lead : List Cond := .code yX3_lead cX3_lead 5 none :: ([.fieldLink RX3 15 "TriggerAnalyzer$Prospect" "plays" "[I", .methodLink RX3 71 Lib.Math.max.name, .static Lib.Math.max.name, .initialized "java/lang/Math", .code Lib.Math.max.name Lib.Math.max.code 2 (some .int), .fieldLink RX3 18 "TriggerAnalyzer$Prospect" "rows" "[J", .fieldLink RX3 9 "TriggerAnalyzer$Prospect" "incoming" "[I", .methodLink RX3 63 yX3_enqueue, .instanceMethod yX3_enqueue, .selects RX3 yX3_enqueue yX3_enqueue, .initialized RX3, .code yX3_enqueue cX3_enqueue 2 none, .fieldLink RX3 46 "TriggerAnalyzer$Prospect" "queued" "I", .fieldLink RX3 22 "TriggerAnalyzer$Prospect" "queue" "[I"] ++ wsX30)
def wsX3_take_r1 : List Cond := [Cond.fieldLink RX3 15 "TriggerAnalyzer$Prospect" "plays" "[I", Cond.fieldLink RX3 18 "TriggerAnalyzer$Prospect" "rows" "[J", Cond.fieldLink RX3 29 "TriggerAnalyzer$Prospect" "longestRow" "I", Cond.methodLink RX3 71 Lib.Math.max.name, Cond.static Lib.Math.max.name, Cond.initialized "java/lang/Math", Cond.code Lib.Math.max.name Lib.Math.max.code 2 (some .int), Cond.fieldLink RX3 33 "TriggerAnalyzer$Prospect" "endedRows" "J", Cond.methodLink RX3 59 yX1_nextOf, Cond.instanceMethod yX1_nextOf, Cond.selects RX1 yX1_nextOf yX1_nextOf, Cond.initialized RX1, Cond.code yX1_nextOf cX1_nextOf 4 (some .int), Cond.fieldLink RX1 49 "TriggerAnalyzer$Exploration" "count" "I", Cond.fieldLink RX1 18 "TriggerAnalyzer$Exploration" "nexts" "[I", Cond.methodLink RX3 67 yX3_lead, Cond.instanceMethod yX3_lead, Cond.selects RX3 yX3_lead yX3_lead, Cond.initialized RX3, Cond.code yX3_lead cX3_lead 5 none, Cond.fieldLink RX3 9 "TriggerAnalyzer$Prospect" "incoming" "[I", Cond.methodLink RX3 63 yX3_enqueue, Cond.instanceMethod yX3_enqueue, Cond.selects RX3 yX3_enqueue yX3_enqueue]
def wsX3_take_r2 : List Cond := [Cond.code yX3_enqueue cX3_enqueue 2 none, Cond.fieldLink RX3 46 "TriggerAnalyzer$Prospect" "queued" "I", Cond.fieldLink RX3 22 "TriggerAnalyzer$Prospect" "queue" "[I"]
def wsX3_take : List Cond := .code yX3_take cX3_take 6 none :: ((wsX3_take_r1 ++ wsX3_take_r2) ++ wsX30 ++ wsX10)
def wsX3_study_r1 : List Cond := [Cond.fieldLink RX3 46 "TriggerAnalyzer$Prospect" "queued" "I", Cond.fieldLink RX3 22 "TriggerAnalyzer$Prospect" "queue" "[I", Cond.fieldLink RX3 25 "TriggerAnalyzer$Prospect" "finite" "Z", Cond.methodLink RX3 39 yX3_countIncoming, Cond.instanceMethod yX3_countIncoming, Cond.selects RX3 yX3_countIncoming yX3_countIncoming, Cond.initialized RX3, Cond.code yX3_countIncoming cX3_countIncoming 5 none, Cond.fieldLink RX3 9 "TriggerAnalyzer$Prospect" "incoming" "[I", Cond.fieldLink RX3 15 "TriggerAnalyzer$Prospect" "plays" "[I", Cond.fieldLink RX3 18 "TriggerAnalyzer$Prospect" "rows" "[J", Cond.methodLink RX3 53 yX1_size, Cond.instanceMethod yX1_size, Cond.selects RX1 yX1_size yX1_size, Cond.initialized RX1, Cond.code yX1_size cX1_size 1 (some .int), Cond.fieldLink RX1 49 "TriggerAnalyzer$Exploration" "count" "I", Cond.methodLink RX3 59 yX1_nextOf, Cond.instanceMethod yX1_nextOf, Cond.selects RX1 yX1_nextOf yX1_nextOf, Cond.code yX1_nextOf cX1_nextOf 4 (some .int), Cond.fieldLink RX1 18 "TriggerAnalyzer$Exploration" "nexts" "[I", Cond.methodLink RX3 43 yX3_startAtFirst, Cond.instanceMethod yX3_startAtFirst]
def wsX3_study_r2 : List Cond := [Cond.selects RX3 yX3_startAtFirst yX3_startAtFirst, Cond.code yX3_startAtFirst cX3_startAtFirst 1 none, Cond.fieldLink RX3 29 "TriggerAnalyzer$Prospect" "longestRow" "I", Cond.fieldLink RX3 33 "TriggerAnalyzer$Prospect" "endedRows" "J", Cond.methodLink RX3 63 yX3_enqueue, Cond.instanceMethod yX3_enqueue, Cond.selects RX3 yX3_enqueue yX3_enqueue, Cond.code yX3_enqueue cX3_enqueue 2 none, Cond.methodLink RX3 49 yX3_take, Cond.instanceMethod yX3_take, Cond.selects RX3 yX3_take yX3_take, Cond.code yX3_take cX3_take 6 none, Cond.methodLink RX3 71 Lib.Math.max.name, Cond.static Lib.Math.max.name, Cond.initialized "java/lang/Math", Cond.code Lib.Math.max.name Lib.Math.max.code 2 (some .int), Cond.methodLink RX3 67 yX3_lead, Cond.instanceMethod yX3_lead, Cond.selects RX3 yX3_lead yX3_lead, Cond.code yX3_lead cX3_lead 5 none]
def wsX3_study : List Cond := .code yX3_study cX3_study 3 none :: ((wsX3_study_r1 ++ wsX3_study_r2) ++ wsX30 ++ wsX10)
def wsX1_search_r1 : List Cond := [Cond.fieldLink RX1 49 "TriggerAnalyzer$Exploration" "count" "I", Cond.fieldLink RX1 46 "TriggerAnalyzer$Exploration" "tooMany" "Z", Cond.fieldLink RX1 34 "TriggerAnalyzer$Exploration" "prospect" "LTriggerAnalyzer$Prospect;", Cond.fieldLink RX1 42 "TriggerAnalyzer$Exploration" "done" "Z", Cond.methodLink RX1 59 yX1_clear, Cond.instanceMethod yX1_clear, Cond.selects RX1 yX1_clear yX1_clear, Cond.initialized RX1, Cond.code yX1_clear cX1_clear 2 none, Cond.fieldLink RX1 9 "TriggerAnalyzer$Exploration" "situations" "[I", Cond.fieldLink RX1 53 "TriggerAnalyzer$Exploration" "readyEver" "I", Cond.fieldLink RX1 56 "TriggerAnalyzer$Exploration" "choices" "I", Cond.fieldLink RX1 27 "TriggerAnalyzer$Exploration" "ends" "LTriggerAnalyzer$Ends;", Cond.methodLink RX1 74 yX1_mark, Cond.instanceMethod yX1_mark, Cond.selects RX1 yX1_mark yX1_mark, Cond.code yX1_mark cX1_mark 3 none, Cond.fieldLink RX1 21 "TriggerAnalyzer$Exploration" "places" "[I", Cond.methodLink RX1 78 yX0_clear, Cond.instanceMethod yX0_clear, Cond.selects RX0 yX0_clear yX0_clear, Cond.initialized RX0, Cond.code yX0_clear cX0_clear 1 none, Cond.fieldLink RX0 19 "TriggerAnalyzer$Ends" "count" "I"]
def wsX1_search_r2 : List Cond := [Cond.fieldLink RX0 15 "TriggerAnalyzer$Ends" "nearest" "I", Cond.methodLink RX1 62 yX1_findOrAdd, Cond.instanceMethod yX1_findOrAdd, Cond.selects RX1 yX1_findOrAdd yX1_findOrAdd, Cond.code yX1_findOrAdd cX1_findOrAdd 3 (some .int), Cond.fieldLink RX1 15 "TriggerAnalyzer$Exploration" "depths" "[I", Cond.methodLink RX1 66 yX1_expand, Cond.instanceMethod yX1_expand, Cond.selects RX1 yX1_expand yX1_expand, Cond.code yX1_expand cX1_expand 7 none, Cond.fieldLink RX1 38 "TriggerAnalyzer$Exploration" "book" "LTriggerAnalyzer$RuleBook;", Cond.fieldLink RX1 103 "TriggerAnalyzer$Rule" "bit" "I", Cond.methodLink RX1 79 yX5_readyIn, Cond.instanceMethod yX5_readyIn, Cond.selects RX5 yX5_readyIn yX5_readyIn, Cond.initialized RX5, Cond.code yX5_readyIn cX5_readyIn 4 (some .int), Cond.fieldLink RX5 11 "TriggerAnalyzer$RuleBook" "rules" "[LTriggerAnalyzer$Rule;", Cond.fieldLink RX5 45 "TriggerAnalyzer$Rule" "bit" "I", Cond.methodLink RX5 68 yX4_isReadyIn, Cond.instanceMethod yX4_isReadyIn, Cond.selects RX4 yX4_isReadyIn yX4_isReadyIn, Cond.initialized RX4, Cond.code yX4_isReadyIn cX4_isReadyIn 3 (some .boolean)]
def wsX1_search_r3 : List Cond := [Cond.fieldLink RX4 15 "TriggerAnalyzer$Rule" "bit" "I", Cond.fieldLink RX4 35 "TriggerAnalyzer$Rule" "above" "I", Cond.static yX6_triggeredIn, Cond.initialized RX6, Cond.code yX6_triggeredIn cX6_triggeredIn 1 (some .int), Cond.methodLink RX1 85 yJ6_bitCount_0f7a4, Cond.static yJ6_bitCount_0f7a4, Cond.initialized RJ6, Cond.code yJ6_bitCount_0f7a4 cJ6_bitCount_0f7a4 1 (some .int), Cond.constant RJ6 265 (1431655765), Cond.constant RJ6 266 (858993459), Cond.constant RJ6 267 (252645135), Cond.static yX6_factsIn, Cond.code yX6_factsIn cX6_factsIn 1 (some .int), Cond.methodLink RX1 96 yX0_append, Cond.instanceMethod yX0_append, Cond.selects RX0 yX0_append yX0_append, Cond.code yX0_append cX0_append 3 none, Cond.fieldLink RX0 9 "TriggerAnalyzer$Ends" "facts" "[I", Cond.methodLink RX1 99 yX5_ruleOrNull, Cond.instanceMethod yX5_ruleOrNull, Cond.selects RX5 yX5_ruleOrNull yX5_ruleOrNull, Cond.code yX5_ruleOrNull cX5_ruleOrNull 2 (some (.object "TriggerAnalyzer$Rule")), Cond.fieldLink RX5 24 "TriggerAnalyzer$RuleBook" "count" "I"]
def wsX1_search_r4 : List Cond := [Cond.methodLink RX1 108 yX5_played, Cond.instanceMethod yX5_played, Cond.selects RX5 yX5_played yX5_played, Cond.code yX5_played cX5_played 5 (some .int), Cond.fieldLink RX5 75 "TriggerAnalyzer$Rule" "actionCount" "I", Cond.static yX6_situationOf, Cond.code yX6_situationOf cX6_situationOf 2 (some .int), Cond.methodLink RX5 72 yX4_holdsIn, Cond.instanceMethod yX4_holdsIn, Cond.selects RX4 yX4_holdsIn yX4_holdsIn, Cond.code yX4_holdsIn cX4_holdsIn 3 (some .boolean), Cond.fieldLink RX4 41 "TriggerAnalyzer$Rule" "must" "I", Cond.fieldLink RX4 44 "TriggerAnalyzer$Rule" "mustNot" "I", Cond.methodLink RX5 78 yX4_actionAt, Cond.instanceMethod yX4_actionAt, Cond.selects RX4 yX4_actionAt yX4_actionAt, Cond.code yX4_actionAt cX4_actionAt 2 (some .int), Cond.fieldLink RX4 9 "TriggerAnalyzer$Rule" "actions" "[I", Cond.methodLink RX5 81 yX5_changed, Cond.instanceMethod yX5_changed, Cond.selects RX5 yX5_changed yX5_changed, Cond.code yX5_changed cX5_changed 7 (some .int), Cond.methodLink RX5 58 yX5_listenersTo, Cond.instanceMethod yX5_listenersTo]
def wsX1_search_r5 : List Cond := [Cond.selects RX5 yX5_listenersTo yX5_listenersTo, Cond.code yX5_listenersTo cX5_listenersTo 2 (some .int), Cond.fieldLink RX5 17 "TriggerAnalyzer$RuleBook" "listeners" "[I", Cond.methodLink RX1 112 yX1_keepNext, Cond.instanceMethod yX1_keepNext, Cond.selects RX1 yX1_keepNext yX1_keepNext, Cond.code yX1_keepNext cX1_keepNext 3 none, Cond.fieldLink RX1 18 "TriggerAnalyzer$Exploration" "nexts" "[I", Cond.methodLink RX1 70 yX3_study, Cond.instanceMethod yX3_study, Cond.selects RX3 yX3_study yX3_study, Cond.initialized RX3, Cond.code yX3_study cX3_study 3 none, Cond.fieldLink RX3 46 "TriggerAnalyzer$Prospect" "queued" "I", Cond.fieldLink RX3 22 "TriggerAnalyzer$Prospect" "queue" "[I", Cond.fieldLink RX3 25 "TriggerAnalyzer$Prospect" "finite" "Z", Cond.methodLink RX3 39 yX3_countIncoming, Cond.instanceMethod yX3_countIncoming, Cond.selects RX3 yX3_countIncoming yX3_countIncoming, Cond.code yX3_countIncoming cX3_countIncoming 5 none, Cond.fieldLink RX3 9 "TriggerAnalyzer$Prospect" "incoming" "[I", Cond.fieldLink RX3 15 "TriggerAnalyzer$Prospect" "plays" "[I", Cond.fieldLink RX3 18 "TriggerAnalyzer$Prospect" "rows" "[J", Cond.methodLink RX3 53 yX1_size]
def wsX1_search_r6 : List Cond := [Cond.instanceMethod yX1_size, Cond.selects RX1 yX1_size yX1_size, Cond.code yX1_size cX1_size 1 (some .int), Cond.methodLink RX3 59 yX1_nextOf, Cond.instanceMethod yX1_nextOf, Cond.selects RX1 yX1_nextOf yX1_nextOf, Cond.code yX1_nextOf cX1_nextOf 4 (some .int), Cond.methodLink RX3 43 yX3_startAtFirst, Cond.instanceMethod yX3_startAtFirst, Cond.selects RX3 yX3_startAtFirst yX3_startAtFirst, Cond.code yX3_startAtFirst cX3_startAtFirst 1 none, Cond.fieldLink RX3 29 "TriggerAnalyzer$Prospect" "longestRow" "I", Cond.fieldLink RX3 33 "TriggerAnalyzer$Prospect" "endedRows" "J", Cond.methodLink RX3 63 yX3_enqueue, Cond.instanceMethod yX3_enqueue, Cond.selects RX3 yX3_enqueue yX3_enqueue, Cond.code yX3_enqueue cX3_enqueue 2 none, Cond.methodLink RX3 49 yX3_take, Cond.instanceMethod yX3_take, Cond.selects RX3 yX3_take yX3_take, Cond.code yX3_take cX3_take 6 none, Cond.methodLink RX3 71 Lib.Math.max.name, Cond.static Lib.Math.max.name, Cond.initialized "java/lang/Math"]
def wsX1_search_r7 : List Cond := [Cond.code Lib.Math.max.name Lib.Math.max.code 2 (some .int), Cond.methodLink RX3 67 yX3_lead, Cond.instanceMethod yX3_lead, Cond.selects RX3 yX3_lead yX3_lead, Cond.code yX3_lead cX3_lead 5 none]
def wsX1_search : List Cond := .code yX1_search cX1_search 3 none :: ((wsX1_search_r1 ++ (wsX1_search_r2 ++ (wsX1_search_r3 ++ (wsX1_search_r4 ++ (wsX1_search_r5 ++ (wsX1_search_r6 ++ wsX1_search_r7)))))) ++ wsX10 ++ wsX00 ++ wsX40 ++ wsX50 ++ wsX30)
def wsX2_init : List Cond := .code yX2_init cX2_init 2 none :: ([.methodLink RX2 3 objectInit, .instanceMethod objectInit, .code objectInit ⟨#[0xb1]⟩ 1 none, .arrayClass .int, .fieldLink RX2 9 "TriggerAnalyzer$Judge" "reach" "[I", .fieldLink RX2 15 "TriggerAnalyzer$Judge" "book" "LTriggerAnalyzer$RuleBook;"] ++ wsX20)
def wsX5_triggerableBy : List Cond := .code yX5_triggerableBy cX5_triggerableBy 4 (some .int) :: ([.fieldLink RX5 41 "TriggerAnalyzer$Rule" "on" "Z", .fieldLink RX5 75 "TriggerAnalyzer$Rule" "actionCount" "I", .methodLink RX5 78 yX4_actionAt, .instanceMethod yX4_actionAt, .selects RX4 yX4_actionAt yX4_actionAt, .initialized RX4, .code yX4_actionAt cX4_actionAt 2 (some .int), .fieldLink RX4 9 "TriggerAnalyzer$Rule" "actions" "[I", .methodLink RX5 58 yX5_listenersTo, .instanceMethod yX5_listenersTo, .selects RX5 yX5_listenersTo yX5_listenersTo, .initialized RX5, .code yX5_listenersTo cX5_listenersTo 2 (some .int), .fieldLink RX5 17 "TriggerAnalyzer$RuleBook" "listeners" "[I"] ++ wsX40 ++ wsX50)
def wsX2_spreadReach_r1 : List Cond := [Cond.fieldLink RX2 9 "TriggerAnalyzer$Judge" "reach" "[I", Cond.fieldLink RX2 15 "TriggerAnalyzer$Judge" "book" "LTriggerAnalyzer$RuleBook;", Cond.methodLink RX2 22 yX5_ruleOrNull, Cond.instanceMethod yX5_ruleOrNull, Cond.selects RX5 yX5_ruleOrNull yX5_ruleOrNull, Cond.initialized RX5, Cond.code yX5_ruleOrNull cX5_ruleOrNull 2 (some (.object "TriggerAnalyzer$Rule")), Cond.fieldLink RX5 24 "TriggerAnalyzer$RuleBook" "count" "I", Cond.fieldLink RX5 11 "TriggerAnalyzer$RuleBook" "rules" "[LTriggerAnalyzer$Rule;", Cond.methodLink RX2 28 yX5_triggerableBy, Cond.instanceMethod yX5_triggerableBy, Cond.selects RX5 yX5_triggerableBy yX5_triggerableBy, Cond.code yX5_triggerableBy cX5_triggerableBy 4 (some .int), Cond.fieldLink RX5 41 "TriggerAnalyzer$Rule" "on" "Z", Cond.fieldLink RX5 75 "TriggerAnalyzer$Rule" "actionCount" "I", Cond.methodLink RX5 78 yX4_actionAt, Cond.instanceMethod yX4_actionAt, Cond.selects RX4 yX4_actionAt yX4_actionAt, Cond.initialized RX4, Cond.code yX4_actionAt cX4_actionAt 2 (some .int), Cond.fieldLink RX4 9 "TriggerAnalyzer$Rule" "actions" "[I", Cond.methodLink RX5 58 yX5_listenersTo, Cond.instanceMethod yX5_listenersTo, Cond.selects RX5 yX5_listenersTo yX5_listenersTo]
def wsX2_spreadReach_r2 : List Cond := [Cond.code yX5_listenersTo cX5_listenersTo 2 (some .int), Cond.fieldLink RX5 17 "TriggerAnalyzer$RuleBook" "listeners" "[I"]
def wsX2_spreadReach : List Cond := .code yX2_spreadReach cX2_spreadReach 3 none :: ((wsX2_spreadReach_r1 ++ wsX2_spreadReach_r2) ++ wsX20 ++ wsX50 ++ wsX40)
def wsX2_inCircles_r1 : List Cond := [Cond.fieldLink RX2 9 "TriggerAnalyzer$Judge" "reach" "[I", Cond.methodLink RX2 19 yX2_spreadReach, Cond.instanceMethod yX2_spreadReach, Cond.selects RX2 yX2_spreadReach yX2_spreadReach, Cond.initialized RX2, Cond.code yX2_spreadReach cX2_spreadReach 3 none, Cond.fieldLink RX2 15 "TriggerAnalyzer$Judge" "book" "LTriggerAnalyzer$RuleBook;", Cond.methodLink RX2 22 yX5_ruleOrNull, Cond.instanceMethod yX5_ruleOrNull, Cond.selects RX5 yX5_ruleOrNull yX5_ruleOrNull, Cond.initialized RX5, Cond.code yX5_ruleOrNull cX5_ruleOrNull 2 (some (.object "TriggerAnalyzer$Rule")), Cond.fieldLink RX5 24 "TriggerAnalyzer$RuleBook" "count" "I", Cond.fieldLink RX5 11 "TriggerAnalyzer$RuleBook" "rules" "[LTriggerAnalyzer$Rule;", Cond.methodLink RX2 28 yX5_triggerableBy, Cond.instanceMethod yX5_triggerableBy, Cond.selects RX5 yX5_triggerableBy yX5_triggerableBy, Cond.code yX5_triggerableBy cX5_triggerableBy 4 (some .int), Cond.fieldLink RX5 41 "TriggerAnalyzer$Rule" "on" "Z", Cond.fieldLink RX5 75 "TriggerAnalyzer$Rule" "actionCount" "I", Cond.methodLink RX5 78 yX4_actionAt, Cond.instanceMethod yX4_actionAt, Cond.selects RX4 yX4_actionAt yX4_actionAt, Cond.initialized RX4]
def wsX2_inCircles_r2 : List Cond := [Cond.code yX4_actionAt cX4_actionAt 2 (some .int), Cond.fieldLink RX4 9 "TriggerAnalyzer$Rule" "actions" "[I", Cond.methodLink RX5 58 yX5_listenersTo, Cond.instanceMethod yX5_listenersTo, Cond.selects RX5 yX5_listenersTo yX5_listenersTo, Cond.code yX5_listenersTo cX5_listenersTo 2 (some .int), Cond.fieldLink RX5 17 "TriggerAnalyzer$RuleBook" "listeners" "[I"]
def wsX2_inCircles : List Cond := .code yX2_inCircles cX2_inCircles 3 (some .int) :: ((wsX2_inCircles_r1 ++ wsX2_inCircles_r2) ++ wsX20 ++ wsX50 ++ wsX40)
def wsX4_changedFacts : List Cond := .code yX4_changedFacts cX4_changedFacts 1 (some .int) :: ([.fieldLink RX4 22 "TriggerAnalyzer$Rule" "setFacts" "I", .fieldLink RX4 25 "TriggerAnalyzer$Rule" "unsetFacts" "I"] ++ wsX40)
def wsX4_conditionFacts : List Cond := .code yX4_conditionFacts cX4_conditionFacts 1 (some .int) :: ([.fieldLink RX4 41 "TriggerAnalyzer$Rule" "must" "I", .fieldLink RX4 44 "TriggerAnalyzer$Rule" "mustNot" "I"] ++ wsX40)
def wsX2_areIndependent_r1 : List Cond := [Cond.fieldLink RX2 32 "TriggerAnalyzer$Rule" "on" "Z", Cond.fieldLink RX2 15 "TriggerAnalyzer$Judge" "book" "LTriggerAnalyzer$RuleBook;", Cond.fieldLink RX2 38 "TriggerAnalyzer$Rule" "bit" "I", Cond.fieldLink RX2 49 "TriggerAnalyzer$Rule" "setFacts" "I", Cond.fieldLink RX2 52 "TriggerAnalyzer$Rule" "unsetFacts" "I", Cond.methodLink RX2 28 yX5_triggerableBy, Cond.instanceMethod yX5_triggerableBy, Cond.selects RX5 yX5_triggerableBy yX5_triggerableBy, Cond.initialized RX5, Cond.code yX5_triggerableBy cX5_triggerableBy 4 (some .int), Cond.fieldLink RX5 41 "TriggerAnalyzer$Rule" "on" "Z", Cond.fieldLink RX5 75 "TriggerAnalyzer$Rule" "actionCount" "I", Cond.methodLink RX5 78 yX4_actionAt, Cond.instanceMethod yX4_actionAt, Cond.selects RX4 yX4_actionAt yX4_actionAt, Cond.initialized RX4, Cond.code yX4_actionAt cX4_actionAt 2 (some .int), Cond.fieldLink RX4 9 "TriggerAnalyzer$Rule" "actions" "[I", Cond.methodLink RX5 58 yX5_listenersTo, Cond.instanceMethod yX5_listenersTo, Cond.selects RX5 yX5_listenersTo yX5_listenersTo, Cond.code yX5_listenersTo cX5_listenersTo 2 (some .int), Cond.fieldLink RX5 17 "TriggerAnalyzer$RuleBook" "listeners" "[I", Cond.methodLink RX2 42 yX4_changedFacts]
def wsX2_areIndependent_r2 : List Cond := [Cond.instanceMethod yX4_changedFacts, Cond.selects RX4 yX4_changedFacts yX4_changedFacts, Cond.code yX4_changedFacts cX4_changedFacts 1 (some .int), Cond.fieldLink RX4 22 "TriggerAnalyzer$Rule" "setFacts" "I", Cond.fieldLink RX4 25 "TriggerAnalyzer$Rule" "unsetFacts" "I", Cond.methodLink RX2 46 yX4_conditionFacts, Cond.instanceMethod yX4_conditionFacts, Cond.selects RX4 yX4_conditionFacts yX4_conditionFacts, Cond.code yX4_conditionFacts cX4_conditionFacts 1 (some .int), Cond.fieldLink RX4 41 "TriggerAnalyzer$Rule" "must" "I", Cond.fieldLink RX4 44 "TriggerAnalyzer$Rule" "mustNot" "I"]
def wsX2_areIndependent : List Cond := .code yX2_areIndependent cX2_areIndependent 4 (some .boolean) :: ((wsX2_areIndependent_r1 ++ wsX2_areIndependent_r2) ++ wsX40 ++ wsX20 ++ wsX50)
def wsX4_isOver : List Cond := .code yX4_isOver cX4_isOver 2 (some .boolean) :: ([.fieldLink RX4 28 "TriggerAnalyzer$Rule" "below" "I", .fieldLink RX4 15 "TriggerAnalyzer$Rule" "bit" "I"] ++ wsX40)
def wsX2_areInConflict_r1 : List Cond := [Cond.fieldLink RX2 15 "TriggerAnalyzer$Judge" "book" "LTriggerAnalyzer$RuleBook;", Cond.methodLink RX2 22 yX5_ruleOrNull, Cond.instanceMethod yX5_ruleOrNull, Cond.selects RX5 yX5_ruleOrNull yX5_ruleOrNull, Cond.initialized RX5, Cond.code yX5_ruleOrNull cX5_ruleOrNull 2 (some (.object "TriggerAnalyzer$Rule")), Cond.fieldLink RX5 24 "TriggerAnalyzer$RuleBook" "count" "I", Cond.fieldLink RX5 11 "TriggerAnalyzer$RuleBook" "rules" "[LTriggerAnalyzer$Rule;", Cond.methodLink RX2 55 yX4_isOver, Cond.instanceMethod yX4_isOver, Cond.selects RX4 yX4_isOver yX4_isOver, Cond.initialized RX4, Cond.code yX4_isOver cX4_isOver 2 (some .boolean), Cond.fieldLink RX4 28 "TriggerAnalyzer$Rule" "below" "I", Cond.fieldLink RX4 15 "TriggerAnalyzer$Rule" "bit" "I", Cond.methodLink RX2 59 yX2_areIndependent, Cond.instanceMethod yX2_areIndependent, Cond.selects RX2 yX2_areIndependent yX2_areIndependent, Cond.initialized RX2, Cond.code yX2_areIndependent cX2_areIndependent 4 (some .boolean), Cond.fieldLink RX2 32 "TriggerAnalyzer$Rule" "on" "Z", Cond.fieldLink RX2 38 "TriggerAnalyzer$Rule" "bit" "I", Cond.fieldLink RX2 49 "TriggerAnalyzer$Rule" "setFacts" "I", Cond.fieldLink RX2 52 "TriggerAnalyzer$Rule" "unsetFacts" "I"]
def wsX2_areInConflict_r2 : List Cond := [Cond.methodLink RX2 28 yX5_triggerableBy, Cond.instanceMethod yX5_triggerableBy, Cond.selects RX5 yX5_triggerableBy yX5_triggerableBy, Cond.code yX5_triggerableBy cX5_triggerableBy 4 (some .int), Cond.fieldLink RX5 41 "TriggerAnalyzer$Rule" "on" "Z", Cond.fieldLink RX5 75 "TriggerAnalyzer$Rule" "actionCount" "I", Cond.methodLink RX5 78 yX4_actionAt, Cond.instanceMethod yX4_actionAt, Cond.selects RX4 yX4_actionAt yX4_actionAt, Cond.code yX4_actionAt cX4_actionAt 2 (some .int), Cond.fieldLink RX4 9 "TriggerAnalyzer$Rule" "actions" "[I", Cond.methodLink RX5 58 yX5_listenersTo, Cond.instanceMethod yX5_listenersTo, Cond.selects RX5 yX5_listenersTo yX5_listenersTo, Cond.code yX5_listenersTo cX5_listenersTo 2 (some .int), Cond.fieldLink RX5 17 "TriggerAnalyzer$RuleBook" "listeners" "[I", Cond.methodLink RX2 42 yX4_changedFacts, Cond.instanceMethod yX4_changedFacts, Cond.selects RX4 yX4_changedFacts yX4_changedFacts, Cond.code yX4_changedFacts cX4_changedFacts 1 (some .int), Cond.fieldLink RX4 22 "TriggerAnalyzer$Rule" "setFacts" "I", Cond.fieldLink RX4 25 "TriggerAnalyzer$Rule" "unsetFacts" "I", Cond.methodLink RX2 46 yX4_conditionFacts, Cond.instanceMethod yX4_conditionFacts]
def wsX2_areInConflict_r3 : List Cond := [Cond.selects RX4 yX4_conditionFacts yX4_conditionFacts, Cond.code yX4_conditionFacts cX4_conditionFacts 1 (some .int), Cond.fieldLink RX4 41 "TriggerAnalyzer$Rule" "must" "I", Cond.fieldLink RX4 44 "TriggerAnalyzer$Rule" "mustNot" "I"]
def wsX2_areInConflict : List Cond := .code yX2_areInConflict cX2_areInConflict 5 (some .boolean) :: ((wsX2_areInConflict_r1 ++ (wsX2_areInConflict_r2 ++ wsX2_areInConflict_r3)) ++ wsX20 ++ wsX50 ++ wsX40)
def wsX2_countConflicts_r1 : List Cond := [Cond.methodLink RX2 63 yX2_areInConflict, Cond.instanceMethod yX2_areInConflict, Cond.selects RX2 yX2_areInConflict yX2_areInConflict, Cond.initialized RX2, Cond.code yX2_areInConflict cX2_areInConflict 5 (some .boolean), Cond.fieldLink RX2 15 "TriggerAnalyzer$Judge" "book" "LTriggerAnalyzer$RuleBook;", Cond.methodLink RX2 22 yX5_ruleOrNull, Cond.instanceMethod yX5_ruleOrNull, Cond.selects RX5 yX5_ruleOrNull yX5_ruleOrNull, Cond.initialized RX5, Cond.code yX5_ruleOrNull cX5_ruleOrNull 2 (some (.object "TriggerAnalyzer$Rule")), Cond.fieldLink RX5 24 "TriggerAnalyzer$RuleBook" "count" "I", Cond.fieldLink RX5 11 "TriggerAnalyzer$RuleBook" "rules" "[LTriggerAnalyzer$Rule;", Cond.methodLink RX2 55 yX4_isOver, Cond.instanceMethod yX4_isOver, Cond.selects RX4 yX4_isOver yX4_isOver, Cond.initialized RX4, Cond.code yX4_isOver cX4_isOver 2 (some .boolean), Cond.fieldLink RX4 28 "TriggerAnalyzer$Rule" "below" "I", Cond.fieldLink RX4 15 "TriggerAnalyzer$Rule" "bit" "I", Cond.methodLink RX2 59 yX2_areIndependent, Cond.instanceMethod yX2_areIndependent, Cond.selects RX2 yX2_areIndependent yX2_areIndependent, Cond.code yX2_areIndependent cX2_areIndependent 4 (some .boolean)]
def wsX2_countConflicts_r2 : List Cond := [Cond.fieldLink RX2 32 "TriggerAnalyzer$Rule" "on" "Z", Cond.fieldLink RX2 38 "TriggerAnalyzer$Rule" "bit" "I", Cond.fieldLink RX2 49 "TriggerAnalyzer$Rule" "setFacts" "I", Cond.fieldLink RX2 52 "TriggerAnalyzer$Rule" "unsetFacts" "I", Cond.methodLink RX2 28 yX5_triggerableBy, Cond.instanceMethod yX5_triggerableBy, Cond.selects RX5 yX5_triggerableBy yX5_triggerableBy, Cond.code yX5_triggerableBy cX5_triggerableBy 4 (some .int), Cond.fieldLink RX5 41 "TriggerAnalyzer$Rule" "on" "Z", Cond.fieldLink RX5 75 "TriggerAnalyzer$Rule" "actionCount" "I", Cond.methodLink RX5 78 yX4_actionAt, Cond.instanceMethod yX4_actionAt, Cond.selects RX4 yX4_actionAt yX4_actionAt, Cond.code yX4_actionAt cX4_actionAt 2 (some .int), Cond.fieldLink RX4 9 "TriggerAnalyzer$Rule" "actions" "[I", Cond.methodLink RX5 58 yX5_listenersTo, Cond.instanceMethod yX5_listenersTo, Cond.selects RX5 yX5_listenersTo yX5_listenersTo, Cond.code yX5_listenersTo cX5_listenersTo 2 (some .int), Cond.fieldLink RX5 17 "TriggerAnalyzer$RuleBook" "listeners" "[I", Cond.methodLink RX2 42 yX4_changedFacts, Cond.instanceMethod yX4_changedFacts, Cond.selects RX4 yX4_changedFacts yX4_changedFacts, Cond.code yX4_changedFacts cX4_changedFacts 1 (some .int)]
def wsX2_countConflicts_r3 : List Cond := [Cond.fieldLink RX4 22 "TriggerAnalyzer$Rule" "setFacts" "I", Cond.fieldLink RX4 25 "TriggerAnalyzer$Rule" "unsetFacts" "I", Cond.methodLink RX2 46 yX4_conditionFacts, Cond.instanceMethod yX4_conditionFacts, Cond.selects RX4 yX4_conditionFacts yX4_conditionFacts, Cond.code yX4_conditionFacts cX4_conditionFacts 1 (some .int), Cond.fieldLink RX4 41 "TriggerAnalyzer$Rule" "must" "I", Cond.fieldLink RX4 44 "TriggerAnalyzer$Rule" "mustNot" "I"]
def wsX2_countConflicts : List Cond := .code yX2_countConflicts cX2_countConflicts 4 (some .int) :: ((wsX2_countConflicts_r1 ++ (wsX2_countConflicts_r2 ++ wsX2_countConflicts_r3)) ++ wsX20 ++ wsX50 ++ wsX40)
def wsX3_isFinite : List Cond := .code yX3_isFinite cX3_isFinite 1 (some .boolean) :: ([.fieldLink RX3 25 "TriggerAnalyzer$Prospect" "finite" "Z"] ++ wsX30)
def wsX3_mostPlays : List Cond := .code yX3_mostPlays cX3_mostPlays 1 (some .int) :: ([.fieldLink RX3 25 "TriggerAnalyzer$Prospect" "finite" "Z", .fieldLink RX3 29 "TriggerAnalyzer$Prospect" "longestRow" "I"] ++ wsX30)
def wsX3_wayCount : List Cond := .code yX3_wayCount cX3_wayCount 1 (some .long) :: ([.fieldLink RX3 25 "TriggerAnalyzer$Prospect" "finite" "Z", .fieldLink RX3 33 "TriggerAnalyzer$Prospect" "endedRows" "J", .constantLong RX3 37 (-1)] ++ wsX30)
def wsX4_init : List Cond := .code yX4_init cX4_init 2 none :: ([.methodLink RX4 3 objectInit, .instanceMethod objectInit, .code objectInit ⟨#[0xb1]⟩ 1 none, .arrayClass .int, .fieldLink RX4 9 "TriggerAnalyzer$Rule" "actions" "[I", .fieldLink RX4 15 "TriggerAnalyzer$Rule" "bit" "I"] ++ wsX40)
def wsX4_isFull : List Cond := .code yX4_isFull cX4_isFull 1 (some .boolean) :: ([.fieldLink RX4 19 "TriggerAnalyzer$Rule" "actionCount" "I", .fieldLink RX4 9 "TriggerAnalyzer$Rule" "actions" "[I"] ++ wsX40)
def wsX4_append : List Cond := .code yX4_append cX4_append 3 none :: ([.fieldLink RX4 19 "TriggerAnalyzer$Rule" "actionCount" "I", .fieldLink RX4 9 "TriggerAnalyzer$Rule" "actions" "[I", .fieldLink RX4 22 "TriggerAnalyzer$Rule" "setFacts" "I", .fieldLink RX4 25 "TriggerAnalyzer$Rule" "unsetFacts" "I"] ++ wsX40)
def wsX5_init : List Cond := .code yX5_init cX5_init 2 none :: ([.methodLink RX5 3 objectInit, .instanceMethod objectInit, .code objectInit ⟨#[0xb1]⟩ 1 none, .classLink RX5 9 RX4, .fieldLink RX5 11 "TriggerAnalyzer$RuleBook" "rules" "[LTriggerAnalyzer$Rule;", .arrayClass .int, .fieldLink RX5 17 "TriggerAnalyzer$RuleBook" "listeners" "[I", .instantiable RX4 11, .initialized RX4, .methodLink RX5 21 yX4_init, .instanceMethod yX4_init, .code yX4_init cX4_init 2 none, .methodLink RX4 3 objectInit, .fieldLink RX4 9 "TriggerAnalyzer$Rule" "actions" "[I", .fieldLink RX4 15 "TriggerAnalyzer$Rule" "bit" "I"] ++ wsX50 ++ wsX40)
def wsX5_size : List Cond := .code yX5_size cX5_size 1 (some .int) :: ([.fieldLink RX5 24 "TriggerAnalyzer$RuleBook" "count" "I"] ++ wsX50)
def wsX5_isFull : List Cond := .code yX5_isFull cX5_isFull 1 (some .boolean) :: ([.fieldLink RX5 24 "TriggerAnalyzer$RuleBook" "count" "I", .fieldLink RX5 11 "TriggerAnalyzer$RuleBook" "rules" "[LTriggerAnalyzer$Rule;"] ++ wsX50)
def wsX5_switchRule : List Cond := .code yX5_switchRule cX5_switchRule 4 none :: ([.fieldLink RX5 41 "TriggerAnalyzer$Rule" "on" "Z", .fieldLink RX5 28 "TriggerAnalyzer$Rule" "event" "I", .fieldLink RX5 17 "TriggerAnalyzer$RuleBook" "listeners" "[I", .fieldLink RX5 45 "TriggerAnalyzer$Rule" "bit" "I"] ++ wsX40 ++ wsX50)
def wsX5_append : List Cond := .code yX5_append cX5_append 6 (some .int) :: ([.fieldLink RX5 24 "TriggerAnalyzer$RuleBook" "count" "I", .fieldLink RX5 11 "TriggerAnalyzer$RuleBook" "rules" "[LTriggerAnalyzer$Rule;", .fieldLink RX5 28 "TriggerAnalyzer$Rule" "event" "I", .fieldLink RX5 31 "TriggerAnalyzer$Rule" "must" "I", .fieldLink RX5 34 "TriggerAnalyzer$Rule" "mustNot" "I", .methodLink RX5 37 yX5_switchRule, .instanceMethod yX5_switchRule, .selects RX5 yX5_switchRule yX5_switchRule, .initialized RX5, .code yX5_switchRule cX5_switchRule 4 none, .fieldLink RX5 41 "TriggerAnalyzer$Rule" "on" "Z", .fieldLink RX5 17 "TriggerAnalyzer$RuleBook" "listeners" "[I", .fieldLink RX5 45 "TriggerAnalyzer$Rule" "bit" "I"] ++ wsX50 ++ wsX40)
def wsX5_order : List Cond := .code yX5_order cX5_order 7 none :: ([.fieldLink RX5 48 "TriggerAnalyzer$Rule" "above" "I", .fieldLink RX5 45 "TriggerAnalyzer$Rule" "bit" "I", .fieldLink RX5 51 "TriggerAnalyzer$Rule" "below" "I", .fieldLink RX5 11 "TriggerAnalyzer$RuleBook" "rules" "[LTriggerAnalyzer$Rule;"] ++ wsX40 ++ wsX50)
def wsX5_firstReadyIn : List Cond := .code yX5_firstReadyIn cX5_firstReadyIn 3 (some (.object "TriggerAnalyzer$Rule")) :: ([.fieldLink RX5 11 "TriggerAnalyzer$RuleBook" "rules" "[LTriggerAnalyzer$Rule;", .methodLink RX5 68 yX4_isReadyIn, .instanceMethod yX4_isReadyIn, .selects RX4 yX4_isReadyIn yX4_isReadyIn, .initialized RX4, .code yX4_isReadyIn cX4_isReadyIn 3 (some .boolean), .fieldLink RX4 15 "TriggerAnalyzer$Rule" "bit" "I", .fieldLink RX4 35 "TriggerAnalyzer$Rule" "above" "I", .static yX6_triggeredIn, .initialized RX6, .code yX6_triggeredIn cX6_triggeredIn 1 (some .int)] ++ wsX50 ++ wsX40)
def wsX6_init_r1 : List Cond := [Cond.methodLink RX6 1 objectInit, Cond.instanceMethod objectInit, Cond.code objectInit ⟨#[0xb1]⟩ 1 none, Cond.classLink RX6 7 RX5, Cond.instantiable RX5 3, Cond.initialized RX5, Cond.fieldLink RX6 10 "TriggerAnalyzer" "book" "LTriggerAnalyzer$RuleBook;", Cond.classLink RX6 16 RX2, Cond.instantiable RX2 2, Cond.initialized RX2, Cond.fieldLink RX6 21 "TriggerAnalyzer" "judge" "LTriggerAnalyzer$Judge;", Cond.classLink RX6 25 RX1, Cond.instantiable RX1 12, Cond.initialized RX1, Cond.fieldLink RX6 28 "TriggerAnalyzer" "exploration" "LTriggerAnalyzer$Exploration;", Cond.methodLink RX6 9 yX5_init, Cond.instanceMethod yX5_init, Cond.code yX5_init cX5_init 2 none, Cond.methodLink RX5 3 objectInit, Cond.classLink RX5 9 RX4, Cond.fieldLink RX5 11 "TriggerAnalyzer$RuleBook" "rules" "[LTriggerAnalyzer$Rule;", Cond.arrayClass .int, Cond.fieldLink RX5 17 "TriggerAnalyzer$RuleBook" "listeners" "[I", Cond.instantiable RX4 11]
def wsX6_init_r2 : List Cond := [Cond.initialized RX4, Cond.methodLink RX5 21 yX4_init, Cond.instanceMethod yX4_init, Cond.code yX4_init cX4_init 2 none, Cond.methodLink RX4 3 objectInit, Cond.fieldLink RX4 9 "TriggerAnalyzer$Rule" "actions" "[I", Cond.fieldLink RX4 15 "TriggerAnalyzer$Rule" "bit" "I", Cond.methodLink RX6 18 yX2_init, Cond.instanceMethod yX2_init, Cond.code yX2_init cX2_init 2 none, Cond.methodLink RX2 3 objectInit, Cond.fieldLink RX2 9 "TriggerAnalyzer$Judge" "reach" "[I", Cond.fieldLink RX2 15 "TriggerAnalyzer$Judge" "book" "LTriggerAnalyzer$RuleBook;", Cond.methodLink RX6 27 yX1_init, Cond.instanceMethod yX1_init, Cond.code yX1_init cX1_init 2 none, Cond.methodLink RX1 3 objectInit, Cond.fieldLink RX1 9 "TriggerAnalyzer$Exploration" "situations" "[I", Cond.fieldLink RX1 15 "TriggerAnalyzer$Exploration" "depths" "[I", Cond.fieldLink RX1 18 "TriggerAnalyzer$Exploration" "nexts" "[I", Cond.fieldLink RX1 21 "TriggerAnalyzer$Exploration" "places" "[I", Cond.classLink RX1 24 RX0, Cond.instantiable RX0 3, Cond.initialized RX0]
def wsX6_init_r3 : List Cond := [Cond.fieldLink RX1 27 "TriggerAnalyzer$Exploration" "ends" "LTriggerAnalyzer$Ends;", Cond.classLink RX1 31 RX3, Cond.instantiable RX3 8, Cond.initialized RX3, Cond.fieldLink RX1 34 "TriggerAnalyzer$Exploration" "prospect" "LTriggerAnalyzer$Prospect;", Cond.fieldLink RX1 38 "TriggerAnalyzer$Exploration" "book" "LTriggerAnalyzer$RuleBook;", Cond.methodLink RX1 26 yX0_init, Cond.instanceMethod yX0_init, Cond.code yX0_init cX0_init 1 none, Cond.methodLink RX0 3 objectInit, Cond.fieldLink RX0 9 "TriggerAnalyzer$Ends" "facts" "[I", Cond.fieldLink RX0 15 "TriggerAnalyzer$Ends" "nearest" "I", Cond.methodLink RX1 33 yX3_init, Cond.instanceMethod yX3_init, Cond.code yX3_init cX3_init 1 none, Cond.methodLink RX3 3 objectInit, Cond.fieldLink RX3 9 "TriggerAnalyzer$Prospect" "incoming" "[I", Cond.fieldLink RX3 15 "TriggerAnalyzer$Prospect" "plays" "[I", Cond.arrayClass .long, Cond.fieldLink RX3 18 "TriggerAnalyzer$Prospect" "rows" "[J", Cond.fieldLink RX3 22 "TriggerAnalyzer$Prospect" "queue" "[I"]
def wsX6_init : List Cond := .code yX6_init cX6_init 1 none :: ((wsX6_init_r1 ++ (wsX6_init_r2 ++ wsX6_init_r3)) ++ wsX50 ++ wsX60 ++ wsX20 ++ wsX10 ++ wsX40 ++ wsX00 ++ wsX30)
def wsX6_needFact : List Cond := .code yX6_needFact cX6_needFact 1 none :: ([.classLink RX6 179 "java/lang/IndexOutOfBoundsException", .initialized "java/lang/IndexOutOfBoundsException"] ++ (vx_atS RX6 183 "java/lang/IndexOutOfBoundsException" ["java/lang/RuntimeException", "java/lang/Exception"]).filter goodWord)
def wsX6_needFactSet : List Cond := .code yX6_needFactSet cX6_needFactSet 1 none :: ([.classLink RX6 105 "java/lang/IllegalArgumentException", .initialized "java/lang/IllegalArgumentException"] ++ (vx_atS RX6 109 "java/lang/IllegalArgumentException" ["java/lang/RuntimeException", "java/lang/Exception"]).filter goodWord)
def wsX6_changeCode : List Cond := .code yX6_changeCode cX6_changeCode 2 (some .int) :: ([])
def wsX6_addRule_r1 : List Cond := [Cond.classLink RX6 43 "java/lang/IllegalStateException", Cond.initialized "java/lang/IllegalStateException", Cond.fieldLink RX6 10 "TriggerAnalyzer" "book" "LTriggerAnalyzer$RuleBook;", Cond.fieldLink RX6 28 "TriggerAnalyzer" "exploration" "LTriggerAnalyzer$Exploration;", Cond.methodLink RX6 32 yX6_needFact, Cond.static yX6_needFact, Cond.initialized RX6, Cond.code yX6_needFact cX6_needFact 1 none, Cond.classLink RX6 179 "java/lang/IndexOutOfBoundsException", Cond.initialized "java/lang/IndexOutOfBoundsException", Cond.methodLink RX6 36 yX6_needFactSet, Cond.static yX6_needFactSet, Cond.code yX6_needFactSet cX6_needFactSet 1 none, Cond.classLink RX6 105 "java/lang/IllegalArgumentException", Cond.initialized "java/lang/IllegalArgumentException", Cond.methodLink RX6 39 yX5_isFull, Cond.instanceMethod yX5_isFull, Cond.selects RX5 yX5_isFull yX5_isFull, Cond.initialized RX5, Cond.code yX5_isFull cX5_isFull 1 (some .boolean), Cond.fieldLink RX5 24 "TriggerAnalyzer$RuleBook" "count" "I", Cond.fieldLink RX5 11 "TriggerAnalyzer$RuleBook" "rules" "[LTriggerAnalyzer$Rule;", Cond.methodLink RX6 50 yX1_forget, Cond.instanceMethod yX1_forget]
def wsX6_addRule_r2 : List Cond := [Cond.selects RX1 yX1_forget yX1_forget, Cond.initialized RX1, Cond.code yX1_forget cX1_forget 1 none, Cond.fieldLink RX1 42 "TriggerAnalyzer$Exploration" "done" "Z", Cond.methodLink RX6 53 yX6_changeCode, Cond.static yX6_changeCode, Cond.code yX6_changeCode cX6_changeCode 2 (some .int), Cond.methodLink RX6 57 yX5_append, Cond.instanceMethod yX5_append, Cond.selects RX5 yX5_append yX5_append, Cond.code yX5_append cX5_append 6 (some .int), Cond.fieldLink RX5 28 "TriggerAnalyzer$Rule" "event" "I", Cond.fieldLink RX5 31 "TriggerAnalyzer$Rule" "must" "I", Cond.fieldLink RX5 34 "TriggerAnalyzer$Rule" "mustNot" "I", Cond.methodLink RX5 37 yX5_switchRule, Cond.instanceMethod yX5_switchRule, Cond.selects RX5 yX5_switchRule yX5_switchRule, Cond.code yX5_switchRule cX5_switchRule 4 none, Cond.fieldLink RX5 41 "TriggerAnalyzer$Rule" "on" "Z", Cond.fieldLink RX5 17 "TriggerAnalyzer$RuleBook" "listeners" "[I", Cond.fieldLink RX5 45 "TriggerAnalyzer$Rule" "bit" "I"]
def wsX6_addRule : List Cond := .code yX6_addRule cX6_addRule 5 (some .int) :: ((wsX6_addRule_r1 ++ wsX6_addRule_r2) ++ wsX60 ++ wsX50 ++ wsX10 ++ wsX40 ++ (vx_atS RX6 47 "java/lang/IllegalStateException" ["java/lang/RuntimeException", "java/lang/Exception"]).filter goodWord ++ (vx_atS RX6 183 "java/lang/IndexOutOfBoundsException" ["java/lang/RuntimeException", "java/lang/Exception"]).filter goodWord ++ (vx_atS RX6 109 "java/lang/IllegalArgumentException" ["java/lang/RuntimeException", "java/lang/Exception"]).filter goodWord)
def wsX6_ruleAt : List Cond := .code yX6_ruleAt cX6_ruleAt 3 (some (.object "TriggerAnalyzer$Rule")) :: ([.classLink RX6 179 "java/lang/IndexOutOfBoundsException", .initialized "java/lang/IndexOutOfBoundsException", .fieldLink RX6 10 "TriggerAnalyzer" "book" "LTriggerAnalyzer$RuleBook;", .methodLink RX6 230 yX5_ruleOrNull, .instanceMethod yX5_ruleOrNull, .selects RX5 yX5_ruleOrNull yX5_ruleOrNull, .initialized RX5, .code yX5_ruleOrNull cX5_ruleOrNull 2 (some (.object "TriggerAnalyzer$Rule")), .fieldLink RX5 24 "TriggerAnalyzer$RuleBook" "count" "I", .fieldLink RX5 11 "TriggerAnalyzer$RuleBook" "rules" "[LTriggerAnalyzer$Rule;"] ++ wsX60 ++ wsX50 ++ (vx_atS RX6 183 "java/lang/IndexOutOfBoundsException" ["java/lang/RuntimeException", "java/lang/Exception"]).filter goodWord)
def wsX6_addAction_r1 : List Cond := [Cond.classLink RX6 43 "java/lang/IllegalStateException", Cond.initialized "java/lang/IllegalStateException", Cond.fieldLink RX6 28 "TriggerAnalyzer" "exploration" "LTriggerAnalyzer$Exploration;", Cond.fieldLink RX6 72 "TriggerAnalyzer$Rule" "actionCount" "I", Cond.methodLink RX6 61 yX6_ruleAt, Cond.instanceMethod yX6_ruleAt, Cond.selects RX6 yX6_ruleAt yX6_ruleAt, Cond.initialized RX6, Cond.code yX6_ruleAt cX6_ruleAt 3 (some (.object "TriggerAnalyzer$Rule")), Cond.classLink RX6 179 "java/lang/IndexOutOfBoundsException", Cond.initialized "java/lang/IndexOutOfBoundsException", Cond.fieldLink RX6 10 "TriggerAnalyzer" "book" "LTriggerAnalyzer$RuleBook;", Cond.methodLink RX6 230 yX5_ruleOrNull, Cond.instanceMethod yX5_ruleOrNull, Cond.selects RX5 yX5_ruleOrNull yX5_ruleOrNull, Cond.initialized RX5, Cond.code yX5_ruleOrNull cX5_ruleOrNull 2 (some (.object "TriggerAnalyzer$Rule")), Cond.fieldLink RX5 24 "TriggerAnalyzer$RuleBook" "count" "I", Cond.fieldLink RX5 11 "TriggerAnalyzer$RuleBook" "rules" "[LTriggerAnalyzer$Rule;", Cond.methodLink RX6 32 yX6_needFact, Cond.static yX6_needFact, Cond.code yX6_needFact cX6_needFact 1 none, Cond.methodLink RX6 65 yX4_isFull, Cond.instanceMethod yX4_isFull]
def wsX6_addAction_r2 : List Cond := [Cond.selects RX4 yX4_isFull yX4_isFull, Cond.initialized RX4, Cond.code yX4_isFull cX4_isFull 1 (some .boolean), Cond.fieldLink RX4 19 "TriggerAnalyzer$Rule" "actionCount" "I", Cond.fieldLink RX4 9 "TriggerAnalyzer$Rule" "actions" "[I", Cond.methodLink RX6 50 yX1_forget, Cond.instanceMethod yX1_forget, Cond.selects RX1 yX1_forget yX1_forget, Cond.initialized RX1, Cond.code yX1_forget cX1_forget 1 none, Cond.fieldLink RX1 42 "TriggerAnalyzer$Exploration" "done" "Z", Cond.methodLink RX6 53 yX6_changeCode, Cond.static yX6_changeCode, Cond.code yX6_changeCode cX6_changeCode 2 (some .int), Cond.methodLink RX6 70 yX4_append, Cond.instanceMethod yX4_append, Cond.selects RX4 yX4_append yX4_append, Cond.code yX4_append cX4_append 3 none, Cond.fieldLink RX4 22 "TriggerAnalyzer$Rule" "setFacts" "I", Cond.fieldLink RX4 25 "TriggerAnalyzer$Rule" "unsetFacts" "I"]
def wsX6_addAction : List Cond := .code yX6_addAction cX6_addAction 5 (some .int) :: ((wsX6_addAction_r1 ++ wsX6_addAction_r2) ++ wsX60 ++ wsX40 ++ wsX50 ++ wsX10 ++ (vx_atS RX6 47 "java/lang/IllegalStateException" ["java/lang/RuntimeException", "java/lang/Exception"]).filter goodWord ++ (vx_atS RX6 183 "java/lang/IndexOutOfBoundsException" ["java/lang/RuntimeException", "java/lang/Exception"]).filter goodWord)
def wsX6_turn_r1 : List Cond := [Cond.fieldLink RX6 76 "TriggerAnalyzer$Rule" "on" "Z", Cond.fieldLink RX6 28 "TriggerAnalyzer" "exploration" "LTriggerAnalyzer$Exploration;", Cond.fieldLink RX6 10 "TriggerAnalyzer" "book" "LTriggerAnalyzer$RuleBook;", Cond.fieldLink RX6 84 "TriggerAnalyzer" "present" "I", Cond.fieldLink RX6 94 "TriggerAnalyzer$Rule" "bit" "I", Cond.methodLink RX6 61 yX6_ruleAt, Cond.instanceMethod yX6_ruleAt, Cond.selects RX6 yX6_ruleAt yX6_ruleAt, Cond.initialized RX6, Cond.code yX6_ruleAt cX6_ruleAt 3 (some (.object "TriggerAnalyzer$Rule")), Cond.classLink RX6 179 "java/lang/IndexOutOfBoundsException", Cond.initialized "java/lang/IndexOutOfBoundsException", Cond.methodLink RX6 230 yX5_ruleOrNull, Cond.instanceMethod yX5_ruleOrNull, Cond.selects RX5 yX5_ruleOrNull yX5_ruleOrNull, Cond.initialized RX5, Cond.code yX5_ruleOrNull cX5_ruleOrNull 2 (some (.object "TriggerAnalyzer$Rule")), Cond.fieldLink RX5 24 "TriggerAnalyzer$RuleBook" "count" "I", Cond.fieldLink RX5 11 "TriggerAnalyzer$RuleBook" "rules" "[LTriggerAnalyzer$Rule;", Cond.methodLink RX6 50 yX1_forget, Cond.instanceMethod yX1_forget, Cond.selects RX1 yX1_forget yX1_forget, Cond.initialized RX1, Cond.code yX1_forget cX1_forget 1 none]
def wsX6_turn_r2 : List Cond := [Cond.fieldLink RX1 42 "TriggerAnalyzer$Exploration" "done" "Z", Cond.methodLink RX6 80 yX5_switchRule, Cond.instanceMethod yX5_switchRule, Cond.selects RX5 yX5_switchRule yX5_switchRule, Cond.code yX5_switchRule cX5_switchRule 4 none, Cond.fieldLink RX5 41 "TriggerAnalyzer$Rule" "on" "Z", Cond.fieldLink RX5 28 "TriggerAnalyzer$Rule" "event" "I", Cond.fieldLink RX5 17 "TriggerAnalyzer$RuleBook" "listeners" "[I", Cond.fieldLink RX5 45 "TriggerAnalyzer$Rule" "bit" "I", Cond.methodLink RX6 87 yX6_factsIn, Cond.static yX6_factsIn, Cond.code yX6_factsIn cX6_factsIn 1 (some .int), Cond.methodLink RX6 91 yX6_triggeredIn, Cond.static yX6_triggeredIn, Cond.code yX6_triggeredIn cX6_triggeredIn 1 (some .int), Cond.methodLink RX6 97 yX6_situationOf, Cond.static yX6_situationOf, Cond.code yX6_situationOf cX6_situationOf 2 (some .int)]
def wsX6_turn : List Cond := .code yX6_turn cX6_turn 5 (some .boolean) :: ((wsX6_turn_r1 ++ wsX6_turn_r2) ++ wsX40 ++ wsX60 ++ wsX50 ++ wsX10 ++ (vx_atS RX6 183 "java/lang/IndexOutOfBoundsException" ["java/lang/RuntimeException", "java/lang/Exception"]).filter goodWord)
def wsX6_rank_r1 : List Cond := [Cond.classLink RX6 105 "java/lang/IllegalArgumentException", Cond.initialized "java/lang/IllegalArgumentException", Cond.fieldLink RX6 28 "TriggerAnalyzer" "exploration" "LTriggerAnalyzer$Exploration;", Cond.fieldLink RX6 10 "TriggerAnalyzer" "book" "LTriggerAnalyzer$RuleBook;", Cond.methodLink RX6 61 yX6_ruleAt, Cond.instanceMethod yX6_ruleAt, Cond.selects RX6 yX6_ruleAt yX6_ruleAt, Cond.initialized RX6, Cond.code yX6_ruleAt cX6_ruleAt 3 (some (.object "TriggerAnalyzer$Rule")), Cond.classLink RX6 179 "java/lang/IndexOutOfBoundsException", Cond.initialized "java/lang/IndexOutOfBoundsException", Cond.methodLink RX6 230 yX5_ruleOrNull, Cond.instanceMethod yX5_ruleOrNull, Cond.selects RX5 yX5_ruleOrNull yX5_ruleOrNull, Cond.initialized RX5, Cond.code yX5_ruleOrNull cX5_ruleOrNull 2 (some (.object "TriggerAnalyzer$Rule")), Cond.fieldLink RX5 24 "TriggerAnalyzer$RuleBook" "count" "I", Cond.fieldLink RX5 11 "TriggerAnalyzer$RuleBook" "rules" "[LTriggerAnalyzer$Rule;", Cond.methodLink RX6 101 yX4_isOver, Cond.instanceMethod yX4_isOver, Cond.selects RX4 yX4_isOver yX4_isOver, Cond.initialized RX4, Cond.code yX4_isOver cX4_isOver 2 (some .boolean), Cond.fieldLink RX4 28 "TriggerAnalyzer$Rule" "below" "I"]
def wsX6_rank_r2 : List Cond := [Cond.fieldLink RX4 15 "TriggerAnalyzer$Rule" "bit" "I", Cond.methodLink RX6 50 yX1_forget, Cond.instanceMethod yX1_forget, Cond.selects RX1 yX1_forget yX1_forget, Cond.initialized RX1, Cond.code yX1_forget cX1_forget 1 none, Cond.fieldLink RX1 42 "TriggerAnalyzer$Exploration" "done" "Z", Cond.methodLink RX6 110 yX5_order, Cond.instanceMethod yX5_order, Cond.selects RX5 yX5_order yX5_order, Cond.code yX5_order cX5_order 7 none, Cond.fieldLink RX5 48 "TriggerAnalyzer$Rule" "above" "I", Cond.fieldLink RX5 45 "TriggerAnalyzer$Rule" "bit" "I", Cond.fieldLink RX5 51 "TriggerAnalyzer$Rule" "below" "I"]
def wsX6_rank : List Cond := .code yX6_rank cX6_rank 6 (some .boolean) :: ((wsX6_rank_r1 ++ wsX6_rank_r2) ++ wsX60 ++ wsX50 ++ wsX40 ++ wsX10 ++ (vx_atS RX6 109 "java/lang/IllegalArgumentException" ["java/lang/RuntimeException", "java/lang/Exception"]).filter goodWord ++ (vx_atS RX6 183 "java/lang/IndexOutOfBoundsException" ["java/lang/RuntimeException", "java/lang/Exception"]).filter goodWord)
def wsX6_ruleCount : List Cond := .code yX6_ruleCount cX6_ruleCount 1 (some .int) :: ([.fieldLink RX6 10 "TriggerAnalyzer" "book" "LTriggerAnalyzer$RuleBook;", .methodLink RX6 114 yX5_size, .instanceMethod yX5_size, .selects RX5 yX5_size yX5_size, .initialized RX5, .code yX5_size cX5_size 1 (some .int), .fieldLink RX5 24 "TriggerAnalyzer$RuleBook" "count" "I"] ++ wsX60 ++ wsX50)
def wsX6_put : List Cond := .code yX6_put cX6_put 3 (some .int) :: ([.fieldLink RX6 84 "TriggerAnalyzer" "present" "I", .fieldLink RX6 28 "TriggerAnalyzer" "exploration" "LTriggerAnalyzer$Exploration;", .methodLink RX6 36 yX6_needFactSet, .static yX6_needFactSet, .initialized RX6, .code yX6_needFactSet cX6_needFactSet 1 none, .classLink RX6 105 "java/lang/IllegalArgumentException", .initialized "java/lang/IllegalArgumentException", .methodLink RX6 87 yX6_factsIn, .static yX6_factsIn, .code yX6_factsIn cX6_factsIn 1 (some .int), .methodLink RX6 50 yX1_forget, .instanceMethod yX1_forget, .selects RX1 yX1_forget yX1_forget, .initialized RX1, .code yX1_forget cX1_forget 1 none, .fieldLink RX1 42 "TriggerAnalyzer$Exploration" "done" "Z", .methodLink RX6 97 yX6_situationOf, .static yX6_situationOf, .code yX6_situationOf cX6_situationOf 2 (some .int)] ++ wsX60 ++ wsX10 ++ (vx_atS RX6 109 "java/lang/IllegalArgumentException" ["java/lang/RuntimeException", "java/lang/Exception"]).filter goodWord)
def wsX6_change_r1 : List Cond := [Cond.fieldLink RX6 28 "TriggerAnalyzer" "exploration" "LTriggerAnalyzer$Exploration;", Cond.fieldLink RX6 10 "TriggerAnalyzer" "book" "LTriggerAnalyzer$RuleBook;", Cond.fieldLink RX6 84 "TriggerAnalyzer" "present" "I", Cond.methodLink RX6 32 yX6_needFact, Cond.static yX6_needFact, Cond.initialized RX6, Cond.code yX6_needFact cX6_needFact 1 none, Cond.classLink RX6 179 "java/lang/IndexOutOfBoundsException", Cond.initialized "java/lang/IndexOutOfBoundsException", Cond.methodLink RX6 50 yX1_forget, Cond.instanceMethod yX1_forget, Cond.selects RX1 yX1_forget yX1_forget, Cond.initialized RX1, Cond.code yX1_forget cX1_forget 1 none, Cond.fieldLink RX1 42 "TriggerAnalyzer$Exploration" "done" "Z", Cond.methodLink RX6 53 yX6_changeCode, Cond.static yX6_changeCode, Cond.code yX6_changeCode cX6_changeCode 2 (some .int), Cond.methodLink RX6 118 yX5_changed, Cond.instanceMethod yX5_changed, Cond.selects RX5 yX5_changed yX5_changed, Cond.initialized RX5, Cond.code yX5_changed cX5_changed 7 (some .int), Cond.static yX6_triggeredIn]
def wsX6_change_r2 : List Cond := [Cond.code yX6_triggeredIn cX6_triggeredIn 1 (some .int), Cond.methodLink RX5 58 yX5_listenersTo, Cond.instanceMethod yX5_listenersTo, Cond.selects RX5 yX5_listenersTo yX5_listenersTo, Cond.code yX5_listenersTo cX5_listenersTo 2 (some .int), Cond.fieldLink RX5 17 "TriggerAnalyzer$RuleBook" "listeners" "[I", Cond.static yX6_factsIn, Cond.code yX6_factsIn cX6_factsIn 1 (some .int), Cond.static yX6_situationOf, Cond.code yX6_situationOf cX6_situationOf 2 (some .int), Cond.methodLink RX6 91 yX6_triggeredIn]
def wsX6_change : List Cond := .code yX6_change cX6_change 3 (some .int) :: ((wsX6_change_r1 ++ wsX6_change_r2) ++ wsX60 ++ wsX10 ++ wsX50 ++ (vx_atS RX6 183 "java/lang/IndexOutOfBoundsException" ["java/lang/RuntimeException", "java/lang/Exception"]).filter goodWord)
def wsX6_facts : List Cond := .code yX6_facts cX6_facts 1 (some .int) :: ([.fieldLink RX6 84 "TriggerAnalyzer" "present" "I", .methodLink RX6 87 yX6_factsIn, .static yX6_factsIn, .initialized RX6, .code yX6_factsIn cX6_factsIn 1 (some .int)] ++ wsX60)
def wsX6_triggered : List Cond := .code yX6_triggered cX6_triggered 1 (some .int) :: ([.fieldLink RX6 84 "TriggerAnalyzer" "present" "I", .methodLink RX6 91 yX6_triggeredIn, .static yX6_triggeredIn, .initialized RX6, .code yX6_triggeredIn cX6_triggeredIn 1 (some .int)] ++ wsX60)
def wsX6_run_r1 : List Cond := [Cond.classLink RX6 105 "java/lang/IllegalArgumentException", Cond.initialized "java/lang/IllegalArgumentException", Cond.fieldLink RX6 28 "TriggerAnalyzer" "exploration" "LTriggerAnalyzer$Exploration;", Cond.fieldLink RX6 10 "TriggerAnalyzer" "book" "LTriggerAnalyzer$RuleBook;", Cond.fieldLink RX6 84 "TriggerAnalyzer" "present" "I", Cond.methodLink RX6 50 yX1_forget, Cond.instanceMethod yX1_forget, Cond.selects RX1 yX1_forget yX1_forget, Cond.initialized RX1, Cond.code yX1_forget cX1_forget 1 none, Cond.fieldLink RX1 42 "TriggerAnalyzer$Exploration" "done" "Z", Cond.methodLink RX6 139 yX5_firstReadyIn, Cond.instanceMethod yX5_firstReadyIn, Cond.selects RX5 yX5_firstReadyIn yX5_firstReadyIn, Cond.initialized RX5, Cond.code yX5_firstReadyIn cX5_firstReadyIn 3 (some (.object "TriggerAnalyzer$Rule")), Cond.fieldLink RX5 11 "TriggerAnalyzer$RuleBook" "rules" "[LTriggerAnalyzer$Rule;", Cond.methodLink RX5 68 yX4_isReadyIn, Cond.instanceMethod yX4_isReadyIn, Cond.selects RX4 yX4_isReadyIn yX4_isReadyIn, Cond.initialized RX4, Cond.code yX4_isReadyIn cX4_isReadyIn 3 (some .boolean), Cond.fieldLink RX4 15 "TriggerAnalyzer$Rule" "bit" "I", Cond.fieldLink RX4 35 "TriggerAnalyzer$Rule" "above" "I"]
def wsX6_run_r2 : List Cond := [Cond.static yX6_triggeredIn, Cond.initialized RX6, Cond.code yX6_triggeredIn cX6_triggeredIn 1 (some .int), Cond.methodLink RX6 133 yX5_played, Cond.instanceMethod yX5_played, Cond.selects RX5 yX5_played yX5_played, Cond.code yX5_played cX5_played 5 (some .int), Cond.fieldLink RX5 45 "TriggerAnalyzer$Rule" "bit" "I", Cond.fieldLink RX5 75 "TriggerAnalyzer$Rule" "actionCount" "I", Cond.static yX6_factsIn, Cond.code yX6_factsIn cX6_factsIn 1 (some .int), Cond.static yX6_situationOf, Cond.code yX6_situationOf cX6_situationOf 2 (some .int), Cond.methodLink RX5 72 yX4_holdsIn, Cond.instanceMethod yX4_holdsIn, Cond.selects RX4 yX4_holdsIn yX4_holdsIn, Cond.code yX4_holdsIn cX4_holdsIn 3 (some .boolean), Cond.fieldLink RX4 41 "TriggerAnalyzer$Rule" "must" "I", Cond.fieldLink RX4 44 "TriggerAnalyzer$Rule" "mustNot" "I", Cond.methodLink RX5 78 yX4_actionAt, Cond.instanceMethod yX4_actionAt, Cond.selects RX4 yX4_actionAt yX4_actionAt, Cond.code yX4_actionAt cX4_actionAt 2 (some .int), Cond.fieldLink RX4 9 "TriggerAnalyzer$Rule" "actions" "[I"]
def wsX6_run_r3 : List Cond := [Cond.methodLink RX5 81 yX5_changed, Cond.instanceMethod yX5_changed, Cond.selects RX5 yX5_changed yX5_changed, Cond.code yX5_changed cX5_changed 7 (some .int), Cond.methodLink RX5 58 yX5_listenersTo, Cond.instanceMethod yX5_listenersTo, Cond.selects RX5 yX5_listenersTo yX5_listenersTo, Cond.code yX5_listenersTo cX5_listenersTo 2 (some .int), Cond.fieldLink RX5 17 "TriggerAnalyzer$RuleBook" "listeners" "[I"]
def wsX6_run : List Cond := .code yX6_run cX6_run 4 (some .int) :: ((wsX6_run_r1 ++ (wsX6_run_r2 ++ wsX6_run_r3)) ++ wsX60 ++ wsX10 ++ wsX50 ++ wsX40 ++ (vx_atS RX6 109 "java/lang/IllegalArgumentException" ["java/lang/RuntimeException", "java/lang/Exception"]).filter goodWord)
def wsX6_explore_r1 : List Cond := [Cond.fieldLink RX6 28 "TriggerAnalyzer" "exploration" "LTriggerAnalyzer$Exploration;", Cond.fieldLink RX6 84 "TriggerAnalyzer" "present" "I", Cond.methodLink RX6 142 yX1_isDone, Cond.instanceMethod yX1_isDone, Cond.selects RX1 yX1_isDone yX1_isDone, Cond.initialized RX1, Cond.code yX1_isDone cX1_isDone 1 (some .boolean), Cond.fieldLink RX1 42 "TriggerAnalyzer$Exploration" "done" "Z", Cond.methodLink RX6 145 yX1_search, Cond.instanceMethod yX1_search, Cond.selects RX1 yX1_search yX1_search, Cond.code yX1_search cX1_search 3 none, Cond.fieldLink RX1 49 "TriggerAnalyzer$Exploration" "count" "I", Cond.fieldLink RX1 46 "TriggerAnalyzer$Exploration" "tooMany" "Z", Cond.fieldLink RX1 34 "TriggerAnalyzer$Exploration" "prospect" "LTriggerAnalyzer$Prospect;", Cond.methodLink RX1 59 yX1_clear, Cond.instanceMethod yX1_clear, Cond.selects RX1 yX1_clear yX1_clear, Cond.code yX1_clear cX1_clear 2 none, Cond.fieldLink RX1 9 "TriggerAnalyzer$Exploration" "situations" "[I", Cond.fieldLink RX1 53 "TriggerAnalyzer$Exploration" "readyEver" "I", Cond.fieldLink RX1 56 "TriggerAnalyzer$Exploration" "choices" "I", Cond.fieldLink RX1 27 "TriggerAnalyzer$Exploration" "ends" "LTriggerAnalyzer$Ends;", Cond.methodLink RX1 74 yX1_mark]
def wsX6_explore_r2 : List Cond := [Cond.instanceMethod yX1_mark, Cond.selects RX1 yX1_mark yX1_mark, Cond.code yX1_mark cX1_mark 3 none, Cond.fieldLink RX1 21 "TriggerAnalyzer$Exploration" "places" "[I", Cond.methodLink RX1 78 yX0_clear, Cond.instanceMethod yX0_clear, Cond.selects RX0 yX0_clear yX0_clear, Cond.initialized RX0, Cond.code yX0_clear cX0_clear 1 none, Cond.fieldLink RX0 19 "TriggerAnalyzer$Ends" "count" "I", Cond.fieldLink RX0 15 "TriggerAnalyzer$Ends" "nearest" "I", Cond.methodLink RX1 62 yX1_findOrAdd, Cond.instanceMethod yX1_findOrAdd, Cond.selects RX1 yX1_findOrAdd yX1_findOrAdd, Cond.code yX1_findOrAdd cX1_findOrAdd 3 (some .int), Cond.fieldLink RX1 15 "TriggerAnalyzer$Exploration" "depths" "[I", Cond.methodLink RX1 66 yX1_expand, Cond.instanceMethod yX1_expand, Cond.selects RX1 yX1_expand yX1_expand, Cond.code yX1_expand cX1_expand 7 none, Cond.fieldLink RX1 38 "TriggerAnalyzer$Exploration" "book" "LTriggerAnalyzer$RuleBook;", Cond.fieldLink RX1 103 "TriggerAnalyzer$Rule" "bit" "I", Cond.methodLink RX1 79 yX5_readyIn, Cond.instanceMethod yX5_readyIn]
def wsX6_explore_r3 : List Cond := [Cond.selects RX5 yX5_readyIn yX5_readyIn, Cond.initialized RX5, Cond.code yX5_readyIn cX5_readyIn 4 (some .int), Cond.fieldLink RX5 11 "TriggerAnalyzer$RuleBook" "rules" "[LTriggerAnalyzer$Rule;", Cond.fieldLink RX5 45 "TriggerAnalyzer$Rule" "bit" "I", Cond.methodLink RX5 68 yX4_isReadyIn, Cond.instanceMethod yX4_isReadyIn, Cond.selects RX4 yX4_isReadyIn yX4_isReadyIn, Cond.initialized RX4, Cond.code yX4_isReadyIn cX4_isReadyIn 3 (some .boolean), Cond.fieldLink RX4 15 "TriggerAnalyzer$Rule" "bit" "I", Cond.fieldLink RX4 35 "TriggerAnalyzer$Rule" "above" "I", Cond.static yX6_triggeredIn, Cond.initialized RX6, Cond.code yX6_triggeredIn cX6_triggeredIn 1 (some .int), Cond.methodLink RX1 85 yJ6_bitCount_0f7a4, Cond.static yJ6_bitCount_0f7a4, Cond.initialized RJ6, Cond.code yJ6_bitCount_0f7a4 cJ6_bitCount_0f7a4 1 (some .int), Cond.constant RJ6 265 (1431655765), Cond.constant RJ6 266 (858993459), Cond.constant RJ6 267 (252645135), Cond.static yX6_factsIn, Cond.code yX6_factsIn cX6_factsIn 1 (some .int)]
def wsX6_explore_r4 : List Cond := [Cond.methodLink RX1 96 yX0_append, Cond.instanceMethod yX0_append, Cond.selects RX0 yX0_append yX0_append, Cond.code yX0_append cX0_append 3 none, Cond.fieldLink RX0 9 "TriggerAnalyzer$Ends" "facts" "[I", Cond.methodLink RX1 99 yX5_ruleOrNull, Cond.instanceMethod yX5_ruleOrNull, Cond.selects RX5 yX5_ruleOrNull yX5_ruleOrNull, Cond.code yX5_ruleOrNull cX5_ruleOrNull 2 (some (.object "TriggerAnalyzer$Rule")), Cond.fieldLink RX5 24 "TriggerAnalyzer$RuleBook" "count" "I", Cond.methodLink RX1 108 yX5_played, Cond.instanceMethod yX5_played, Cond.selects RX5 yX5_played yX5_played, Cond.code yX5_played cX5_played 5 (some .int), Cond.fieldLink RX5 75 "TriggerAnalyzer$Rule" "actionCount" "I", Cond.static yX6_situationOf, Cond.code yX6_situationOf cX6_situationOf 2 (some .int), Cond.methodLink RX5 72 yX4_holdsIn, Cond.instanceMethod yX4_holdsIn, Cond.selects RX4 yX4_holdsIn yX4_holdsIn, Cond.code yX4_holdsIn cX4_holdsIn 3 (some .boolean), Cond.fieldLink RX4 41 "TriggerAnalyzer$Rule" "must" "I", Cond.fieldLink RX4 44 "TriggerAnalyzer$Rule" "mustNot" "I", Cond.methodLink RX5 78 yX4_actionAt]
def wsX6_explore_r5 : List Cond := [Cond.instanceMethod yX4_actionAt, Cond.selects RX4 yX4_actionAt yX4_actionAt, Cond.code yX4_actionAt cX4_actionAt 2 (some .int), Cond.fieldLink RX4 9 "TriggerAnalyzer$Rule" "actions" "[I", Cond.methodLink RX5 81 yX5_changed, Cond.instanceMethod yX5_changed, Cond.selects RX5 yX5_changed yX5_changed, Cond.code yX5_changed cX5_changed 7 (some .int), Cond.methodLink RX5 58 yX5_listenersTo, Cond.instanceMethod yX5_listenersTo, Cond.selects RX5 yX5_listenersTo yX5_listenersTo, Cond.code yX5_listenersTo cX5_listenersTo 2 (some .int), Cond.fieldLink RX5 17 "TriggerAnalyzer$RuleBook" "listeners" "[I", Cond.methodLink RX1 112 yX1_keepNext, Cond.instanceMethod yX1_keepNext, Cond.selects RX1 yX1_keepNext yX1_keepNext, Cond.code yX1_keepNext cX1_keepNext 3 none, Cond.fieldLink RX1 18 "TriggerAnalyzer$Exploration" "nexts" "[I", Cond.methodLink RX1 70 yX3_study, Cond.instanceMethod yX3_study, Cond.selects RX3 yX3_study yX3_study, Cond.initialized RX3, Cond.code yX3_study cX3_study 3 none, Cond.fieldLink RX3 46 "TriggerAnalyzer$Prospect" "queued" "I"]
def wsX6_explore_r6 : List Cond := [Cond.fieldLink RX3 22 "TriggerAnalyzer$Prospect" "queue" "[I", Cond.fieldLink RX3 25 "TriggerAnalyzer$Prospect" "finite" "Z", Cond.methodLink RX3 39 yX3_countIncoming, Cond.instanceMethod yX3_countIncoming, Cond.selects RX3 yX3_countIncoming yX3_countIncoming, Cond.code yX3_countIncoming cX3_countIncoming 5 none, Cond.fieldLink RX3 9 "TriggerAnalyzer$Prospect" "incoming" "[I", Cond.fieldLink RX3 15 "TriggerAnalyzer$Prospect" "plays" "[I", Cond.fieldLink RX3 18 "TriggerAnalyzer$Prospect" "rows" "[J", Cond.methodLink RX3 53 yX1_size, Cond.instanceMethod yX1_size, Cond.selects RX1 yX1_size yX1_size, Cond.code yX1_size cX1_size 1 (some .int), Cond.methodLink RX3 59 yX1_nextOf, Cond.instanceMethod yX1_nextOf, Cond.selects RX1 yX1_nextOf yX1_nextOf, Cond.code yX1_nextOf cX1_nextOf 4 (some .int), Cond.methodLink RX3 43 yX3_startAtFirst, Cond.instanceMethod yX3_startAtFirst, Cond.selects RX3 yX3_startAtFirst yX3_startAtFirst, Cond.code yX3_startAtFirst cX3_startAtFirst 1 none, Cond.fieldLink RX3 29 "TriggerAnalyzer$Prospect" "longestRow" "I", Cond.fieldLink RX3 33 "TriggerAnalyzer$Prospect" "endedRows" "J", Cond.methodLink RX3 63 yX3_enqueue]
def wsX6_explore_r7 : List Cond := [Cond.instanceMethod yX3_enqueue, Cond.selects RX3 yX3_enqueue yX3_enqueue, Cond.code yX3_enqueue cX3_enqueue 2 none, Cond.methodLink RX3 49 yX3_take, Cond.instanceMethod yX3_take, Cond.selects RX3 yX3_take yX3_take, Cond.code yX3_take cX3_take 6 none, Cond.methodLink RX3 71 Lib.Math.max.name, Cond.static Lib.Math.max.name, Cond.initialized "java/lang/Math", Cond.code Lib.Math.max.name Lib.Math.max.code 2 (some .int), Cond.methodLink RX3 67 yX3_lead, Cond.instanceMethod yX3_lead, Cond.selects RX3 yX3_lead yX3_lead, Cond.code yX3_lead cX3_lead 5 none, Cond.methodLink RX6 148 yX1_answer, Cond.instanceMethod yX1_answer, Cond.selects RX1 yX1_answer yX1_answer, Cond.code yX1_answer cX1_answer 1 (some .int)]
def wsX6_explore : List Cond := .code yX6_explore cX6_explore 1 (some .int) :: ((wsX6_explore_r1 ++ (wsX6_explore_r2 ++ (wsX6_explore_r3 ++ (wsX6_explore_r4 ++ (wsX6_explore_r5 ++ (wsX6_explore_r6 ++ wsX6_explore_r7)))))) ++ wsX60 ++ wsX10 ++ wsX00 ++ wsX40 ++ wsX50 ++ wsX30)
def wsX6_needExplored : List Cond := .code yX6_needExplored cX6_needExplored 1 none :: ([.classLink RX6 43 "java/lang/IllegalStateException", .initialized "java/lang/IllegalStateException", .fieldLink RX6 28 "TriggerAnalyzer" "exploration" "LTriggerAnalyzer$Exploration;", .methodLink RX6 240 yX1_isUsable, .instanceMethod yX1_isUsable, .selects RX1 yX1_isUsable yX1_isUsable, .initialized RX1, .code yX1_isUsable cX1_isUsable 1 (some .boolean), .fieldLink RX1 42 "TriggerAnalyzer$Exploration" "done" "Z", .fieldLink RX1 46 "TriggerAnalyzer$Exploration" "tooMany" "Z"] ++ wsX60 ++ wsX10 ++ (vx_atS RX6 47 "java/lang/IllegalStateException" ["java/lang/RuntimeException", "java/lang/Exception"]).filter goodWord)
def wsX6_exploredAt : List Cond := .code yX6_exploredAt cX6_exploredAt 3 (some .int) :: ([.classLink RX6 179 "java/lang/IndexOutOfBoundsException", .initialized "java/lang/IndexOutOfBoundsException", .fieldLink RX6 28 "TriggerAnalyzer" "exploration" "LTriggerAnalyzer$Exploration;", .methodLink RX6 157 yX6_needExplored, .instanceMethod yX6_needExplored, .selects RX6 yX6_needExplored yX6_needExplored, .initialized RX6, .code yX6_needExplored cX6_needExplored 1 none, .classLink RX6 43 "java/lang/IllegalStateException", .initialized "java/lang/IllegalStateException", .methodLink RX6 240 yX1_isUsable, .instanceMethod yX1_isUsable, .selects RX1 yX1_isUsable yX1_isUsable, .initialized RX1, .code yX1_isUsable cX1_isUsable 1 (some .boolean), .fieldLink RX1 42 "TriggerAnalyzer$Exploration" "done" "Z", .fieldLink RX1 46 "TriggerAnalyzer$Exploration" "tooMany" "Z", .methodLink RX6 235 yX1_situationAt, .instanceMethod yX1_situationAt, .selects RX1 yX1_situationAt yX1_situationAt, .code yX1_situationAt cX1_situationAt 2 (some .int), .fieldLink RX1 49 "TriggerAnalyzer$Exploration" "count" "I", .fieldLink RX1 9 "TriggerAnalyzer$Exploration" "situations" "[I"] ++ wsX60 ++ wsX10 ++ (vx_atS RX6 183 "java/lang/IndexOutOfBoundsException" ["java/lang/RuntimeException", "java/lang/Exception"]).filter goodWord ++ (vx_atS RX6 47 "java/lang/IllegalStateException" ["java/lang/RuntimeException", "java/lang/Exception"]).filter goodWord)
def wsX6_factsOf_r1 : List Cond := [Cond.methodLink RX6 151 yX6_exploredAt, Cond.instanceMethod yX6_exploredAt, Cond.selects RX6 yX6_exploredAt yX6_exploredAt, Cond.initialized RX6, Cond.code yX6_exploredAt cX6_exploredAt 3 (some .int), Cond.classLink RX6 179 "java/lang/IndexOutOfBoundsException", Cond.initialized "java/lang/IndexOutOfBoundsException", Cond.fieldLink RX6 28 "TriggerAnalyzer" "exploration" "LTriggerAnalyzer$Exploration;", Cond.methodLink RX6 157 yX6_needExplored, Cond.instanceMethod yX6_needExplored, Cond.selects RX6 yX6_needExplored yX6_needExplored, Cond.code yX6_needExplored cX6_needExplored 1 none, Cond.classLink RX6 43 "java/lang/IllegalStateException", Cond.initialized "java/lang/IllegalStateException", Cond.methodLink RX6 240 yX1_isUsable, Cond.instanceMethod yX1_isUsable, Cond.selects RX1 yX1_isUsable yX1_isUsable, Cond.initialized RX1, Cond.code yX1_isUsable cX1_isUsable 1 (some .boolean), Cond.fieldLink RX1 42 "TriggerAnalyzer$Exploration" "done" "Z", Cond.fieldLink RX1 46 "TriggerAnalyzer$Exploration" "tooMany" "Z", Cond.methodLink RX6 235 yX1_situationAt, Cond.instanceMethod yX1_situationAt, Cond.selects RX1 yX1_situationAt yX1_situationAt]
def wsX6_factsOf_r2 : List Cond := [Cond.code yX1_situationAt cX1_situationAt 2 (some .int), Cond.fieldLink RX1 49 "TriggerAnalyzer$Exploration" "count" "I", Cond.fieldLink RX1 9 "TriggerAnalyzer$Exploration" "situations" "[I", Cond.methodLink RX6 87 yX6_factsIn, Cond.static yX6_factsIn, Cond.code yX6_factsIn cX6_factsIn 1 (some .int)]
def wsX6_factsOf : List Cond := .code yX6_factsOf cX6_factsOf 2 (some .int) :: ((wsX6_factsOf_r1 ++ wsX6_factsOf_r2) ++ wsX60 ++ wsX10 ++ (vx_atS RX6 183 "java/lang/IndexOutOfBoundsException" ["java/lang/RuntimeException", "java/lang/Exception"]).filter goodWord ++ (vx_atS RX6 47 "java/lang/IllegalStateException" ["java/lang/RuntimeException", "java/lang/Exception"]).filter goodWord)
def wsX6_triggeredOf_r1 : List Cond := [Cond.methodLink RX6 151 yX6_exploredAt, Cond.instanceMethod yX6_exploredAt, Cond.selects RX6 yX6_exploredAt yX6_exploredAt, Cond.initialized RX6, Cond.code yX6_exploredAt cX6_exploredAt 3 (some .int), Cond.classLink RX6 179 "java/lang/IndexOutOfBoundsException", Cond.initialized "java/lang/IndexOutOfBoundsException", Cond.fieldLink RX6 28 "TriggerAnalyzer" "exploration" "LTriggerAnalyzer$Exploration;", Cond.methodLink RX6 157 yX6_needExplored, Cond.instanceMethod yX6_needExplored, Cond.selects RX6 yX6_needExplored yX6_needExplored, Cond.code yX6_needExplored cX6_needExplored 1 none, Cond.classLink RX6 43 "java/lang/IllegalStateException", Cond.initialized "java/lang/IllegalStateException", Cond.methodLink RX6 240 yX1_isUsable, Cond.instanceMethod yX1_isUsable, Cond.selects RX1 yX1_isUsable yX1_isUsable, Cond.initialized RX1, Cond.code yX1_isUsable cX1_isUsable 1 (some .boolean), Cond.fieldLink RX1 42 "TriggerAnalyzer$Exploration" "done" "Z", Cond.fieldLink RX1 46 "TriggerAnalyzer$Exploration" "tooMany" "Z", Cond.methodLink RX6 235 yX1_situationAt, Cond.instanceMethod yX1_situationAt, Cond.selects RX1 yX1_situationAt yX1_situationAt]
def wsX6_triggeredOf_r2 : List Cond := [Cond.code yX1_situationAt cX1_situationAt 2 (some .int), Cond.fieldLink RX1 49 "TriggerAnalyzer$Exploration" "count" "I", Cond.fieldLink RX1 9 "TriggerAnalyzer$Exploration" "situations" "[I", Cond.methodLink RX6 91 yX6_triggeredIn, Cond.static yX6_triggeredIn, Cond.code yX6_triggeredIn cX6_triggeredIn 1 (some .int)]
def wsX6_triggeredOf : List Cond := .code yX6_triggeredOf cX6_triggeredOf 2 (some .int) :: ((wsX6_triggeredOf_r1 ++ wsX6_triggeredOf_r2) ++ wsX60 ++ wsX10 ++ (vx_atS RX6 183 "java/lang/IndexOutOfBoundsException" ["java/lang/RuntimeException", "java/lang/Exception"]).filter goodWord ++ (vx_atS RX6 47 "java/lang/IllegalStateException" ["java/lang/RuntimeException", "java/lang/Exception"]).filter goodWord)
def wsX6_after_r1 : List Cond := [Cond.fieldLink RX6 28 "TriggerAnalyzer" "exploration" "LTriggerAnalyzer$Exploration;", Cond.methodLink RX6 151 yX6_exploredAt, Cond.instanceMethod yX6_exploredAt, Cond.selects RX6 yX6_exploredAt yX6_exploredAt, Cond.initialized RX6, Cond.code yX6_exploredAt cX6_exploredAt 3 (some .int), Cond.classLink RX6 179 "java/lang/IndexOutOfBoundsException", Cond.initialized "java/lang/IndexOutOfBoundsException", Cond.methodLink RX6 157 yX6_needExplored, Cond.instanceMethod yX6_needExplored, Cond.selects RX6 yX6_needExplored yX6_needExplored, Cond.code yX6_needExplored cX6_needExplored 1 none, Cond.classLink RX6 43 "java/lang/IllegalStateException", Cond.initialized "java/lang/IllegalStateException", Cond.methodLink RX6 240 yX1_isUsable, Cond.instanceMethod yX1_isUsable, Cond.selects RX1 yX1_isUsable yX1_isUsable, Cond.initialized RX1, Cond.code yX1_isUsable cX1_isUsable 1 (some .boolean), Cond.fieldLink RX1 42 "TriggerAnalyzer$Exploration" "done" "Z", Cond.fieldLink RX1 46 "TriggerAnalyzer$Exploration" "tooMany" "Z", Cond.methodLink RX6 235 yX1_situationAt, Cond.instanceMethod yX1_situationAt, Cond.selects RX1 yX1_situationAt yX1_situationAt]
def wsX6_after_r2 : List Cond := [Cond.code yX1_situationAt cX1_situationAt 2 (some .int), Cond.fieldLink RX1 49 "TriggerAnalyzer$Exploration" "count" "I", Cond.fieldLink RX1 9 "TriggerAnalyzer$Exploration" "situations" "[I", Cond.methodLink RX6 61 yX6_ruleAt, Cond.instanceMethod yX6_ruleAt, Cond.selects RX6 yX6_ruleAt yX6_ruleAt, Cond.code yX6_ruleAt cX6_ruleAt 3 (some (.object "TriggerAnalyzer$Rule")), Cond.fieldLink RX6 10 "TriggerAnalyzer" "book" "LTriggerAnalyzer$RuleBook;", Cond.methodLink RX6 230 yX5_ruleOrNull, Cond.instanceMethod yX5_ruleOrNull, Cond.selects RX5 yX5_ruleOrNull yX5_ruleOrNull, Cond.initialized RX5, Cond.code yX5_ruleOrNull cX5_ruleOrNull 2 (some (.object "TriggerAnalyzer$Rule")), Cond.fieldLink RX5 24 "TriggerAnalyzer$RuleBook" "count" "I", Cond.fieldLink RX5 11 "TriggerAnalyzer$RuleBook" "rules" "[LTriggerAnalyzer$Rule;", Cond.methodLink RX6 154 yX1_nextOf, Cond.instanceMethod yX1_nextOf, Cond.selects RX1 yX1_nextOf yX1_nextOf, Cond.code yX1_nextOf cX1_nextOf 4 (some .int), Cond.fieldLink RX1 18 "TriggerAnalyzer$Exploration" "nexts" "[I"]
def wsX6_after : List Cond := .code yX6_after cX6_after 3 (some .int) :: ((wsX6_after_r1 ++ wsX6_after_r2) ++ wsX60 ++ wsX10 ++ wsX50 ++ (vx_atS RX6 183 "java/lang/IndexOutOfBoundsException" ["java/lang/RuntimeException", "java/lang/Exception"]).filter goodWord ++ (vx_atS RX6 47 "java/lang/IllegalStateException" ["java/lang/RuntimeException", "java/lang/Exception"]).filter goodWord)
def wsX6_terminates : List Cond := .code yX6_terminates cX6_terminates 1 (some .boolean) :: ([.fieldLink RX6 28 "TriggerAnalyzer" "exploration" "LTriggerAnalyzer$Exploration;", .fieldLink RX6 160 "TriggerAnalyzer$Exploration" "prospect" "LTriggerAnalyzer$Prospect;", .methodLink RX6 157 yX6_needExplored, .instanceMethod yX6_needExplored, .selects RX6 yX6_needExplored yX6_needExplored, .initialized RX6, .code yX6_needExplored cX6_needExplored 1 none, .classLink RX6 43 "java/lang/IllegalStateException", .initialized "java/lang/IllegalStateException", .methodLink RX6 240 yX1_isUsable, .instanceMethod yX1_isUsable, .selects RX1 yX1_isUsable yX1_isUsable, .initialized RX1, .code yX1_isUsable cX1_isUsable 1 (some .boolean), .fieldLink RX1 42 "TriggerAnalyzer$Exploration" "done" "Z", .fieldLink RX1 46 "TriggerAnalyzer$Exploration" "tooMany" "Z", .methodLink RX6 164 yX3_isFinite, .instanceMethod yX3_isFinite, .selects RX3 yX3_isFinite yX3_isFinite, .initialized RX3, .code yX3_isFinite cX3_isFinite 1 (some .boolean), .fieldLink RX3 25 "TriggerAnalyzer$Prospect" "finite" "Z"] ++ wsX60 ++ wsX10 ++ wsX30 ++ (vx_atS RX6 47 "java/lang/IllegalStateException" ["java/lang/RuntimeException", "java/lang/Exception"]).filter goodWord)
def wsX6_endCount : List Cond := .code yX6_endCount cX6_endCount 1 (some .int) :: ([.fieldLink RX6 28 "TriggerAnalyzer" "exploration" "LTriggerAnalyzer$Exploration;", .fieldLink RX6 169 "TriggerAnalyzer$Exploration" "ends" "LTriggerAnalyzer$Ends;", .methodLink RX6 157 yX6_needExplored, .instanceMethod yX6_needExplored, .selects RX6 yX6_needExplored yX6_needExplored, .initialized RX6, .code yX6_needExplored cX6_needExplored 1 none, .classLink RX6 43 "java/lang/IllegalStateException", .initialized "java/lang/IllegalStateException", .methodLink RX6 240 yX1_isUsable, .instanceMethod yX1_isUsable, .selects RX1 yX1_isUsable yX1_isUsable, .initialized RX1, .code yX1_isUsable cX1_isUsable 1 (some .boolean), .fieldLink RX1 42 "TriggerAnalyzer$Exploration" "done" "Z", .fieldLink RX1 46 "TriggerAnalyzer$Exploration" "tooMany" "Z", .methodLink RX6 173 yX0_size, .instanceMethod yX0_size, .selects RX0 yX0_size yX0_size, .initialized RX0, .code yX0_size cX0_size 1 (some .int), .fieldLink RX0 19 "TriggerAnalyzer$Ends" "count" "I"] ++ wsX60 ++ wsX10 ++ wsX00 ++ (vx_atS RX6 47 "java/lang/IllegalStateException" ["java/lang/RuntimeException", "java/lang/Exception"]).filter goodWord)
def wsX6_shortest : List Cond := .code yX6_shortest cX6_shortest 1 (some .int) :: ([.fieldLink RX6 28 "TriggerAnalyzer" "exploration" "LTriggerAnalyzer$Exploration;", .fieldLink RX6 169 "TriggerAnalyzer$Exploration" "ends" "LTriggerAnalyzer$Ends;", .methodLink RX6 157 yX6_needExplored, .instanceMethod yX6_needExplored, .selects RX6 yX6_needExplored yX6_needExplored, .initialized RX6, .code yX6_needExplored cX6_needExplored 1 none, .classLink RX6 43 "java/lang/IllegalStateException", .initialized "java/lang/IllegalStateException", .methodLink RX6 240 yX1_isUsable, .instanceMethod yX1_isUsable, .selects RX1 yX1_isUsable yX1_isUsable, .initialized RX1, .code yX1_isUsable cX1_isUsable 1 (some .boolean), .fieldLink RX1 42 "TriggerAnalyzer$Exploration" "done" "Z", .fieldLink RX1 46 "TriggerAnalyzer$Exploration" "tooMany" "Z", .methodLink RX6 184 yX0_firstDepth, .instanceMethod yX0_firstDepth, .selects RX0 yX0_firstDepth yX0_firstDepth, .initialized RX0, .code yX0_firstDepth cX0_firstDepth 1 (some .int), .fieldLink RX0 15 "TriggerAnalyzer$Ends" "nearest" "I"] ++ wsX60 ++ wsX10 ++ wsX00 ++ (vx_atS RX6 47 "java/lang/IllegalStateException" ["java/lang/RuntimeException", "java/lang/Exception"]).filter goodWord)
def wsX6_longest : List Cond := .code yX6_longest cX6_longest 1 (some .int) :: ([.fieldLink RX6 28 "TriggerAnalyzer" "exploration" "LTriggerAnalyzer$Exploration;", .fieldLink RX6 160 "TriggerAnalyzer$Exploration" "prospect" "LTriggerAnalyzer$Prospect;", .methodLink RX6 157 yX6_needExplored, .instanceMethod yX6_needExplored, .selects RX6 yX6_needExplored yX6_needExplored, .initialized RX6, .code yX6_needExplored cX6_needExplored 1 none, .classLink RX6 43 "java/lang/IllegalStateException", .initialized "java/lang/IllegalStateException", .methodLink RX6 240 yX1_isUsable, .instanceMethod yX1_isUsable, .selects RX1 yX1_isUsable yX1_isUsable, .initialized RX1, .code yX1_isUsable cX1_isUsable 1 (some .boolean), .fieldLink RX1 42 "TriggerAnalyzer$Exploration" "done" "Z", .fieldLink RX1 46 "TriggerAnalyzer$Exploration" "tooMany" "Z", .methodLink RX6 187 yX3_mostPlays, .instanceMethod yX3_mostPlays, .selects RX3 yX3_mostPlays yX3_mostPlays, .initialized RX3, .code yX3_mostPlays cX3_mostPlays 1 (some .int), .fieldLink RX3 25 "TriggerAnalyzer$Prospect" "finite" "Z", .fieldLink RX3 29 "TriggerAnalyzer$Prospect" "longestRow" "I"] ++ wsX60 ++ wsX10 ++ wsX30 ++ (vx_atS RX6 47 "java/lang/IllegalStateException" ["java/lang/RuntimeException", "java/lang/Exception"]).filter goodWord)
def wsX6_ways : List Cond := .code yX6_ways cX6_ways 1 (some .long) :: ([.fieldLink RX6 28 "TriggerAnalyzer" "exploration" "LTriggerAnalyzer$Exploration;", .fieldLink RX6 160 "TriggerAnalyzer$Exploration" "prospect" "LTriggerAnalyzer$Prospect;", .methodLink RX6 157 yX6_needExplored, .instanceMethod yX6_needExplored, .selects RX6 yX6_needExplored yX6_needExplored, .initialized RX6, .code yX6_needExplored cX6_needExplored 1 none, .classLink RX6 43 "java/lang/IllegalStateException", .initialized "java/lang/IllegalStateException", .methodLink RX6 240 yX1_isUsable, .instanceMethod yX1_isUsable, .selects RX1 yX1_isUsable yX1_isUsable, .initialized RX1, .code yX1_isUsable cX1_isUsable 1 (some .boolean), .fieldLink RX1 42 "TriggerAnalyzer$Exploration" "done" "Z", .fieldLink RX1 46 "TriggerAnalyzer$Exploration" "tooMany" "Z", .methodLink RX6 190 yX3_wayCount, .instanceMethod yX3_wayCount, .selects RX3 yX3_wayCount yX3_wayCount, .initialized RX3, .code yX3_wayCount cX3_wayCount 1 (some .long), .fieldLink RX3 25 "TriggerAnalyzer$Prospect" "finite" "Z", .fieldLink RX3 33 "TriggerAnalyzer$Prospect" "endedRows" "J", .constantLong RX3 37 (-1)] ++ wsX60 ++ wsX10 ++ wsX30 ++ (vx_atS RX6 47 "java/lang/IllegalStateException" ["java/lang/RuntimeException", "java/lang/Exception"]).filter goodWord)
def wsX6_circular_r1 : List Cond := [Cond.fieldLink RX6 21 "TriggerAnalyzer" "judge" "LTriggerAnalyzer$Judge;", Cond.methodLink RX6 205 yX2_inCircles, Cond.instanceMethod yX2_inCircles, Cond.selects RX2 yX2_inCircles yX2_inCircles, Cond.initialized RX2, Cond.code yX2_inCircles cX2_inCircles 3 (some .int), Cond.fieldLink RX2 9 "TriggerAnalyzer$Judge" "reach" "[I", Cond.methodLink RX2 19 yX2_spreadReach, Cond.instanceMethod yX2_spreadReach, Cond.selects RX2 yX2_spreadReach yX2_spreadReach, Cond.code yX2_spreadReach cX2_spreadReach 3 none, Cond.fieldLink RX2 15 "TriggerAnalyzer$Judge" "book" "LTriggerAnalyzer$RuleBook;", Cond.methodLink RX2 22 yX5_ruleOrNull, Cond.instanceMethod yX5_ruleOrNull, Cond.selects RX5 yX5_ruleOrNull yX5_ruleOrNull, Cond.initialized RX5, Cond.code yX5_ruleOrNull cX5_ruleOrNull 2 (some (.object "TriggerAnalyzer$Rule")), Cond.fieldLink RX5 24 "TriggerAnalyzer$RuleBook" "count" "I", Cond.fieldLink RX5 11 "TriggerAnalyzer$RuleBook" "rules" "[LTriggerAnalyzer$Rule;", Cond.methodLink RX2 28 yX5_triggerableBy, Cond.instanceMethod yX5_triggerableBy, Cond.selects RX5 yX5_triggerableBy yX5_triggerableBy, Cond.code yX5_triggerableBy cX5_triggerableBy 4 (some .int), Cond.fieldLink RX5 41 "TriggerAnalyzer$Rule" "on" "Z"]
def wsX6_circular_r2 : List Cond := [Cond.fieldLink RX5 75 "TriggerAnalyzer$Rule" "actionCount" "I", Cond.methodLink RX5 78 yX4_actionAt, Cond.instanceMethod yX4_actionAt, Cond.selects RX4 yX4_actionAt yX4_actionAt, Cond.initialized RX4, Cond.code yX4_actionAt cX4_actionAt 2 (some .int), Cond.fieldLink RX4 9 "TriggerAnalyzer$Rule" "actions" "[I", Cond.methodLink RX5 58 yX5_listenersTo, Cond.instanceMethod yX5_listenersTo, Cond.selects RX5 yX5_listenersTo yX5_listenersTo, Cond.code yX5_listenersTo cX5_listenersTo 2 (some .int), Cond.fieldLink RX5 17 "TriggerAnalyzer$RuleBook" "listeners" "[I"]
def wsX6_circular : List Cond := .code yX6_circular cX6_circular 1 (some .int) :: ((wsX6_circular_r1 ++ wsX6_circular_r2) ++ wsX60 ++ wsX20 ++ wsX50 ++ wsX40)
def wsX6_conflictCount_r1 : List Cond := [Cond.fieldLink RX6 21 "TriggerAnalyzer" "judge" "LTriggerAnalyzer$Judge;", Cond.methodLink RX6 214 yX2_countConflicts, Cond.instanceMethod yX2_countConflicts, Cond.selects RX2 yX2_countConflicts yX2_countConflicts, Cond.initialized RX2, Cond.code yX2_countConflicts cX2_countConflicts 4 (some .int), Cond.methodLink RX2 63 yX2_areInConflict, Cond.instanceMethod yX2_areInConflict, Cond.selects RX2 yX2_areInConflict yX2_areInConflict, Cond.code yX2_areInConflict cX2_areInConflict 5 (some .boolean), Cond.fieldLink RX2 15 "TriggerAnalyzer$Judge" "book" "LTriggerAnalyzer$RuleBook;", Cond.methodLink RX2 22 yX5_ruleOrNull, Cond.instanceMethod yX5_ruleOrNull, Cond.selects RX5 yX5_ruleOrNull yX5_ruleOrNull, Cond.initialized RX5, Cond.code yX5_ruleOrNull cX5_ruleOrNull 2 (some (.object "TriggerAnalyzer$Rule")), Cond.fieldLink RX5 24 "TriggerAnalyzer$RuleBook" "count" "I", Cond.fieldLink RX5 11 "TriggerAnalyzer$RuleBook" "rules" "[LTriggerAnalyzer$Rule;", Cond.methodLink RX2 55 yX4_isOver, Cond.instanceMethod yX4_isOver, Cond.selects RX4 yX4_isOver yX4_isOver, Cond.initialized RX4, Cond.code yX4_isOver cX4_isOver 2 (some .boolean), Cond.fieldLink RX4 28 "TriggerAnalyzer$Rule" "below" "I"]
def wsX6_conflictCount_r2 : List Cond := [Cond.fieldLink RX4 15 "TriggerAnalyzer$Rule" "bit" "I", Cond.methodLink RX2 59 yX2_areIndependent, Cond.instanceMethod yX2_areIndependent, Cond.selects RX2 yX2_areIndependent yX2_areIndependent, Cond.code yX2_areIndependent cX2_areIndependent 4 (some .boolean), Cond.fieldLink RX2 32 "TriggerAnalyzer$Rule" "on" "Z", Cond.fieldLink RX2 38 "TriggerAnalyzer$Rule" "bit" "I", Cond.fieldLink RX2 49 "TriggerAnalyzer$Rule" "setFacts" "I", Cond.fieldLink RX2 52 "TriggerAnalyzer$Rule" "unsetFacts" "I", Cond.methodLink RX2 28 yX5_triggerableBy, Cond.instanceMethod yX5_triggerableBy, Cond.selects RX5 yX5_triggerableBy yX5_triggerableBy, Cond.code yX5_triggerableBy cX5_triggerableBy 4 (some .int), Cond.fieldLink RX5 41 "TriggerAnalyzer$Rule" "on" "Z", Cond.fieldLink RX5 75 "TriggerAnalyzer$Rule" "actionCount" "I", Cond.methodLink RX5 78 yX4_actionAt, Cond.instanceMethod yX4_actionAt, Cond.selects RX4 yX4_actionAt yX4_actionAt, Cond.code yX4_actionAt cX4_actionAt 2 (some .int), Cond.fieldLink RX4 9 "TriggerAnalyzer$Rule" "actions" "[I", Cond.methodLink RX5 58 yX5_listenersTo, Cond.instanceMethod yX5_listenersTo, Cond.selects RX5 yX5_listenersTo yX5_listenersTo, Cond.code yX5_listenersTo cX5_listenersTo 2 (some .int)]
def wsX6_conflictCount_r3 : List Cond := [Cond.fieldLink RX5 17 "TriggerAnalyzer$RuleBook" "listeners" "[I", Cond.methodLink RX2 42 yX4_changedFacts, Cond.instanceMethod yX4_changedFacts, Cond.selects RX4 yX4_changedFacts yX4_changedFacts, Cond.code yX4_changedFacts cX4_changedFacts 1 (some .int), Cond.fieldLink RX4 22 "TriggerAnalyzer$Rule" "setFacts" "I", Cond.fieldLink RX4 25 "TriggerAnalyzer$Rule" "unsetFacts" "I", Cond.methodLink RX2 46 yX4_conditionFacts, Cond.instanceMethod yX4_conditionFacts, Cond.selects RX4 yX4_conditionFacts yX4_conditionFacts, Cond.code yX4_conditionFacts cX4_conditionFacts 1 (some .int), Cond.fieldLink RX4 41 "TriggerAnalyzer$Rule" "must" "I", Cond.fieldLink RX4 44 "TriggerAnalyzer$Rule" "mustNot" "I"]
def wsX6_conflictCount : List Cond := .code yX6_conflictCount cX6_conflictCount 1 (some .int) :: ((wsX6_conflictCount_r1 ++ (wsX6_conflictCount_r2 ++ wsX6_conflictCount_r3)) ++ wsX60 ++ wsX20 ++ wsX50 ++ wsX40)
def wsJ9_max_7cf53 : List Cond := .code yJ9_max_7cf53 cJ9_max_7cf53 2 (some .int) :: ([])
def wsL_below : List Cond := .code yL_below cL_below 2 (some .int) :: ([.constant RL 7 (2147483647)])
def wsL_cell : List Cond := .code yL_cell cL_cell 2 (some .int) :: ([.constant RL 8 (790386105)])
def wsL_build_r1 : List Cond := [Cond.methodLink RL 9 yL_cell, Cond.static yL_cell, Cond.initialized RL, Cond.code yL_cell cL_cell 2 (some .int), Cond.constant RL 8 (790386105), Cond.methodLink RL 15 yL_below, Cond.static yL_below, Cond.code yL_below cL_below 2 (some .int), Cond.constant RL 7 (2147483647), Cond.methodLink RL 19 yX6_addRule, Cond.instanceMethod yX6_addRule, Cond.selects RX6 yX6_addRule yX6_addRule, Cond.initialized RX6, Cond.code yX6_addRule cX6_addRule 5 (some .int), Cond.classLink RX6 43 "java/lang/IllegalStateException", Cond.initialized "java/lang/IllegalStateException", Cond.fieldLink RX6 10 "TriggerAnalyzer" "book" "LTriggerAnalyzer$RuleBook;", Cond.fieldLink RX6 28 "TriggerAnalyzer" "exploration" "LTriggerAnalyzer$Exploration;", Cond.methodLink RX6 32 yX6_needFact, Cond.static yX6_needFact, Cond.code yX6_needFact cX6_needFact 1 none, Cond.classLink RX6 179 "java/lang/IndexOutOfBoundsException", Cond.initialized "java/lang/IndexOutOfBoundsException", Cond.methodLink RX6 36 yX6_needFactSet]
def wsL_build_r2 : List Cond := [Cond.static yX6_needFactSet, Cond.code yX6_needFactSet cX6_needFactSet 1 none, Cond.classLink RX6 105 "java/lang/IllegalArgumentException", Cond.initialized "java/lang/IllegalArgumentException", Cond.methodLink RX6 39 yX5_isFull, Cond.instanceMethod yX5_isFull, Cond.selects RX5 yX5_isFull yX5_isFull, Cond.initialized RX5, Cond.code yX5_isFull cX5_isFull 1 (some .boolean), Cond.fieldLink RX5 24 "TriggerAnalyzer$RuleBook" "count" "I", Cond.fieldLink RX5 11 "TriggerAnalyzer$RuleBook" "rules" "[LTriggerAnalyzer$Rule;", Cond.methodLink RX6 50 yX1_forget, Cond.instanceMethod yX1_forget, Cond.selects RX1 yX1_forget yX1_forget, Cond.initialized RX1, Cond.code yX1_forget cX1_forget 1 none, Cond.fieldLink RX1 42 "TriggerAnalyzer$Exploration" "done" "Z", Cond.methodLink RX6 53 yX6_changeCode, Cond.static yX6_changeCode, Cond.code yX6_changeCode cX6_changeCode 2 (some .int), Cond.methodLink RX6 57 yX5_append, Cond.instanceMethod yX5_append, Cond.selects RX5 yX5_append yX5_append, Cond.code yX5_append cX5_append 6 (some .int)]
def wsL_build_r3 : List Cond := [Cond.fieldLink RX5 28 "TriggerAnalyzer$Rule" "event" "I", Cond.fieldLink RX5 31 "TriggerAnalyzer$Rule" "must" "I", Cond.fieldLink RX5 34 "TriggerAnalyzer$Rule" "mustNot" "I", Cond.methodLink RX5 37 yX5_switchRule, Cond.instanceMethod yX5_switchRule, Cond.selects RX5 yX5_switchRule yX5_switchRule, Cond.code yX5_switchRule cX5_switchRule 4 none, Cond.fieldLink RX5 41 "TriggerAnalyzer$Rule" "on" "Z", Cond.fieldLink RX5 17 "TriggerAnalyzer$RuleBook" "listeners" "[I", Cond.fieldLink RX5 45 "TriggerAnalyzer$Rule" "bit" "I", Cond.methodLink RL 25 yX6_addAction, Cond.instanceMethod yX6_addAction, Cond.selects RX6 yX6_addAction yX6_addAction, Cond.code yX6_addAction cX6_addAction 5 (some .int), Cond.fieldLink RX6 72 "TriggerAnalyzer$Rule" "actionCount" "I", Cond.methodLink RX6 61 yX6_ruleAt, Cond.instanceMethod yX6_ruleAt, Cond.selects RX6 yX6_ruleAt yX6_ruleAt, Cond.code yX6_ruleAt cX6_ruleAt 3 (some (.object "TriggerAnalyzer$Rule")), Cond.methodLink RX6 230 yX5_ruleOrNull, Cond.instanceMethod yX5_ruleOrNull, Cond.selects RX5 yX5_ruleOrNull yX5_ruleOrNull, Cond.code yX5_ruleOrNull cX5_ruleOrNull 2 (some (.object "TriggerAnalyzer$Rule")), Cond.methodLink RX6 65 yX4_isFull]
def wsL_build_r4 : List Cond := [Cond.instanceMethod yX4_isFull, Cond.selects RX4 yX4_isFull yX4_isFull, Cond.initialized RX4, Cond.code yX4_isFull cX4_isFull 1 (some .boolean), Cond.fieldLink RX4 19 "TriggerAnalyzer$Rule" "actionCount" "I", Cond.fieldLink RX4 9 "TriggerAnalyzer$Rule" "actions" "[I", Cond.methodLink RX6 70 yX4_append, Cond.instanceMethod yX4_append, Cond.selects RX4 yX4_append yX4_append, Cond.code yX4_append cX4_append 3 none, Cond.fieldLink RX4 22 "TriggerAnalyzer$Rule" "setFacts" "I", Cond.fieldLink RX4 25 "TriggerAnalyzer$Rule" "unsetFacts" "I", Cond.methodLink RL 29 yX6_turn, Cond.instanceMethod yX6_turn, Cond.selects RX6 yX6_turn yX6_turn, Cond.code yX6_turn cX6_turn 5 (some .boolean), Cond.fieldLink RX6 76 "TriggerAnalyzer$Rule" "on" "Z", Cond.fieldLink RX6 84 "TriggerAnalyzer" "present" "I", Cond.fieldLink RX6 94 "TriggerAnalyzer$Rule" "bit" "I", Cond.methodLink RX6 80 yX5_switchRule, Cond.methodLink RX6 87 yX6_factsIn, Cond.static yX6_factsIn, Cond.code yX6_factsIn cX6_factsIn 1 (some .int), Cond.methodLink RX6 91 yX6_triggeredIn]
def wsL_build_r5 : List Cond := [Cond.static yX6_triggeredIn, Cond.code yX6_triggeredIn cX6_triggeredIn 1 (some .int), Cond.methodLink RX6 97 yX6_situationOf, Cond.static yX6_situationOf, Cond.code yX6_situationOf cX6_situationOf 2 (some .int), Cond.methodLink RL 33 yX6_ruleCount, Cond.instanceMethod yX6_ruleCount, Cond.selects RX6 yX6_ruleCount yX6_ruleCount, Cond.code yX6_ruleCount cX6_ruleCount 1 (some .int), Cond.methodLink RX6 114 yX5_size, Cond.instanceMethod yX5_size, Cond.selects RX5 yX5_size yX5_size, Cond.code yX5_size cX5_size 1 (some .int)]
def wsL_build : List Cond := .code yL_build cL_build 10 (some .int) :: ((wsL_build_r1 ++ (wsL_build_r2 ++ (wsL_build_r3 ++ (wsL_build_r4 ++ wsL_build_r5)))) ++ wsX60 ++ wsX50 ++ wsX10 ++ wsX40 ++ (vx_atS RX6 47 "java/lang/IllegalStateException" ["java/lang/RuntimeException", "java/lang/Exception"]).filter goodWord ++ (vx_atS RX6 183 "java/lang/IndexOutOfBoundsException" ["java/lang/RuntimeException", "java/lang/Exception"]).filter goodWord ++ (vx_atS RX6 109 "java/lang/IllegalArgumentException" ["java/lang/RuntimeException", "java/lang/Exception"]).filter goodWord)
def wsL_rank_r1 : List Cond := [Cond.classLink RL 41 "java/lang/IllegalArgumentException", Cond.methodLink RL 15 yL_below, Cond.static yL_below, Cond.initialized RL, Cond.code yL_below cL_below 2 (some .int), Cond.constant RL 7 (2147483647), Cond.methodLink RL 37 yX6_rank, Cond.instanceMethod yX6_rank, Cond.selects RX6 yX6_rank yX6_rank, Cond.initialized RX6, Cond.code yX6_rank cX6_rank 6 (some .boolean), Cond.classLink RX6 105 "java/lang/IllegalArgumentException", Cond.initialized "java/lang/IllegalArgumentException", Cond.fieldLink RX6 28 "TriggerAnalyzer" "exploration" "LTriggerAnalyzer$Exploration;", Cond.fieldLink RX6 10 "TriggerAnalyzer" "book" "LTriggerAnalyzer$RuleBook;", Cond.methodLink RX6 61 yX6_ruleAt, Cond.instanceMethod yX6_ruleAt, Cond.selects RX6 yX6_ruleAt yX6_ruleAt, Cond.code yX6_ruleAt cX6_ruleAt 3 (some (.object "TriggerAnalyzer$Rule")), Cond.classLink RX6 179 "java/lang/IndexOutOfBoundsException", Cond.initialized "java/lang/IndexOutOfBoundsException", Cond.methodLink RX6 230 yX5_ruleOrNull, Cond.instanceMethod yX5_ruleOrNull, Cond.selects RX5 yX5_ruleOrNull yX5_ruleOrNull]
def wsL_rank_r2 : List Cond := [Cond.initialized RX5, Cond.code yX5_ruleOrNull cX5_ruleOrNull 2 (some (.object "TriggerAnalyzer$Rule")), Cond.fieldLink RX5 24 "TriggerAnalyzer$RuleBook" "count" "I", Cond.fieldLink RX5 11 "TriggerAnalyzer$RuleBook" "rules" "[LTriggerAnalyzer$Rule;", Cond.methodLink RX6 101 yX4_isOver, Cond.instanceMethod yX4_isOver, Cond.selects RX4 yX4_isOver yX4_isOver, Cond.initialized RX4, Cond.code yX4_isOver cX4_isOver 2 (some .boolean), Cond.fieldLink RX4 28 "TriggerAnalyzer$Rule" "below" "I", Cond.fieldLink RX4 15 "TriggerAnalyzer$Rule" "bit" "I", Cond.methodLink RX6 50 yX1_forget, Cond.instanceMethod yX1_forget, Cond.selects RX1 yX1_forget yX1_forget, Cond.initialized RX1, Cond.code yX1_forget cX1_forget 1 none, Cond.fieldLink RX1 42 "TriggerAnalyzer$Exploration" "done" "Z", Cond.methodLink RX6 110 yX5_order, Cond.instanceMethod yX5_order, Cond.selects RX5 yX5_order yX5_order, Cond.code yX5_order cX5_order 7 none, Cond.fieldLink RX5 48 "TriggerAnalyzer$Rule" "above" "I", Cond.fieldLink RX5 45 "TriggerAnalyzer$Rule" "bit" "I", Cond.fieldLink RX5 51 "TriggerAnalyzer$Rule" "below" "I"]
def wsL_rank : List Cond := .codeWith yL_rank cL_rank 13 (some .boolean) [(99, 109, 112, 41)] :: ((wsL_rank_r1 ++ wsL_rank_r2) ++ wsX60 ++ wsX50 ++ wsX40 ++ wsX10 ++ (vx_atS RX6 109 "java/lang/IllegalArgumentException" ["java/lang/RuntimeException", "java/lang/Exception"]).filter goodWord ++ (vx_atS RX6 183 "java/lang/IndexOutOfBoundsException" ["java/lang/RuntimeException", "java/lang/Exception"]).filter goodWord)
def wsL_law0_r1 : List Cond := [Cond.classLink RL 20 RX6, Cond.instantiable RX6 4, Cond.initialized RX6, Cond.arrayClass .int, Cond.methodLink RL 47 yX6_init, Cond.instanceMethod yX6_init, Cond.code yX6_init cX6_init 1 none, Cond.methodLink RX6 1 objectInit, Cond.instanceMethod objectInit, Cond.code objectInit ⟨#[0xb1]⟩ 1 none, Cond.classLink RX6 7 RX5, Cond.instantiable RX5 3, Cond.initialized RX5, Cond.fieldLink RX6 10 "TriggerAnalyzer" "book" "LTriggerAnalyzer$RuleBook;", Cond.classLink RX6 16 RX2, Cond.instantiable RX2 2, Cond.initialized RX2, Cond.fieldLink RX6 21 "TriggerAnalyzer" "judge" "LTriggerAnalyzer$Judge;", Cond.classLink RX6 25 RX1, Cond.instantiable RX1 12, Cond.initialized RX1, Cond.fieldLink RX6 28 "TriggerAnalyzer" "exploration" "LTriggerAnalyzer$Exploration;", Cond.methodLink RX6 9 yX5_init, Cond.instanceMethod yX5_init]
def wsL_law0_r2 : List Cond := [Cond.code yX5_init cX5_init 2 none, Cond.methodLink RX5 3 objectInit, Cond.classLink RX5 9 RX4, Cond.fieldLink RX5 11 "TriggerAnalyzer$RuleBook" "rules" "[LTriggerAnalyzer$Rule;", Cond.fieldLink RX5 17 "TriggerAnalyzer$RuleBook" "listeners" "[I", Cond.instantiable RX4 11, Cond.initialized RX4, Cond.methodLink RX5 21 yX4_init, Cond.instanceMethod yX4_init, Cond.code yX4_init cX4_init 2 none, Cond.methodLink RX4 3 objectInit, Cond.fieldLink RX4 9 "TriggerAnalyzer$Rule" "actions" "[I", Cond.fieldLink RX4 15 "TriggerAnalyzer$Rule" "bit" "I", Cond.methodLink RX6 18 yX2_init, Cond.instanceMethod yX2_init, Cond.code yX2_init cX2_init 2 none, Cond.methodLink RX2 3 objectInit, Cond.fieldLink RX2 9 "TriggerAnalyzer$Judge" "reach" "[I", Cond.fieldLink RX2 15 "TriggerAnalyzer$Judge" "book" "LTriggerAnalyzer$RuleBook;", Cond.methodLink RX6 27 yX1_init, Cond.instanceMethod yX1_init, Cond.code yX1_init cX1_init 2 none, Cond.methodLink RX1 3 objectInit, Cond.fieldLink RX1 9 "TriggerAnalyzer$Exploration" "situations" "[I"]
def wsL_law0_r3 : List Cond := [Cond.fieldLink RX1 15 "TriggerAnalyzer$Exploration" "depths" "[I", Cond.fieldLink RX1 18 "TriggerAnalyzer$Exploration" "nexts" "[I", Cond.fieldLink RX1 21 "TriggerAnalyzer$Exploration" "places" "[I", Cond.classLink RX1 24 RX0, Cond.instantiable RX0 3, Cond.initialized RX0, Cond.fieldLink RX1 27 "TriggerAnalyzer$Exploration" "ends" "LTriggerAnalyzer$Ends;", Cond.classLink RX1 31 RX3, Cond.instantiable RX3 8, Cond.initialized RX3, Cond.fieldLink RX1 34 "TriggerAnalyzer$Exploration" "prospect" "LTriggerAnalyzer$Prospect;", Cond.fieldLink RX1 38 "TriggerAnalyzer$Exploration" "book" "LTriggerAnalyzer$RuleBook;", Cond.methodLink RX1 26 yX0_init, Cond.instanceMethod yX0_init, Cond.code yX0_init cX0_init 1 none, Cond.methodLink RX0 3 objectInit, Cond.fieldLink RX0 9 "TriggerAnalyzer$Ends" "facts" "[I", Cond.fieldLink RX0 15 "TriggerAnalyzer$Ends" "nearest" "I", Cond.methodLink RX1 33 yX3_init, Cond.instanceMethod yX3_init, Cond.code yX3_init cX3_init 1 none, Cond.methodLink RX3 3 objectInit, Cond.fieldLink RX3 9 "TriggerAnalyzer$Prospect" "incoming" "[I", Cond.fieldLink RX3 15 "TriggerAnalyzer$Prospect" "plays" "[I"]
def wsL_law0_r4 : List Cond := [Cond.arrayClass .long, Cond.fieldLink RX3 18 "TriggerAnalyzer$Prospect" "rows" "[J", Cond.fieldLink RX3 22 "TriggerAnalyzer$Prospect" "queue" "[I", Cond.methodLink RL 48 yL_build, Cond.static yL_build, Cond.initialized RL, Cond.code yL_build cL_build 10 (some .int), Cond.methodLink RL 9 yL_cell, Cond.static yL_cell, Cond.code yL_cell cL_cell 2 (some .int), Cond.constant RL 8 (790386105), Cond.methodLink RL 15 yL_below, Cond.static yL_below, Cond.code yL_below cL_below 2 (some .int), Cond.constant RL 7 (2147483647), Cond.methodLink RL 19 yX6_addRule, Cond.instanceMethod yX6_addRule, Cond.selects RX6 yX6_addRule yX6_addRule, Cond.code yX6_addRule cX6_addRule 5 (some .int), Cond.classLink RX6 43 "java/lang/IllegalStateException", Cond.initialized "java/lang/IllegalStateException", Cond.methodLink RX6 32 yX6_needFact, Cond.static yX6_needFact, Cond.code yX6_needFact cX6_needFact 1 none]
def wsL_law0_r5 : List Cond := [Cond.classLink RX6 179 "java/lang/IndexOutOfBoundsException", Cond.initialized "java/lang/IndexOutOfBoundsException", Cond.methodLink RX6 36 yX6_needFactSet, Cond.static yX6_needFactSet, Cond.code yX6_needFactSet cX6_needFactSet 1 none, Cond.classLink RX6 105 "java/lang/IllegalArgumentException", Cond.initialized "java/lang/IllegalArgumentException", Cond.methodLink RX6 39 yX5_isFull, Cond.instanceMethod yX5_isFull, Cond.selects RX5 yX5_isFull yX5_isFull, Cond.code yX5_isFull cX5_isFull 1 (some .boolean), Cond.fieldLink RX5 24 "TriggerAnalyzer$RuleBook" "count" "I", Cond.methodLink RX6 50 yX1_forget, Cond.instanceMethod yX1_forget, Cond.selects RX1 yX1_forget yX1_forget, Cond.code yX1_forget cX1_forget 1 none, Cond.fieldLink RX1 42 "TriggerAnalyzer$Exploration" "done" "Z", Cond.methodLink RX6 53 yX6_changeCode, Cond.static yX6_changeCode, Cond.code yX6_changeCode cX6_changeCode 2 (some .int), Cond.methodLink RX6 57 yX5_append, Cond.instanceMethod yX5_append, Cond.selects RX5 yX5_append yX5_append, Cond.code yX5_append cX5_append 6 (some .int)]
def wsL_law0_r6 : List Cond := [Cond.fieldLink RX5 28 "TriggerAnalyzer$Rule" "event" "I", Cond.fieldLink RX5 31 "TriggerAnalyzer$Rule" "must" "I", Cond.fieldLink RX5 34 "TriggerAnalyzer$Rule" "mustNot" "I", Cond.methodLink RX5 37 yX5_switchRule, Cond.instanceMethod yX5_switchRule, Cond.selects RX5 yX5_switchRule yX5_switchRule, Cond.code yX5_switchRule cX5_switchRule 4 none, Cond.fieldLink RX5 41 "TriggerAnalyzer$Rule" "on" "Z", Cond.fieldLink RX5 45 "TriggerAnalyzer$Rule" "bit" "I", Cond.methodLink RL 25 yX6_addAction, Cond.instanceMethod yX6_addAction, Cond.selects RX6 yX6_addAction yX6_addAction, Cond.code yX6_addAction cX6_addAction 5 (some .int), Cond.fieldLink RX6 72 "TriggerAnalyzer$Rule" "actionCount" "I", Cond.methodLink RX6 61 yX6_ruleAt, Cond.instanceMethod yX6_ruleAt, Cond.selects RX6 yX6_ruleAt yX6_ruleAt, Cond.code yX6_ruleAt cX6_ruleAt 3 (some (.object "TriggerAnalyzer$Rule")), Cond.methodLink RX6 230 yX5_ruleOrNull, Cond.instanceMethod yX5_ruleOrNull, Cond.selects RX5 yX5_ruleOrNull yX5_ruleOrNull, Cond.code yX5_ruleOrNull cX5_ruleOrNull 2 (some (.object "TriggerAnalyzer$Rule")), Cond.methodLink RX6 65 yX4_isFull, Cond.instanceMethod yX4_isFull]
def wsL_law0_r7 : List Cond := [Cond.selects RX4 yX4_isFull yX4_isFull, Cond.code yX4_isFull cX4_isFull 1 (some .boolean), Cond.fieldLink RX4 19 "TriggerAnalyzer$Rule" "actionCount" "I", Cond.methodLink RX6 70 yX4_append, Cond.instanceMethod yX4_append, Cond.selects RX4 yX4_append yX4_append, Cond.code yX4_append cX4_append 3 none, Cond.fieldLink RX4 22 "TriggerAnalyzer$Rule" "setFacts" "I", Cond.fieldLink RX4 25 "TriggerAnalyzer$Rule" "unsetFacts" "I", Cond.methodLink RL 29 yX6_turn, Cond.instanceMethod yX6_turn, Cond.selects RX6 yX6_turn yX6_turn, Cond.code yX6_turn cX6_turn 5 (some .boolean), Cond.fieldLink RX6 76 "TriggerAnalyzer$Rule" "on" "Z", Cond.fieldLink RX6 84 "TriggerAnalyzer" "present" "I", Cond.fieldLink RX6 94 "TriggerAnalyzer$Rule" "bit" "I", Cond.methodLink RX6 80 yX5_switchRule, Cond.methodLink RX6 87 yX6_factsIn, Cond.static yX6_factsIn, Cond.code yX6_factsIn cX6_factsIn 1 (some .int), Cond.methodLink RX6 91 yX6_triggeredIn, Cond.static yX6_triggeredIn, Cond.code yX6_triggeredIn cX6_triggeredIn 1 (some .int), Cond.methodLink RX6 97 yX6_situationOf]
def wsL_law0_r8 : List Cond := [Cond.static yX6_situationOf, Cond.code yX6_situationOf cX6_situationOf 2 (some .int), Cond.methodLink RL 33 yX6_ruleCount, Cond.instanceMethod yX6_ruleCount, Cond.selects RX6 yX6_ruleCount yX6_ruleCount, Cond.code yX6_ruleCount cX6_ruleCount 1 (some .int), Cond.methodLink RX6 114 yX5_size, Cond.instanceMethod yX5_size, Cond.selects RX5 yX5_size yX5_size, Cond.code yX5_size cX5_size 1 (some .int), Cond.methodLink RL 52 yL_rank, Cond.static yL_rank, Cond.codeWith yL_rank cL_rank 13 (some .boolean) [(99, 109, 112, 41)], Cond.classLink RL 41 "java/lang/IllegalArgumentException", Cond.methodLink RL 37 yX6_rank, Cond.instanceMethod yX6_rank, Cond.selects RX6 yX6_rank yX6_rank, Cond.code yX6_rank cX6_rank 6 (some .boolean), Cond.methodLink RX6 101 yX4_isOver, Cond.instanceMethod yX4_isOver, Cond.selects RX4 yX4_isOver yX4_isOver, Cond.code yX4_isOver cX4_isOver 2 (some .boolean), Cond.fieldLink RX4 28 "TriggerAnalyzer$Rule" "below" "I", Cond.methodLink RX6 110 yX5_order]
def wsL_law0_r9 : List Cond := [Cond.instanceMethod yX5_order, Cond.selects RX5 yX5_order yX5_order, Cond.code yX5_order cX5_order 7 none, Cond.fieldLink RX5 48 "TriggerAnalyzer$Rule" "above" "I", Cond.fieldLink RX5 51 "TriggerAnalyzer$Rule" "below" "I", Cond.methodLink RL 55 yX6_put, Cond.instanceMethod yX6_put, Cond.selects RX6 yX6_put yX6_put, Cond.code yX6_put cX6_put 3 (some .int), Cond.methodLink RL 59 yX6_change, Cond.instanceMethod yX6_change, Cond.selects RX6 yX6_change yX6_change, Cond.code yX6_change cX6_change 3 (some .int), Cond.methodLink RX6 118 yX5_changed, Cond.instanceMethod yX5_changed, Cond.selects RX5 yX5_changed yX5_changed, Cond.code yX5_changed cX5_changed 7 (some .int), Cond.methodLink RX5 58 yX5_listenersTo, Cond.instanceMethod yX5_listenersTo, Cond.selects RX5 yX5_listenersTo yX5_listenersTo, Cond.code yX5_listenersTo cX5_listenersTo 2 (some .int), Cond.methodLink RL 62 yX6_explore, Cond.instanceMethod yX6_explore, Cond.selects RX6 yX6_explore yX6_explore]
def wsL_law0_r10 : List Cond := [Cond.code yX6_explore cX6_explore 1 (some .int), Cond.methodLink RX6 142 yX1_isDone, Cond.instanceMethod yX1_isDone, Cond.selects RX1 yX1_isDone yX1_isDone, Cond.code yX1_isDone cX1_isDone 1 (some .boolean), Cond.methodLink RX6 145 yX1_search, Cond.instanceMethod yX1_search, Cond.selects RX1 yX1_search yX1_search, Cond.code yX1_search cX1_search 3 none, Cond.fieldLink RX1 49 "TriggerAnalyzer$Exploration" "count" "I", Cond.fieldLink RX1 46 "TriggerAnalyzer$Exploration" "tooMany" "Z", Cond.methodLink RX1 59 yX1_clear, Cond.instanceMethod yX1_clear, Cond.selects RX1 yX1_clear yX1_clear, Cond.code yX1_clear cX1_clear 2 none, Cond.fieldLink RX1 53 "TriggerAnalyzer$Exploration" "readyEver" "I", Cond.fieldLink RX1 56 "TriggerAnalyzer$Exploration" "choices" "I", Cond.methodLink RX1 74 yX1_mark, Cond.instanceMethod yX1_mark, Cond.selects RX1 yX1_mark yX1_mark, Cond.code yX1_mark cX1_mark 3 none, Cond.methodLink RX1 78 yX0_clear, Cond.instanceMethod yX0_clear, Cond.selects RX0 yX0_clear yX0_clear]
def wsL_law0_r11 : List Cond := [Cond.code yX0_clear cX0_clear 1 none, Cond.fieldLink RX0 19 "TriggerAnalyzer$Ends" "count" "I", Cond.methodLink RX1 62 yX1_findOrAdd, Cond.instanceMethod yX1_findOrAdd, Cond.selects RX1 yX1_findOrAdd yX1_findOrAdd, Cond.code yX1_findOrAdd cX1_findOrAdd 3 (some .int), Cond.methodLink RX1 66 yX1_expand, Cond.instanceMethod yX1_expand, Cond.selects RX1 yX1_expand yX1_expand, Cond.code yX1_expand cX1_expand 7 none, Cond.fieldLink RX1 103 "TriggerAnalyzer$Rule" "bit" "I", Cond.methodLink RX1 79 yX5_readyIn, Cond.instanceMethod yX5_readyIn, Cond.selects RX5 yX5_readyIn yX5_readyIn, Cond.code yX5_readyIn cX5_readyIn 4 (some .int), Cond.methodLink RX5 68 yX4_isReadyIn, Cond.instanceMethod yX4_isReadyIn, Cond.selects RX4 yX4_isReadyIn yX4_isReadyIn, Cond.code yX4_isReadyIn cX4_isReadyIn 3 (some .boolean), Cond.fieldLink RX4 35 "TriggerAnalyzer$Rule" "above" "I", Cond.methodLink RX1 85 yJ6_bitCount_0f7a4, Cond.static yJ6_bitCount_0f7a4, Cond.initialized RJ6, Cond.code yJ6_bitCount_0f7a4 cJ6_bitCount_0f7a4 1 (some .int)]
def wsL_law0_r12 : List Cond := [Cond.constant RJ6 265 (1431655765), Cond.constant RJ6 266 (858993459), Cond.constant RJ6 267 (252645135), Cond.methodLink RX1 96 yX0_append, Cond.instanceMethod yX0_append, Cond.selects RX0 yX0_append yX0_append, Cond.code yX0_append cX0_append 3 none, Cond.methodLink RX1 99 yX5_ruleOrNull, Cond.methodLink RX1 108 yX5_played, Cond.instanceMethod yX5_played, Cond.selects RX5 yX5_played yX5_played, Cond.code yX5_played cX5_played 5 (some .int), Cond.fieldLink RX5 75 "TriggerAnalyzer$Rule" "actionCount" "I", Cond.methodLink RX5 72 yX4_holdsIn, Cond.instanceMethod yX4_holdsIn, Cond.selects RX4 yX4_holdsIn yX4_holdsIn, Cond.code yX4_holdsIn cX4_holdsIn 3 (some .boolean), Cond.fieldLink RX4 41 "TriggerAnalyzer$Rule" "must" "I", Cond.fieldLink RX4 44 "TriggerAnalyzer$Rule" "mustNot" "I", Cond.methodLink RX5 78 yX4_actionAt, Cond.instanceMethod yX4_actionAt, Cond.selects RX4 yX4_actionAt yX4_actionAt, Cond.code yX4_actionAt cX4_actionAt 2 (some .int), Cond.methodLink RX5 81 yX5_changed]
def wsL_law0_r13 : List Cond := [Cond.methodLink RX1 112 yX1_keepNext, Cond.instanceMethod yX1_keepNext, Cond.selects RX1 yX1_keepNext yX1_keepNext, Cond.code yX1_keepNext cX1_keepNext 3 none, Cond.methodLink RX1 70 yX3_study, Cond.instanceMethod yX3_study, Cond.selects RX3 yX3_study yX3_study, Cond.code yX3_study cX3_study 3 none, Cond.fieldLink RX3 46 "TriggerAnalyzer$Prospect" "queued" "I", Cond.fieldLink RX3 25 "TriggerAnalyzer$Prospect" "finite" "Z", Cond.methodLink RX3 39 yX3_countIncoming, Cond.instanceMethod yX3_countIncoming, Cond.selects RX3 yX3_countIncoming yX3_countIncoming, Cond.code yX3_countIncoming cX3_countIncoming 5 none, Cond.methodLink RX3 53 yX1_size, Cond.instanceMethod yX1_size, Cond.selects RX1 yX1_size yX1_size, Cond.code yX1_size cX1_size 1 (some .int), Cond.methodLink RX3 59 yX1_nextOf, Cond.instanceMethod yX1_nextOf, Cond.selects RX1 yX1_nextOf yX1_nextOf, Cond.code yX1_nextOf cX1_nextOf 4 (some .int), Cond.methodLink RX3 43 yX3_startAtFirst, Cond.instanceMethod yX3_startAtFirst]
def wsL_law0_r14 : List Cond := [Cond.selects RX3 yX3_startAtFirst yX3_startAtFirst, Cond.code yX3_startAtFirst cX3_startAtFirst 1 none, Cond.fieldLink RX3 29 "TriggerAnalyzer$Prospect" "longestRow" "I", Cond.fieldLink RX3 33 "TriggerAnalyzer$Prospect" "endedRows" "J", Cond.methodLink RX3 63 yX3_enqueue, Cond.instanceMethod yX3_enqueue, Cond.selects RX3 yX3_enqueue yX3_enqueue, Cond.code yX3_enqueue cX3_enqueue 2 none, Cond.methodLink RX3 49 yX3_take, Cond.instanceMethod yX3_take, Cond.selects RX3 yX3_take yX3_take, Cond.code yX3_take cX3_take 6 none, Cond.methodLink RX3 71 Lib.Math.max.name, Cond.static Lib.Math.max.name, Cond.initialized "java/lang/Math", Cond.code Lib.Math.max.name Lib.Math.max.code 2 (some .int), Cond.methodLink RX3 67 yX3_lead, Cond.instanceMethod yX3_lead, Cond.selects RX3 yX3_lead yX3_lead, Cond.code yX3_lead cX3_lead 5 none, Cond.methodLink RX6 148 yX1_answer, Cond.instanceMethod yX1_answer, Cond.selects RX1 yX1_answer yX1_answer, Cond.code yX1_answer cX1_answer 1 (some .int)]
def wsL_law0_r15 : List Cond := [Cond.methodLink RL 65 yX6_terminates, Cond.instanceMethod yX6_terminates, Cond.selects RX6 yX6_terminates yX6_terminates, Cond.code yX6_terminates cX6_terminates 1 (some .boolean), Cond.fieldLink RX6 160 "TriggerAnalyzer$Exploration" "prospect" "LTriggerAnalyzer$Prospect;", Cond.methodLink RX6 157 yX6_needExplored, Cond.instanceMethod yX6_needExplored, Cond.selects RX6 yX6_needExplored yX6_needExplored, Cond.code yX6_needExplored cX6_needExplored 1 none, Cond.methodLink RX6 240 yX1_isUsable, Cond.instanceMethod yX1_isUsable, Cond.selects RX1 yX1_isUsable yX1_isUsable, Cond.code yX1_isUsable cX1_isUsable 1 (some .boolean), Cond.methodLink RX6 164 yX3_isFinite, Cond.instanceMethod yX3_isFinite, Cond.selects RX3 yX3_isFinite yX3_isFinite, Cond.code yX3_isFinite cX3_isFinite 1 (some .boolean), Cond.methodLink RL 69 yX6_circular, Cond.instanceMethod yX6_circular, Cond.selects RX6 yX6_circular yX6_circular, Cond.code yX6_circular cX6_circular 1 (some .int), Cond.methodLink RX6 205 yX2_inCircles, Cond.instanceMethod yX2_inCircles, Cond.selects RX2 yX2_inCircles yX2_inCircles]
def wsL_law0_r16 : List Cond := [Cond.code yX2_inCircles cX2_inCircles 3 (some .int), Cond.methodLink RX2 19 yX2_spreadReach, Cond.instanceMethod yX2_spreadReach, Cond.selects RX2 yX2_spreadReach yX2_spreadReach, Cond.code yX2_spreadReach cX2_spreadReach 3 none, Cond.methodLink RX2 22 yX5_ruleOrNull, Cond.methodLink RX2 28 yX5_triggerableBy, Cond.instanceMethod yX5_triggerableBy, Cond.selects RX5 yX5_triggerableBy yX5_triggerableBy, Cond.code yX5_triggerableBy cX5_triggerableBy 4 (some .int), Cond.methodLink RL 72 yX6_endCount, Cond.instanceMethod yX6_endCount, Cond.selects RX6 yX6_endCount yX6_endCount, Cond.code yX6_endCount cX6_endCount 1 (some .int), Cond.fieldLink RX6 169 "TriggerAnalyzer$Exploration" "ends" "LTriggerAnalyzer$Ends;", Cond.methodLink RX6 173 yX0_size, Cond.instanceMethod yX0_size, Cond.selects RX0 yX0_size yX0_size, Cond.code yX0_size cX0_size 1 (some .int), Cond.methodLink RL 75 yX6_ways, Cond.instanceMethod yX6_ways, Cond.selects RX6 yX6_ways yX6_ways, Cond.code yX6_ways cX6_ways 1 (some .long), Cond.methodLink RX6 190 yX3_wayCount]
def wsL_law0_r17 : List Cond := [Cond.instanceMethod yX3_wayCount, Cond.selects RX3 yX3_wayCount yX3_wayCount, Cond.code yX3_wayCount cX3_wayCount 1 (some .long), Cond.constantLong RX3 37 (-1), Cond.methodLink RL 79 yX6_longest, Cond.instanceMethod yX6_longest, Cond.selects RX6 yX6_longest yX6_longest, Cond.code yX6_longest cX6_longest 1 (some .int), Cond.methodLink RX6 187 yX3_mostPlays, Cond.instanceMethod yX3_mostPlays, Cond.selects RX3 yX3_mostPlays yX3_mostPlays, Cond.code yX3_mostPlays cX3_mostPlays 1 (some .int), Cond.methodLink RL 82 yX6_conflictCount, Cond.instanceMethod yX6_conflictCount, Cond.selects RX6 yX6_conflictCount yX6_conflictCount, Cond.code yX6_conflictCount cX6_conflictCount 1 (some .int), Cond.methodLink RX6 214 yX2_countConflicts, Cond.instanceMethod yX2_countConflicts, Cond.selects RX2 yX2_countConflicts yX2_countConflicts, Cond.code yX2_countConflicts cX2_countConflicts 4 (some .int), Cond.methodLink RX2 63 yX2_areInConflict, Cond.instanceMethod yX2_areInConflict, Cond.selects RX2 yX2_areInConflict yX2_areInConflict, Cond.code yX2_areInConflict cX2_areInConflict 5 (some .boolean)]
def wsL_law0_r18 : List Cond := [Cond.methodLink RX2 55 yX4_isOver, Cond.methodLink RX2 59 yX2_areIndependent, Cond.instanceMethod yX2_areIndependent, Cond.selects RX2 yX2_areIndependent yX2_areIndependent, Cond.code yX2_areIndependent cX2_areIndependent 4 (some .boolean), Cond.fieldLink RX2 32 "TriggerAnalyzer$Rule" "on" "Z", Cond.fieldLink RX2 38 "TriggerAnalyzer$Rule" "bit" "I", Cond.fieldLink RX2 49 "TriggerAnalyzer$Rule" "setFacts" "I", Cond.fieldLink RX2 52 "TriggerAnalyzer$Rule" "unsetFacts" "I", Cond.methodLink RX2 42 yX4_changedFacts, Cond.instanceMethod yX4_changedFacts, Cond.selects RX4 yX4_changedFacts yX4_changedFacts, Cond.code yX4_changedFacts cX4_changedFacts 1 (some .int), Cond.methodLink RX2 46 yX4_conditionFacts, Cond.instanceMethod yX4_conditionFacts, Cond.selects RX4 yX4_conditionFacts yX4_conditionFacts, Cond.code yX4_conditionFacts cX4_conditionFacts 1 (some .int), Cond.methodLink RL 85 yX6_shortest, Cond.instanceMethod yX6_shortest, Cond.selects RX6 yX6_shortest yX6_shortest, Cond.code yX6_shortest cX6_shortest 1 (some .int), Cond.methodLink RX6 184 yX0_firstDepth, Cond.instanceMethod yX0_firstDepth, Cond.selects RX0 yX0_firstDepth yX0_firstDepth]
def wsL_law0_r19 : List Cond := [Cond.code yX0_firstDepth cX0_firstDepth 1 (some .int), Cond.methodLink RL 88 yX6_factsOf, Cond.instanceMethod yX6_factsOf, Cond.selects RX6 yX6_factsOf yX6_factsOf, Cond.code yX6_factsOf cX6_factsOf 2 (some .int), Cond.methodLink RX6 151 yX6_exploredAt, Cond.instanceMethod yX6_exploredAt, Cond.selects RX6 yX6_exploredAt yX6_exploredAt, Cond.code yX6_exploredAt cX6_exploredAt 3 (some .int), Cond.methodLink RX6 235 yX1_situationAt, Cond.instanceMethod yX1_situationAt, Cond.selects RX1 yX1_situationAt yX1_situationAt, Cond.code yX1_situationAt cX1_situationAt 2 (some .int), Cond.methodLink RL 91 yX6_triggeredOf, Cond.instanceMethod yX6_triggeredOf, Cond.selects RX6 yX6_triggeredOf yX6_triggeredOf, Cond.code yX6_triggeredOf cX6_triggeredOf 2 (some .int), Cond.methodLink RL 94 yX6_after, Cond.instanceMethod yX6_after, Cond.selects RX6 yX6_after yX6_after, Cond.code yX6_after cX6_after 3 (some .int), Cond.methodLink RX6 154 yX1_nextOf, Cond.methodLink RL 97 yX6_run, Cond.instanceMethod yX6_run]
def wsL_law0_r20 : List Cond := [Cond.selects RX6 yX6_run yX6_run, Cond.code yX6_run cX6_run 4 (some .int), Cond.methodLink RX6 139 yX5_firstReadyIn, Cond.instanceMethod yX5_firstReadyIn, Cond.selects RX5 yX5_firstReadyIn yX5_firstReadyIn, Cond.code yX5_firstReadyIn cX5_firstReadyIn 3 (some (.object "TriggerAnalyzer$Rule")), Cond.methodLink RX6 133 yX5_played, Cond.methodLink RL 100 yX6_facts, Cond.instanceMethod yX6_facts, Cond.selects RX6 yX6_facts yX6_facts, Cond.code yX6_facts cX6_facts 1 (some .int), Cond.methodLink RL 103 yX6_triggered, Cond.instanceMethod yX6_triggered, Cond.selects RX6 yX6_triggered yX6_triggered, Cond.code yX6_triggered cX6_triggered 1 (some .int)]
def wsL_law0 : List Cond := (wsL_law0_r1 ++ (wsL_law0_r2 ++ (wsL_law0_r3 ++ (wsL_law0_r4 ++ (wsL_law0_r5 ++ (wsL_law0_r6 ++ (wsL_law0_r7 ++ (wsL_law0_r8 ++ (wsL_law0_r9 ++ (wsL_law0_r10 ++ (wsL_law0_r11 ++ (wsL_law0_r12 ++ (wsL_law0_r13 ++ (wsL_law0_r14 ++ (wsL_law0_r15 ++ (wsL_law0_r16 ++ (wsL_law0_r17 ++ (wsL_law0_r18 ++ (wsL_law0_r19 ++ wsL_law0_r20))))))))))))))))))) ++ wsX60 ++ wsX50 ++ wsX20 ++ wsX10 ++ wsX40 ++ wsX00 ++ wsX30 ++ ([] : List Cond)
def wsL_law : List Cond := wsL_law0 ++ (vx_atS RX6 47 "java/lang/IllegalStateException" ["java/lang/RuntimeException", "java/lang/Exception"]).filter goodWord ++ (vx_atS RX6 183 "java/lang/IndexOutOfBoundsException" ["java/lang/RuntimeException", "java/lang/Exception"]).filter goodWord ++ (vx_atS RX6 109 "java/lang/IllegalArgumentException" ["java/lang/RuntimeException", "java/lang/Exception"]).filter goodWord
theorem inlX0 : ∀ w ∈ wsX00, w ∈ wsL_law := fun _ h => List.mem_append_left _ (List.mem_append_left _ (List.mem_append_left _ (List.mem_append_left _ (List.mem_append_left _ (List.mem_append_right _ h)))))
theorem inlX1 : ∀ w ∈ wsX10, w ∈ wsL_law := fun _ h => List.mem_append_left _ (List.mem_append_left _ (List.mem_append_left _ (List.mem_append_left _ (List.mem_append_left _ (List.mem_append_left _ (List.mem_append_left _ (List.mem_append_right _ h)))))))
theorem inlX2 : ∀ w ∈ wsX20, w ∈ wsL_law := fun _ h => List.mem_append_left _ (List.mem_append_left _ (List.mem_append_left _ (List.mem_append_left _ (List.mem_append_left _ (List.mem_append_left _ (List.mem_append_left _ (List.mem_append_left _ (List.mem_append_right _ h))))))))
theorem inlX3 : ∀ w ∈ wsX30, w ∈ wsL_law := fun _ h => List.mem_append_left _ (List.mem_append_left _ (List.mem_append_left _ (List.mem_append_left _ (List.mem_append_right _ h))))
theorem inlX4 : ∀ w ∈ wsX40, w ∈ wsL_law := fun _ h => List.mem_append_left _ (List.mem_append_left _ (List.mem_append_left _ (List.mem_append_left _ (List.mem_append_left _ (List.mem_append_left _ (List.mem_append_right _ h))))))
theorem inlX5 : ∀ w ∈ wsX50, w ∈ wsL_law := fun _ h => List.mem_append_left _ (List.mem_append_left _ (List.mem_append_left _ (List.mem_append_left _ (List.mem_append_left _ (List.mem_append_left _ (List.mem_append_left _ (List.mem_append_left _ (List.mem_append_left _ (List.mem_append_right _ h)))))))))
theorem inlX6 : ∀ w ∈ wsX60, w ∈ wsL_law := fun _ h => List.mem_append_left _ (List.mem_append_left _ (List.mem_append_left _ (List.mem_append_left _ (List.mem_append_left _ (List.mem_append_left _ (List.mem_append_left _ (List.mem_append_left _ (List.mem_append_left _ (List.mem_append_left _ (List.mem_append_right _ h))))))))))
theorem dX0_init_0 : decode cX0_init 0 = .ok (.aload_n 0, 1) := by decide +kernel
theorem dX0_init_1 : decode cX0_init 1 = .ok (.invokespecial 3, 3) := by decide +kernel
theorem dX0_init_4 : decode cX0_init 4 = .ok (.aload_n 0, 1) := by decide +kernel
theorem dX0_init_5 : decode cX0_init 5 = .ok (.bipush 64, 2) := by decide +kernel
theorem dX0_init_7 : decode cX0_init 7 = .ok (.newarray .int, 2) := by decide +kernel
theorem dX0_init_9 : decode cX0_init 9 = .ok (.putfield 9, 3) := by decide +kernel
theorem dX0_init_12 : decode cX0_init 12 = .ok (.aload_n 0, 1) := by decide +kernel
theorem dX0_init_13 : decode cX0_init 13 = .ok (.iconst (-1), 1) := by decide +kernel
theorem dX0_init_14 : decode cX0_init 14 = .ok (.putfield 15, 3) := by decide +kernel
theorem dX0_init_17 : decode cX0_init 17 = .ok (.return_, 1) := by decide +kernel
theorem dX0_clear_0 : decode cX0_clear 0 = .ok (.aload_n 0, 1) := by decide +kernel
theorem dX0_clear_1 : decode cX0_clear 1 = .ok (.iconst 0, 1) := by decide +kernel
theorem dX0_clear_2 : decode cX0_clear 2 = .ok (.putfield 19, 3) := by decide +kernel
theorem dX0_clear_5 : decode cX0_clear 5 = .ok (.aload_n 0, 1) := by decide +kernel
theorem dX0_clear_6 : decode cX0_clear 6 = .ok (.iconst (-1), 1) := by decide +kernel
theorem dX0_clear_7 : decode cX0_clear 7 = .ok (.putfield 15, 3) := by decide +kernel
theorem dX0_clear_10 : decode cX0_clear 10 = .ok (.return_, 1) := by decide +kernel
theorem dX0_size_0 : decode cX0_size 0 = .ok (.aload_n 0, 1) := by decide +kernel
theorem dX0_size_1 : decode cX0_size 1 = .ok (.getfield 19, 3) := by decide +kernel
theorem dX0_size_4 : decode cX0_size 4 = .ok (.ireturn, 1) := by decide +kernel
theorem dX0_firstDepth_0 : decode cX0_firstDepth 0 = .ok (.aload_n 0, 1) := by decide +kernel
theorem dX0_firstDepth_1 : decode cX0_firstDepth 1 = .ok (.getfield 15, 3) := by decide +kernel
theorem dX0_firstDepth_4 : decode cX0_firstDepth 4 = .ok (.ireturn, 1) := by decide +kernel
theorem dX0_append_0 : decode cX0_append 0 = .ok (.aload_n 0, 1) := by decide +kernel
theorem dX0_append_1 : decode cX0_append 1 = .ok (.getfield 19, 3) := by decide +kernel
theorem dX0_append_4 : decode cX0_append 4 = .ok (.ifCond .lt 15, 3) := by decide +kernel
theorem dX0_append_7 : decode cX0_append 7 = .ok (.aload_n 0, 1) := by decide +kernel
theorem dX0_append_8 : decode cX0_append 8 = .ok (.getfield 19, 3) := by decide +kernel
theorem dX0_append_11 : decode cX0_append 11 = .ok (.aload_n 0, 1) := by decide +kernel
theorem dX0_append_12 : decode cX0_append 12 = .ok (.getfield 9, 3) := by decide +kernel
theorem dX0_append_15 : decode cX0_append 15 = .ok (.arraylength, 1) := by decide +kernel
theorem dX0_append_16 : decode cX0_append 16 = .ok (.if_icmp .lt 4, 3) := by decide +kernel
theorem dX0_append_19 : decode cX0_append 19 = .ok (.return_, 1) := by decide +kernel
theorem dX0_append_20 : decode cX0_append 20 = .ok (.aload_n 0, 1) := by decide +kernel
theorem dX0_append_21 : decode cX0_append 21 = .ok (.getfield 19, 3) := by decide +kernel
theorem dX0_append_24 : decode cX0_append 24 = .ok (.ifCond .ne 8, 3) := by decide +kernel
theorem dX0_append_27 : decode cX0_append 27 = .ok (.aload_n 0, 1) := by decide +kernel
theorem dX0_append_28 : decode cX0_append 28 = .ok (.iload_n 2, 1) := by decide +kernel
theorem dX0_append_29 : decode cX0_append 29 = .ok (.putfield 15, 3) := by decide +kernel
theorem dX0_append_32 : decode cX0_append 32 = .ok (.aload_n 0, 1) := by decide +kernel
theorem dX0_append_33 : decode cX0_append 33 = .ok (.getfield 9, 3) := by decide +kernel
theorem dX0_append_36 : decode cX0_append 36 = .ok (.aload_n 0, 1) := by decide +kernel
theorem dX0_append_37 : decode cX0_append 37 = .ok (.getfield 19, 3) := by decide +kernel
theorem dX0_append_40 : decode cX0_append 40 = .ok (.iload_n 1, 1) := by decide +kernel
theorem dX0_append_41 : decode cX0_append 41 = .ok (.iastore, 1) := by decide +kernel
theorem dX0_append_42 : decode cX0_append 42 = .ok (.aload_n 0, 1) := by decide +kernel
theorem dX0_append_43 : decode cX0_append 43 = .ok (.dup, 1) := by decide +kernel
theorem dX0_append_44 : decode cX0_append 44 = .ok (.getfield 19, 3) := by decide +kernel
theorem dX0_append_47 : decode cX0_append 47 = .ok (.iconst 1, 1) := by decide +kernel
theorem dX0_append_48 : decode cX0_append 48 = .ok (.iadd, 1) := by decide +kernel
theorem dX0_append_49 : decode cX0_append 49 = .ok (.putfield 19, 3) := by decide +kernel
theorem dX0_append_52 : decode cX0_append 52 = .ok (.return_, 1) := by decide +kernel
set_option maxRecDepth 20000 in
theorem ggX1_init_X0_init : GoodIn wsX1_init wsX0_init := goodIn_r _ [20, 21, 2, 3, 4, 22, 23, 45, 46, 47] (by decide +kernel) (by decide +kernel)
set_option maxRecDepth 20000 in
theorem gX1_init_X0_init : GoodIn wsX1_init (wsX0_init) := ggX1_init_X0_init
set_option maxRecDepth 20000 in
theorem ggX1_init_X3_init : GoodIn wsX1_init wsX3_init := goodIn_r _ [26, 27, 2, 3, 4, 28, 29, 30, 31, 32, 48, 49, 50, 51, 52, 53, 54, 55] (by decide +kernel) (by decide +kernel)
set_option maxRecDepth 20000 in
theorem gX1_init_X3_init : GoodIn wsX1_init (wsX3_init) := ggX1_init_X3_init
theorem dX1_init_0 : decode cX1_init 0 = .ok (.aload_n 0, 1) := by decide +kernel
theorem dX1_init_1 : decode cX1_init 1 = .ok (.invokespecial 3, 3) := by decide +kernel
theorem dX1_init_4 : decode cX1_init 4 = .ok (.aload_n 0, 1) := by decide +kernel
theorem dX1_init_5 : decode cX1_init 5 = .ok (.sipush 1000, 3) := by decide +kernel
theorem dX1_init_8 : decode cX1_init 8 = .ok (.newarray .int, 2) := by decide +kernel
theorem dX1_init_10 : decode cX1_init 10 = .ok (.putfield 9, 3) := by decide +kernel
theorem dX1_init_13 : decode cX1_init 13 = .ok (.aload_n 0, 1) := by decide +kernel
theorem dX1_init_14 : decode cX1_init 14 = .ok (.sipush 1000, 3) := by decide +kernel
theorem dX1_init_17 : decode cX1_init 17 = .ok (.newarray .int, 2) := by decide +kernel
theorem dX1_init_19 : decode cX1_init 19 = .ok (.putfield 15, 3) := by decide +kernel
theorem dX1_init_22 : decode cX1_init 22 = .ok (.aload_n 0, 1) := by decide +kernel
theorem dX1_init_23 : decode cX1_init 23 = .ok (.sipush 8000, 3) := by decide +kernel
theorem dX1_init_26 : decode cX1_init 26 = .ok (.newarray .int, 2) := by decide +kernel
theorem dX1_init_28 : decode cX1_init 28 = .ok (.putfield 18, 3) := by decide +kernel
theorem dX1_init_31 : decode cX1_init 31 = .ok (.aload_n 0, 1) := by decide +kernel
theorem dX1_init_32 : decode cX1_init 32 = .ok (.sipush 16384, 3) := by decide +kernel
theorem dX1_init_35 : decode cX1_init 35 = .ok (.newarray .int, 2) := by decide +kernel
theorem dX1_init_37 : decode cX1_init 37 = .ok (.putfield 21, 3) := by decide +kernel
theorem dX1_init_40 : decode cX1_init 40 = .ok (.aload_n 0, 1) := by decide +kernel
theorem dX1_init_41 : decode cX1_init 41 = .ok (.new 24, 3) := by decide +kernel
theorem dX1_init_44 : decode cX1_init 44 = .ok (.dup, 1) := by decide +kernel
theorem dX1_init_45 : decode cX1_init 45 = .ok (.invokespecial 26, 3) := by decide +kernel
theorem dX1_init_48 : decode cX1_init 48 = .ok (.putfield 27, 3) := by decide +kernel
theorem dX1_init_51 : decode cX1_init 51 = .ok (.aload_n 0, 1) := by decide +kernel
theorem dX1_init_52 : decode cX1_init 52 = .ok (.new 31, 3) := by decide +kernel
theorem dX1_init_55 : decode cX1_init 55 = .ok (.dup, 1) := by decide +kernel
theorem dX1_init_56 : decode cX1_init 56 = .ok (.invokespecial 33, 3) := by decide +kernel
theorem dX1_init_59 : decode cX1_init 59 = .ok (.putfield 34, 3) := by decide +kernel
theorem dX1_init_62 : decode cX1_init 62 = .ok (.aload_n 0, 1) := by decide +kernel
theorem dX1_init_63 : decode cX1_init 63 = .ok (.aload_n 1, 1) := by decide +kernel
theorem dX1_init_64 : decode cX1_init 64 = .ok (.putfield 38, 3) := by decide +kernel
theorem dX1_init_67 : decode cX1_init 67 = .ok (.return_, 1) := by decide +kernel
theorem dX1_isDone_0 : decode cX1_isDone 0 = .ok (.aload_n 0, 1) := by decide +kernel
theorem dX1_isDone_1 : decode cX1_isDone 1 = .ok (.getfield 42, 3) := by decide +kernel
theorem dX1_isDone_4 : decode cX1_isDone 4 = .ok (.ireturn, 1) := by decide +kernel
theorem dX1_isUsable_0 : decode cX1_isUsable 0 = .ok (.aload_n 0, 1) := by decide +kernel
theorem dX1_isUsable_1 : decode cX1_isUsable 1 = .ok (.getfield 42, 3) := by decide +kernel
theorem dX1_isUsable_4 : decode cX1_isUsable 4 = .ok (.ifCond .eq 14, 3) := by decide +kernel
theorem dX1_isUsable_7 : decode cX1_isUsable 7 = .ok (.aload_n 0, 1) := by decide +kernel
theorem dX1_isUsable_8 : decode cX1_isUsable 8 = .ok (.getfield 46, 3) := by decide +kernel
theorem dX1_isUsable_11 : decode cX1_isUsable 11 = .ok (.ifCond .ne 7, 3) := by decide +kernel
theorem dX1_isUsable_14 : decode cX1_isUsable 14 = .ok (.iconst 1, 1) := by decide +kernel
theorem dX1_isUsable_15 : decode cX1_isUsable 15 = .ok (.goto 4, 3) := by decide +kernel
theorem dX1_isUsable_18 : decode cX1_isUsable 18 = .ok (.iconst 0, 1) := by decide +kernel
theorem dX1_isUsable_19 : decode cX1_isUsable 19 = .ok (.ireturn, 1) := by decide +kernel
theorem dX1_answer_0 : decode cX1_answer 0 = .ok (.aload_n 0, 1) := by decide +kernel
theorem dX1_answer_1 : decode cX1_answer 1 = .ok (.getfield 46, 3) := by decide +kernel
theorem dX1_answer_4 : decode cX1_answer 4 = .ok (.ifCond .eq 7, 3) := by decide +kernel
theorem dX1_answer_7 : decode cX1_answer 7 = .ok (.iconst (-1), 1) := by decide +kernel
theorem dX1_answer_8 : decode cX1_answer 8 = .ok (.goto 7, 3) := by decide +kernel
theorem dX1_answer_11 : decode cX1_answer 11 = .ok (.aload_n 0, 1) := by decide +kernel
theorem dX1_answer_12 : decode cX1_answer 12 = .ok (.getfield 49, 3) := by decide +kernel
theorem dX1_answer_15 : decode cX1_answer 15 = .ok (.ireturn, 1) := by decide +kernel
theorem dX1_size_0 : decode cX1_size 0 = .ok (.aload_n 0, 1) := by decide +kernel
theorem dX1_size_1 : decode cX1_size 1 = .ok (.getfield 49, 3) := by decide +kernel
theorem dX1_size_4 : decode cX1_size 4 = .ok (.ireturn, 1) := by decide +kernel
theorem dX1_forget_0 : decode cX1_forget 0 = .ok (.aload_n 0, 1) := by decide +kernel
theorem dX1_forget_1 : decode cX1_forget 1 = .ok (.iconst 0, 1) := by decide +kernel
theorem dX1_forget_2 : decode cX1_forget 2 = .ok (.putfield 42, 3) := by decide +kernel
theorem dX1_forget_5 : decode cX1_forget 5 = .ok (.return_, 1) := by decide +kernel
theorem dX1_situationAt_0 : decode cX1_situationAt 0 = .ok (.iload_n 1, 1) := by decide +kernel
theorem dX1_situationAt_1 : decode cX1_situationAt 1 = .ok (.ifCond .lt 27, 3) := by decide +kernel
theorem dX1_situationAt_4 : decode cX1_situationAt 4 = .ok (.iload_n 1, 1) := by decide +kernel
theorem dX1_situationAt_5 : decode cX1_situationAt 5 = .ok (.aload_n 0, 1) := by decide +kernel
theorem dX1_situationAt_6 : decode cX1_situationAt 6 = .ok (.getfield 49, 3) := by decide +kernel
theorem dX1_situationAt_9 : decode cX1_situationAt 9 = .ok (.if_icmp .ge 19, 3) := by decide +kernel
theorem dX1_situationAt_12 : decode cX1_situationAt 12 = .ok (.iload_n 1, 1) := by decide +kernel
theorem dX1_situationAt_13 : decode cX1_situationAt 13 = .ok (.sipush 1000, 3) := by decide +kernel
theorem dX1_situationAt_16 : decode cX1_situationAt 16 = .ok (.if_icmp .ge 12, 3) := by decide +kernel
theorem dX1_situationAt_19 : decode cX1_situationAt 19 = .ok (.aload_n 0, 1) := by decide +kernel
theorem dX1_situationAt_20 : decode cX1_situationAt 20 = .ok (.getfield 9, 3) := by decide +kernel
theorem dX1_situationAt_23 : decode cX1_situationAt 23 = .ok (.iload_n 1, 1) := by decide +kernel
theorem dX1_situationAt_24 : decode cX1_situationAt 24 = .ok (.iaload, 1) := by decide +kernel
theorem dX1_situationAt_25 : decode cX1_situationAt 25 = .ok (.goto 4, 3) := by decide +kernel
theorem dX1_situationAt_28 : decode cX1_situationAt 28 = .ok (.iconst (-1), 1) := by decide +kernel
theorem dX1_situationAt_29 : decode cX1_situationAt 29 = .ok (.ireturn, 1) := by decide +kernel
theorem dX1_nextOf_0 : decode cX1_nextOf 0 = .ok (.iload_n 1, 1) := by decide +kernel
theorem dX1_nextOf_1 : decode cX1_nextOf 1 = .ok (.ifCond .lt 21, 3) := by decide +kernel
theorem dX1_nextOf_4 : decode cX1_nextOf 4 = .ok (.iload_n 1, 1) := by decide +kernel
theorem dX1_nextOf_5 : decode cX1_nextOf 5 = .ok (.aload_n 0, 1) := by decide +kernel
theorem dX1_nextOf_6 : decode cX1_nextOf 6 = .ok (.getfield 49, 3) := by decide +kernel
theorem dX1_nextOf_9 : decode cX1_nextOf 9 = .ok (.if_icmp .ge 13, 3) := by decide +kernel
theorem dX1_nextOf_12 : decode cX1_nextOf 12 = .ok (.iload_n 2, 1) := by decide +kernel
theorem dX1_nextOf_13 : decode cX1_nextOf 13 = .ok (.ifCond .lt 9, 3) := by decide +kernel
theorem dX1_nextOf_16 : decode cX1_nextOf 16 = .ok (.iload_n 2, 1) := by decide +kernel
theorem dX1_nextOf_17 : decode cX1_nextOf 17 = .ok (.bipush 8, 2) := by decide +kernel
theorem dX1_nextOf_19 : decode cX1_nextOf 19 = .ok (.if_icmp .lt 5, 3) := by decide +kernel
theorem dX1_nextOf_22 : decode cX1_nextOf 22 = .ok (.iconst (-1), 1) := by decide +kernel
theorem dX1_nextOf_23 : decode cX1_nextOf 23 = .ok (.ireturn, 1) := by decide +kernel
theorem dX1_nextOf_24 : decode cX1_nextOf 24 = .ok (.iload_n 1, 1) := by decide +kernel
theorem dX1_nextOf_25 : decode cX1_nextOf 25 = .ok (.bipush 8, 2) := by decide +kernel
theorem dX1_nextOf_27 : decode cX1_nextOf 27 = .ok (.imul, 1) := by decide +kernel
theorem dX1_nextOf_28 : decode cX1_nextOf 28 = .ok (.iload_n 2, 1) := by decide +kernel
theorem dX1_nextOf_29 : decode cX1_nextOf 29 = .ok (.iadd, 1) := by decide +kernel
theorem dX1_nextOf_30 : decode cX1_nextOf 30 = .ok (.istore_n 3, 1) := by decide +kernel
theorem dX1_nextOf_31 : decode cX1_nextOf 31 = .ok (.iload_n 3, 1) := by decide +kernel
theorem dX1_nextOf_32 : decode cX1_nextOf 32 = .ok (.ifCond .lt 21, 3) := by decide +kernel
theorem dX1_nextOf_35 : decode cX1_nextOf 35 = .ok (.iload_n 3, 1) := by decide +kernel
theorem dX1_nextOf_36 : decode cX1_nextOf 36 = .ok (.aload_n 0, 1) := by decide +kernel
theorem dX1_nextOf_37 : decode cX1_nextOf 37 = .ok (.getfield 18, 3) := by decide +kernel
theorem dX1_nextOf_40 : decode cX1_nextOf 40 = .ok (.arraylength, 1) := by decide +kernel
theorem dX1_nextOf_41 : decode cX1_nextOf 41 = .ok (.if_icmp .ge 12, 3) := by decide +kernel
theorem dX1_nextOf_44 : decode cX1_nextOf 44 = .ok (.aload_n 0, 1) := by decide +kernel
theorem dX1_nextOf_45 : decode cX1_nextOf 45 = .ok (.getfield 18, 3) := by decide +kernel
theorem dX1_nextOf_48 : decode cX1_nextOf 48 = .ok (.iload_n 3, 1) := by decide +kernel
theorem dX1_nextOf_49 : decode cX1_nextOf 49 = .ok (.iaload, 1) := by decide +kernel
theorem dX1_nextOf_50 : decode cX1_nextOf 50 = .ok (.goto 4, 3) := by decide +kernel
theorem dX1_nextOf_53 : decode cX1_nextOf 53 = .ok (.iconst (-1), 1) := by decide +kernel
theorem dX1_nextOf_54 : decode cX1_nextOf 54 = .ok (.ireturn, 1) := by decide +kernel
set_option maxRecDepth 20000 in
theorem ggX1_search_X1_clear : GoodIn wsX1_search wsX1_clear := goodIn_r _ [9, 1, 10, 2, 11, 12, 13, 14, 15, 16, 8, 17, 18, 19, 20, 21, 22, 23, 24, 25, 150, 151, 152, 153, 154, 155, 156, 157, 158, 159, 160, 161, 162, 163, 164] (by decide +kernel) (by decide +kernel)
set_option maxRecDepth 20000 in
theorem gX1_search_X1_clear : GoodIn wsX1_search (wsV RX1 59 RX1 yX1_clear wsX1_clear) := goodIn_app (goodIn_of _ (by decide +kernel)) ggX1_search_X1_clear
set_option maxRecDepth 20000 in
theorem ggX1_search_X1_findOrAdd : GoodIn wsX1_search wsX1_findOrAdd := goodIn_r _ [29, 18, 1, 2, 10, 30, 150, 151, 152, 153, 154, 155, 156, 157, 158, 159, 160, 161] (by decide +kernel) (by decide +kernel)
set_option maxRecDepth 20000 in
theorem gX1_search_X1_findOrAdd : GoodIn wsX1_search (wsV RX1 62 RX1 yX1_findOrAdd wsX1_findOrAdd) := goodIn_app (goodIn_of _ (by decide +kernel)) ggX1_search_X1_findOrAdd
set_option maxRecDepth 20000 in
theorem ggX1_search_X1_expand : GoodIn wsX1_search wsX1_expand := goodIn_r _ [34, 10, 35, 11, 12, 13, 30, 36, 37, 38, 39, 40, 41, 42, 43, 44, 45, 46, 47, 48, 49, 50, 51, 52, 53, 54, 55, 56, 57, 58, 59, 60, 61, 62, 63, 64, 65, 22, 66, 24, 67, 25, 68, 69, 70, 71, 72, 73, 74, 75, 76, 77, 78, 79, 80, 81, 82, 83, 84, 85, 86, 87, 88, 89, 90, 91, 92, 93, 94, 95, 96, 97, 98, 99, 26, 27, 28, 8, 29, 18, 1, 2, 100, 101, 102, 103, 104, 150, 151, 152, 153, 154, 155, 156, 157, 158, 159, 160, 161, 165, 166, 167, 168, 169, 170, 171, 172, 173, 174, 175, 176, 177, 178, 162, 163, 164] (by decide +kernel) (by decide +kernel)
set_option maxRecDepth 20000 in
theorem gX1_search_X1_expand : GoodIn wsX1_search (wsV RX1 66 RX1 yX1_expand wsX1_expand) := goodIn_app (goodIn_of _ (by decide +kernel)) ggX1_search_X1_expand
set_option maxRecDepth 20000 in
theorem ggX1_search_X3_study : GoodIn wsX1_search wsX3_study := goodIn_r _ [109, 110, 111, 112, 113, 114, 115, 108, 116, 117, 118, 119, 120, 121, 122, 8, 123, 1, 124, 125, 126, 127, 104, 128, 129, 130, 131, 132, 133, 134, 135, 136, 137, 138, 139, 140, 141, 142, 143, 144, 145, 146, 147, 148, 149, 179, 180, 181, 182, 183, 184, 185, 186, 150, 151, 152, 153, 154, 155, 156, 157, 158, 159, 160, 161] (by decide +kernel) (by decide +kernel)
set_option maxRecDepth 20000 in
theorem gX1_search_X3_study : GoodIn wsX1_search (wsV RX1 70 RX3 yX3_study wsX3_study) := goodIn_app (goodIn_of _ (by decide +kernel)) ggX1_search_X3_study
theorem dX1_search_0 : decode cX1_search 0 = .ok (.aload_n 0, 1) := by decide +kernel
theorem dX1_search_1 : decode cX1_search 1 = .ok (.invokevirtual 59, 3) := by decide +kernel
theorem dX1_search_4 : decode cX1_search 4 = .ok (.aload_n 0, 1) := by decide +kernel
theorem dX1_search_5 : decode cX1_search 5 = .ok (.iload_n 1, 1) := by decide +kernel
theorem dX1_search_6 : decode cX1_search 6 = .ok (.iconst 0, 1) := by decide +kernel
theorem dX1_search_7 : decode cX1_search 7 = .ok (.invokevirtual 62, 3) := by decide +kernel
theorem dX1_search_10 : decode cX1_search 10 = .ok (.pop, 1) := by decide +kernel
theorem dX1_search_11 : decode cX1_search 11 = .ok (.iconst 0, 1) := by decide +kernel
theorem dX1_search_12 : decode cX1_search 12 = .ok (.istore_n 2, 1) := by decide +kernel
theorem dX1_search_13 : decode cX1_search 13 = .ok (.iload_n 2, 1) := by decide +kernel
theorem dX1_search_14 : decode cX1_search 14 = .ok (.aload_n 0, 1) := by decide +kernel
theorem dX1_search_15 : decode cX1_search 15 = .ok (.getfield 49, 3) := by decide +kernel
theorem dX1_search_18 : decode cX1_search 18 = .ok (.if_icmp .ge 28, 3) := by decide +kernel
theorem dX1_search_21 : decode cX1_search 21 = .ok (.iload_n 2, 1) := by decide +kernel
theorem dX1_search_22 : decode cX1_search 22 = .ok (.sipush 1000, 3) := by decide +kernel
theorem dX1_search_25 : decode cX1_search 25 = .ok (.if_icmp .ge 21, 3) := by decide +kernel
theorem dX1_search_28 : decode cX1_search 28 = .ok (.aload_n 0, 1) := by decide +kernel
theorem dX1_search_29 : decode cX1_search 29 = .ok (.getfield 46, 3) := by decide +kernel
theorem dX1_search_32 : decode cX1_search 32 = .ok (.ifCond .ne 14, 3) := by decide +kernel
theorem dX1_search_35 : decode cX1_search 35 = .ok (.aload_n 0, 1) := by decide +kernel
theorem dX1_search_36 : decode cX1_search 36 = .ok (.iload_n 2, 1) := by decide +kernel
theorem dX1_search_37 : decode cX1_search 37 = .ok (.invokevirtual 66, 3) := by decide +kernel
theorem dX1_search_40 : decode cX1_search 40 = .ok (.iinc 2 1, 3) := by decide +kernel
theorem dX1_search_43 : decode cX1_search 43 = .ok (.goto (-30), 3) := by decide +kernel
theorem dX1_search_46 : decode cX1_search 46 = .ok (.aload_n 0, 1) := by decide +kernel
theorem dX1_search_47 : decode cX1_search 47 = .ok (.getfield 46, 3) := by decide +kernel
theorem dX1_search_50 : decode cX1_search 50 = .ok (.ifCond .ne 11, 3) := by decide +kernel
theorem dX1_search_53 : decode cX1_search 53 = .ok (.aload_n 0, 1) := by decide +kernel
theorem dX1_search_54 : decode cX1_search 54 = .ok (.getfield 34, 3) := by decide +kernel
theorem dX1_search_57 : decode cX1_search 57 = .ok (.aload_n 0, 1) := by decide +kernel
theorem dX1_search_58 : decode cX1_search 58 = .ok (.invokevirtual 70, 3) := by decide +kernel
theorem dX1_search_61 : decode cX1_search 61 = .ok (.aload_n 0, 1) := by decide +kernel
theorem dX1_search_62 : decode cX1_search 62 = .ok (.iconst 1, 1) := by decide +kernel
theorem dX1_search_63 : decode cX1_search 63 = .ok (.putfield 42, 3) := by decide +kernel
theorem dX1_search_66 : decode cX1_search 66 = .ok (.return_, 1) := by decide +kernel
set_option maxRecDepth 20000 in
theorem ggX1_clear_X1_mark : GoodIn wsX1_clear wsX1_mark := goodIn_r _ [11, 12, 20, 21, 22, 23, 24, 25, 26, 27, 28, 29, 30, 31] (by decide +kernel) (by decide +kernel)
set_option maxRecDepth 20000 in
theorem gX1_clear_X1_mark : GoodIn wsX1_clear (wsV RX1 74 RX1 yX1_mark wsX1_mark) := goodIn_app (goodIn_of _ (by decide +kernel)) ggX1_clear_X1_mark
set_option maxRecDepth 20000 in
theorem ggX1_clear_X0_clear : GoodIn wsX1_clear wsX0_clear := goodIn_r _ [17, 18, 19, 32, 33, 34] (by decide +kernel) (by decide +kernel)
set_option maxRecDepth 20000 in
theorem gX1_clear_X0_clear : GoodIn wsX1_clear (wsV RX1 78 RX0 yX0_clear wsX0_clear) := goodIn_app (goodIn_of _ (by decide +kernel)) ggX1_clear_X0_clear
theorem dX1_clear_0 : decode cX1_clear 0 = .ok (.iconst 0, 1) := by decide +kernel
theorem dX1_clear_1 : decode cX1_clear 1 = .ok (.istore_n 1, 1) := by decide +kernel
theorem dX1_clear_2 : decode cX1_clear 2 = .ok (.iload_n 1, 1) := by decide +kernel
theorem dX1_clear_3 : decode cX1_clear 3 = .ok (.aload_n 0, 1) := by decide +kernel
theorem dX1_clear_4 : decode cX1_clear 4 = .ok (.getfield 49, 3) := by decide +kernel
theorem dX1_clear_7 : decode cX1_clear 7 = .ok (.if_icmp .ge 27, 3) := by decide +kernel
theorem dX1_clear_10 : decode cX1_clear 10 = .ok (.iload_n 1, 1) := by decide +kernel
theorem dX1_clear_11 : decode cX1_clear 11 = .ok (.sipush 1000, 3) := by decide +kernel
theorem dX1_clear_14 : decode cX1_clear 14 = .ok (.if_icmp .ge 20, 3) := by decide +kernel
theorem dX1_clear_17 : decode cX1_clear 17 = .ok (.aload_n 0, 1) := by decide +kernel
theorem dX1_clear_18 : decode cX1_clear 18 = .ok (.aload_n 0, 1) := by decide +kernel
theorem dX1_clear_19 : decode cX1_clear 19 = .ok (.getfield 9, 3) := by decide +kernel
theorem dX1_clear_22 : decode cX1_clear 22 = .ok (.iload_n 1, 1) := by decide +kernel
theorem dX1_clear_23 : decode cX1_clear 23 = .ok (.iaload, 1) := by decide +kernel
theorem dX1_clear_24 : decode cX1_clear 24 = .ok (.iconst 0, 1) := by decide +kernel
theorem dX1_clear_25 : decode cX1_clear 25 = .ok (.invokevirtual 74, 3) := by decide +kernel
theorem dX1_clear_28 : decode cX1_clear 28 = .ok (.iinc 1 1, 3) := by decide +kernel
theorem dX1_clear_31 : decode cX1_clear 31 = .ok (.goto (-29), 3) := by decide +kernel
theorem dX1_clear_34 : decode cX1_clear 34 = .ok (.aload_n 0, 1) := by decide +kernel
theorem dX1_clear_35 : decode cX1_clear 35 = .ok (.iconst 0, 1) := by decide +kernel
theorem dX1_clear_36 : decode cX1_clear 36 = .ok (.putfield 49, 3) := by decide +kernel
theorem dX1_clear_39 : decode cX1_clear 39 = .ok (.aload_n 0, 1) := by decide +kernel
theorem dX1_clear_40 : decode cX1_clear 40 = .ok (.iconst 0, 1) := by decide +kernel
theorem dX1_clear_41 : decode cX1_clear 41 = .ok (.putfield 46, 3) := by decide +kernel
theorem dX1_clear_44 : decode cX1_clear 44 = .ok (.aload_n 0, 1) := by decide +kernel
theorem dX1_clear_45 : decode cX1_clear 45 = .ok (.iconst 0, 1) := by decide +kernel
theorem dX1_clear_46 : decode cX1_clear 46 = .ok (.putfield 53, 3) := by decide +kernel
theorem dX1_clear_49 : decode cX1_clear 49 = .ok (.aload_n 0, 1) := by decide +kernel
theorem dX1_clear_50 : decode cX1_clear 50 = .ok (.iconst 0, 1) := by decide +kernel
theorem dX1_clear_51 : decode cX1_clear 51 = .ok (.putfield 56, 3) := by decide +kernel
theorem dX1_clear_54 : decode cX1_clear 54 = .ok (.aload_n 0, 1) := by decide +kernel
theorem dX1_clear_55 : decode cX1_clear 55 = .ok (.getfield 27, 3) := by decide +kernel
theorem dX1_clear_58 : decode cX1_clear 58 = .ok (.invokevirtual 78, 3) := by decide +kernel
theorem dX1_clear_61 : decode cX1_clear 61 = .ok (.return_, 1) := by decide +kernel
theorem dX1_mark_0 : decode cX1_mark 0 = .ok (.iload_n 1, 1) := by decide +kernel
theorem dX1_mark_1 : decode cX1_mark 1 = .ok (.ifCond .lt 19, 3) := by decide +kernel
theorem dX1_mark_4 : decode cX1_mark 4 = .ok (.iload_n 1, 1) := by decide +kernel
theorem dX1_mark_5 : decode cX1_mark 5 = .ok (.aload_n 0, 1) := by decide +kernel
theorem dX1_mark_6 : decode cX1_mark 6 = .ok (.getfield 21, 3) := by decide +kernel
theorem dX1_mark_9 : decode cX1_mark 9 = .ok (.arraylength, 1) := by decide +kernel
theorem dX1_mark_10 : decode cX1_mark 10 = .ok (.if_icmp .ge 10, 3) := by decide +kernel
theorem dX1_mark_13 : decode cX1_mark 13 = .ok (.aload_n 0, 1) := by decide +kernel
theorem dX1_mark_14 : decode cX1_mark 14 = .ok (.getfield 21, 3) := by decide +kernel
theorem dX1_mark_17 : decode cX1_mark 17 = .ok (.iload_n 1, 1) := by decide +kernel
theorem dX1_mark_18 : decode cX1_mark 18 = .ok (.iload_n 2, 1) := by decide +kernel
theorem dX1_mark_19 : decode cX1_mark 19 = .ok (.iastore, 1) := by decide +kernel
theorem dX1_mark_20 : decode cX1_mark 20 = .ok (.return_, 1) := by decide +kernel
theorem dX1_findOrAdd_0 : decode cX1_findOrAdd 0 = .ok (.iload_n 1, 1) := by decide +kernel
theorem dX1_findOrAdd_1 : decode cX1_findOrAdd 1 = .ok (.ifCond .lt 12, 3) := by decide +kernel
theorem dX1_findOrAdd_4 : decode cX1_findOrAdd 4 = .ok (.iload_n 1, 1) := by decide +kernel
theorem dX1_findOrAdd_5 : decode cX1_findOrAdd 5 = .ok (.aload_n 0, 1) := by decide +kernel
theorem dX1_findOrAdd_6 : decode cX1_findOrAdd 6 = .ok (.getfield 21, 3) := by decide +kernel
theorem dX1_findOrAdd_9 : decode cX1_findOrAdd 9 = .ok (.arraylength, 1) := by decide +kernel
theorem dX1_findOrAdd_10 : decode cX1_findOrAdd 10 = .ok (.if_icmp .lt 5, 3) := by decide +kernel
theorem dX1_findOrAdd_13 : decode cX1_findOrAdd 13 = .ok (.iconst (-1), 1) := by decide +kernel
theorem dX1_findOrAdd_14 : decode cX1_findOrAdd 14 = .ok (.ireturn, 1) := by decide +kernel
theorem dX1_findOrAdd_15 : decode cX1_findOrAdd 15 = .ok (.aload_n 0, 1) := by decide +kernel
theorem dX1_findOrAdd_16 : decode cX1_findOrAdd 16 = .ok (.getfield 21, 3) := by decide +kernel
theorem dX1_findOrAdd_19 : decode cX1_findOrAdd 19 = .ok (.iload_n 1, 1) := by decide +kernel
theorem dX1_findOrAdd_20 : decode cX1_findOrAdd 20 = .ok (.iaload, 1) := by decide +kernel
theorem dX1_findOrAdd_21 : decode cX1_findOrAdd 21 = .ok (.ifCond .le 12, 3) := by decide +kernel
theorem dX1_findOrAdd_24 : decode cX1_findOrAdd 24 = .ok (.aload_n 0, 1) := by decide +kernel
theorem dX1_findOrAdd_25 : decode cX1_findOrAdd 25 = .ok (.getfield 21, 3) := by decide +kernel
theorem dX1_findOrAdd_28 : decode cX1_findOrAdd 28 = .ok (.iload_n 1, 1) := by decide +kernel
theorem dX1_findOrAdd_29 : decode cX1_findOrAdd 29 = .ok (.iaload, 1) := by decide +kernel
theorem dX1_findOrAdd_30 : decode cX1_findOrAdd 30 = .ok (.iconst 1, 1) := by decide +kernel
theorem dX1_findOrAdd_31 : decode cX1_findOrAdd 31 = .ok (.isub, 1) := by decide +kernel
theorem dX1_findOrAdd_32 : decode cX1_findOrAdd 32 = .ok (.ireturn, 1) := by decide +kernel
theorem dX1_findOrAdd_33 : decode cX1_findOrAdd 33 = .ok (.aload_n 0, 1) := by decide +kernel
theorem dX1_findOrAdd_34 : decode cX1_findOrAdd 34 = .ok (.getfield 49, 3) := by decide +kernel
theorem dX1_findOrAdd_37 : decode cX1_findOrAdd 37 = .ok (.ifCond .lt 13, 3) := by decide +kernel
theorem dX1_findOrAdd_40 : decode cX1_findOrAdd 40 = .ok (.aload_n 0, 1) := by decide +kernel
theorem dX1_findOrAdd_41 : decode cX1_findOrAdd 41 = .ok (.getfield 49, 3) := by decide +kernel
theorem dX1_findOrAdd_44 : decode cX1_findOrAdd 44 = .ok (.sipush 1000, 3) := by decide +kernel
theorem dX1_findOrAdd_47 : decode cX1_findOrAdd 47 = .ok (.if_icmp .lt 10, 3) := by decide +kernel
theorem dX1_findOrAdd_50 : decode cX1_findOrAdd 50 = .ok (.aload_n 0, 1) := by decide +kernel
theorem dX1_findOrAdd_51 : decode cX1_findOrAdd 51 = .ok (.iconst 1, 1) := by decide +kernel
theorem dX1_findOrAdd_52 : decode cX1_findOrAdd 52 = .ok (.putfield 46, 3) := by decide +kernel
theorem dX1_findOrAdd_55 : decode cX1_findOrAdd 55 = .ok (.iconst (-1), 1) := by decide +kernel
theorem dX1_findOrAdd_56 : decode cX1_findOrAdd 56 = .ok (.ireturn, 1) := by decide +kernel
theorem dX1_findOrAdd_57 : decode cX1_findOrAdd 57 = .ok (.aload_n 0, 1) := by decide +kernel
theorem dX1_findOrAdd_58 : decode cX1_findOrAdd 58 = .ok (.getfield 9, 3) := by decide +kernel
theorem dX1_findOrAdd_61 : decode cX1_findOrAdd 61 = .ok (.aload_n 0, 1) := by decide +kernel
theorem dX1_findOrAdd_62 : decode cX1_findOrAdd 62 = .ok (.getfield 49, 3) := by decide +kernel
theorem dX1_findOrAdd_65 : decode cX1_findOrAdd 65 = .ok (.iload_n 1, 1) := by decide +kernel
theorem dX1_findOrAdd_66 : decode cX1_findOrAdd 66 = .ok (.iastore, 1) := by decide +kernel
theorem dX1_findOrAdd_67 : decode cX1_findOrAdd 67 = .ok (.aload_n 0, 1) := by decide +kernel
theorem dX1_findOrAdd_68 : decode cX1_findOrAdd 68 = .ok (.getfield 15, 3) := by decide +kernel
theorem dX1_findOrAdd_71 : decode cX1_findOrAdd 71 = .ok (.aload_n 0, 1) := by decide +kernel
theorem dX1_findOrAdd_72 : decode cX1_findOrAdd 72 = .ok (.getfield 49, 3) := by decide +kernel
theorem dX1_findOrAdd_75 : decode cX1_findOrAdd 75 = .ok (.iload_n 2, 1) := by decide +kernel
theorem dX1_findOrAdd_76 : decode cX1_findOrAdd 76 = .ok (.iastore, 1) := by decide +kernel
theorem dX1_findOrAdd_77 : decode cX1_findOrAdd 77 = .ok (.aload_n 0, 1) := by decide +kernel
theorem dX1_findOrAdd_78 : decode cX1_findOrAdd 78 = .ok (.dup, 1) := by decide +kernel
theorem dX1_findOrAdd_79 : decode cX1_findOrAdd 79 = .ok (.getfield 49, 3) := by decide +kernel
theorem dX1_findOrAdd_82 : decode cX1_findOrAdd 82 = .ok (.iconst 1, 1) := by decide +kernel
theorem dX1_findOrAdd_83 : decode cX1_findOrAdd 83 = .ok (.iadd, 1) := by decide +kernel
theorem dX1_findOrAdd_84 : decode cX1_findOrAdd 84 = .ok (.putfield 49, 3) := by decide +kernel
theorem dX1_findOrAdd_87 : decode cX1_findOrAdd 87 = .ok (.aload_n 0, 1) := by decide +kernel
theorem dX1_findOrAdd_88 : decode cX1_findOrAdd 88 = .ok (.getfield 21, 3) := by decide +kernel
theorem dX1_findOrAdd_91 : decode cX1_findOrAdd 91 = .ok (.iload_n 1, 1) := by decide +kernel
theorem dX1_findOrAdd_92 : decode cX1_findOrAdd 92 = .ok (.aload_n 0, 1) := by decide +kernel
theorem dX1_findOrAdd_93 : decode cX1_findOrAdd 93 = .ok (.getfield 49, 3) := by decide +kernel
theorem dX1_findOrAdd_96 : decode cX1_findOrAdd 96 = .ok (.iastore, 1) := by decide +kernel
theorem dX1_findOrAdd_97 : decode cX1_findOrAdd 97 = .ok (.aload_n 0, 1) := by decide +kernel
theorem dX1_findOrAdd_98 : decode cX1_findOrAdd 98 = .ok (.getfield 49, 3) := by decide +kernel
theorem dX1_findOrAdd_101 : decode cX1_findOrAdd 101 = .ok (.iconst 1, 1) := by decide +kernel
theorem dX1_findOrAdd_102 : decode cX1_findOrAdd 102 = .ok (.isub, 1) := by decide +kernel
theorem dX1_findOrAdd_103 : decode cX1_findOrAdd 103 = .ok (.ireturn, 1) := by decide +kernel
set_option maxRecDepth 20000 in
theorem ggX1_expand_X5_readyIn : GoodIn wsX1_expand wsX5_readyIn := goodIn_r _ [12, 13, 14, 15, 16, 17, 18, 19, 20, 21, 22, 23, 24, 110, 111, 112, 99, 100, 101, 102, 103, 104, 105, 106, 107, 108, 109] (by decide +kernel) (by decide +kernel)
set_option maxRecDepth 20000 in
theorem gX1_expand_X5_readyIn : GoodIn wsX1_expand (wsV RX1 79 RX5 yX5_readyIn wsX5_readyIn) := goodIn_app (goodIn_of _ (by decide +kernel)) ggX1_expand_X5_readyIn
set_option maxRecDepth 20000 in
theorem ggX1_expand_J6_bitCount_0f7a4 : GoodIn wsX1_expand wsJ6_bitCount_0f7a4 := goodIn_r _ [28, 29, 30, 31] (by decide +kernel) (by decide +kernel)
set_option maxRecDepth 20000 in
theorem gX1_expand_J6_bitCount_0f7a4 : GoodIn wsX1_expand (va_wsS RX1 85 yJ6_bitCount_0f7a4 wsJ6_bitCount_0f7a4) := goodIn_app (goodIn_of _ (by decide +kernel)) ggX1_expand_J6_bitCount_0f7a4
set_option maxRecDepth 20000 in
theorem ggX1_expand_X6_triggeredIn : GoodIn wsX1_expand wsX6_triggeredIn := goodIn_r _ [24] (by decide +kernel) (by decide +kernel)
set_option maxRecDepth 20000 in
theorem gX1_expand_X6_triggeredIn_n90 : GoodIn wsX1_expand (wsX6_triggeredIn) := ggX1_expand_X6_triggeredIn
set_option maxRecDepth 20000 in
theorem ggX1_expand_X6_factsIn : GoodIn wsX1_expand wsX6_factsIn := goodIn_r _ [33] (by decide +kernel) (by decide +kernel)
set_option maxRecDepth 20000 in
theorem gX1_expand_X6_factsIn_n93 : GoodIn wsX1_expand (wsX6_factsIn) := ggX1_expand_X6_factsIn
set_option maxRecDepth 20000 in
theorem ggX1_expand_X0_append : GoodIn wsX1_expand wsX0_append := goodIn_r _ [38, 39, 40, 41, 113, 114, 115] (by decide +kernel) (by decide +kernel)
set_option maxRecDepth 20000 in
theorem gX1_expand_X0_append : GoodIn wsX1_expand (wsV RX1 96 RX0 yX0_append wsX0_append) := goodIn_app (goodIn_of _ (by decide +kernel)) ggX1_expand_X0_append
set_option maxRecDepth 20000 in
theorem ggX1_expand_X5_ruleOrNull : GoodIn wsX1_expand wsX5_ruleOrNull := goodIn_r _ [45, 46, 13, 110, 111, 112] (by decide +kernel) (by decide +kernel)
set_option maxRecDepth 20000 in
theorem gX1_expand_X5_ruleOrNull : GoodIn wsX1_expand (wsV RX1 99 RX5 yX5_ruleOrNull wsX5_ruleOrNull) := goodIn_app (goodIn_of _ (by decide +kernel)) ggX1_expand_X5_ruleOrNull
set_option maxRecDepth 20000 in
theorem ggX1_expand_X5_played : GoodIn wsX1_expand wsX5_played := goodIn_r _ [50, 14, 51, 32, 23, 33, 22, 24, 52, 53, 54, 55, 56, 18, 57, 58, 59, 60, 61, 62, 63, 64, 65, 66, 67, 11, 68, 69, 70, 71, 72, 73, 99, 100, 101, 102, 103, 104, 105, 106, 107, 108, 109, 110, 111, 112] (by decide +kernel) (by decide +kernel)
set_option maxRecDepth 20000 in
theorem gX1_expand_X5_played : GoodIn wsX1_expand (wsV RX1 108 RX5 yX5_played wsX5_played) := goodIn_app (goodIn_of _ (by decide +kernel)) ggX1_expand_X5_played
set_option maxRecDepth 20000 in
theorem ggX1_expand_X1_findOrAdd : GoodIn wsX1_expand wsX1_findOrAdd := goodIn_r _ [78, 79, 80, 81, 1, 6, 87, 88, 89, 90, 91, 92, 93, 94, 95, 96, 97, 98] (by decide +kernel) (by decide +kernel)
set_option maxRecDepth 20000 in
theorem gX1_expand_X1_findOrAdd : GoodIn wsX1_expand (wsV RX1 62 RX1 yX1_findOrAdd wsX1_findOrAdd) := goodIn_app (goodIn_of _ (by decide +kernel)) ggX1_expand_X1_findOrAdd
set_option maxRecDepth 20000 in
theorem ggX1_expand_X1_keepNext : GoodIn wsX1_expand wsX1_keepNext := goodIn_r _ [85, 86, 87, 88, 89, 90, 91, 92, 93, 94, 95, 96, 97, 98] (by decide +kernel) (by decide +kernel)
set_option maxRecDepth 20000 in
theorem gX1_expand_X1_keepNext : GoodIn wsX1_expand (wsV RX1 112 RX1 yX1_keepNext wsX1_keepNext) := goodIn_app (goodIn_of _ (by decide +kernel)) ggX1_expand_X1_keepNext
theorem dX1_expand_0 : decode cX1_expand 0 = .ok (.iload_n 1, 1) := by decide +kernel
theorem dX1_expand_1 : decode cX1_expand 1 = .ok (.ifCond .lt 10, 3) := by decide +kernel
theorem dX1_expand_4 : decode cX1_expand 4 = .ok (.iload_n 1, 1) := by decide +kernel
theorem dX1_expand_5 : decode cX1_expand 5 = .ok (.sipush 1000, 3) := by decide +kernel
theorem dX1_expand_8 : decode cX1_expand 8 = .ok (.if_icmp .lt 4, 3) := by decide +kernel
theorem dX1_expand_11 : decode cX1_expand 11 = .ok (.return_, 1) := by decide +kernel
theorem dX1_expand_12 : decode cX1_expand 12 = .ok (.aload_n 0, 1) := by decide +kernel
theorem dX1_expand_13 : decode cX1_expand 13 = .ok (.getfield 9, 3) := by decide +kernel
