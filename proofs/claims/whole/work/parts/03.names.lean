/-! ===== BEGIN printed: names, fields, word lists, decode rows ===== -/
def RX0 : String := "LayeredTable$Entries"
def TX0 : u_T := fun k => match k with
  | 0 => ("LayeredTable$Entries", "cards", "[I", true)
  | 1 => ("LayeredTable$Entries", "triggers", "[Z", true)
  | 2 => ("LayeredTable$Entries", "players", "[I", true)
  | 3 => ("LayeredTable$Entries", "targets", "[I", true)
  | 4 => ("LayeredTable$Entries", "ids", "[I", true)
  | _ => ("LayeredTable$Entries", "size", "I", false)
def tyX0 : Nat → FieldType := fun k => match k with
  | 0 => .array .int
  | 1 => .array .boolean
  | 2 => .array .int
  | 3 => .array .int
  | 4 => .array .int
  | _ => .int
abbrev wsX00 : List Cond := u_ws RX0 TX0 6
theorem nmX0 : ∀ a, a < 6 → ∀ b, b < 6 → a ≠ b → (TX0 a).2.1 ≠ (TX0 b).2.1 := by decide +kernel
theorem tyX0_ok : ∀ k, k < 6 → parseFieldDescriptor (TX0 k).2.2.1 = some (tyX0 k) := by decide +kernel
abbrev cX0_init : ByteArray := prog_2_method_1_code
def yX0_init : MethodName := ⟨RX0, "<init>", "()V"⟩
abbrev cX0_has : ByteArray := prog_2_method_2_code
def yX0_has : MethodName := ⟨RX0, "has", "(I)Z"⟩
abbrev cX0_indexOf : ByteArray := prog_2_method_3_code
def yX0_indexOf : MethodName := ⟨RX0, "indexOf", "(I)I"⟩
abbrev cX0_push : ByteArray := prog_2_method_4_code
def yX0_push : MethodName := ⟨RX0, "push", "(IZIII)V"⟩
abbrev cX0_remove : ByteArray := prog_2_method_5_code
def yX0_remove : MethodName := ⟨RX0, "remove", "(I)V"⟩
abbrev cX0_placeOf : ByteArray := prog_2_method_6_code
def yX0_placeOf : MethodName := ⟨RX0, "placeOf", "(I)I"⟩
def RX1 : String := "LayeredTable$Memory"
def TX1 : u_T := fun k => match k with
  | 0 => ("LayeredTable$Memory", "state", "[I", true)
  | 1 => ("LayeredTable$Memory", "kept", "[[I", true)
  | 2 => ("LayeredTable$Memory", "length", "I", false)
  | 3 => ("LayeredTable$Memory", "size", "I", false)
  | _ => ("LayeredTable$Memory", "next", "I", false)
def tyX1 : Nat → FieldType := fun k => match k with
  | 0 => .array .int
  | 1 => .array (.array .int)
  | 2 => .int
  | 3 => .int
  | _ => .int
abbrev wsX10 : List Cond := u_ws RX1 TX1 5
theorem nmX1 : ∀ a, a < 5 → ∀ b, b < 5 → a ≠ b → (TX1 a).2.1 ≠ (TX1 b).2.1 := by decide +kernel
theorem tyX1_ok : ∀ k, k < 5 → parseFieldDescriptor (TX1 k).2.2.1 = some (tyX1 k) := by decide +kernel
abbrev cX1_init : ByteArray := prog_3_method_1_code
def yX1_init : MethodName := ⟨RX1, "<init>", "()V"⟩
abbrev cX1_forget : ByteArray := prog_3_method_2_code
def yX1_forget : MethodName := ⟨RX1, "forget", "()V"⟩
abbrev cX1_start : ByteArray := prog_3_method_3_code
def yX1_start : MethodName := ⟨RX1, "start", "(II)V"⟩
abbrev cX1_write : ByteArray := prog_3_method_4_code
def yX1_write : MethodName := ⟨RX1, "write", "(IZII)V"⟩
abbrev cX1_knowsState : ByteArray := prog_3_method_5_code
def yX1_knowsState : MethodName := ⟨RX1, "knowsState", "()Z"⟩
abbrev cX1_isState : ByteArray := prog_3_method_6_code
def yX1_isState : MethodName := ⟨RX1, "isState", "([I)Z"⟩
abbrev cX1_keepState : ByteArray := prog_3_method_7_code
def yX1_keepState : MethodName := ⟨RX1, "keepState", "()V"⟩
def RX2 : String := "LayeredTable$Things"
def TX2 : u_T := fun k => match k with
  | 0 => ("LayeredTable$Things", "cards", "[I", true)
  | 1 => ("LayeredTable$Things", "players", "[I", true)
  | 2 => ("LayeredTable$Things", "targets", "[I", true)
  | 3 => ("LayeredTable$Things", "ids", "[I", true)
  | _ => ("LayeredTable$Things", "size", "I", false)
def tyX2 : Nat → FieldType := fun k => match k with
  | 0 => .array .int
  | 1 => .array .int
  | 2 => .array .int
  | 3 => .array .int
  | _ => .int
abbrev wsX20 : List Cond := u_ws RX2 TX2 5
theorem nmX2 : ∀ a, a < 5 → ∀ b, b < 5 → a ≠ b → (TX2 a).2.1 ≠ (TX2 b).2.1 := by decide +kernel
theorem tyX2_ok : ∀ k, k < 5 → parseFieldDescriptor (TX2 k).2.2.1 = some (tyX2 k) := by decide +kernel
abbrev cX2_init : ByteArray := prog_4_method_1_code
def yX2_init : MethodName := ⟨RX2, "<init>", "()V"⟩
abbrev cX2_has : ByteArray := prog_4_method_2_code
def yX2_has : MethodName := ⟨RX2, "has", "(I)Z"⟩
abbrev cX2_add : ByteArray := prog_4_method_3_code
def yX2_add : MethodName := ⟨RX2, "add", "(IIII)Z"⟩
abbrev cX2_remove : ByteArray := prog_4_method_4_code
def yX2_remove : MethodName := ⟨RX2, "remove", "(I)Z"⟩
abbrev cX2_placeOf : ByteArray := prog_4_method_5_code
def yX2_placeOf : MethodName := ⟨RX2, "placeOf", "(I)I"⟩
abbrev cX2_firstOf : ByteArray := prog_4_method_6_code
def yX2_firstOf : MethodName := ⟨RX2, "firstOf", "(I)I"⟩
def RX3 : String := "LayeredTable$View"
def TX3 : u_T := fun k => match k with
  | 0 => ("LayeredTable$View", "controllers", "[I", true)
  | 1 => ("LayeredTable$View", "kinds", "[I", true)
  | 2 => ("LayeredTable$View", "strengths", "[I", true)
  | 3 => ("LayeredTable$View", "kindsBefore", "[I", true)
  | _ => ("LayeredTable$View", "strengthsBefore", "[I", true)
def tyX3 : Nat → FieldType := fun k => match k with
  | 0 => .array .int
  | 1 => .array .int
  | 2 => .array .int
  | 3 => .array .int
  | _ => .array .int
abbrev wsX30 : List Cond := u_ws RX3 TX3 5
theorem nmX3 : ∀ a, a < 5 → ∀ b, b < 5 → a ≠ b → (TX3 a).2.1 ≠ (TX3 b).2.1 := by decide +kernel
theorem tyX3_ok : ∀ k, k < 5 → parseFieldDescriptor (TX3 k).2.2.1 = some (tyX3 k) := by decide +kernel
abbrev cX3_init : ByteArray := prog_5_method_1_code
def yX3_init : MethodName := ⟨RX3, "<init>", "()V"⟩
abbrev cX3_find : ByteArray := prog_5_method_2_code
def yX3_find : MethodName := ⟨RX3, "find", "(LLayeredTable$Things;I)V"⟩
abbrev cX3_goThrough : ByteArray := prog_5_method_3_code
def yX3_goThrough : MethodName := ⟨RX3, "goThrough", "(LLayeredTable$Things;I)V"⟩
abbrev cX3_takes : ByteArray := prog_5_method_4_code
def yX3_takes : MethodName := ⟨RX3, "takes", "(LLayeredTable$Things;II)Z"⟩
abbrev cX3_change : ByteArray := prog_5_method_5_code
def yX3_change : MethodName := ⟨RX3, "change", "(LLayeredTable$Things;II)V"⟩
def RX4 : String := "LayeredTable"
def TX4 : u_T := fun k => match k with
  | 0 => ("LayeredTable", "purses", "[I", true)
  | 1 => ("LayeredTable", "table", "LLayeredTable$Things;", true)
  | 2 => ("LayeredTable", "pile", "LLayeredTable$Entries;", true)
  | 3 => ("LayeredTable", "view", "LLayeredTable$View;", true)
  | 4 => ("LayeredTable", "memory", "LLayeredTable$Memory;", true)
  | 5 => ("LayeredTable", "turnPlayer", "I", false)
  | 6 => ("LayeredTable", "actingPlayer", "I", false)
  | 7 => ("LayeredTable", "passes", "I", false)
  | 8 => ("LayeredTable", "roundCount", "I", false)
  | 9 => ("LayeredTable", "loopCount", "I", false)
  | _ => ("LayeredTable", "nextId", "I", false)
def tyX4 : Nat → FieldType := fun k => match k with
  | 0 => .array .int
  | 1 => .object "LayeredTable$Things"
  | 2 => .object "LayeredTable$Entries"
  | 3 => .object "LayeredTable$View"
  | 4 => .object "LayeredTable$Memory"
  | 5 => .int
  | 6 => .int
  | 7 => .int
  | 8 => .int
  | 9 => .int
  | _ => .int
abbrev wsX40 : List Cond := u_ws RX4 TX4 11
theorem nmX4 : ∀ a, a < 11 → ∀ b, b < 11 → a ≠ b → (TX4 a).2.1 ≠ (TX4 b).2.1 := by decide +kernel
theorem tyX4_ok : ∀ k, k < 11 → parseFieldDescriptor (TX4 k).2.2.1 = some (tyX4 k) := by decide +kernel
abbrev cX4_init : ByteArray := prog_1_method_1_code
def yX4_init : MethodName := ⟨RX4, "<init>", "()V"⟩
abbrev cX4_play : ByteArray := prog_1_method_2_code
def yX4_play : MethodName := ⟨RX4, "play", "(II)I"⟩
abbrev cX4_obstacle : ByteArray := prog_1_method_3_code
def yX4_obstacle : MethodName := ⟨RX4, "obstacle", "(II)I"⟩
abbrev cX4_pass : ByteArray := prog_1_method_4_code
def yX4_pass : MethodName := ⟨RX4, "pass", "()I"⟩
abbrev cX4_settle : ByteArray := prog_1_method_5_code
def yX4_settle : MethodName := ⟨RX4, "settle", "(I)I"⟩
abbrev cX4_turn : ByteArray := prog_1_method_6_code
def yX4_turn : MethodName := ⟨RX4, "turn", "()I"⟩
abbrev cX4_acting : ByteArray := prog_1_method_7_code
def yX4_acting : MethodName := ⟨RX4, "acting", "()I"⟩
abbrev cX4_rounds : ByteArray := prog_1_method_8_code
def yX4_rounds : MethodName := ⟨RX4, "rounds", "()I"⟩
abbrev cX4_loops : ByteArray := prog_1_method_9_code
def yX4_loops : MethodName := ⟨RX4, "loops", "()I"⟩
abbrev cX4_coins : ByteArray := prog_1_method_10_code
def yX4_coins : MethodName := ⟨RX4, "coins", "(I)I"⟩
abbrev cX4_things : ByteArray := prog_1_method_11_code
def yX4_things : MethodName := ⟨RX4, "things", "()I"⟩
abbrev cX4_cardOf : ByteArray := prog_1_method_12_code
def yX4_cardOf : MethodName := ⟨RX4, "cardOf", "(I)I"⟩
abbrev cX4_controllerOf : ByteArray := prog_1_method_13_code
def yX4_controllerOf : MethodName := ⟨RX4, "controllerOf", "(II)I"⟩
abbrev cX4_kindsOf : ByteArray := prog_1_method_14_code
def yX4_kindsOf : MethodName := ⟨RX4, "kindsOf", "(II)I"⟩
abbrev cX4_strengthOf : ByteArray := prog_1_method_15_code
def yX4_strengthOf : MethodName := ⟨RX4, "strengthOf", "(II)I"⟩
abbrev cX4_power : ByteArray := prog_1_method_16_code
def yX4_power : MethodName := ⟨RX4, "power", "(I)I"⟩
abbrev cX4_stack : ByteArray := prog_1_method_17_code
def yX4_stack : MethodName := ⟨RX4, "stack", "()I"⟩
abbrev cX4_entryCard : ByteArray := prog_1_method_18_code
def yX4_entryCard : MethodName := ⟨RX4, "entryCard", "(I)I"⟩
abbrev cX4_isTrigger : ByteArray := prog_1_method_19_code
def yX4_isTrigger : MethodName := ⟨RX4, "isTrigger", "(I)Z"⟩
abbrev cX4_entryPlayer : ByteArray := prog_1_method_20_code
def yX4_entryPlayer : MethodName := ⟨RX4, "entryPlayer", "(I)I"⟩
abbrev cX4_entryTarget : ByteArray := prog_1_method_21_code
def yX4_entryTarget : MethodName := ⟨RX4, "entryTarget", "(I)I"⟩
abbrev cX4_requireThingAndLayer : ByteArray := prog_1_method_22_code
def yX4_requireThingAndLayer : MethodName := ⟨RX4, "requireThingAndLayer", "(II)V"⟩
abbrev cX4_nextPlayer : ByteArray := prog_1_method_23_code
def yX4_nextPlayer : MethodName := ⟨RX4, "nextPlayer", "(I)I"⟩
abbrev cX4_costOf : ByteArray := prog_1_method_24_code
def yX4_costOf : MethodName := ⟨RX4, "costOf", "(I)I"⟩
abbrev cX4_layerOf : ByteArray := prog_1_method_25_code
def yX4_layerOf : MethodName := ⟨RX4, "layerOf", "(I)I"⟩
abbrev cX4_isThing : ByteArray := prog_1_method_26_code
def yX4_isThing : MethodName := ⟨RX4, "isThing", "(I)Z"⟩
abbrev cX4_newId : ByteArray := prog_1_method_27_code
def yX4_newId : MethodName := ⟨RX4, "newId", "()I"⟩
abbrev cX4_coinsOf : ByteArray := prog_1_method_28_code
def yX4_coinsOf : MethodName := ⟨RX4, "coinsOf", "(I)I"⟩
abbrev cX4_pay : ByteArray := prog_1_method_29_code
def yX4_pay : MethodName := ⟨RX4, "pay", "(II)V"⟩
abbrev cX4_findObstacle : ByteArray := prog_1_method_30_code
def yX4_findObstacle : MethodName := ⟨RX4, "findObstacle", "(II)I"⟩
abbrev cX4_hasTarget : ByteArray := prog_1_method_31_code
def yX4_hasTarget : MethodName := ⟨RX4, "hasTarget", "(II)Z"⟩
abbrev cX4_targetId : ByteArray := prog_1_method_32_code
def yX4_targetId : MethodName := ⟨RX4, "targetId", "(II)I"⟩
abbrev cX4_targetPlace : ByteArray := prog_1_method_33_code
def yX4_targetPlace : MethodName := ⟨RX4, "targetPlace", "(I)I"⟩
abbrev cX4_beginTurn : ByteArray := prog_1_method_34_code
def yX4_beginTurn : MethodName := ⟨RX4, "beginTurn", "()V"⟩
abbrev cX4_resolveTop : ByteArray := prog_1_method_35_code
def yX4_resolveTop : MethodName := ⟨RX4, "resolveTop", "()V"⟩
abbrev cX4_cardEffect : ByteArray := prog_1_method_36_code
def yX4_cardEffect : MethodName := ⟨RX4, "cardEffect", "(III)I"⟩
abbrev cX4_triggerEffect : ByteArray := prog_1_method_37_code
def yX4_triggerEffect : MethodName := ⟨RX4, "triggerEffect", "(II)I"⟩
abbrev cX4_strike : ByteArray := prog_1_method_38_code
def yX4_strike : MethodName := ⟨RX4, "strike", "(I)I"⟩
abbrev cX4_enter : ByteArray := prog_1_method_39_code
def yX4_enter : MethodName := ⟨RX4, "enter", "(III)I"⟩
abbrev cX4_leave : ByteArray := prog_1_method_40_code
def yX4_leave : MethodName := ⟨RX4, "leave", "(I)I"⟩
abbrev cX4_raiseTriggers : ByteArray := prog_1_method_41_code
def yX4_raiseTriggers : MethodName := ⟨RX4, "raiseTriggers", "(I)V"⟩
abbrev cX4_hasTrigger : ByteArray := prog_1_method_42_code
def yX4_hasTrigger : MethodName := ⟨RX4, "hasTrigger", "(III)Z"⟩
abbrev cX4_breakLoop : ByteArray := prog_1_method_43_code
def yX4_breakLoop : MethodName := ⟨RX4, "breakLoop", "()V"⟩
def RX5 : String := "LayeredTableModel"
def TX5 : u_T := fun k => match k with
  | 0 => ("LayeredTableModel", "turn", "I", false)
  | 1 => ("LayeredTableModel", "acting", "I", false)
  | 2 => ("LayeredTableModel", "passes", "I", false)
  | 3 => ("LayeredTableModel", "rounds", "I", false)
  | 4 => ("LayeredTableModel", "loops", "I", false)
  | 5 => ("LayeredTableModel", "coins", "[I", true)
  | 6 => ("LayeredTableModel", "things", "I", false)
  | 7 => ("LayeredTableModel", "card", "[I", true)
  | 8 => ("LayeredTableModel", "owner", "[I", true)
  | 9 => ("LayeredTableModel", "name", "[I", true)
  | 10 => ("LayeredTableModel", "aim", "[I", true)
  | 11 => ("LayeredTableModel", "names", "I", false)
  | 12 => ("LayeredTableModel", "height", "I", false)
  | 13 => ("LayeredTableModel", "put", "[I", true)
  | 14 => ("LayeredTableModel", "triggered", "[Z", true)
  | 15 => ("LayeredTableModel", "whose", "[I", true)
  | 16 => ("LayeredTableModel", "mark", "[I", true)
  | 17 => ("LayeredTableModel", "target", "[I", true)
  | 18 => ("LayeredTableModel", "controller", "[I", true)
  | 19 => ("LayeredTableModel", "kinds", "[I", true)
  | 20 => ("LayeredTableModel", "strength", "[I", true)
  | 21 => ("LayeredTableModel", "kindsThen", "[I", true)
  | 22 => ("LayeredTableModel", "strengthThen", "[I", true)
  | 23 => ("LayeredTableModel", "known", "I", false)
  | 24 => ("LayeredTableModel", "states", "[I", true)
  | 25 => ("LayeredTableModel", "state", "[I", true)
  | _ => ("LayeredTableModel", "thrown", "I", false)
def tyX5 : Nat → FieldType := fun k => match k with
  | 0 => .int
  | 1 => .int
  | 2 => .int
  | 3 => .int
  | 4 => .int
  | 5 => .array .int
  | 6 => .int
  | 7 => .array .int
  | 8 => .array .int
  | 9 => .array .int
  | 10 => .array .int
  | 11 => .int
  | 12 => .int
  | 13 => .array .int
  | 14 => .array .boolean
  | 15 => .array .int
  | 16 => .array .int
  | 17 => .array .int
  | 18 => .array .int
  | 19 => .array .int
  | 20 => .array .int
  | 21 => .array .int
  | 22 => .array .int
  | 23 => .int
  | 24 => .array .int
  | 25 => .array .int
  | _ => .int
abbrev wsX50 : List Cond := u_ws RX5 TX5 27
theorem nmX5 : ∀ a, a < 27 → ∀ b, b < 27 → a ≠ b → (TX5 a).2.1 ≠ (TX5 b).2.1 := by decide +kernel
theorem tyX5_ok : ∀ k, k < 27 → parseFieldDescriptor (TX5 k).2.2.1 = some (tyX5 k) := by decide +kernel
abbrev cX5_init : ByteArray := prog_7_method_1_code
def yX5_init : MethodName := ⟨RX5, "<init>", "()V"⟩
abbrev cX5_thrown : ByteArray := prog_7_method_2_code
def yX5_thrown : MethodName := ⟨RX5, "thrown", "()I"⟩
abbrev cX5_isIn : ByteArray := prog_7_method_3_code
def yX5_isIn : MethodName := ⟨RX5, "isIn", "(III)Z"⟩
abbrev cX5_cost : ByteArray := prog_7_method_4_code
def yX5_cost : MethodName := ⟨RX5, "cost", "(I)I"⟩
abbrev cX5_thingOf : ByteArray := prog_7_method_5_code
def yX5_thingOf : MethodName := ⟨RX5, "thingOf", "(I)I"⟩
abbrev cX5_entryOf : ByteArray := prog_7_method_6_code
def yX5_entryOf : MethodName := ⟨RX5, "entryOf", "(I)I"⟩
abbrev cX5_layer : ByteArray := prog_7_method_7_code
def yX5_layer : MethodName := ⟨RX5, "layer", "(II)V"⟩
abbrev cX5_lays : ByteArray := prog_7_method_8_code
def yX5_lays : MethodName := ⟨RX5, "lays", "(I)V"⟩
abbrev cX5_triggers : ByteArray := prog_7_method_9_code
def yX5_triggers : MethodName := ⟨RX5, "triggers", "(II)V"⟩
abbrev cX5_triggersOf : ByteArray := prog_7_method_10_code
def yX5_triggersOf : MethodName := ⟨RX5, "triggersOf", "(III)V"⟩
abbrev cX5_enters : ByteArray := prog_7_method_11_code
def yX5_enters : MethodName := ⟨RX5, "enters", "(III)V"⟩
abbrev cX5_leaves : ByteArray := prog_7_method_12_code
def yX5_leaves : MethodName := ⟨RX5, "leaves", "(I)V"⟩
abbrev cX5_begins : ByteArray := prog_7_method_13_code
def yX5_begins : MethodName := ⟨RX5, "begins", "()V"⟩
abbrev cX5_removes : ByteArray := prog_7_method_14_code
def yX5_removes : MethodName := ⟨RX5, "removes", "(I)V"⟩
abbrev cX5_firstBeast : ByteArray := prog_7_method_15_code
def yX5_firstBeast : MethodName := ⟨RX5, "firstBeast", "()I"⟩
abbrev cX5_trigger : ByteArray := prog_7_method_16_code
def yX5_trigger : MethodName := ⟨RX5, "trigger", "(II)V"⟩
abbrev cX5_strikes : ByteArray := prog_7_method_17_code
def yX5_strikes : MethodName := ⟨RX5, "strikes", "(I)V"⟩
abbrev cX5_targetOf : ByteArray := prog_7_method_18_code
def yX5_targetOf : MethodName := ⟨RX5, "targetOf", "(I)I"⟩
abbrev cX5_laysState : ByteArray := prog_7_method_19_code
def yX5_laysState : MethodName := ⟨RX5, "laysState", "()V"⟩
abbrev cX5_remembers : ByteArray := prog_7_method_20_code
def yX5_remembers : MethodName := ⟨RX5, "remembers", "()V"⟩
abbrev cX5_resolves : ByteArray := prog_7_method_21_code
def yX5_resolves : MethodName := ⟨RX5, "resolves", "()V"⟩
abbrev cX5_obstacleOf : ByteArray := prog_7_method_22_code
def yX5_obstacleOf : MethodName := ⟨RX5, "obstacleOf", "(II)I"⟩
abbrev cX5_play : ByteArray := prog_7_method_23_code
def yX5_play : MethodName := ⟨RX5, "play", "(II)I"⟩
abbrev cX5_obstacle : ByteArray := prog_7_method_24_code
def yX5_obstacle : MethodName := ⟨RX5, "obstacle", "(II)I"⟩
abbrev cX5_pass : ByteArray := prog_7_method_25_code
def yX5_pass : MethodName := ⟨RX5, "pass", "()I"⟩
abbrev cX5_settle : ByteArray := prog_7_method_26_code
def yX5_settle : MethodName := ⟨RX5, "settle", "(I)I"⟩
abbrev cX5_turn : ByteArray := prog_7_method_27_code
def yX5_turn : MethodName := ⟨RX5, "turn", "()I"⟩
abbrev cX5_acting : ByteArray := prog_7_method_28_code
def yX5_acting : MethodName := ⟨RX5, "acting", "()I"⟩
abbrev cX5_rounds : ByteArray := prog_7_method_29_code
def yX5_rounds : MethodName := ⟨RX5, "rounds", "()I"⟩
abbrev cX5_loops : ByteArray := prog_7_method_30_code
def yX5_loops : MethodName := ⟨RX5, "loops", "()I"⟩
abbrev cX5_coins : ByteArray := prog_7_method_31_code
def yX5_coins : MethodName := ⟨RX5, "coins", "(I)I"⟩
abbrev cX5_things : ByteArray := prog_7_method_32_code
def yX5_things : MethodName := ⟨RX5, "things", "()I"⟩
abbrev cX5_cardOf : ByteArray := prog_7_method_33_code
def yX5_cardOf : MethodName := ⟨RX5, "cardOf", "(I)I"⟩
abbrev cX5_isLaid : ByteArray := prog_7_method_34_code
def yX5_isLaid : MethodName := ⟨RX5, "isLaid", "(II)Z"⟩
abbrev cX5_controllerOf : ByteArray := prog_7_method_35_code
def yX5_controllerOf : MethodName := ⟨RX5, "controllerOf", "(II)I"⟩
abbrev cX5_kindsOf : ByteArray := prog_7_method_36_code
def yX5_kindsOf : MethodName := ⟨RX5, "kindsOf", "(II)I"⟩
abbrev cX5_strengthOf : ByteArray := prog_7_method_37_code
def yX5_strengthOf : MethodName := ⟨RX5, "strengthOf", "(II)I"⟩
abbrev cX5_power : ByteArray := prog_7_method_38_code
def yX5_power : MethodName := ⟨RX5, "power", "(I)I"⟩
abbrev cX5_stack : ByteArray := prog_7_method_39_code
def yX5_stack : MethodName := ⟨RX5, "stack", "()I"⟩
abbrev cX5_isEntry : ByteArray := prog_7_method_40_code
def yX5_isEntry : MethodName := ⟨RX5, "isEntry", "(I)Z"⟩
abbrev cX5_entryCard : ByteArray := prog_7_method_41_code
def yX5_entryCard : MethodName := ⟨RX5, "entryCard", "(I)I"⟩
abbrev cX5_isTrigger : ByteArray := prog_7_method_42_code
def yX5_isTrigger : MethodName := ⟨RX5, "isTrigger", "(I)Z"⟩
abbrev cX5_entryPlayer : ByteArray := prog_7_method_43_code
def yX5_entryPlayer : MethodName := ⟨RX5, "entryPlayer", "(I)I"⟩
abbrev cX5_entryTarget : ByteArray := prog_7_method_44_code
def yX5_entryTarget : MethodName := ⟨RX5, "entryTarget", "(I)I"⟩
def RJ0 : String := "java/lang/String"
def TJ0 : u_T := fun k => match k with
  | _ => ("", "", "", false)
def tyJ0 : Nat → FieldType := fun k => match k with
  | _ => .int
abbrev wsJ00 : List Cond := u_ws RJ0 TJ0 0
theorem nmJ0 : ∀ a, a < 0 → ∀ b, b < 0 → a ≠ b → (TJ0 a).2.1 ≠ (TJ0 b).2.1 := by decide +kernel
theorem tyJ0_ok : ∀ k, k < 0 → parseFieldDescriptor (TJ0 k).2.2.1 = some (tyJ0 k) := by decide +kernel
def RJ10 : String := "java/lang/System"
def TJ10 : u_T := fun k => match k with
  | _ => ("", "", "", false)
def tyJ10 : Nat → FieldType := fun k => match k with
  | _ => .int
abbrev wsJ100 : List Cond := u_ws RJ10 TJ10 0
theorem nmJ10 : ∀ a, a < 0 → ∀ b, b < 0 → a ≠ b → (TJ10 a).2.1 ≠ (TJ10 b).2.1 := by decide +kernel
theorem tyJ10_ok : ∀ k, k < 0 → parseFieldDescriptor (TJ10 k).2.2.1 = some (tyJ10 k) := by decide +kernel
def RL : String := "LayeredTableLaw"
abbrev cL_play : ByteArray := method_3_code
def yL_play : MethodName := ⟨RL, "play", "(LLayeredTable;II[J)I"⟩
abbrev cL_obstacle : ByteArray := method_4_code
def yL_obstacle : MethodName := ⟨RL, "obstacle", "(LLayeredTable;II[J)I"⟩
abbrev cL_settle : ByteArray := method_5_code
def yL_settle : MethodName := ⟨RL, "settle", "(LLayeredTable;I[J)I"⟩
abbrev cL_coins : ByteArray := method_6_code
def yL_coins : MethodName := ⟨RL, "coins", "(LLayeredTable;I[J)I"⟩
abbrev cL_cardOf : ByteArray := method_7_code
def yL_cardOf : MethodName := ⟨RL, "cardOf", "(LLayeredTable;I[J)I"⟩
abbrev cL_controllerOf : ByteArray := method_8_code
def yL_controllerOf : MethodName := ⟨RL, "controllerOf", "(LLayeredTable;II[J)I"⟩
abbrev cL_kindsOf : ByteArray := method_9_code
def yL_kindsOf : MethodName := ⟨RL, "kindsOf", "(LLayeredTable;II[J)I"⟩
abbrev cL_strengthOf : ByteArray := method_10_code
def yL_strengthOf : MethodName := ⟨RL, "strengthOf", "(LLayeredTable;II[J)I"⟩
abbrev cL_power : ByteArray := method_11_code
def yL_power : MethodName := ⟨RL, "power", "(LLayeredTable;I[J)I"⟩
abbrev cL_entryCard : ByteArray := method_12_code
def yL_entryCard : MethodName := ⟨RL, "entryCard", "(LLayeredTable;I[J)I"⟩
abbrev cL_isTrigger : ByteArray := method_13_code
def yL_isTrigger : MethodName := ⟨RL, "isTrigger", "(LLayeredTable;I[J)I"⟩
abbrev cL_entryPlayer : ByteArray := method_14_code
def yL_entryPlayer : MethodName := ⟨RL, "entryPlayer", "(LLayeredTable;I[J)I"⟩
abbrev cL_entryTarget : ByteArray := method_15_code
def yL_entryTarget : MethodName := ⟨RL, "entryTarget", "(LLayeredTable;I[J)I"⟩
abbrev cL_law : ByteArray := code
def yL_law : MethodName := ⟨RL, "law", "([I)Z"⟩
def wsX0_init : List Cond := .code yX0_init cX0_init 1 none :: ([.methodLink RX0 3 objectInit, .instanceMethod objectInit, .code objectInit ⟨#[0xb1]⟩ 1 none, .arrayClass .int, .fieldLink RX0 9 "LayeredTable$Entries" "cards" "[I", .arrayClass .boolean, .fieldLink RX0 15 "LayeredTable$Entries" "triggers" "[Z", .fieldLink RX0 19 "LayeredTable$Entries" "players" "[I", .fieldLink RX0 22 "LayeredTable$Entries" "targets" "[I", .fieldLink RX0 25 "LayeredTable$Entries" "ids" "[I"] ++ wsX00)
def wsX0_has : List Cond := .code yX0_has cX0_has 2 (some .boolean) :: ([.fieldLink RX0 28 "LayeredTable$Entries" "size" "I"] ++ wsX00)
def wsX0_indexOf : List Cond := .code yX0_indexOf cX0_indexOf 2 (some .int) :: ([.fieldLink RX0 28 "LayeredTable$Entries" "size" "I", .methodLink RX0 32 yX0_has, .instanceMethod yX0_has, .selects RX0 yX0_has yX0_has, .initialized RX0, .code yX0_has cX0_has 2 (some .boolean)] ++ wsX00)
def wsX0_push : List Cond := .code yX0_push cX0_push 6 none :: ([.fieldLink RX0 28 "LayeredTable$Entries" "size" "I", .fieldLink RX0 9 "LayeredTable$Entries" "cards" "[I", .fieldLink RX0 15 "LayeredTable$Entries" "triggers" "[Z", .fieldLink RX0 19 "LayeredTable$Entries" "players" "[I", .fieldLink RX0 22 "LayeredTable$Entries" "targets" "[I", .fieldLink RX0 25 "LayeredTable$Entries" "ids" "[I"] ++ wsX00)
def wsX0_remove : List Cond := .code yX0_remove cX0_remove 3 none :: ([.fieldLink RX0 28 "LayeredTable$Entries" "size" "I", .fieldLink RX0 9 "LayeredTable$Entries" "cards" "[I", .fieldLink RX0 15 "LayeredTable$Entries" "triggers" "[Z", .fieldLink RX0 19 "LayeredTable$Entries" "players" "[I", .fieldLink RX0 22 "LayeredTable$Entries" "targets" "[I", .fieldLink RX0 25 "LayeredTable$Entries" "ids" "[I"] ++ wsX00)
def wsX0_placeOf : List Cond := .code yX0_placeOf cX0_placeOf 3 (some .int) :: ([.fieldLink RX0 28 "LayeredTable$Entries" "size" "I", .fieldLink RX0 25 "LayeredTable$Entries" "ids" "[I"] ++ wsX00)
def wsX1_init : List Cond := .code yX1_init cX1_init 1 none :: ([.methodLink RX1 3 objectInit, .instanceMethod objectInit, .code objectInit ⟨#[0xb1]⟩ 1 none, .arrayClass .int, .fieldLink RX1 11 "LayeredTable$Memory" "state" "[I", .classLink RX1 15 "[[I", .fieldLink RX1 17 "LayeredTable$Memory" "kept" "[[I"] ++ wsX10)
def wsX1_forget : List Cond := .code yX1_forget cX1_forget 1 none :: ([.fieldLink RX1 20 "LayeredTable$Memory" "size" "I", .fieldLink RX1 24 "LayeredTable$Memory" "next" "I"] ++ wsX10)
def wsX1_start : List Cond := .code yX1_start cX1_start 3 none :: ([.fieldLink RX1 11 "LayeredTable$Memory" "state" "[I", .fieldLink RX1 27 "LayeredTable$Memory" "length" "I"] ++ wsX10)
def wsX1_write : List Cond := .code yX1_write cX1_write 5 none :: ([.fieldLink RX1 27 "LayeredTable$Memory" "length" "I", .fieldLink RX1 11 "LayeredTable$Memory" "state" "[I"] ++ wsX10)
def wsX1_isState : List Cond := .code yX1_isState cX1_isState 3 (some .boolean) :: ([.fieldLink RX1 27 "LayeredTable$Memory" "length" "I", .fieldLink RX1 11 "LayeredTable$Memory" "state" "[I"] ++ wsX10)
def wsX1_knowsState : List Cond := .code yX1_knowsState cX1_knowsState 2 (some .boolean) :: ([.fieldLink RX1 20 "LayeredTable$Memory" "size" "I", .fieldLink RX1 17 "LayeredTable$Memory" "kept" "[[I", .methodLink RX1 30 yX1_isState, .instanceMethod yX1_isState, .selects RX1 yX1_isState yX1_isState, .initialized RX1, .code yX1_isState cX1_isState 3 (some .boolean), .fieldLink RX1 27 "LayeredTable$Memory" "length" "I", .fieldLink RX1 11 "LayeredTable$Memory" "state" "[I"] ++ wsX10)
def wsX1_keepState : List Cond := .code yX1_keepState cX1_keepState 1 none :: ([.fieldLink RX1 11 "LayeredTable$Memory" "state" "[I", .fieldLink RX1 17 "LayeredTable$Memory" "kept" "[[I", .fieldLink RX1 24 "LayeredTable$Memory" "next" "I", .methodLink RX1 34 arraycopyName, .native arraycopyName, .static arraycopyName, .initialized "java/lang/System", .fieldLink RX1 20 "LayeredTable$Memory" "size" "I"] ++ wsX10)
def wsX2_init : List Cond := .code yX2_init cX2_init 1 none :: ([.methodLink RX2 3 objectInit, .instanceMethod objectInit, .code objectInit ⟨#[0xb1]⟩ 1 none, .arrayClass .int, .fieldLink RX2 9 "LayeredTable$Things" "cards" "[I", .fieldLink RX2 15 "LayeredTable$Things" "players" "[I", .fieldLink RX2 18 "LayeredTable$Things" "targets" "[I", .fieldLink RX2 21 "LayeredTable$Things" "ids" "[I"] ++ wsX20)
def wsX2_has : List Cond := .code yX2_has cX2_has 2 (some .boolean) :: ([.fieldLink RX2 24 "LayeredTable$Things" "size" "I"] ++ wsX20)
def wsX2_add : List Cond := .code yX2_add cX2_add 5 (some .boolean) :: ([.fieldLink RX2 24 "LayeredTable$Things" "size" "I", .fieldLink RX2 9 "LayeredTable$Things" "cards" "[I", .fieldLink RX2 15 "LayeredTable$Things" "players" "[I", .fieldLink RX2 18 "LayeredTable$Things" "targets" "[I", .fieldLink RX2 21 "LayeredTable$Things" "ids" "[I"] ++ wsX20)
def wsX2_remove : List Cond := .code yX2_remove cX2_remove 3 (some .boolean) :: ([.fieldLink RX2 24 "LayeredTable$Things" "size" "I", .fieldLink RX2 9 "LayeredTable$Things" "cards" "[I", .fieldLink RX2 15 "LayeredTable$Things" "players" "[I", .fieldLink RX2 18 "LayeredTable$Things" "targets" "[I", .fieldLink RX2 21 "LayeredTable$Things" "ids" "[I", .methodLink RX2 28 yX2_has, .instanceMethod yX2_has, .selects RX2 yX2_has yX2_has, .initialized RX2, .code yX2_has cX2_has 2 (some .boolean)] ++ wsX20)
def wsX2_placeOf : List Cond := .code yX2_placeOf cX2_placeOf 3 (some .int) :: ([.fieldLink RX2 24 "LayeredTable$Things" "size" "I", .fieldLink RX2 21 "LayeredTable$Things" "ids" "[I"] ++ wsX20)
def wsX2_firstOf : List Cond := .code yX2_firstOf cX2_firstOf 3 (some .int) :: ([.fieldLink RX2 24 "LayeredTable$Things" "size" "I", .fieldLink RX2 9 "LayeredTable$Things" "cards" "[I"] ++ wsX20)
def wsX3_init : List Cond := .code yX3_init cX3_init 1 none :: ([.methodLink RX3 3 objectInit, .instanceMethod objectInit, .code objectInit ⟨#[0xb1]⟩ 1 none, .arrayClass .int, .fieldLink RX3 9 "LayeredTable$View" "controllers" "[I", .fieldLink RX3 15 "LayeredTable$View" "kinds" "[I", .fieldLink RX3 18 "LayeredTable$View" "strengths" "[I", .fieldLink RX3 21 "LayeredTable$View" "kindsBefore" "[I", .fieldLink RX3 24 "LayeredTable$View" "strengthsBefore" "[I"] ++ wsX30)
def wsX4_layerOf : List Cond := .code yX4_layerOf cX4_layerOf 1 (some .int) :: ([.fieldLink RX4 162 "LayeredTable" "LAYER_OF" "[I"])
def wsX3_takes : List Cond := .code yX3_takes cX3_takes 5 (some .boolean) :: ([.fieldLink RX3 21 "LayeredTable$View" "kindsBefore" "[I", .fieldLink RX3 33 "LayeredTable$Things" "cards" "[I", .fieldLink RX3 55 "LayeredTable$Things" "ids" "[I", .fieldLink RX3 58 "LayeredTable$Things" "targets" "[I", .fieldLink RX3 9 "LayeredTable$View" "controllers" "[I", .fieldLink RX3 24 "LayeredTable$View" "strengthsBefore" "[I"] ++ wsX30 ++ wsX20)
def wsX3_change : List Cond := .code yX3_change cX3_change 4 none :: ([.fieldLink RX3 33 "LayeredTable$Things" "cards" "[I", .fieldLink RX3 9 "LayeredTable$View" "controllers" "[I", .fieldLink RX3 36 "LayeredTable$Things" "players" "[I", .fieldLink RX3 15 "LayeredTable$View" "kinds" "[I", .fieldLink RX3 18 "LayeredTable$View" "strengths" "[I"] ++ wsX20 ++ wsX30)
def wsX3_goThrough : List Cond := .code yX3_goThrough cX3_goThrough 6 none :: ([.fieldLink RX3 27 "LayeredTable$Things" "size" "I", .fieldLink RX3 21 "LayeredTable$View" "kindsBefore" "[I", .fieldLink RX3 15 "LayeredTable$View" "kinds" "[I", .fieldLink RX3 24 "LayeredTable$View" "strengthsBefore" "[I", .fieldLink RX3 18 "LayeredTable$View" "strengths" "[I", .fieldLink RX3 33 "LayeredTable$Things" "cards" "[I", .static yX4_layerOf, .initialized RX4, .code yX4_layerOf cX4_layerOf 1 (some .int), .fieldLink RX4 162 "LayeredTable" "LAYER_OF" "[I", .methodLink RX3 47 yX3_takes, .instanceMethod yX3_takes, .selects RX3 yX3_takes yX3_takes, .initialized RX3, .code yX3_takes cX3_takes 5 (some .boolean), .fieldLink RX3 55 "LayeredTable$Things" "ids" "[I", .fieldLink RX3 58 "LayeredTable$Things" "targets" "[I", .fieldLink RX3 9 "LayeredTable$View" "controllers" "[I", .methodLink RX3 51 yX3_change, .instanceMethod yX3_change, .selects RX3 yX3_change yX3_change, .code yX3_change cX3_change 4 none, .fieldLink RX3 36 "LayeredTable$Things" "players" "[I"] ++ wsX20 ++ wsX30)
def wsX3_find_r1 : List Cond := [Cond.fieldLink RX3 27 "LayeredTable$Things" "size" "I", Cond.fieldLink RX3 33 "LayeredTable$Things" "cards" "[I", Cond.fieldLink RX3 9 "LayeredTable$View" "controllers" "[I", Cond.fieldLink RX3 36 "LayeredTable$Things" "players" "[I", Cond.fieldLink RX3 15 "LayeredTable$View" "kinds" "[I", Cond.fieldLink RX3 18 "LayeredTable$View" "strengths" "[I", Cond.methodLink RX3 39 yX3_goThrough, Cond.instanceMethod yX3_goThrough, Cond.selects RX3 yX3_goThrough yX3_goThrough, Cond.initialized RX3, Cond.code yX3_goThrough cX3_goThrough 6 none, Cond.fieldLink RX3 21 "LayeredTable$View" "kindsBefore" "[I", Cond.fieldLink RX3 24 "LayeredTable$View" "strengthsBefore" "[I", Cond.static yX4_layerOf, Cond.initialized RX4, Cond.code yX4_layerOf cX4_layerOf 1 (some .int), Cond.fieldLink RX4 162 "LayeredTable" "LAYER_OF" "[I", Cond.methodLink RX3 47 yX3_takes, Cond.instanceMethod yX3_takes, Cond.selects RX3 yX3_takes yX3_takes, Cond.code yX3_takes cX3_takes 5 (some .boolean), Cond.fieldLink RX3 55 "LayeredTable$Things" "ids" "[I", Cond.fieldLink RX3 58 "LayeredTable$Things" "targets" "[I", Cond.methodLink RX3 51 yX3_change]
def wsX3_find_r2 : List Cond := [Cond.instanceMethod yX3_change, Cond.selects RX3 yX3_change yX3_change, Cond.code yX3_change cX3_change 4 none]
def wsX3_find : List Cond := .code yX3_find cX3_find 5 none :: ((wsX3_find_r1 ++ wsX3_find_r2) ++ wsX20 ++ wsX30)
def wsX4_init_r1 : List Cond := [Cond.methodLink RX4 1 objectInit, Cond.instanceMethod objectInit, Cond.code objectInit ⟨#[0xb1]⟩ 1 none, Cond.arrayClass .int, Cond.fieldLink RX4 9 "LayeredTable" "purses" "[I", Cond.classLink RX4 13 RX2, Cond.instantiable RX2 5, Cond.initialized RX2, Cond.fieldLink RX4 16 "LayeredTable" "table" "LLayeredTable$Things;", Cond.classLink RX4 20 RX0, Cond.instantiable RX0 6, Cond.initialized RX0, Cond.fieldLink RX4 23 "LayeredTable" "pile" "LLayeredTable$Entries;", Cond.classLink RX4 27 RX3, Cond.instantiable RX3 5, Cond.initialized RX3, Cond.fieldLink RX4 30 "LayeredTable" "view" "LLayeredTable$View;", Cond.classLink RX4 34 RX1, Cond.instantiable RX1 5, Cond.initialized RX1, Cond.fieldLink RX4 37 "LayeredTable" "memory" "LLayeredTable$Memory;", Cond.instanceMethod yX2_init, Cond.code yX2_init cX2_init 1 none, Cond.methodLink RX2 3 objectInit]
def wsX4_init_r2 : List Cond := [Cond.fieldLink RX2 9 "LayeredTable$Things" "cards" "[I", Cond.fieldLink RX2 15 "LayeredTable$Things" "players" "[I", Cond.fieldLink RX2 18 "LayeredTable$Things" "targets" "[I", Cond.fieldLink RX2 21 "LayeredTable$Things" "ids" "[I", Cond.instanceMethod yX0_init, Cond.code yX0_init cX0_init 1 none, Cond.methodLink RX0 3 objectInit, Cond.fieldLink RX0 9 "LayeredTable$Entries" "cards" "[I", Cond.arrayClass .boolean, Cond.fieldLink RX0 15 "LayeredTable$Entries" "triggers" "[Z", Cond.fieldLink RX0 19 "LayeredTable$Entries" "players" "[I", Cond.fieldLink RX0 22 "LayeredTable$Entries" "targets" "[I", Cond.fieldLink RX0 25 "LayeredTable$Entries" "ids" "[I", Cond.instanceMethod yX3_init, Cond.code yX3_init cX3_init 1 none, Cond.methodLink RX3 3 objectInit, Cond.fieldLink RX3 9 "LayeredTable$View" "controllers" "[I", Cond.fieldLink RX3 15 "LayeredTable$View" "kinds" "[I", Cond.fieldLink RX3 18 "LayeredTable$View" "strengths" "[I", Cond.fieldLink RX3 21 "LayeredTable$View" "kindsBefore" "[I", Cond.fieldLink RX3 24 "LayeredTable$View" "strengthsBefore" "[I", Cond.instanceMethod yX1_init, Cond.code yX1_init cX1_init 1 none, Cond.methodLink RX1 3 objectInit]
def wsX4_init_r3 : List Cond := [Cond.fieldLink RX1 11 "LayeredTable$Memory" "state" "[I", Cond.classLink RX1 15 "[[I", Cond.fieldLink RX1 17 "LayeredTable$Memory" "kept" "[[I"]
def wsX4_init : List Cond := .code yX4_init cX4_init 2 none :: ((wsX4_init_r1 ++ (wsX4_init_r2 ++ wsX4_init_r3)) ++ wsX40 ++ wsX20 ++ wsX00 ++ wsX30 ++ wsX10)
def wsX4_isThing : List Cond := .code yX4_isThing cX4_isThing 1 (some .boolean) :: ([])
def wsX4_coinsOf : List Cond := .code yX4_coinsOf cX4_coinsOf 2 (some .int) :: ([.fieldLink RX4 9 "LayeredTable" "purses" "[I"] ++ wsX40)
def wsX4_costOf : List Cond := .code yX4_costOf cX4_costOf 1 (some .int) :: ([.fieldLink RX4 159 "LayeredTable" "COST_OF" "[I"])
def wsX4_hasTarget : List Cond := .code yX4_hasTarget cX4_hasTarget 3 (some .boolean) :: ([.fieldLink RX4 16 "LayeredTable" "table" "LLayeredTable$Things;", .fieldLink RX4 23 "LayeredTable" "pile" "LLayeredTable$Entries;", .fieldLink RX4 147 "LayeredTable$Entries" "triggers" "[Z", .methodLink RX4 115 yX2_has, .instanceMethod yX2_has, .selects RX2 yX2_has yX2_has, .initialized RX2, .code yX2_has cX2_has 2 (some .boolean), .fieldLink RX2 24 "LayeredTable$Things" "size" "I", .methodLink RX4 140 yX0_has, .instanceMethod yX0_has, .selects RX0 yX0_has yX0_has, .initialized RX0, .code yX0_has cX0_has 2 (some .boolean), .fieldLink RX0 28 "LayeredTable$Entries" "size" "I", .methodLink RX4 144 yX0_indexOf, .instanceMethod yX0_indexOf, .selects RX0 yX0_indexOf yX0_indexOf, .code yX0_indexOf cX0_indexOf 2 (some .int), .methodLink RX0 32 yX0_has] ++ wsX40 ++ wsX00 ++ wsX20)
def wsX4_findObstacle_r1 : List Cond := [Cond.fieldLink RX4 23 "LayeredTable" "pile" "LLayeredTable$Entries;", Cond.fieldLink RX4 89 "LayeredTable$Entries" "size" "I", Cond.fieldLink RX4 57 "LayeredTable" "actingPlayer" "I", Cond.fieldLink RX4 103 "LayeredTable" "turnPlayer" "I", Cond.methodLink RX4 168 yX4_isThing, Cond.static yX4_isThing, Cond.initialized RX4, Cond.code yX4_isThing cX4_isThing 1 (some .boolean), Cond.methodLink RX4 171 yX4_coinsOf, Cond.instanceMethod yX4_coinsOf, Cond.selects RX4 yX4_coinsOf yX4_coinsOf, Cond.code yX4_coinsOf cX4_coinsOf 2 (some .int), Cond.fieldLink RX4 9 "LayeredTable" "purses" "[I", Cond.methodLink RX4 61 yX4_costOf, Cond.static yX4_costOf, Cond.code yX4_costOf cX4_costOf 1 (some .int), Cond.fieldLink RX4 159 "LayeredTable" "COST_OF" "[I", Cond.methodLink RX4 174 yX4_hasTarget, Cond.instanceMethod yX4_hasTarget, Cond.selects RX4 yX4_hasTarget yX4_hasTarget, Cond.code yX4_hasTarget cX4_hasTarget 3 (some .boolean), Cond.fieldLink RX4 16 "LayeredTable" "table" "LLayeredTable$Things;", Cond.fieldLink RX4 147 "LayeredTable$Entries" "triggers" "[Z", Cond.methodLink RX4 115 yX2_has]
def wsX4_findObstacle_r2 : List Cond := [Cond.instanceMethod yX2_has, Cond.selects RX2 yX2_has yX2_has, Cond.initialized RX2, Cond.code yX2_has cX2_has 2 (some .boolean), Cond.fieldLink RX2 24 "LayeredTable$Things" "size" "I", Cond.methodLink RX4 140 yX0_has, Cond.instanceMethod yX0_has, Cond.selects RX0 yX0_has yX0_has, Cond.initialized RX0, Cond.code yX0_has cX0_has 2 (some .boolean), Cond.fieldLink RX0 28 "LayeredTable$Entries" "size" "I", Cond.methodLink RX4 144 yX0_indexOf, Cond.instanceMethod yX0_indexOf, Cond.selects RX0 yX0_indexOf yX0_indexOf, Cond.code yX0_indexOf cX0_indexOf 2 (some .int), Cond.methodLink RX0 32 yX0_has]
def wsX4_findObstacle : List Cond := .code yX4_findObstacle cX4_findObstacle 3 (some .int) :: ((wsX4_findObstacle_r1 ++ wsX4_findObstacle_r2) ++ wsX40 ++ wsX00 ++ wsX20)
def wsX4_pay : List Cond := .code yX4_pay cX4_pay 3 none :: ([.fieldLink RX4 9 "LayeredTable" "purses" "[I"] ++ wsX40)
def wsX4_targetId : List Cond := .code yX4_targetId cX4_targetId 3 (some .int) :: ([.fieldLink RX4 16 "LayeredTable" "table" "LLayeredTable$Things;", .fieldLink RX4 178 "LayeredTable$Things" "ids" "[I", .fieldLink RX4 23 "LayeredTable" "pile" "LLayeredTable$Entries;", .fieldLink RX4 181 "LayeredTable$Entries" "ids" "[I", .methodLink RX4 115 yX2_has, .instanceMethod yX2_has, .selects RX2 yX2_has yX2_has, .initialized RX2, .code yX2_has cX2_has 2 (some .boolean), .fieldLink RX2 24 "LayeredTable$Things" "size" "I", .methodLink RX4 140 yX0_has, .instanceMethod yX0_has, .selects RX0 yX0_has yX0_has, .initialized RX0, .code yX0_has cX0_has 2 (some .boolean), .fieldLink RX0 28 "LayeredTable$Entries" "size" "I", .methodLink RX4 144 yX0_indexOf, .instanceMethod yX0_indexOf, .selects RX0 yX0_indexOf yX0_indexOf, .code yX0_indexOf cX0_indexOf 2 (some .int), .methodLink RX0 32 yX0_has] ++ wsX40 ++ wsX20 ++ wsX00)
def wsX4_newId : List Cond := .code yX4_newId cX4_newId 2 (some .int) :: ([.fieldLink RX4 165 "LayeredTable" "nextId" "I"] ++ wsX40)
def wsX4_nextPlayer : List Cond := .code yX4_nextPlayer cX4_nextPlayer 1 (some .int) :: ([])
def wsX4_play_r1 : List Cond := [Cond.classLink RX4 41 "java/lang/IndexOutOfBoundsException", Cond.initialized "java/lang/IndexOutOfBoundsException", Cond.classLink RX4 52 "java/lang/IllegalStateException", Cond.initialized "java/lang/IllegalStateException", Cond.fieldLink RX4 57 "LayeredTable" "actingPlayer" "I", Cond.fieldLink RX4 23 "LayeredTable" "pile" "LLayeredTable$Entries;", Cond.fieldLink RX4 37 "LayeredTable" "memory" "LLayeredTable$Memory;", Cond.fieldLink RX4 83 "LayeredTable" "passes" "I", Cond.fieldLink RX4 89 "LayeredTable$Entries" "size" "I", Cond.methodLink RX4 48 yX4_findObstacle, Cond.instanceMethod yX4_findObstacle, Cond.selects RX4 yX4_findObstacle yX4_findObstacle, Cond.initialized RX4, Cond.code yX4_findObstacle cX4_findObstacle 3 (some .int), Cond.fieldLink RX4 103 "LayeredTable" "turnPlayer" "I", Cond.methodLink RX4 168 yX4_isThing, Cond.static yX4_isThing, Cond.code yX4_isThing cX4_isThing 1 (some .boolean), Cond.methodLink RX4 171 yX4_coinsOf, Cond.instanceMethod yX4_coinsOf, Cond.selects RX4 yX4_coinsOf yX4_coinsOf, Cond.code yX4_coinsOf cX4_coinsOf 2 (some .int), Cond.fieldLink RX4 9 "LayeredTable" "purses" "[I", Cond.methodLink RX4 61 yX4_costOf]
def wsX4_play_r2 : List Cond := [Cond.static yX4_costOf, Cond.code yX4_costOf cX4_costOf 1 (some .int), Cond.fieldLink RX4 159 "LayeredTable" "COST_OF" "[I", Cond.methodLink RX4 174 yX4_hasTarget, Cond.instanceMethod yX4_hasTarget, Cond.selects RX4 yX4_hasTarget yX4_hasTarget, Cond.code yX4_hasTarget cX4_hasTarget 3 (some .boolean), Cond.fieldLink RX4 16 "LayeredTable" "table" "LLayeredTable$Things;", Cond.fieldLink RX4 147 "LayeredTable$Entries" "triggers" "[Z", Cond.methodLink RX4 115 yX2_has, Cond.instanceMethod yX2_has, Cond.selects RX2 yX2_has yX2_has, Cond.initialized RX2, Cond.code yX2_has cX2_has 2 (some .boolean), Cond.fieldLink RX2 24 "LayeredTable$Things" "size" "I", Cond.methodLink RX4 140 yX0_has, Cond.instanceMethod yX0_has, Cond.selects RX0 yX0_has yX0_has, Cond.initialized RX0, Cond.code yX0_has cX0_has 2 (some .boolean), Cond.fieldLink RX0 28 "LayeredTable$Entries" "size" "I", Cond.methodLink RX4 144 yX0_indexOf, Cond.instanceMethod yX0_indexOf, Cond.selects RX0 yX0_indexOf yX0_indexOf]
def wsX4_play_r3 : List Cond := [Cond.code yX0_indexOf cX0_indexOf 2 (some .int), Cond.methodLink RX0 32 yX0_has, Cond.methodLink RX4 65 yX4_pay, Cond.instanceMethod yX4_pay, Cond.selects RX4 yX4_pay yX4_pay, Cond.code yX4_pay cX4_pay 3 none, Cond.methodLink RX4 69 yX4_targetId, Cond.instanceMethod yX4_targetId, Cond.selects RX4 yX4_targetId yX4_targetId, Cond.code yX4_targetId cX4_targetId 3 (some .int), Cond.fieldLink RX4 178 "LayeredTable$Things" "ids" "[I", Cond.fieldLink RX4 181 "LayeredTable$Entries" "ids" "[I", Cond.methodLink RX4 72 yX4_newId, Cond.instanceMethod yX4_newId, Cond.selects RX4 yX4_newId yX4_newId, Cond.code yX4_newId cX4_newId 2 (some .int), Cond.fieldLink RX4 165 "LayeredTable" "nextId" "I", Cond.methodLink RX4 76 yX0_push, Cond.instanceMethod yX0_push, Cond.selects RX0 yX0_push yX0_push, Cond.code yX0_push cX0_push 6 none, Cond.fieldLink RX0 9 "LayeredTable$Entries" "cards" "[I", Cond.fieldLink RX0 15 "LayeredTable$Entries" "triggers" "[Z", Cond.fieldLink RX0 19 "LayeredTable$Entries" "players" "[I"]
def wsX4_play_r4 : List Cond := [Cond.fieldLink RX0 22 "LayeredTable$Entries" "targets" "[I", Cond.fieldLink RX0 25 "LayeredTable$Entries" "ids" "[I", Cond.methodLink RX4 80 yX1_forget, Cond.instanceMethod yX1_forget, Cond.selects RX1 yX1_forget yX1_forget, Cond.initialized RX1, Cond.code yX1_forget cX1_forget 1 none, Cond.fieldLink RX1 20 "LayeredTable$Memory" "size" "I", Cond.fieldLink RX1 24 "LayeredTable$Memory" "next" "I", Cond.methodLink RX4 86 yX4_nextPlayer, Cond.static yX4_nextPlayer, Cond.code yX4_nextPlayer cX4_nextPlayer 1 (some .int)]
def wsX4_play : List Cond := .code yX4_play cX4_play 3 (some .int) :: ((wsX4_play_r1 ++ (wsX4_play_r2 ++ (wsX4_play_r3 ++ wsX4_play_r4))) ++ wsX40 ++ wsX00 ++ wsX20 ++ wsX10 ++ (vx_atS RX4 45 "java/lang/IndexOutOfBoundsException" ["java/lang/RuntimeException", "java/lang/Exception"]).filter goodWord ++ (vx_atS RX4 56 "java/lang/IllegalStateException" ["java/lang/RuntimeException", "java/lang/Exception"]).filter goodWord)
def wsX4_obstacle_r1 : List Cond := [Cond.classLink RX4 41 "java/lang/IndexOutOfBoundsException", Cond.initialized "java/lang/IndexOutOfBoundsException", Cond.methodLink RX4 48 yX4_findObstacle, Cond.instanceMethod yX4_findObstacle, Cond.selects RX4 yX4_findObstacle yX4_findObstacle, Cond.initialized RX4, Cond.code yX4_findObstacle cX4_findObstacle 3 (some .int), Cond.fieldLink RX4 23 "LayeredTable" "pile" "LLayeredTable$Entries;", Cond.fieldLink RX4 89 "LayeredTable$Entries" "size" "I", Cond.fieldLink RX4 57 "LayeredTable" "actingPlayer" "I", Cond.fieldLink RX4 103 "LayeredTable" "turnPlayer" "I", Cond.methodLink RX4 168 yX4_isThing, Cond.static yX4_isThing, Cond.code yX4_isThing cX4_isThing 1 (some .boolean), Cond.methodLink RX4 171 yX4_coinsOf, Cond.instanceMethod yX4_coinsOf, Cond.selects RX4 yX4_coinsOf yX4_coinsOf, Cond.code yX4_coinsOf cX4_coinsOf 2 (some .int), Cond.fieldLink RX4 9 "LayeredTable" "purses" "[I", Cond.methodLink RX4 61 yX4_costOf, Cond.static yX4_costOf, Cond.code yX4_costOf cX4_costOf 1 (some .int), Cond.fieldLink RX4 159 "LayeredTable" "COST_OF" "[I", Cond.methodLink RX4 174 yX4_hasTarget]
def wsX4_obstacle_r2 : List Cond := [Cond.instanceMethod yX4_hasTarget, Cond.selects RX4 yX4_hasTarget yX4_hasTarget, Cond.code yX4_hasTarget cX4_hasTarget 3 (some .boolean), Cond.fieldLink RX4 16 "LayeredTable" "table" "LLayeredTable$Things;", Cond.fieldLink RX4 147 "LayeredTable$Entries" "triggers" "[Z", Cond.methodLink RX4 115 yX2_has, Cond.instanceMethod yX2_has, Cond.selects RX2 yX2_has yX2_has, Cond.initialized RX2, Cond.code yX2_has cX2_has 2 (some .boolean), Cond.fieldLink RX2 24 "LayeredTable$Things" "size" "I", Cond.methodLink RX4 140 yX0_has, Cond.instanceMethod yX0_has, Cond.selects RX0 yX0_has yX0_has, Cond.initialized RX0, Cond.code yX0_has cX0_has 2 (some .boolean), Cond.fieldLink RX0 28 "LayeredTable$Entries" "size" "I", Cond.methodLink RX4 144 yX0_indexOf, Cond.instanceMethod yX0_indexOf, Cond.selects RX0 yX0_indexOf yX0_indexOf, Cond.code yX0_indexOf cX0_indexOf 2 (some .int), Cond.methodLink RX0 32 yX0_has]
def wsX4_obstacle : List Cond := .code yX4_obstacle cX4_obstacle 3 (some .int) :: ((wsX4_obstacle_r1 ++ wsX4_obstacle_r2) ++ wsX40 ++ wsX00 ++ wsX20 ++ (vx_atS RX4 45 "java/lang/IndexOutOfBoundsException" ["java/lang/RuntimeException", "java/lang/Exception"]).filter goodWord)
def wsX4_enter : List Cond := .code yX4_enter cX4_enter 4 (some .int) :: ([.fieldLink RX4 16 "LayeredTable" "table" "LLayeredTable$Things;", .methodLink RX4 72 yX4_newId, .instanceMethod yX4_newId, .selects RX4 yX4_newId yX4_newId, .initialized RX4, .code yX4_newId cX4_newId 2 (some .int), .fieldLink RX4 165 "LayeredTable" "nextId" "I", .methodLink RX4 218 yX2_add, .instanceMethod yX2_add, .selects RX2 yX2_add yX2_add, .initialized RX2, .code yX2_add cX2_add 5 (some .boolean), .fieldLink RX2 24 "LayeredTable$Things" "size" "I", .fieldLink RX2 9 "LayeredTable$Things" "cards" "[I", .fieldLink RX2 15 "LayeredTable$Things" "players" "[I", .fieldLink RX2 18 "LayeredTable$Things" "targets" "[I", .fieldLink RX2 21 "LayeredTable$Things" "ids" "[I"] ++ wsX40 ++ wsX20)
def wsX4_leave : List Cond := .code yX4_leave cX4_leave 2 (some .int) :: ([.fieldLink RX4 16 "LayeredTable" "table" "LLayeredTable$Things;", .methodLink RX4 222 yX2_remove, .instanceMethod yX2_remove, .selects RX2 yX2_remove yX2_remove, .initialized RX2, .code yX2_remove cX2_remove 3 (some .boolean), .fieldLink RX2 24 "LayeredTable$Things" "size" "I", .fieldLink RX2 9 "LayeredTable$Things" "cards" "[I", .fieldLink RX2 15 "LayeredTable$Things" "players" "[I", .fieldLink RX2 18 "LayeredTable$Things" "targets" "[I", .fieldLink RX2 21 "LayeredTable$Things" "ids" "[I", .methodLink RX2 28 yX2_has, .instanceMethod yX2_has, .selects RX2 yX2_has yX2_has, .code yX2_has cX2_has 2 (some .boolean)] ++ wsX40 ++ wsX20)
def wsX4_triggerEffect_r1 : List Cond := [Cond.fieldLink RX4 16 "LayeredTable" "table" "LLayeredTable$Things;", Cond.methodLink RX4 65 yX4_pay, Cond.instanceMethod yX4_pay, Cond.selects RX4 yX4_pay yX4_pay, Cond.initialized RX4, Cond.code yX4_pay cX4_pay 3 none, Cond.fieldLink RX4 9 "LayeredTable" "purses" "[I", Cond.methodLink RX4 206 yX4_enter, Cond.instanceMethod yX4_enter, Cond.selects RX4 yX4_enter yX4_enter, Cond.code yX4_enter cX4_enter 4 (some .int), Cond.methodLink RX4 72 yX4_newId, Cond.instanceMethod yX4_newId, Cond.selects RX4 yX4_newId yX4_newId, Cond.code yX4_newId cX4_newId 2 (some .int), Cond.fieldLink RX4 165 "LayeredTable" "nextId" "I", Cond.methodLink RX4 218 yX2_add, Cond.instanceMethod yX2_add, Cond.selects RX2 yX2_add yX2_add, Cond.initialized RX2, Cond.code yX2_add cX2_add 5 (some .boolean), Cond.fieldLink RX2 24 "LayeredTable$Things" "size" "I", Cond.fieldLink RX2 9 "LayeredTable$Things" "cards" "[I", Cond.fieldLink RX2 15 "LayeredTable$Things" "players" "[I"]
def wsX4_triggerEffect_r2 : List Cond := [Cond.fieldLink RX2 18 "LayeredTable$Things" "targets" "[I", Cond.fieldLink RX2 21 "LayeredTable$Things" "ids" "[I", Cond.methodLink RX4 212 yX2_firstOf, Cond.instanceMethod yX2_firstOf, Cond.selects RX2 yX2_firstOf yX2_firstOf, Cond.code yX2_firstOf cX2_firstOf 3 (some .int), Cond.methodLink RX4 215 yX4_leave, Cond.instanceMethod yX4_leave, Cond.selects RX4 yX4_leave yX4_leave, Cond.code yX4_leave cX4_leave 2 (some .int), Cond.methodLink RX4 222 yX2_remove, Cond.instanceMethod yX2_remove, Cond.selects RX2 yX2_remove yX2_remove, Cond.code yX2_remove cX2_remove 3 (some .boolean), Cond.methodLink RX2 28 yX2_has, Cond.instanceMethod yX2_has, Cond.selects RX2 yX2_has yX2_has, Cond.code yX2_has cX2_has 2 (some .boolean)]
def wsX4_triggerEffect : List Cond := .code yX4_triggerEffect cX4_triggerEffect 3 (some .int) :: ((wsX4_triggerEffect_r1 ++ wsX4_triggerEffect_r2) ++ wsX40 ++ wsX20)
def wsX4_strike_r1 : List Cond := [Cond.fieldLink RX4 16 "LayeredTable" "table" "LLayeredTable$Things;", Cond.fieldLink RX4 30 "LayeredTable" "view" "LLayeredTable$View;", Cond.fieldLink RX4 137 "LayeredTable$View" "strengths" "[I", Cond.methodLink RX4 115 yX2_has, Cond.instanceMethod yX2_has, Cond.selects RX2 yX2_has yX2_has, Cond.initialized RX2, Cond.code yX2_has cX2_has 2 (some .boolean), Cond.fieldLink RX2 24 "LayeredTable$Things" "size" "I", Cond.methodLink RX4 127 yX3_find, Cond.instanceMethod yX3_find, Cond.selects RX3 yX3_find yX3_find, Cond.initialized RX3, Cond.code yX3_find cX3_find 5 none, Cond.fieldLink RX3 27 "LayeredTable$Things" "size" "I", Cond.fieldLink RX3 33 "LayeredTable$Things" "cards" "[I", Cond.fieldLink RX3 9 "LayeredTable$View" "controllers" "[I", Cond.fieldLink RX3 36 "LayeredTable$Things" "players" "[I", Cond.fieldLink RX3 15 "LayeredTable$View" "kinds" "[I", Cond.fieldLink RX3 18 "LayeredTable$View" "strengths" "[I", Cond.methodLink RX3 39 yX3_goThrough, Cond.instanceMethod yX3_goThrough, Cond.selects RX3 yX3_goThrough yX3_goThrough, Cond.code yX3_goThrough cX3_goThrough 6 none]
def wsX4_strike_r2 : List Cond := [Cond.fieldLink RX3 21 "LayeredTable$View" "kindsBefore" "[I", Cond.fieldLink RX3 24 "LayeredTable$View" "strengthsBefore" "[I", Cond.static yX4_layerOf, Cond.initialized RX4, Cond.code yX4_layerOf cX4_layerOf 1 (some .int), Cond.fieldLink RX4 162 "LayeredTable" "LAYER_OF" "[I", Cond.methodLink RX3 47 yX3_takes, Cond.instanceMethod yX3_takes, Cond.selects RX3 yX3_takes yX3_takes, Cond.code yX3_takes cX3_takes 5 (some .boolean), Cond.fieldLink RX3 55 "LayeredTable$Things" "ids" "[I", Cond.fieldLink RX3 58 "LayeredTable$Things" "targets" "[I", Cond.methodLink RX3 51 yX3_change, Cond.instanceMethod yX3_change, Cond.selects RX3 yX3_change yX3_change, Cond.code yX3_change cX3_change 4 none, Cond.methodLink RX4 215 yX4_leave, Cond.instanceMethod yX4_leave, Cond.selects RX4 yX4_leave yX4_leave, Cond.code yX4_leave cX4_leave 2 (some .int), Cond.methodLink RX4 222 yX2_remove, Cond.instanceMethod yX2_remove, Cond.selects RX2 yX2_remove yX2_remove, Cond.code yX2_remove cX2_remove 3 (some .boolean)]
def wsX4_strike_r3 : List Cond := [Cond.fieldLink RX2 9 "LayeredTable$Things" "cards" "[I", Cond.fieldLink RX2 15 "LayeredTable$Things" "players" "[I", Cond.fieldLink RX2 18 "LayeredTable$Things" "targets" "[I", Cond.fieldLink RX2 21 "LayeredTable$Things" "ids" "[I", Cond.methodLink RX2 28 yX2_has]
def wsX4_strike : List Cond := .code yX4_strike cX4_strike 2 (some .int) :: ((wsX4_strike_r1 ++ (wsX4_strike_r2 ++ wsX4_strike_r3)) ++ wsX40 ++ wsX30 ++ wsX20)
def wsX4_cardEffect_r1 : List Cond := [Cond.fieldLink RX4 16 "LayeredTable" "table" "LLayeredTable$Things;", Cond.fieldLink RX4 23 "LayeredTable" "pile" "LLayeredTable$Entries;", Cond.methodLink RX4 168 yX4_isThing, Cond.static yX4_isThing, Cond.initialized RX4, Cond.code yX4_isThing cX4_isThing 1 (some .boolean), Cond.methodLink RX4 206 yX4_enter, Cond.instanceMethod yX4_enter, Cond.selects RX4 yX4_enter yX4_enter, Cond.code yX4_enter cX4_enter 4 (some .int), Cond.methodLink RX4 72 yX4_newId, Cond.instanceMethod yX4_newId, Cond.selects RX4 yX4_newId yX4_newId, Cond.code yX4_newId cX4_newId 2 (some .int), Cond.fieldLink RX4 165 "LayeredTable" "nextId" "I", Cond.methodLink RX4 218 yX2_add, Cond.instanceMethod yX2_add, Cond.selects RX2 yX2_add yX2_add, Cond.initialized RX2, Cond.code yX2_add cX2_add 5 (some .boolean), Cond.fieldLink RX2 24 "LayeredTable$Things" "size" "I", Cond.fieldLink RX2 9 "LayeredTable$Things" "cards" "[I", Cond.fieldLink RX2 15 "LayeredTable$Things" "players" "[I", Cond.fieldLink RX2 18 "LayeredTable$Things" "targets" "[I"]
def wsX4_cardEffect_r2 : List Cond := [Cond.fieldLink RX2 21 "LayeredTable$Things" "ids" "[I", Cond.methodLink RX4 188 yX2_placeOf, Cond.instanceMethod yX2_placeOf, Cond.selects RX2 yX2_placeOf yX2_placeOf, Cond.code yX2_placeOf cX2_placeOf 3 (some .int), Cond.methodLink RX4 209 yX4_strike, Cond.instanceMethod yX4_strike, Cond.selects RX4 yX4_strike yX4_strike, Cond.code yX4_strike cX4_strike 2 (some .int), Cond.fieldLink RX4 30 "LayeredTable" "view" "LLayeredTable$View;", Cond.fieldLink RX4 137 "LayeredTable$View" "strengths" "[I", Cond.methodLink RX4 115 yX2_has, Cond.instanceMethod yX2_has, Cond.selects RX2 yX2_has yX2_has, Cond.code yX2_has cX2_has 2 (some .boolean), Cond.methodLink RX4 127 yX3_find, Cond.instanceMethod yX3_find, Cond.selects RX3 yX3_find yX3_find, Cond.initialized RX3, Cond.code yX3_find cX3_find 5 none, Cond.fieldLink RX3 27 "LayeredTable$Things" "size" "I", Cond.fieldLink RX3 33 "LayeredTable$Things" "cards" "[I", Cond.fieldLink RX3 9 "LayeredTable$View" "controllers" "[I", Cond.fieldLink RX3 36 "LayeredTable$Things" "players" "[I"]
def wsX4_cardEffect_r3 : List Cond := [Cond.fieldLink RX3 15 "LayeredTable$View" "kinds" "[I", Cond.fieldLink RX3 18 "LayeredTable$View" "strengths" "[I", Cond.methodLink RX3 39 yX3_goThrough, Cond.instanceMethod yX3_goThrough, Cond.selects RX3 yX3_goThrough yX3_goThrough, Cond.code yX3_goThrough cX3_goThrough 6 none, Cond.fieldLink RX3 21 "LayeredTable$View" "kindsBefore" "[I", Cond.fieldLink RX3 24 "LayeredTable$View" "strengthsBefore" "[I", Cond.static yX4_layerOf, Cond.code yX4_layerOf cX4_layerOf 1 (some .int), Cond.fieldLink RX4 162 "LayeredTable" "LAYER_OF" "[I", Cond.methodLink RX3 47 yX3_takes, Cond.instanceMethod yX3_takes, Cond.selects RX3 yX3_takes yX3_takes, Cond.code yX3_takes cX3_takes 5 (some .boolean), Cond.fieldLink RX3 55 "LayeredTable$Things" "ids" "[I", Cond.fieldLink RX3 58 "LayeredTable$Things" "targets" "[I", Cond.methodLink RX3 51 yX3_change, Cond.instanceMethod yX3_change, Cond.selects RX3 yX3_change yX3_change, Cond.code yX3_change cX3_change 4 none, Cond.methodLink RX4 215 yX4_leave, Cond.instanceMethod yX4_leave, Cond.selects RX4 yX4_leave yX4_leave]
def wsX4_cardEffect_r4 : List Cond := [Cond.code yX4_leave cX4_leave 2 (some .int), Cond.methodLink RX4 222 yX2_remove, Cond.instanceMethod yX2_remove, Cond.selects RX2 yX2_remove yX2_remove, Cond.code yX2_remove cX2_remove 3 (some .boolean), Cond.methodLink RX2 28 yX2_has, Cond.methodLink RX4 185 yX0_placeOf, Cond.instanceMethod yX0_placeOf, Cond.selects RX0 yX0_placeOf yX0_placeOf, Cond.initialized RX0, Cond.code yX0_placeOf cX0_placeOf 3 (some .int), Cond.fieldLink RX0 28 "LayeredTable$Entries" "size" "I", Cond.fieldLink RX0 25 "LayeredTable$Entries" "ids" "[I", Cond.methodLink RX4 144 yX0_indexOf, Cond.instanceMethod yX0_indexOf, Cond.selects RX0 yX0_indexOf yX0_indexOf, Cond.code yX0_indexOf cX0_indexOf 2 (some .int), Cond.methodLink RX0 32 yX0_has, Cond.instanceMethod yX0_has, Cond.selects RX0 yX0_has yX0_has, Cond.code yX0_has cX0_has 2 (some .boolean), Cond.methodLink RX4 193 yX0_remove, Cond.instanceMethod yX0_remove, Cond.selects RX0 yX0_remove yX0_remove]
def wsX4_cardEffect_r5 : List Cond := [Cond.code yX0_remove cX0_remove 3 none, Cond.fieldLink RX0 9 "LayeredTable$Entries" "cards" "[I", Cond.fieldLink RX0 15 "LayeredTable$Entries" "triggers" "[Z", Cond.fieldLink RX0 19 "LayeredTable$Entries" "players" "[I", Cond.fieldLink RX0 22 "LayeredTable$Entries" "targets" "[I"]
def wsX4_cardEffect : List Cond := .code yX4_cardEffect cX4_cardEffect 4 (some .int) :: ((wsX4_cardEffect_r1 ++ (wsX4_cardEffect_r2 ++ (wsX4_cardEffect_r3 ++ (wsX4_cardEffect_r4 ++ wsX4_cardEffect_r5)))) ++ wsX40 ++ wsX20 ++ wsX30 ++ wsX00)
def wsX4_hasTrigger : List Cond := .code yX4_hasTrigger cX4_hasTrigger 4 (some .boolean) :: ([.fieldLink RX4 103 "LayeredTable" "turnPlayer" "I"] ++ wsX40)
def wsX4_raiseTriggers_r1 : List Cond := [Cond.fieldLink RX4 30 "LayeredTable" "view" "LLayeredTable$View;", Cond.fieldLink RX4 16 "LayeredTable" "table" "LLayeredTable$Things;", Cond.fieldLink RX4 114 "LayeredTable$Things" "size" "I", Cond.fieldLink RX4 103 "LayeredTable" "turnPlayer" "I", Cond.fieldLink RX4 121 "LayeredTable$Things" "cards" "[I", Cond.fieldLink RX4 131 "LayeredTable$View" "controllers" "[I", Cond.fieldLink RX4 23 "LayeredTable" "pile" "LLayeredTable$Entries;", Cond.methodLink RX4 127 yX3_find, Cond.instanceMethod yX3_find, Cond.selects RX3 yX3_find yX3_find, Cond.initialized RX3, Cond.code yX3_find cX3_find 5 none, Cond.fieldLink RX3 27 "LayeredTable$Things" "size" "I", Cond.fieldLink RX3 33 "LayeredTable$Things" "cards" "[I", Cond.fieldLink RX3 9 "LayeredTable$View" "controllers" "[I", Cond.fieldLink RX3 36 "LayeredTable$Things" "players" "[I", Cond.fieldLink RX3 15 "LayeredTable$View" "kinds" "[I", Cond.fieldLink RX3 18 "LayeredTable$View" "strengths" "[I", Cond.methodLink RX3 39 yX3_goThrough, Cond.instanceMethod yX3_goThrough, Cond.selects RX3 yX3_goThrough yX3_goThrough, Cond.code yX3_goThrough cX3_goThrough 6 none, Cond.fieldLink RX3 21 "LayeredTable$View" "kindsBefore" "[I", Cond.fieldLink RX3 24 "LayeredTable$View" "strengthsBefore" "[I"]
def wsX4_raiseTriggers_r2 : List Cond := [Cond.static yX4_layerOf, Cond.initialized RX4, Cond.code yX4_layerOf cX4_layerOf 1 (some .int), Cond.fieldLink RX4 162 "LayeredTable" "LAYER_OF" "[I", Cond.methodLink RX3 47 yX3_takes, Cond.instanceMethod yX3_takes, Cond.selects RX3 yX3_takes yX3_takes, Cond.code yX3_takes cX3_takes 5 (some .boolean), Cond.fieldLink RX3 55 "LayeredTable$Things" "ids" "[I", Cond.fieldLink RX3 58 "LayeredTable$Things" "targets" "[I", Cond.methodLink RX3 51 yX3_change, Cond.instanceMethod yX3_change, Cond.selects RX3 yX3_change yX3_change, Cond.code yX3_change cX3_change 4 none, Cond.methodLink RX4 224 yX4_hasTrigger, Cond.instanceMethod yX4_hasTrigger, Cond.selects RX4 yX4_hasTrigger yX4_hasTrigger, Cond.code yX4_hasTrigger cX4_hasTrigger 4 (some .boolean), Cond.methodLink RX4 72 yX4_newId, Cond.instanceMethod yX4_newId, Cond.selects RX4 yX4_newId yX4_newId, Cond.code yX4_newId cX4_newId 2 (some .int), Cond.fieldLink RX4 165 "LayeredTable" "nextId" "I", Cond.methodLink RX4 76 yX0_push]
def wsX4_raiseTriggers_r3 : List Cond := [Cond.instanceMethod yX0_push, Cond.selects RX0 yX0_push yX0_push, Cond.initialized RX0, Cond.code yX0_push cX0_push 6 none, Cond.fieldLink RX0 28 "LayeredTable$Entries" "size" "I", Cond.fieldLink RX0 9 "LayeredTable$Entries" "cards" "[I", Cond.fieldLink RX0 15 "LayeredTable$Entries" "triggers" "[Z", Cond.fieldLink RX0 19 "LayeredTable$Entries" "players" "[I", Cond.fieldLink RX0 22 "LayeredTable$Entries" "targets" "[I", Cond.fieldLink RX0 25 "LayeredTable$Entries" "ids" "[I", Cond.methodLink RX4 86 yX4_nextPlayer, Cond.static yX4_nextPlayer, Cond.code yX4_nextPlayer cX4_nextPlayer 1 (some .int)]
def wsX4_raiseTriggers : List Cond := .code yX4_raiseTriggers cX4_raiseTriggers 7 none :: ((wsX4_raiseTriggers_r1 ++ (wsX4_raiseTriggers_r2 ++ wsX4_raiseTriggers_r3)) ++ wsX40 ++ wsX20 ++ wsX30 ++ wsX00)
def wsX4_targetPlace : List Cond := .code yX4_targetPlace cX4_targetPlace 3 (some .int) :: ([.fieldLink RX4 23 "LayeredTable" "pile" "LLayeredTable$Entries;", .fieldLink RX4 89 "LayeredTable$Entries" "size" "I", .fieldLink RX4 182 "LayeredTable$Entries" "targets" "[I", .fieldLink RX4 143 "LayeredTable$Entries" "cards" "[I", .fieldLink RX4 16 "LayeredTable" "table" "LLayeredTable$Things;", .methodLink RX4 185 yX0_placeOf, .instanceMethod yX0_placeOf, .selects RX0 yX0_placeOf yX0_placeOf, .initialized RX0, .code yX0_placeOf cX0_placeOf 3 (some .int), .fieldLink RX0 28 "LayeredTable$Entries" "size" "I", .fieldLink RX0 25 "LayeredTable$Entries" "ids" "[I", .methodLink RX4 188 yX2_placeOf, .instanceMethod yX2_placeOf, .selects RX2 yX2_placeOf yX2_placeOf, .initialized RX2, .code yX2_placeOf cX2_placeOf 3 (some .int), .fieldLink RX2 24 "LayeredTable$Things" "size" "I", .fieldLink RX2 21 "LayeredTable$Things" "ids" "[I"] ++ wsX40 ++ wsX00 ++ wsX20)
def wsX4_breakLoop_r1 : List Cond := [Cond.fieldLink RX4 37 "LayeredTable" "memory" "LLayeredTable$Memory;", Cond.fieldLink RX4 16 "LayeredTable" "table" "LLayeredTable$Things;", Cond.fieldLink RX4 114 "LayeredTable$Things" "size" "I", Cond.fieldLink RX4 23 "LayeredTable" "pile" "LLayeredTable$Entries;", Cond.fieldLink RX4 89 "LayeredTable$Entries" "size" "I", Cond.fieldLink RX4 121 "LayeredTable$Things" "cards" "[I", Cond.fieldLink RX4 231 "LayeredTable$Things" "players" "[I", Cond.fieldLink RX4 232 "LayeredTable$Things" "targets" "[I", Cond.fieldLink RX4 143 "LayeredTable$Entries" "cards" "[I", Cond.fieldLink RX4 147 "LayeredTable$Entries" "triggers" "[Z", Cond.fieldLink RX4 151 "LayeredTable$Entries" "players" "[I", Cond.fieldLink RX4 109 "LayeredTable" "loopCount" "I", Cond.methodLink RX4 228 yX1_start, Cond.instanceMethod yX1_start, Cond.selects RX1 yX1_start yX1_start, Cond.initialized RX1, Cond.code yX1_start cX1_start 3 none, Cond.fieldLink RX1 11 "LayeredTable$Memory" "state" "[I", Cond.fieldLink RX1 27 "LayeredTable$Memory" "length" "I", Cond.methodLink RX4 188 yX2_placeOf, Cond.instanceMethod yX2_placeOf, Cond.selects RX2 yX2_placeOf yX2_placeOf, Cond.initialized RX2, Cond.code yX2_placeOf cX2_placeOf 3 (some .int)]
def wsX4_breakLoop_r2 : List Cond := [Cond.fieldLink RX2 24 "LayeredTable$Things" "size" "I", Cond.fieldLink RX2 21 "LayeredTable$Things" "ids" "[I", Cond.methodLink RX4 233 yX1_write, Cond.instanceMethod yX1_write, Cond.selects RX1 yX1_write yX1_write, Cond.code yX1_write cX1_write 5 none, Cond.methodLink RX4 154 yX4_targetPlace, Cond.instanceMethod yX4_targetPlace, Cond.selects RX4 yX4_targetPlace yX4_targetPlace, Cond.initialized RX4, Cond.code yX4_targetPlace cX4_targetPlace 3 (some .int), Cond.fieldLink RX4 182 "LayeredTable$Entries" "targets" "[I", Cond.methodLink RX4 185 yX0_placeOf, Cond.instanceMethod yX0_placeOf, Cond.selects RX0 yX0_placeOf yX0_placeOf, Cond.initialized RX0, Cond.code yX0_placeOf cX0_placeOf 3 (some .int), Cond.fieldLink RX0 28 "LayeredTable$Entries" "size" "I", Cond.fieldLink RX0 25 "LayeredTable$Entries" "ids" "[I", Cond.methodLink RX4 237 yX1_knowsState, Cond.instanceMethod yX1_knowsState, Cond.selects RX1 yX1_knowsState yX1_knowsState, Cond.code yX1_knowsState cX1_knowsState 2 (some .boolean), Cond.fieldLink RX1 20 "LayeredTable$Memory" "size" "I"]
def wsX4_breakLoop_r3 : List Cond := [Cond.fieldLink RX1 17 "LayeredTable$Memory" "kept" "[[I", Cond.methodLink RX1 30 yX1_isState, Cond.instanceMethod yX1_isState, Cond.selects RX1 yX1_isState yX1_isState, Cond.code yX1_isState cX1_isState 3 (some .boolean), Cond.methodLink RX4 80 yX1_forget, Cond.instanceMethod yX1_forget, Cond.selects RX1 yX1_forget yX1_forget, Cond.code yX1_forget cX1_forget 1 none, Cond.fieldLink RX1 24 "LayeredTable$Memory" "next" "I", Cond.methodLink RX4 241 yX1_keepState, Cond.instanceMethod yX1_keepState, Cond.selects RX1 yX1_keepState yX1_keepState, Cond.code yX1_keepState cX1_keepState 1 none, Cond.methodLink RX1 34 arraycopyName, Cond.native arraycopyName, Cond.static arraycopyName, Cond.initialized "java/lang/System"]
def wsX4_breakLoop : List Cond := .code yX4_breakLoop cX4_breakLoop 2 none :: ((wsX4_breakLoop_r1 ++ (wsX4_breakLoop_r2 ++ wsX4_breakLoop_r3)) ++ wsX40 ++ wsX20 ++ wsX00 ++ wsX10)
def wsX4_resolveTop_r1 : List Cond := [Cond.fieldLink RX4 23 "LayeredTable" "pile" "LLayeredTable$Entries;", Cond.fieldLink RX4 89 "LayeredTable$Entries" "size" "I", Cond.fieldLink RX4 143 "LayeredTable$Entries" "cards" "[I", Cond.fieldLink RX4 147 "LayeredTable$Entries" "triggers" "[Z", Cond.fieldLink RX4 151 "LayeredTable$Entries" "players" "[I", Cond.fieldLink RX4 182 "LayeredTable$Entries" "targets" "[I", Cond.fieldLink RX4 83 "LayeredTable" "passes" "I", Cond.fieldLink RX4 103 "LayeredTable" "turnPlayer" "I", Cond.fieldLink RX4 57 "LayeredTable" "actingPlayer" "I", Cond.methodLink RX4 193 yX0_remove, Cond.instanceMethod yX0_remove, Cond.selects RX0 yX0_remove yX0_remove, Cond.initialized RX0, Cond.code yX0_remove cX0_remove 3 none, Cond.fieldLink RX0 28 "LayeredTable$Entries" "size" "I", Cond.fieldLink RX0 9 "LayeredTable$Entries" "cards" "[I", Cond.fieldLink RX0 15 "LayeredTable$Entries" "triggers" "[Z", Cond.fieldLink RX0 19 "LayeredTable$Entries" "players" "[I", Cond.fieldLink RX0 22 "LayeredTable$Entries" "targets" "[I", Cond.fieldLink RX0 25 "LayeredTable$Entries" "ids" "[I", Cond.methodLink RX4 196 yX4_triggerEffect, Cond.instanceMethod yX4_triggerEffect, Cond.selects RX4 yX4_triggerEffect yX4_triggerEffect, Cond.initialized RX4]
def wsX4_resolveTop_r2 : List Cond := [Cond.code yX4_triggerEffect cX4_triggerEffect 3 (some .int), Cond.fieldLink RX4 16 "LayeredTable" "table" "LLayeredTable$Things;", Cond.methodLink RX4 65 yX4_pay, Cond.instanceMethod yX4_pay, Cond.selects RX4 yX4_pay yX4_pay, Cond.code yX4_pay cX4_pay 3 none, Cond.fieldLink RX4 9 "LayeredTable" "purses" "[I", Cond.methodLink RX4 206 yX4_enter, Cond.instanceMethod yX4_enter, Cond.selects RX4 yX4_enter yX4_enter, Cond.code yX4_enter cX4_enter 4 (some .int), Cond.methodLink RX4 72 yX4_newId, Cond.instanceMethod yX4_newId, Cond.selects RX4 yX4_newId yX4_newId, Cond.code yX4_newId cX4_newId 2 (some .int), Cond.fieldLink RX4 165 "LayeredTable" "nextId" "I", Cond.methodLink RX4 218 yX2_add, Cond.instanceMethod yX2_add, Cond.selects RX2 yX2_add yX2_add, Cond.initialized RX2, Cond.code yX2_add cX2_add 5 (some .boolean), Cond.fieldLink RX2 24 "LayeredTable$Things" "size" "I", Cond.fieldLink RX2 9 "LayeredTable$Things" "cards" "[I", Cond.fieldLink RX2 15 "LayeredTable$Things" "players" "[I"]
def wsX4_resolveTop_r3 : List Cond := [Cond.fieldLink RX2 18 "LayeredTable$Things" "targets" "[I", Cond.fieldLink RX2 21 "LayeredTable$Things" "ids" "[I", Cond.methodLink RX4 212 yX2_firstOf, Cond.instanceMethod yX2_firstOf, Cond.selects RX2 yX2_firstOf yX2_firstOf, Cond.code yX2_firstOf cX2_firstOf 3 (some .int), Cond.methodLink RX4 215 yX4_leave, Cond.instanceMethod yX4_leave, Cond.selects RX4 yX4_leave yX4_leave, Cond.code yX4_leave cX4_leave 2 (some .int), Cond.methodLink RX4 222 yX2_remove, Cond.instanceMethod yX2_remove, Cond.selects RX2 yX2_remove yX2_remove, Cond.code yX2_remove cX2_remove 3 (some .boolean), Cond.methodLink RX2 28 yX2_has, Cond.instanceMethod yX2_has, Cond.selects RX2 yX2_has yX2_has, Cond.code yX2_has cX2_has 2 (some .boolean), Cond.methodLink RX4 199 yX4_cardEffect, Cond.instanceMethod yX4_cardEffect, Cond.selects RX4 yX4_cardEffect yX4_cardEffect, Cond.code yX4_cardEffect cX4_cardEffect 4 (some .int), Cond.methodLink RX4 168 yX4_isThing, Cond.static yX4_isThing]
def wsX4_resolveTop_r4 : List Cond := [Cond.code yX4_isThing cX4_isThing 1 (some .boolean), Cond.methodLink RX4 188 yX2_placeOf, Cond.instanceMethod yX2_placeOf, Cond.selects RX2 yX2_placeOf yX2_placeOf, Cond.code yX2_placeOf cX2_placeOf 3 (some .int), Cond.methodLink RX4 209 yX4_strike, Cond.instanceMethod yX4_strike, Cond.selects RX4 yX4_strike yX4_strike, Cond.code yX4_strike cX4_strike 2 (some .int), Cond.fieldLink RX4 30 "LayeredTable" "view" "LLayeredTable$View;", Cond.fieldLink RX4 137 "LayeredTable$View" "strengths" "[I", Cond.methodLink RX4 115 yX2_has, Cond.methodLink RX4 127 yX3_find, Cond.instanceMethod yX3_find, Cond.selects RX3 yX3_find yX3_find, Cond.initialized RX3, Cond.code yX3_find cX3_find 5 none, Cond.fieldLink RX3 27 "LayeredTable$Things" "size" "I", Cond.fieldLink RX3 33 "LayeredTable$Things" "cards" "[I", Cond.fieldLink RX3 9 "LayeredTable$View" "controllers" "[I", Cond.fieldLink RX3 36 "LayeredTable$Things" "players" "[I", Cond.fieldLink RX3 15 "LayeredTable$View" "kinds" "[I", Cond.fieldLink RX3 18 "LayeredTable$View" "strengths" "[I", Cond.methodLink RX3 39 yX3_goThrough]
def wsX4_resolveTop_r5 : List Cond := [Cond.instanceMethod yX3_goThrough, Cond.selects RX3 yX3_goThrough yX3_goThrough, Cond.code yX3_goThrough cX3_goThrough 6 none, Cond.fieldLink RX3 21 "LayeredTable$View" "kindsBefore" "[I", Cond.fieldLink RX3 24 "LayeredTable$View" "strengthsBefore" "[I", Cond.static yX4_layerOf, Cond.code yX4_layerOf cX4_layerOf 1 (some .int), Cond.fieldLink RX4 162 "LayeredTable" "LAYER_OF" "[I", Cond.methodLink RX3 47 yX3_takes, Cond.instanceMethod yX3_takes, Cond.selects RX3 yX3_takes yX3_takes, Cond.code yX3_takes cX3_takes 5 (some .boolean), Cond.fieldLink RX3 55 "LayeredTable$Things" "ids" "[I", Cond.fieldLink RX3 58 "LayeredTable$Things" "targets" "[I", Cond.methodLink RX3 51 yX3_change, Cond.instanceMethod yX3_change, Cond.selects RX3 yX3_change yX3_change, Cond.code yX3_change cX3_change 4 none, Cond.methodLink RX4 185 yX0_placeOf, Cond.instanceMethod yX0_placeOf, Cond.selects RX0 yX0_placeOf yX0_placeOf, Cond.code yX0_placeOf cX0_placeOf 3 (some .int), Cond.methodLink RX4 144 yX0_indexOf, Cond.instanceMethod yX0_indexOf]
def wsX4_resolveTop_r6 : List Cond := [Cond.selects RX0 yX0_indexOf yX0_indexOf, Cond.code yX0_indexOf cX0_indexOf 2 (some .int), Cond.methodLink RX0 32 yX0_has, Cond.instanceMethod yX0_has, Cond.selects RX0 yX0_has yX0_has, Cond.code yX0_has cX0_has 2 (some .boolean), Cond.methodLink RX4 189 yX4_raiseTriggers, Cond.instanceMethod yX4_raiseTriggers, Cond.selects RX4 yX4_raiseTriggers yX4_raiseTriggers, Cond.code yX4_raiseTriggers cX4_raiseTriggers 7 none, Cond.fieldLink RX4 114 "LayeredTable$Things" "size" "I", Cond.fieldLink RX4 121 "LayeredTable$Things" "cards" "[I", Cond.fieldLink RX4 131 "LayeredTable$View" "controllers" "[I", Cond.methodLink RX4 224 yX4_hasTrigger, Cond.instanceMethod yX4_hasTrigger, Cond.selects RX4 yX4_hasTrigger yX4_hasTrigger, Cond.code yX4_hasTrigger cX4_hasTrigger 4 (some .boolean), Cond.methodLink RX4 76 yX0_push, Cond.instanceMethod yX0_push, Cond.selects RX0 yX0_push yX0_push, Cond.code yX0_push cX0_push 6 none, Cond.methodLink RX4 86 yX4_nextPlayer, Cond.static yX4_nextPlayer, Cond.code yX4_nextPlayer cX4_nextPlayer 1 (some .int)]
def wsX4_resolveTop_r7 : List Cond := [Cond.methodLink RX4 203 yX4_breakLoop, Cond.instanceMethod yX4_breakLoop, Cond.selects RX4 yX4_breakLoop yX4_breakLoop, Cond.code yX4_breakLoop cX4_breakLoop 2 none, Cond.fieldLink RX4 37 "LayeredTable" "memory" "LLayeredTable$Memory;", Cond.fieldLink RX4 231 "LayeredTable$Things" "players" "[I", Cond.fieldLink RX4 232 "LayeredTable$Things" "targets" "[I", Cond.fieldLink RX4 109 "LayeredTable" "loopCount" "I", Cond.methodLink RX4 228 yX1_start, Cond.instanceMethod yX1_start, Cond.selects RX1 yX1_start yX1_start, Cond.initialized RX1, Cond.code yX1_start cX1_start 3 none, Cond.fieldLink RX1 11 "LayeredTable$Memory" "state" "[I", Cond.fieldLink RX1 27 "LayeredTable$Memory" "length" "I", Cond.methodLink RX4 233 yX1_write, Cond.instanceMethod yX1_write, Cond.selects RX1 yX1_write yX1_write, Cond.code yX1_write cX1_write 5 none, Cond.methodLink RX4 154 yX4_targetPlace, Cond.instanceMethod yX4_targetPlace, Cond.selects RX4 yX4_targetPlace yX4_targetPlace, Cond.code yX4_targetPlace cX4_targetPlace 3 (some .int), Cond.methodLink RX4 237 yX1_knowsState]
def wsX4_resolveTop_r8 : List Cond := [Cond.instanceMethod yX1_knowsState, Cond.selects RX1 yX1_knowsState yX1_knowsState, Cond.code yX1_knowsState cX1_knowsState 2 (some .boolean), Cond.fieldLink RX1 20 "LayeredTable$Memory" "size" "I", Cond.fieldLink RX1 17 "LayeredTable$Memory" "kept" "[[I", Cond.methodLink RX1 30 yX1_isState, Cond.instanceMethod yX1_isState, Cond.selects RX1 yX1_isState yX1_isState, Cond.code yX1_isState cX1_isState 3 (some .boolean), Cond.methodLink RX4 80 yX1_forget, Cond.instanceMethod yX1_forget, Cond.selects RX1 yX1_forget yX1_forget, Cond.code yX1_forget cX1_forget 1 none, Cond.fieldLink RX1 24 "LayeredTable$Memory" "next" "I", Cond.methodLink RX4 241 yX1_keepState, Cond.instanceMethod yX1_keepState, Cond.selects RX1 yX1_keepState yX1_keepState, Cond.code yX1_keepState cX1_keepState 1 none, Cond.methodLink RX1 34 arraycopyName, Cond.native arraycopyName, Cond.static arraycopyName, Cond.initialized "java/lang/System"]
def wsX4_resolveTop : List Cond := .code yX4_resolveTop cX4_resolveTop 6 none :: ((wsX4_resolveTop_r1 ++ (wsX4_resolveTop_r2 ++ (wsX4_resolveTop_r3 ++ (wsX4_resolveTop_r4 ++ (wsX4_resolveTop_r5 ++ (wsX4_resolveTop_r6 ++ (wsX4_resolveTop_r7 ++ wsX4_resolveTop_r8))))))) ++ wsX40 ++ wsX00 ++ wsX20 ++ wsX30 ++ wsX10)
def wsX4_beginTurn_r1 : List Cond := [Cond.fieldLink RX4 103 "LayeredTable" "turnPlayer" "I", Cond.fieldLink RX4 57 "LayeredTable" "actingPlayer" "I", Cond.fieldLink RX4 83 "LayeredTable" "passes" "I", Cond.fieldLink RX4 106 "LayeredTable" "roundCount" "I", Cond.fieldLink RX4 37 "LayeredTable" "memory" "LLayeredTable$Memory;", Cond.methodLink RX4 86 yX4_nextPlayer, Cond.static yX4_nextPlayer, Cond.initialized RX4, Cond.code yX4_nextPlayer cX4_nextPlayer 1 (some .int), Cond.methodLink RX4 80 yX1_forget, Cond.instanceMethod yX1_forget, Cond.selects RX1 yX1_forget yX1_forget, Cond.initialized RX1, Cond.code yX1_forget cX1_forget 1 none, Cond.fieldLink RX1 20 "LayeredTable$Memory" "size" "I", Cond.fieldLink RX1 24 "LayeredTable$Memory" "next" "I", Cond.methodLink RX4 65 yX4_pay, Cond.instanceMethod yX4_pay, Cond.selects RX4 yX4_pay yX4_pay, Cond.code yX4_pay cX4_pay 3 none, Cond.fieldLink RX4 9 "LayeredTable" "purses" "[I", Cond.methodLink RX4 189 yX4_raiseTriggers, Cond.instanceMethod yX4_raiseTriggers, Cond.selects RX4 yX4_raiseTriggers yX4_raiseTriggers]
def wsX4_beginTurn_r2 : List Cond := [Cond.code yX4_raiseTriggers cX4_raiseTriggers 7 none, Cond.fieldLink RX4 30 "LayeredTable" "view" "LLayeredTable$View;", Cond.fieldLink RX4 16 "LayeredTable" "table" "LLayeredTable$Things;", Cond.fieldLink RX4 114 "LayeredTable$Things" "size" "I", Cond.fieldLink RX4 121 "LayeredTable$Things" "cards" "[I", Cond.fieldLink RX4 131 "LayeredTable$View" "controllers" "[I", Cond.fieldLink RX4 23 "LayeredTable" "pile" "LLayeredTable$Entries;", Cond.methodLink RX4 127 yX3_find, Cond.instanceMethod yX3_find, Cond.selects RX3 yX3_find yX3_find, Cond.initialized RX3, Cond.code yX3_find cX3_find 5 none, Cond.fieldLink RX3 27 "LayeredTable$Things" "size" "I", Cond.fieldLink RX3 33 "LayeredTable$Things" "cards" "[I", Cond.fieldLink RX3 9 "LayeredTable$View" "controllers" "[I", Cond.fieldLink RX3 36 "LayeredTable$Things" "players" "[I", Cond.fieldLink RX3 15 "LayeredTable$View" "kinds" "[I", Cond.fieldLink RX3 18 "LayeredTable$View" "strengths" "[I", Cond.methodLink RX3 39 yX3_goThrough, Cond.instanceMethod yX3_goThrough, Cond.selects RX3 yX3_goThrough yX3_goThrough, Cond.code yX3_goThrough cX3_goThrough 6 none, Cond.fieldLink RX3 21 "LayeredTable$View" "kindsBefore" "[I", Cond.fieldLink RX3 24 "LayeredTable$View" "strengthsBefore" "[I"]
def wsX4_beginTurn_r3 : List Cond := [Cond.static yX4_layerOf, Cond.code yX4_layerOf cX4_layerOf 1 (some .int), Cond.fieldLink RX4 162 "LayeredTable" "LAYER_OF" "[I", Cond.methodLink RX3 47 yX3_takes, Cond.instanceMethod yX3_takes, Cond.selects RX3 yX3_takes yX3_takes, Cond.code yX3_takes cX3_takes 5 (some .boolean), Cond.fieldLink RX3 55 "LayeredTable$Things" "ids" "[I", Cond.fieldLink RX3 58 "LayeredTable$Things" "targets" "[I", Cond.methodLink RX3 51 yX3_change, Cond.instanceMethod yX3_change, Cond.selects RX3 yX3_change yX3_change, Cond.code yX3_change cX3_change 4 none, Cond.methodLink RX4 224 yX4_hasTrigger, Cond.instanceMethod yX4_hasTrigger, Cond.selects RX4 yX4_hasTrigger yX4_hasTrigger, Cond.code yX4_hasTrigger cX4_hasTrigger 4 (some .boolean), Cond.methodLink RX4 72 yX4_newId, Cond.instanceMethod yX4_newId, Cond.selects RX4 yX4_newId yX4_newId, Cond.code yX4_newId cX4_newId 2 (some .int), Cond.fieldLink RX4 165 "LayeredTable" "nextId" "I", Cond.methodLink RX4 76 yX0_push, Cond.instanceMethod yX0_push]
def wsX4_beginTurn_r4 : List Cond := [Cond.selects RX0 yX0_push yX0_push, Cond.initialized RX0, Cond.code yX0_push cX0_push 6 none, Cond.fieldLink RX0 28 "LayeredTable$Entries" "size" "I", Cond.fieldLink RX0 9 "LayeredTable$Entries" "cards" "[I", Cond.fieldLink RX0 15 "LayeredTable$Entries" "triggers" "[Z", Cond.fieldLink RX0 19 "LayeredTable$Entries" "players" "[I", Cond.fieldLink RX0 22 "LayeredTable$Entries" "targets" "[I", Cond.fieldLink RX0 25 "LayeredTable$Entries" "ids" "[I"]
def wsX4_beginTurn : List Cond := .code yX4_beginTurn cX4_beginTurn 1 none :: ((wsX4_beginTurn_r1 ++ (wsX4_beginTurn_r2 ++ (wsX4_beginTurn_r3 ++ wsX4_beginTurn_r4))) ++ wsX40 ++ wsX10 ++ wsX20 ++ wsX30 ++ wsX00)
def wsX4_pass_r1 : List Cond := [Cond.fieldLink RX4 83 "LayeredTable" "passes" "I", Cond.fieldLink RX4 57 "LayeredTable" "actingPlayer" "I", Cond.fieldLink RX4 23 "LayeredTable" "pile" "LLayeredTable$Entries;", Cond.fieldLink RX4 89 "LayeredTable$Entries" "size" "I", Cond.methodLink RX4 86 yX4_nextPlayer, Cond.static yX4_nextPlayer, Cond.initialized RX4, Cond.code yX4_nextPlayer cX4_nextPlayer 1 (some .int), Cond.methodLink RX4 92 yX4_resolveTop, Cond.instanceMethod yX4_resolveTop, Cond.selects RX4 yX4_resolveTop yX4_resolveTop, Cond.code yX4_resolveTop cX4_resolveTop 6 none, Cond.fieldLink RX4 143 "LayeredTable$Entries" "cards" "[I", Cond.fieldLink RX4 147 "LayeredTable$Entries" "triggers" "[Z", Cond.fieldLink RX4 151 "LayeredTable$Entries" "players" "[I", Cond.fieldLink RX4 182 "LayeredTable$Entries" "targets" "[I", Cond.fieldLink RX4 103 "LayeredTable" "turnPlayer" "I", Cond.methodLink RX4 193 yX0_remove, Cond.instanceMethod yX0_remove, Cond.selects RX0 yX0_remove yX0_remove, Cond.initialized RX0, Cond.code yX0_remove cX0_remove 3 none, Cond.fieldLink RX0 28 "LayeredTable$Entries" "size" "I", Cond.fieldLink RX0 9 "LayeredTable$Entries" "cards" "[I"]
def wsX4_pass_r2 : List Cond := [Cond.fieldLink RX0 15 "LayeredTable$Entries" "triggers" "[Z", Cond.fieldLink RX0 19 "LayeredTable$Entries" "players" "[I", Cond.fieldLink RX0 22 "LayeredTable$Entries" "targets" "[I", Cond.fieldLink RX0 25 "LayeredTable$Entries" "ids" "[I", Cond.methodLink RX4 196 yX4_triggerEffect, Cond.instanceMethod yX4_triggerEffect, Cond.selects RX4 yX4_triggerEffect yX4_triggerEffect, Cond.code yX4_triggerEffect cX4_triggerEffect 3 (some .int), Cond.fieldLink RX4 16 "LayeredTable" "table" "LLayeredTable$Things;", Cond.methodLink RX4 65 yX4_pay, Cond.instanceMethod yX4_pay, Cond.selects RX4 yX4_pay yX4_pay, Cond.code yX4_pay cX4_pay 3 none, Cond.fieldLink RX4 9 "LayeredTable" "purses" "[I", Cond.methodLink RX4 206 yX4_enter, Cond.instanceMethod yX4_enter, Cond.selects RX4 yX4_enter yX4_enter, Cond.code yX4_enter cX4_enter 4 (some .int), Cond.methodLink RX4 72 yX4_newId, Cond.instanceMethod yX4_newId, Cond.selects RX4 yX4_newId yX4_newId, Cond.code yX4_newId cX4_newId 2 (some .int), Cond.fieldLink RX4 165 "LayeredTable" "nextId" "I", Cond.methodLink RX4 218 yX2_add]
def wsX4_pass_r3 : List Cond := [Cond.instanceMethod yX2_add, Cond.selects RX2 yX2_add yX2_add, Cond.initialized RX2, Cond.code yX2_add cX2_add 5 (some .boolean), Cond.fieldLink RX2 24 "LayeredTable$Things" "size" "I", Cond.fieldLink RX2 9 "LayeredTable$Things" "cards" "[I", Cond.fieldLink RX2 15 "LayeredTable$Things" "players" "[I", Cond.fieldLink RX2 18 "LayeredTable$Things" "targets" "[I", Cond.fieldLink RX2 21 "LayeredTable$Things" "ids" "[I", Cond.methodLink RX4 212 yX2_firstOf, Cond.instanceMethod yX2_firstOf, Cond.selects RX2 yX2_firstOf yX2_firstOf, Cond.code yX2_firstOf cX2_firstOf 3 (some .int), Cond.methodLink RX4 215 yX4_leave, Cond.instanceMethod yX4_leave, Cond.selects RX4 yX4_leave yX4_leave, Cond.code yX4_leave cX4_leave 2 (some .int), Cond.methodLink RX4 222 yX2_remove, Cond.instanceMethod yX2_remove, Cond.selects RX2 yX2_remove yX2_remove, Cond.code yX2_remove cX2_remove 3 (some .boolean), Cond.methodLink RX2 28 yX2_has, Cond.instanceMethod yX2_has, Cond.selects RX2 yX2_has yX2_has]
def wsX4_pass_r4 : List Cond := [Cond.code yX2_has cX2_has 2 (some .boolean), Cond.methodLink RX4 199 yX4_cardEffect, Cond.instanceMethod yX4_cardEffect, Cond.selects RX4 yX4_cardEffect yX4_cardEffect, Cond.code yX4_cardEffect cX4_cardEffect 4 (some .int), Cond.methodLink RX4 168 yX4_isThing, Cond.static yX4_isThing, Cond.code yX4_isThing cX4_isThing 1 (some .boolean), Cond.methodLink RX4 188 yX2_placeOf, Cond.instanceMethod yX2_placeOf, Cond.selects RX2 yX2_placeOf yX2_placeOf, Cond.code yX2_placeOf cX2_placeOf 3 (some .int), Cond.methodLink RX4 209 yX4_strike, Cond.instanceMethod yX4_strike, Cond.selects RX4 yX4_strike yX4_strike, Cond.code yX4_strike cX4_strike 2 (some .int), Cond.fieldLink RX4 30 "LayeredTable" "view" "LLayeredTable$View;", Cond.fieldLink RX4 137 "LayeredTable$View" "strengths" "[I", Cond.methodLink RX4 115 yX2_has, Cond.methodLink RX4 127 yX3_find, Cond.instanceMethod yX3_find, Cond.selects RX3 yX3_find yX3_find, Cond.initialized RX3, Cond.code yX3_find cX3_find 5 none]
def wsX4_pass_r5 : List Cond := [Cond.fieldLink RX3 27 "LayeredTable$Things" "size" "I", Cond.fieldLink RX3 33 "LayeredTable$Things" "cards" "[I", Cond.fieldLink RX3 9 "LayeredTable$View" "controllers" "[I", Cond.fieldLink RX3 36 "LayeredTable$Things" "players" "[I", Cond.fieldLink RX3 15 "LayeredTable$View" "kinds" "[I", Cond.fieldLink RX3 18 "LayeredTable$View" "strengths" "[I", Cond.methodLink RX3 39 yX3_goThrough, Cond.instanceMethod yX3_goThrough, Cond.selects RX3 yX3_goThrough yX3_goThrough, Cond.code yX3_goThrough cX3_goThrough 6 none, Cond.fieldLink RX3 21 "LayeredTable$View" "kindsBefore" "[I", Cond.fieldLink RX3 24 "LayeredTable$View" "strengthsBefore" "[I", Cond.static yX4_layerOf, Cond.code yX4_layerOf cX4_layerOf 1 (some .int), Cond.fieldLink RX4 162 "LayeredTable" "LAYER_OF" "[I", Cond.methodLink RX3 47 yX3_takes, Cond.instanceMethod yX3_takes, Cond.selects RX3 yX3_takes yX3_takes, Cond.code yX3_takes cX3_takes 5 (some .boolean), Cond.fieldLink RX3 55 "LayeredTable$Things" "ids" "[I", Cond.fieldLink RX3 58 "LayeredTable$Things" "targets" "[I", Cond.methodLink RX3 51 yX3_change, Cond.instanceMethod yX3_change, Cond.selects RX3 yX3_change yX3_change]
def wsX4_pass_r6 : List Cond := [Cond.code yX3_change cX3_change 4 none, Cond.methodLink RX4 185 yX0_placeOf, Cond.instanceMethod yX0_placeOf, Cond.selects RX0 yX0_placeOf yX0_placeOf, Cond.code yX0_placeOf cX0_placeOf 3 (some .int), Cond.methodLink RX4 144 yX0_indexOf, Cond.instanceMethod yX0_indexOf, Cond.selects RX0 yX0_indexOf yX0_indexOf, Cond.code yX0_indexOf cX0_indexOf 2 (some .int), Cond.methodLink RX0 32 yX0_has, Cond.instanceMethod yX0_has, Cond.selects RX0 yX0_has yX0_has, Cond.code yX0_has cX0_has 2 (some .boolean), Cond.methodLink RX4 189 yX4_raiseTriggers, Cond.instanceMethod yX4_raiseTriggers, Cond.selects RX4 yX4_raiseTriggers yX4_raiseTriggers, Cond.code yX4_raiseTriggers cX4_raiseTriggers 7 none, Cond.fieldLink RX4 114 "LayeredTable$Things" "size" "I", Cond.fieldLink RX4 121 "LayeredTable$Things" "cards" "[I", Cond.fieldLink RX4 131 "LayeredTable$View" "controllers" "[I", Cond.methodLink RX4 224 yX4_hasTrigger, Cond.instanceMethod yX4_hasTrigger, Cond.selects RX4 yX4_hasTrigger yX4_hasTrigger, Cond.code yX4_hasTrigger cX4_hasTrigger 4 (some .boolean)]
def wsX4_pass_r7 : List Cond := [Cond.methodLink RX4 76 yX0_push, Cond.instanceMethod yX0_push, Cond.selects RX0 yX0_push yX0_push, Cond.code yX0_push cX0_push 6 none, Cond.methodLink RX4 203 yX4_breakLoop, Cond.instanceMethod yX4_breakLoop, Cond.selects RX4 yX4_breakLoop yX4_breakLoop, Cond.code yX4_breakLoop cX4_breakLoop 2 none, Cond.fieldLink RX4 37 "LayeredTable" "memory" "LLayeredTable$Memory;", Cond.fieldLink RX4 231 "LayeredTable$Things" "players" "[I", Cond.fieldLink RX4 232 "LayeredTable$Things" "targets" "[I", Cond.fieldLink RX4 109 "LayeredTable" "loopCount" "I", Cond.methodLink RX4 228 yX1_start, Cond.instanceMethod yX1_start, Cond.selects RX1 yX1_start yX1_start, Cond.initialized RX1, Cond.code yX1_start cX1_start 3 none, Cond.fieldLink RX1 11 "LayeredTable$Memory" "state" "[I", Cond.fieldLink RX1 27 "LayeredTable$Memory" "length" "I", Cond.methodLink RX4 233 yX1_write, Cond.instanceMethod yX1_write, Cond.selects RX1 yX1_write yX1_write, Cond.code yX1_write cX1_write 5 none, Cond.methodLink RX4 154 yX4_targetPlace]
def wsX4_pass_r8 : List Cond := [Cond.instanceMethod yX4_targetPlace, Cond.selects RX4 yX4_targetPlace yX4_targetPlace, Cond.code yX4_targetPlace cX4_targetPlace 3 (some .int), Cond.methodLink RX4 237 yX1_knowsState, Cond.instanceMethod yX1_knowsState, Cond.selects RX1 yX1_knowsState yX1_knowsState, Cond.code yX1_knowsState cX1_knowsState 2 (some .boolean), Cond.fieldLink RX1 20 "LayeredTable$Memory" "size" "I", Cond.fieldLink RX1 17 "LayeredTable$Memory" "kept" "[[I", Cond.methodLink RX1 30 yX1_isState, Cond.instanceMethod yX1_isState, Cond.selects RX1 yX1_isState yX1_isState, Cond.code yX1_isState cX1_isState 3 (some .boolean), Cond.methodLink RX4 80 yX1_forget, Cond.instanceMethod yX1_forget, Cond.selects RX1 yX1_forget yX1_forget, Cond.code yX1_forget cX1_forget 1 none, Cond.fieldLink RX1 24 "LayeredTable$Memory" "next" "I", Cond.methodLink RX4 241 yX1_keepState, Cond.instanceMethod yX1_keepState, Cond.selects RX1 yX1_keepState yX1_keepState, Cond.code yX1_keepState cX1_keepState 1 none, Cond.methodLink RX1 34 arraycopyName, Cond.native arraycopyName]
def wsX4_pass_r9 : List Cond := [Cond.static arraycopyName, Cond.initialized "java/lang/System", Cond.methodLink RX4 95 yX4_beginTurn, Cond.instanceMethod yX4_beginTurn, Cond.selects RX4 yX4_beginTurn yX4_beginTurn, Cond.code yX4_beginTurn cX4_beginTurn 1 none, Cond.fieldLink RX4 106 "LayeredTable" "roundCount" "I"]
def wsX4_pass : List Cond := .code yX4_pass cX4_pass 1 (some .int) :: ((wsX4_pass_r1 ++ (wsX4_pass_r2 ++ (wsX4_pass_r3 ++ (wsX4_pass_r4 ++ (wsX4_pass_r5 ++ (wsX4_pass_r6 ++ (wsX4_pass_r7 ++ (wsX4_pass_r8 ++ wsX4_pass_r9)))))))) ++ wsX40 ++ wsX00 ++ wsX20 ++ wsX30 ++ wsX10)
def wsX4_settle_r1 : List Cond := [Cond.classLink RX4 98 "java/lang/IllegalArgumentException", Cond.initialized "java/lang/IllegalArgumentException", Cond.fieldLink RX4 23 "LayeredTable" "pile" "LLayeredTable$Entries;", Cond.fieldLink RX4 89 "LayeredTable$Entries" "size" "I", Cond.methodLink RX4 92 yX4_resolveTop, Cond.instanceMethod yX4_resolveTop, Cond.selects RX4 yX4_resolveTop yX4_resolveTop, Cond.initialized RX4, Cond.code yX4_resolveTop cX4_resolveTop 6 none, Cond.fieldLink RX4 143 "LayeredTable$Entries" "cards" "[I", Cond.fieldLink RX4 147 "LayeredTable$Entries" "triggers" "[Z", Cond.fieldLink RX4 151 "LayeredTable$Entries" "players" "[I", Cond.fieldLink RX4 182 "LayeredTable$Entries" "targets" "[I", Cond.fieldLink RX4 83 "LayeredTable" "passes" "I", Cond.fieldLink RX4 103 "LayeredTable" "turnPlayer" "I", Cond.fieldLink RX4 57 "LayeredTable" "actingPlayer" "I", Cond.methodLink RX4 193 yX0_remove, Cond.instanceMethod yX0_remove, Cond.selects RX0 yX0_remove yX0_remove, Cond.initialized RX0, Cond.code yX0_remove cX0_remove 3 none, Cond.fieldLink RX0 28 "LayeredTable$Entries" "size" "I", Cond.fieldLink RX0 9 "LayeredTable$Entries" "cards" "[I", Cond.fieldLink RX0 15 "LayeredTable$Entries" "triggers" "[Z"]
def wsX4_settle_r2 : List Cond := [Cond.fieldLink RX0 19 "LayeredTable$Entries" "players" "[I", Cond.fieldLink RX0 22 "LayeredTable$Entries" "targets" "[I", Cond.fieldLink RX0 25 "LayeredTable$Entries" "ids" "[I", Cond.methodLink RX4 196 yX4_triggerEffect, Cond.instanceMethod yX4_triggerEffect, Cond.selects RX4 yX4_triggerEffect yX4_triggerEffect, Cond.code yX4_triggerEffect cX4_triggerEffect 3 (some .int), Cond.fieldLink RX4 16 "LayeredTable" "table" "LLayeredTable$Things;", Cond.methodLink RX4 65 yX4_pay, Cond.instanceMethod yX4_pay, Cond.selects RX4 yX4_pay yX4_pay, Cond.code yX4_pay cX4_pay 3 none, Cond.fieldLink RX4 9 "LayeredTable" "purses" "[I", Cond.methodLink RX4 206 yX4_enter, Cond.instanceMethod yX4_enter, Cond.selects RX4 yX4_enter yX4_enter, Cond.code yX4_enter cX4_enter 4 (some .int), Cond.methodLink RX4 72 yX4_newId, Cond.instanceMethod yX4_newId, Cond.selects RX4 yX4_newId yX4_newId, Cond.code yX4_newId cX4_newId 2 (some .int), Cond.fieldLink RX4 165 "LayeredTable" "nextId" "I", Cond.methodLink RX4 218 yX2_add, Cond.instanceMethod yX2_add]
def wsX4_settle_r3 : List Cond := [Cond.selects RX2 yX2_add yX2_add, Cond.initialized RX2, Cond.code yX2_add cX2_add 5 (some .boolean), Cond.fieldLink RX2 24 "LayeredTable$Things" "size" "I", Cond.fieldLink RX2 9 "LayeredTable$Things" "cards" "[I", Cond.fieldLink RX2 15 "LayeredTable$Things" "players" "[I", Cond.fieldLink RX2 18 "LayeredTable$Things" "targets" "[I", Cond.fieldLink RX2 21 "LayeredTable$Things" "ids" "[I", Cond.methodLink RX4 212 yX2_firstOf, Cond.instanceMethod yX2_firstOf, Cond.selects RX2 yX2_firstOf yX2_firstOf, Cond.code yX2_firstOf cX2_firstOf 3 (some .int), Cond.methodLink RX4 215 yX4_leave, Cond.instanceMethod yX4_leave, Cond.selects RX4 yX4_leave yX4_leave, Cond.code yX4_leave cX4_leave 2 (some .int), Cond.methodLink RX4 222 yX2_remove, Cond.instanceMethod yX2_remove, Cond.selects RX2 yX2_remove yX2_remove, Cond.code yX2_remove cX2_remove 3 (some .boolean), Cond.methodLink RX2 28 yX2_has, Cond.instanceMethod yX2_has, Cond.selects RX2 yX2_has yX2_has, Cond.code yX2_has cX2_has 2 (some .boolean)]
def wsX4_settle_r4 : List Cond := [Cond.methodLink RX4 199 yX4_cardEffect, Cond.instanceMethod yX4_cardEffect, Cond.selects RX4 yX4_cardEffect yX4_cardEffect, Cond.code yX4_cardEffect cX4_cardEffect 4 (some .int), Cond.methodLink RX4 168 yX4_isThing, Cond.static yX4_isThing, Cond.code yX4_isThing cX4_isThing 1 (some .boolean), Cond.methodLink RX4 188 yX2_placeOf, Cond.instanceMethod yX2_placeOf, Cond.selects RX2 yX2_placeOf yX2_placeOf, Cond.code yX2_placeOf cX2_placeOf 3 (some .int), Cond.methodLink RX4 209 yX4_strike, Cond.instanceMethod yX4_strike, Cond.selects RX4 yX4_strike yX4_strike, Cond.code yX4_strike cX4_strike 2 (some .int), Cond.fieldLink RX4 30 "LayeredTable" "view" "LLayeredTable$View;", Cond.fieldLink RX4 137 "LayeredTable$View" "strengths" "[I", Cond.methodLink RX4 115 yX2_has, Cond.methodLink RX4 127 yX3_find, Cond.instanceMethod yX3_find, Cond.selects RX3 yX3_find yX3_find, Cond.initialized RX3, Cond.code yX3_find cX3_find 5 none, Cond.fieldLink RX3 27 "LayeredTable$Things" "size" "I"]
def wsX4_settle_r5 : List Cond := [Cond.fieldLink RX3 33 "LayeredTable$Things" "cards" "[I", Cond.fieldLink RX3 9 "LayeredTable$View" "controllers" "[I", Cond.fieldLink RX3 36 "LayeredTable$Things" "players" "[I", Cond.fieldLink RX3 15 "LayeredTable$View" "kinds" "[I", Cond.fieldLink RX3 18 "LayeredTable$View" "strengths" "[I", Cond.methodLink RX3 39 yX3_goThrough, Cond.instanceMethod yX3_goThrough, Cond.selects RX3 yX3_goThrough yX3_goThrough, Cond.code yX3_goThrough cX3_goThrough 6 none, Cond.fieldLink RX3 21 "LayeredTable$View" "kindsBefore" "[I", Cond.fieldLink RX3 24 "LayeredTable$View" "strengthsBefore" "[I", Cond.static yX4_layerOf, Cond.code yX4_layerOf cX4_layerOf 1 (some .int), Cond.fieldLink RX4 162 "LayeredTable" "LAYER_OF" "[I", Cond.methodLink RX3 47 yX3_takes, Cond.instanceMethod yX3_takes, Cond.selects RX3 yX3_takes yX3_takes, Cond.code yX3_takes cX3_takes 5 (some .boolean), Cond.fieldLink RX3 55 "LayeredTable$Things" "ids" "[I", Cond.fieldLink RX3 58 "LayeredTable$Things" "targets" "[I", Cond.methodLink RX3 51 yX3_change, Cond.instanceMethod yX3_change, Cond.selects RX3 yX3_change yX3_change, Cond.code yX3_change cX3_change 4 none]
def wsX4_settle_r6 : List Cond := [Cond.methodLink RX4 185 yX0_placeOf, Cond.instanceMethod yX0_placeOf, Cond.selects RX0 yX0_placeOf yX0_placeOf, Cond.code yX0_placeOf cX0_placeOf 3 (some .int), Cond.methodLink RX4 144 yX0_indexOf, Cond.instanceMethod yX0_indexOf, Cond.selects RX0 yX0_indexOf yX0_indexOf, Cond.code yX0_indexOf cX0_indexOf 2 (some .int), Cond.methodLink RX0 32 yX0_has, Cond.instanceMethod yX0_has, Cond.selects RX0 yX0_has yX0_has, Cond.code yX0_has cX0_has 2 (some .boolean), Cond.methodLink RX4 189 yX4_raiseTriggers, Cond.instanceMethod yX4_raiseTriggers, Cond.selects RX4 yX4_raiseTriggers yX4_raiseTriggers, Cond.code yX4_raiseTriggers cX4_raiseTriggers 7 none, Cond.fieldLink RX4 114 "LayeredTable$Things" "size" "I", Cond.fieldLink RX4 121 "LayeredTable$Things" "cards" "[I", Cond.fieldLink RX4 131 "LayeredTable$View" "controllers" "[I", Cond.methodLink RX4 224 yX4_hasTrigger, Cond.instanceMethod yX4_hasTrigger, Cond.selects RX4 yX4_hasTrigger yX4_hasTrigger, Cond.code yX4_hasTrigger cX4_hasTrigger 4 (some .boolean), Cond.methodLink RX4 76 yX0_push]
def wsX4_settle_r7 : List Cond := [Cond.instanceMethod yX0_push, Cond.selects RX0 yX0_push yX0_push, Cond.code yX0_push cX0_push 6 none, Cond.methodLink RX4 86 yX4_nextPlayer, Cond.static yX4_nextPlayer, Cond.code yX4_nextPlayer cX4_nextPlayer 1 (some .int), Cond.methodLink RX4 203 yX4_breakLoop, Cond.instanceMethod yX4_breakLoop, Cond.selects RX4 yX4_breakLoop yX4_breakLoop, Cond.code yX4_breakLoop cX4_breakLoop 2 none, Cond.fieldLink RX4 37 "LayeredTable" "memory" "LLayeredTable$Memory;", Cond.fieldLink RX4 231 "LayeredTable$Things" "players" "[I", Cond.fieldLink RX4 232 "LayeredTable$Things" "targets" "[I", Cond.fieldLink RX4 109 "LayeredTable" "loopCount" "I", Cond.methodLink RX4 228 yX1_start, Cond.instanceMethod yX1_start, Cond.selects RX1 yX1_start yX1_start, Cond.initialized RX1, Cond.code yX1_start cX1_start 3 none, Cond.fieldLink RX1 11 "LayeredTable$Memory" "state" "[I", Cond.fieldLink RX1 27 "LayeredTable$Memory" "length" "I", Cond.methodLink RX4 233 yX1_write, Cond.instanceMethod yX1_write, Cond.selects RX1 yX1_write yX1_write]
def wsX4_settle_r8 : List Cond := [Cond.code yX1_write cX1_write 5 none, Cond.methodLink RX4 154 yX4_targetPlace, Cond.instanceMethod yX4_targetPlace, Cond.selects RX4 yX4_targetPlace yX4_targetPlace, Cond.code yX4_targetPlace cX4_targetPlace 3 (some .int), Cond.methodLink RX4 237 yX1_knowsState, Cond.instanceMethod yX1_knowsState, Cond.selects RX1 yX1_knowsState yX1_knowsState, Cond.code yX1_knowsState cX1_knowsState 2 (some .boolean), Cond.fieldLink RX1 20 "LayeredTable$Memory" "size" "I", Cond.fieldLink RX1 17 "LayeredTable$Memory" "kept" "[[I", Cond.methodLink RX1 30 yX1_isState, Cond.instanceMethod yX1_isState, Cond.selects RX1 yX1_isState yX1_isState, Cond.code yX1_isState cX1_isState 3 (some .boolean), Cond.methodLink RX4 80 yX1_forget, Cond.instanceMethod yX1_forget, Cond.selects RX1 yX1_forget yX1_forget, Cond.code yX1_forget cX1_forget 1 none, Cond.fieldLink RX1 24 "LayeredTable$Memory" "next" "I", Cond.methodLink RX4 241 yX1_keepState, Cond.instanceMethod yX1_keepState, Cond.selects RX1 yX1_keepState yX1_keepState, Cond.code yX1_keepState cX1_keepState 1 none]
def wsX4_settle_r9 : List Cond := [Cond.methodLink RX1 34 arraycopyName, Cond.native arraycopyName, Cond.static arraycopyName, Cond.initialized "java/lang/System"]
def wsX4_settle : List Cond := .code yX4_settle cX4_settle 3 (some .int) :: ((wsX4_settle_r1 ++ (wsX4_settle_r2 ++ (wsX4_settle_r3 ++ (wsX4_settle_r4 ++ (wsX4_settle_r5 ++ (wsX4_settle_r6 ++ (wsX4_settle_r7 ++ (wsX4_settle_r8 ++ wsX4_settle_r9)))))))) ++ wsX40 ++ wsX00 ++ wsX20 ++ wsX30 ++ wsX10 ++ (vx_atS RX4 102 "java/lang/IllegalArgumentException" ["java/lang/RuntimeException", "java/lang/Exception"]).filter goodWord)
def wsX4_turn : List Cond := .code yX4_turn cX4_turn 1 (some .int) :: ([.fieldLink RX4 103 "LayeredTable" "turnPlayer" "I"] ++ wsX40)
def wsX4_acting : List Cond := .code yX4_acting cX4_acting 1 (some .int) :: ([.fieldLink RX4 57 "LayeredTable" "actingPlayer" "I"] ++ wsX40)
def wsX4_rounds : List Cond := .code yX4_rounds cX4_rounds 1 (some .int) :: ([.fieldLink RX4 106 "LayeredTable" "roundCount" "I"] ++ wsX40)
def wsX4_loops : List Cond := .code yX4_loops cX4_loops 1 (some .int) :: ([.fieldLink RX4 109 "LayeredTable" "loopCount" "I"] ++ wsX40)
def wsX4_coins : List Cond := .code yX4_coins cX4_coins 2 (some .int) :: ([.classLink RX4 41 "java/lang/IndexOutOfBoundsException", .initialized "java/lang/IndexOutOfBoundsException", .fieldLink RX4 9 "LayeredTable" "purses" "[I"] ++ wsX40 ++ (vx_atS RX4 45 "java/lang/IndexOutOfBoundsException" ["java/lang/RuntimeException", "java/lang/Exception"]).filter goodWord)
def wsX4_things : List Cond := .code yX4_things cX4_things 1 (some .int) :: ([.fieldLink RX4 16 "LayeredTable" "table" "LLayeredTable$Things;", .fieldLink RX4 114 "LayeredTable$Things" "size" "I"] ++ wsX40 ++ wsX20)
def wsX4_cardOf : List Cond := .code yX4_cardOf cX4_cardOf 2 (some .int) :: ([.classLink RX4 41 "java/lang/IndexOutOfBoundsException", .initialized "java/lang/IndexOutOfBoundsException", .fieldLink RX4 16 "LayeredTable" "table" "LLayeredTable$Things;", .fieldLink RX4 121 "LayeredTable$Things" "cards" "[I", .methodLink RX4 115 yX2_has, .instanceMethod yX2_has, .selects RX2 yX2_has yX2_has, .initialized RX2, .code yX2_has cX2_has 2 (some .boolean), .fieldLink RX2 24 "LayeredTable$Things" "size" "I"] ++ wsX40 ++ wsX20 ++ (vx_atS RX4 45 "java/lang/IndexOutOfBoundsException" ["java/lang/RuntimeException", "java/lang/Exception"]).filter goodWord)
def wsX4_requireThingAndLayer : List Cond := .code yX4_requireThingAndLayer cX4_requireThingAndLayer 3 none :: ([.classLink RX4 41 "java/lang/IndexOutOfBoundsException", .initialized "java/lang/IndexOutOfBoundsException", .classLink RX4 98 "java/lang/IllegalArgumentException", .initialized "java/lang/IllegalArgumentException", .fieldLink RX4 16 "LayeredTable" "table" "LLayeredTable$Things;", .methodLink RX4 115 yX2_has, .instanceMethod yX2_has, .selects RX2 yX2_has yX2_has, .initialized RX2, .code yX2_has cX2_has 2 (some .boolean), .fieldLink RX2 24 "LayeredTable$Things" "size" "I"] ++ wsX40 ++ wsX20 ++ (vx_atS RX4 45 "java/lang/IndexOutOfBoundsException" ["java/lang/RuntimeException", "java/lang/Exception"]).filter goodWord ++ (vx_atS RX4 102 "java/lang/IllegalArgumentException" ["java/lang/RuntimeException", "java/lang/Exception"]).filter goodWord)
def wsX4_controllerOf_r1 : List Cond := [Cond.fieldLink RX4 30 "LayeredTable" "view" "LLayeredTable$View;", Cond.fieldLink RX4 16 "LayeredTable" "table" "LLayeredTable$Things;", Cond.fieldLink RX4 131 "LayeredTable$View" "controllers" "[I", Cond.methodLink RX4 124 yX4_requireThingAndLayer, Cond.instanceMethod yX4_requireThingAndLayer, Cond.selects RX4 yX4_requireThingAndLayer yX4_requireThingAndLayer, Cond.initialized RX4, Cond.code yX4_requireThingAndLayer cX4_requireThingAndLayer 3 none, Cond.classLink RX4 41 "java/lang/IndexOutOfBoundsException", Cond.initialized "java/lang/IndexOutOfBoundsException", Cond.classLink RX4 98 "java/lang/IllegalArgumentException", Cond.initialized "java/lang/IllegalArgumentException", Cond.methodLink RX4 115 yX2_has, Cond.instanceMethod yX2_has, Cond.selects RX2 yX2_has yX2_has, Cond.initialized RX2, Cond.code yX2_has cX2_has 2 (some .boolean), Cond.fieldLink RX2 24 "LayeredTable$Things" "size" "I", Cond.methodLink RX4 127 yX3_find, Cond.instanceMethod yX3_find, Cond.selects RX3 yX3_find yX3_find, Cond.initialized RX3, Cond.code yX3_find cX3_find 5 none, Cond.fieldLink RX3 27 "LayeredTable$Things" "size" "I"]
def wsX4_controllerOf_r2 : List Cond := [Cond.fieldLink RX3 33 "LayeredTable$Things" "cards" "[I", Cond.fieldLink RX3 9 "LayeredTable$View" "controllers" "[I", Cond.fieldLink RX3 36 "LayeredTable$Things" "players" "[I", Cond.fieldLink RX3 15 "LayeredTable$View" "kinds" "[I", Cond.fieldLink RX3 18 "LayeredTable$View" "strengths" "[I", Cond.methodLink RX3 39 yX3_goThrough, Cond.instanceMethod yX3_goThrough, Cond.selects RX3 yX3_goThrough yX3_goThrough, Cond.code yX3_goThrough cX3_goThrough 6 none, Cond.fieldLink RX3 21 "LayeredTable$View" "kindsBefore" "[I", Cond.fieldLink RX3 24 "LayeredTable$View" "strengthsBefore" "[I", Cond.static yX4_layerOf, Cond.code yX4_layerOf cX4_layerOf 1 (some .int), Cond.fieldLink RX4 162 "LayeredTable" "LAYER_OF" "[I", Cond.methodLink RX3 47 yX3_takes, Cond.instanceMethod yX3_takes, Cond.selects RX3 yX3_takes yX3_takes, Cond.code yX3_takes cX3_takes 5 (some .boolean), Cond.fieldLink RX3 55 "LayeredTable$Things" "ids" "[I", Cond.fieldLink RX3 58 "LayeredTable$Things" "targets" "[I", Cond.methodLink RX3 51 yX3_change, Cond.instanceMethod yX3_change, Cond.selects RX3 yX3_change yX3_change, Cond.code yX3_change cX3_change 4 none]
def wsX4_controllerOf : List Cond := .code yX4_controllerOf cX4_controllerOf 3 (some .int) :: ((wsX4_controllerOf_r1 ++ wsX4_controllerOf_r2) ++ wsX40 ++ wsX30 ++ wsX20 ++ (vx_atS RX4 45 "java/lang/IndexOutOfBoundsException" ["java/lang/RuntimeException", "java/lang/Exception"]).filter goodWord ++ (vx_atS RX4 102 "java/lang/IllegalArgumentException" ["java/lang/RuntimeException", "java/lang/Exception"]).filter goodWord)
def wsX4_kindsOf_r1 : List Cond := [Cond.fieldLink RX4 30 "LayeredTable" "view" "LLayeredTable$View;", Cond.fieldLink RX4 16 "LayeredTable" "table" "LLayeredTable$Things;", Cond.fieldLink RX4 134 "LayeredTable$View" "kinds" "[I", Cond.methodLink RX4 124 yX4_requireThingAndLayer, Cond.instanceMethod yX4_requireThingAndLayer, Cond.selects RX4 yX4_requireThingAndLayer yX4_requireThingAndLayer, Cond.initialized RX4, Cond.code yX4_requireThingAndLayer cX4_requireThingAndLayer 3 none, Cond.classLink RX4 41 "java/lang/IndexOutOfBoundsException", Cond.initialized "java/lang/IndexOutOfBoundsException", Cond.classLink RX4 98 "java/lang/IllegalArgumentException", Cond.initialized "java/lang/IllegalArgumentException", Cond.methodLink RX4 115 yX2_has, Cond.instanceMethod yX2_has, Cond.selects RX2 yX2_has yX2_has, Cond.initialized RX2, Cond.code yX2_has cX2_has 2 (some .boolean), Cond.fieldLink RX2 24 "LayeredTable$Things" "size" "I", Cond.methodLink RX4 127 yX3_find, Cond.instanceMethod yX3_find, Cond.selects RX3 yX3_find yX3_find, Cond.initialized RX3, Cond.code yX3_find cX3_find 5 none, Cond.fieldLink RX3 27 "LayeredTable$Things" "size" "I"]
def wsX4_kindsOf_r2 : List Cond := [Cond.fieldLink RX3 33 "LayeredTable$Things" "cards" "[I", Cond.fieldLink RX3 9 "LayeredTable$View" "controllers" "[I", Cond.fieldLink RX3 36 "LayeredTable$Things" "players" "[I", Cond.fieldLink RX3 15 "LayeredTable$View" "kinds" "[I", Cond.fieldLink RX3 18 "LayeredTable$View" "strengths" "[I", Cond.methodLink RX3 39 yX3_goThrough, Cond.instanceMethod yX3_goThrough, Cond.selects RX3 yX3_goThrough yX3_goThrough, Cond.code yX3_goThrough cX3_goThrough 6 none, Cond.fieldLink RX3 21 "LayeredTable$View" "kindsBefore" "[I", Cond.fieldLink RX3 24 "LayeredTable$View" "strengthsBefore" "[I", Cond.static yX4_layerOf, Cond.code yX4_layerOf cX4_layerOf 1 (some .int), Cond.fieldLink RX4 162 "LayeredTable" "LAYER_OF" "[I", Cond.methodLink RX3 47 yX3_takes, Cond.instanceMethod yX3_takes, Cond.selects RX3 yX3_takes yX3_takes, Cond.code yX3_takes cX3_takes 5 (some .boolean), Cond.fieldLink RX3 55 "LayeredTable$Things" "ids" "[I", Cond.fieldLink RX3 58 "LayeredTable$Things" "targets" "[I", Cond.methodLink RX3 51 yX3_change, Cond.instanceMethod yX3_change, Cond.selects RX3 yX3_change yX3_change, Cond.code yX3_change cX3_change 4 none]
def wsX4_kindsOf : List Cond := .code yX4_kindsOf cX4_kindsOf 3 (some .int) :: ((wsX4_kindsOf_r1 ++ wsX4_kindsOf_r2) ++ wsX40 ++ wsX30 ++ wsX20 ++ (vx_atS RX4 45 "java/lang/IndexOutOfBoundsException" ["java/lang/RuntimeException", "java/lang/Exception"]).filter goodWord ++ (vx_atS RX4 102 "java/lang/IllegalArgumentException" ["java/lang/RuntimeException", "java/lang/Exception"]).filter goodWord)
def wsX4_strengthOf_r1 : List Cond := [Cond.fieldLink RX4 30 "LayeredTable" "view" "LLayeredTable$View;", Cond.fieldLink RX4 16 "LayeredTable" "table" "LLayeredTable$Things;", Cond.fieldLink RX4 137 "LayeredTable$View" "strengths" "[I", Cond.methodLink RX4 124 yX4_requireThingAndLayer, Cond.instanceMethod yX4_requireThingAndLayer, Cond.selects RX4 yX4_requireThingAndLayer yX4_requireThingAndLayer, Cond.initialized RX4, Cond.code yX4_requireThingAndLayer cX4_requireThingAndLayer 3 none, Cond.classLink RX4 41 "java/lang/IndexOutOfBoundsException", Cond.initialized "java/lang/IndexOutOfBoundsException", Cond.classLink RX4 98 "java/lang/IllegalArgumentException", Cond.initialized "java/lang/IllegalArgumentException", Cond.methodLink RX4 115 yX2_has, Cond.instanceMethod yX2_has, Cond.selects RX2 yX2_has yX2_has, Cond.initialized RX2, Cond.code yX2_has cX2_has 2 (some .boolean), Cond.fieldLink RX2 24 "LayeredTable$Things" "size" "I", Cond.methodLink RX4 127 yX3_find, Cond.instanceMethod yX3_find, Cond.selects RX3 yX3_find yX3_find, Cond.initialized RX3, Cond.code yX3_find cX3_find 5 none, Cond.fieldLink RX3 27 "LayeredTable$Things" "size" "I"]
def wsX4_strengthOf_r2 : List Cond := [Cond.fieldLink RX3 33 "LayeredTable$Things" "cards" "[I", Cond.fieldLink RX3 9 "LayeredTable$View" "controllers" "[I", Cond.fieldLink RX3 36 "LayeredTable$Things" "players" "[I", Cond.fieldLink RX3 15 "LayeredTable$View" "kinds" "[I", Cond.fieldLink RX3 18 "LayeredTable$View" "strengths" "[I", Cond.methodLink RX3 39 yX3_goThrough, Cond.instanceMethod yX3_goThrough, Cond.selects RX3 yX3_goThrough yX3_goThrough, Cond.code yX3_goThrough cX3_goThrough 6 none, Cond.fieldLink RX3 21 "LayeredTable$View" "kindsBefore" "[I", Cond.fieldLink RX3 24 "LayeredTable$View" "strengthsBefore" "[I", Cond.static yX4_layerOf, Cond.code yX4_layerOf cX4_layerOf 1 (some .int), Cond.fieldLink RX4 162 "LayeredTable" "LAYER_OF" "[I", Cond.methodLink RX3 47 yX3_takes, Cond.instanceMethod yX3_takes, Cond.selects RX3 yX3_takes yX3_takes, Cond.code yX3_takes cX3_takes 5 (some .boolean), Cond.fieldLink RX3 55 "LayeredTable$Things" "ids" "[I", Cond.fieldLink RX3 58 "LayeredTable$Things" "targets" "[I", Cond.methodLink RX3 51 yX3_change, Cond.instanceMethod yX3_change, Cond.selects RX3 yX3_change yX3_change, Cond.code yX3_change cX3_change 4 none]
def wsX4_strengthOf : List Cond := .code yX4_strengthOf cX4_strengthOf 3 (some .int) :: ((wsX4_strengthOf_r1 ++ wsX4_strengthOf_r2) ++ wsX40 ++ wsX30 ++ wsX20 ++ (vx_atS RX4 45 "java/lang/IndexOutOfBoundsException" ["java/lang/RuntimeException", "java/lang/Exception"]).filter goodWord ++ (vx_atS RX4 102 "java/lang/IllegalArgumentException" ["java/lang/RuntimeException", "java/lang/Exception"]).filter goodWord)
def wsX4_power_r1 : List Cond := [Cond.classLink RX4 41 "java/lang/IndexOutOfBoundsException", Cond.initialized "java/lang/IndexOutOfBoundsException", Cond.fieldLink RX4 30 "LayeredTable" "view" "LLayeredTable$View;", Cond.fieldLink RX4 16 "LayeredTable" "table" "LLayeredTable$Things;", Cond.fieldLink RX4 114 "LayeredTable$Things" "size" "I", Cond.fieldLink RX4 131 "LayeredTable$View" "controllers" "[I", Cond.fieldLink RX4 134 "LayeredTable$View" "kinds" "[I", Cond.fieldLink RX4 137 "LayeredTable$View" "strengths" "[I", Cond.methodLink RX4 127 yX3_find, Cond.instanceMethod yX3_find, Cond.selects RX3 yX3_find yX3_find, Cond.initialized RX3, Cond.code yX3_find cX3_find 5 none, Cond.fieldLink RX3 27 "LayeredTable$Things" "size" "I", Cond.fieldLink RX3 33 "LayeredTable$Things" "cards" "[I", Cond.fieldLink RX3 9 "LayeredTable$View" "controllers" "[I", Cond.fieldLink RX3 36 "LayeredTable$Things" "players" "[I", Cond.fieldLink RX3 15 "LayeredTable$View" "kinds" "[I", Cond.fieldLink RX3 18 "LayeredTable$View" "strengths" "[I", Cond.methodLink RX3 39 yX3_goThrough, Cond.instanceMethod yX3_goThrough, Cond.selects RX3 yX3_goThrough yX3_goThrough, Cond.code yX3_goThrough cX3_goThrough 6 none, Cond.fieldLink RX3 21 "LayeredTable$View" "kindsBefore" "[I"]
def wsX4_power_r2 : List Cond := [Cond.fieldLink RX3 24 "LayeredTable$View" "strengthsBefore" "[I", Cond.static yX4_layerOf, Cond.initialized RX4, Cond.code yX4_layerOf cX4_layerOf 1 (some .int), Cond.fieldLink RX4 162 "LayeredTable" "LAYER_OF" "[I", Cond.methodLink RX3 47 yX3_takes, Cond.instanceMethod yX3_takes, Cond.selects RX3 yX3_takes yX3_takes, Cond.code yX3_takes cX3_takes 5 (some .boolean), Cond.fieldLink RX3 55 "LayeredTable$Things" "ids" "[I", Cond.fieldLink RX3 58 "LayeredTable$Things" "targets" "[I", Cond.methodLink RX3 51 yX3_change, Cond.instanceMethod yX3_change, Cond.selects RX3 yX3_change yX3_change, Cond.code yX3_change cX3_change 4 none]
def wsX4_power : List Cond := .code yX4_power cX4_power 4 (some .int) :: ((wsX4_power_r1 ++ wsX4_power_r2) ++ wsX40 ++ wsX20 ++ wsX30 ++ (vx_atS RX4 45 "java/lang/IndexOutOfBoundsException" ["java/lang/RuntimeException", "java/lang/Exception"]).filter goodWord)
def wsX4_stack : List Cond := .code yX4_stack cX4_stack 1 (some .int) :: ([.fieldLink RX4 23 "LayeredTable" "pile" "LLayeredTable$Entries;", .fieldLink RX4 89 "LayeredTable$Entries" "size" "I"] ++ wsX40 ++ wsX00)
def wsX4_entryCard : List Cond := .code yX4_entryCard cX4_entryCard 2 (some .int) :: ([.classLink RX4 41 "java/lang/IndexOutOfBoundsException", .initialized "java/lang/IndexOutOfBoundsException", .fieldLink RX4 23 "LayeredTable" "pile" "LLayeredTable$Entries;", .fieldLink RX4 143 "LayeredTable$Entries" "cards" "[I", .methodLink RX4 140 yX0_has, .instanceMethod yX0_has, .selects RX0 yX0_has yX0_has, .initialized RX0, .code yX0_has cX0_has 2 (some .boolean), .fieldLink RX0 28 "LayeredTable$Entries" "size" "I", .methodLink RX4 144 yX0_indexOf, .instanceMethod yX0_indexOf, .selects RX0 yX0_indexOf yX0_indexOf, .code yX0_indexOf cX0_indexOf 2 (some .int), .methodLink RX0 32 yX0_has] ++ wsX40 ++ wsX00 ++ (vx_atS RX4 45 "java/lang/IndexOutOfBoundsException" ["java/lang/RuntimeException", "java/lang/Exception"]).filter goodWord)
def wsX4_isTrigger : List Cond := .code yX4_isTrigger cX4_isTrigger 2 (some .boolean) :: ([.classLink RX4 41 "java/lang/IndexOutOfBoundsException", .initialized "java/lang/IndexOutOfBoundsException", .fieldLink RX4 23 "LayeredTable" "pile" "LLayeredTable$Entries;", .fieldLink RX4 147 "LayeredTable$Entries" "triggers" "[Z", .methodLink RX4 140 yX0_has, .instanceMethod yX0_has, .selects RX0 yX0_has yX0_has, .initialized RX0, .code yX0_has cX0_has 2 (some .boolean), .fieldLink RX0 28 "LayeredTable$Entries" "size" "I", .methodLink RX4 144 yX0_indexOf, .instanceMethod yX0_indexOf, .selects RX0 yX0_indexOf yX0_indexOf, .code yX0_indexOf cX0_indexOf 2 (some .int), .methodLink RX0 32 yX0_has] ++ wsX40 ++ wsX00 ++ (vx_atS RX4 45 "java/lang/IndexOutOfBoundsException" ["java/lang/RuntimeException", "java/lang/Exception"]).filter goodWord)
def wsX4_entryPlayer : List Cond := .code yX4_entryPlayer cX4_entryPlayer 2 (some .int) :: ([.classLink RX4 41 "java/lang/IndexOutOfBoundsException", .initialized "java/lang/IndexOutOfBoundsException", .fieldLink RX4 23 "LayeredTable" "pile" "LLayeredTable$Entries;", .fieldLink RX4 151 "LayeredTable$Entries" "players" "[I", .methodLink RX4 140 yX0_has, .instanceMethod yX0_has, .selects RX0 yX0_has yX0_has, .initialized RX0, .code yX0_has cX0_has 2 (some .boolean), .fieldLink RX0 28 "LayeredTable$Entries" "size" "I", .methodLink RX4 144 yX0_indexOf, .instanceMethod yX0_indexOf, .selects RX0 yX0_indexOf yX0_indexOf, .code yX0_indexOf cX0_indexOf 2 (some .int), .methodLink RX0 32 yX0_has] ++ wsX40 ++ wsX00 ++ (vx_atS RX4 45 "java/lang/IndexOutOfBoundsException" ["java/lang/RuntimeException", "java/lang/Exception"]).filter goodWord)
def wsX4_entryTarget_r1 : List Cond := [Cond.classLink RX4 41 "java/lang/IndexOutOfBoundsException", Cond.initialized "java/lang/IndexOutOfBoundsException", Cond.fieldLink RX4 23 "LayeredTable" "pile" "LLayeredTable$Entries;", Cond.methodLink RX4 140 yX0_has, Cond.instanceMethod yX0_has, Cond.selects RX0 yX0_has yX0_has, Cond.initialized RX0, Cond.code yX0_has cX0_has 2 (some .boolean), Cond.fieldLink RX0 28 "LayeredTable$Entries" "size" "I", Cond.methodLink RX4 144 yX0_indexOf, Cond.instanceMethod yX0_indexOf, Cond.selects RX0 yX0_indexOf yX0_indexOf, Cond.code yX0_indexOf cX0_indexOf 2 (some .int), Cond.methodLink RX0 32 yX0_has, Cond.methodLink RX4 154 yX4_targetPlace, Cond.instanceMethod yX4_targetPlace, Cond.selects RX4 yX4_targetPlace yX4_targetPlace, Cond.initialized RX4, Cond.code yX4_targetPlace cX4_targetPlace 3 (some .int), Cond.fieldLink RX4 89 "LayeredTable$Entries" "size" "I", Cond.fieldLink RX4 182 "LayeredTable$Entries" "targets" "[I", Cond.fieldLink RX4 143 "LayeredTable$Entries" "cards" "[I", Cond.fieldLink RX4 16 "LayeredTable" "table" "LLayeredTable$Things;", Cond.methodLink RX4 185 yX0_placeOf]
def wsX4_entryTarget_r2 : List Cond := [Cond.instanceMethod yX0_placeOf, Cond.selects RX0 yX0_placeOf yX0_placeOf, Cond.code yX0_placeOf cX0_placeOf 3 (some .int), Cond.fieldLink RX0 25 "LayeredTable$Entries" "ids" "[I", Cond.methodLink RX4 188 yX2_placeOf, Cond.instanceMethod yX2_placeOf, Cond.selects RX2 yX2_placeOf yX2_placeOf, Cond.initialized RX2, Cond.code yX2_placeOf cX2_placeOf 3 (some .int), Cond.fieldLink RX2 24 "LayeredTable$Things" "size" "I", Cond.fieldLink RX2 21 "LayeredTable$Things" "ids" "[I"]
def wsX4_entryTarget : List Cond := .code yX4_entryTarget cX4_entryTarget 2 (some .int) :: ((wsX4_entryTarget_r1 ++ wsX4_entryTarget_r2) ++ wsX40 ++ wsX00 ++ wsX20 ++ (vx_atS RX4 45 "java/lang/IndexOutOfBoundsException" ["java/lang/RuntimeException", "java/lang/Exception"]).filter goodWord)
def wsX5_init : List Cond := .code yX5_init cX5_init 2 none :: ([.methodLink RX5 1 objectInit, .instanceMethod objectInit, .code objectInit ⟨#[0xb1]⟩ 1 none, .arrayClass .int, .fieldLink RX5 7 "LayeredTableModel" "coins" "[I", .fieldLink RX5 13 "LayeredTableModel" "card" "[I", .fieldLink RX5 16 "LayeredTableModel" "owner" "[I", .fieldLink RX5 19 "LayeredTableModel" "name" "[I", .fieldLink RX5 22 "LayeredTableModel" "aim" "[I", .fieldLink RX5 25 "LayeredTableModel" "put" "[I", .arrayClass .boolean, .fieldLink RX5 28 "LayeredTableModel" "triggered" "[Z", .fieldLink RX5 32 "LayeredTableModel" "whose" "[I", .fieldLink RX5 35 "LayeredTableModel" "mark" "[I", .fieldLink RX5 38 "LayeredTableModel" "target" "[I", .fieldLink RX5 41 "LayeredTableModel" "controller" "[I", .fieldLink RX5 44 "LayeredTableModel" "kinds" "[I", .fieldLink RX5 47 "LayeredTableModel" "strength" "[I", .fieldLink RX5 50 "LayeredTableModel" "kindsThen" "[I", .fieldLink RX5 53 "LayeredTableModel" "strengthThen" "[I", .fieldLink RX5 56 "LayeredTableModel" "states" "[I", .fieldLink RX5 59 "LayeredTableModel" "state" "[I"] ++ wsX50)
def wsX5_thrown : List Cond := .code yX5_thrown cX5_thrown 1 (some .int) :: ([.fieldLink RX5 62 "LayeredTableModel" "thrown" "I"] ++ wsX50)
def wsX5_isIn : List Cond := .code yX5_isIn cX5_isIn 3 (some .boolean) :: ([])
def wsX5_cost : List Cond := .code yX5_cost cX5_cost 1 (some .int) :: ([])
def wsX5_thingOf : List Cond := .code yX5_thingOf cX5_thingOf 4 (some .int) :: ([.fieldLink RX5 66 "LayeredTableModel" "things" "I", .fieldLink RX5 19 "LayeredTableModel" "name" "[I"] ++ wsX50)
def wsX5_entryOf : List Cond := .code yX5_entryOf cX5_entryOf 4 (some .int) :: ([.fieldLink RX5 69 "LayeredTableModel" "height" "I", .fieldLink RX5 35 "LayeredTableModel" "mark" "[I"] ++ wsX50)
def wsX5_layer : List Cond := .code yX5_layer cX5_layer 7 none :: ([.fieldLink RX5 13 "LayeredTableModel" "card" "[I", .fieldLink RX5 22 "LayeredTableModel" "aim" "[I", .fieldLink RX5 41 "LayeredTableModel" "controller" "[I", .fieldLink RX5 16 "LayeredTableModel" "owner" "[I", .fieldLink RX5 66 "LayeredTableModel" "things" "I", .fieldLink RX5 50 "LayeredTableModel" "kindsThen" "[I", .fieldLink RX5 44 "LayeredTableModel" "kinds" "[I", .fieldLink RX5 47 "LayeredTableModel" "strength" "[I", .fieldLink RX5 53 "LayeredTableModel" "strengthThen" "[I", .methodLink RX5 72 yX5_thingOf, .instanceMethod yX5_thingOf, .selects RX5 yX5_thingOf yX5_thingOf, .initialized RX5, .code yX5_thingOf cX5_thingOf 4 (some .int), .fieldLink RX5 19 "LayeredTableModel" "name" "[I"] ++ wsX50)
def wsX5_lays : List Cond := .code yX5_lays cX5_lays 4 none :: ([.fieldLink RX5 66 "LayeredTableModel" "things" "I", .fieldLink RX5 41 "LayeredTableModel" "controller" "[I", .fieldLink RX5 16 "LayeredTableModel" "owner" "[I", .fieldLink RX5 44 "LayeredTableModel" "kinds" "[I", .fieldLink RX5 13 "LayeredTableModel" "card" "[I", .fieldLink RX5 47 "LayeredTableModel" "strength" "[I", .fieldLink RX5 50 "LayeredTableModel" "kindsThen" "[I", .fieldLink RX5 53 "LayeredTableModel" "strengthThen" "[I", .methodLink RX5 76 yX5_layer, .instanceMethod yX5_layer, .selects RX5 yX5_layer yX5_layer, .initialized RX5, .code yX5_layer cX5_layer 7 none, .fieldLink RX5 22 "LayeredTableModel" "aim" "[I", .methodLink RX5 72 yX5_thingOf, .instanceMethod yX5_thingOf, .selects RX5 yX5_thingOf yX5_thingOf, .code yX5_thingOf cX5_thingOf 4 (some .int), .fieldLink RX5 19 "LayeredTableModel" "name" "[I"] ++ wsX50)
def wsX5_triggers : List Cond := .code yX5_triggers cX5_triggers 3 none :: ([.fieldLink RX5 69 "LayeredTableModel" "height" "I", .fieldLink RX5 25 "LayeredTableModel" "put" "[I", .fieldLink RX5 28 "LayeredTableModel" "triggered" "[Z", .fieldLink RX5 32 "LayeredTableModel" "whose" "[I", .fieldLink RX5 80 "LayeredTableModel" "names" "I", .fieldLink RX5 35 "LayeredTableModel" "mark" "[I", .fieldLink RX5 38 "LayeredTableModel" "target" "[I"] ++ wsX50)
def wsX5_triggersOf_r1 : List Cond := [Cond.fieldLink RX5 87 "LayeredTableModel" "turn" "I", Cond.fieldLink RX5 66 "LayeredTableModel" "things" "I", Cond.fieldLink RX5 41 "LayeredTableModel" "controller" "[I", Cond.fieldLink RX5 13 "LayeredTableModel" "card" "[I", Cond.methodLink RX5 83 yX5_lays, Cond.instanceMethod yX5_lays, Cond.selects RX5 yX5_lays yX5_lays, Cond.initialized RX5, Cond.code yX5_lays cX5_lays 4 none, Cond.fieldLink RX5 16 "LayeredTableModel" "owner" "[I", Cond.fieldLink RX5 44 "LayeredTableModel" "kinds" "[I", Cond.fieldLink RX5 47 "LayeredTableModel" "strength" "[I", Cond.fieldLink RX5 50 "LayeredTableModel" "kindsThen" "[I", Cond.fieldLink RX5 53 "LayeredTableModel" "strengthThen" "[I", Cond.methodLink RX5 76 yX5_layer, Cond.instanceMethod yX5_layer, Cond.selects RX5 yX5_layer yX5_layer, Cond.code yX5_layer cX5_layer 7 none, Cond.fieldLink RX5 22 "LayeredTableModel" "aim" "[I", Cond.methodLink RX5 72 yX5_thingOf, Cond.instanceMethod yX5_thingOf, Cond.selects RX5 yX5_thingOf yX5_thingOf, Cond.code yX5_thingOf cX5_thingOf 4 (some .int), Cond.fieldLink RX5 19 "LayeredTableModel" "name" "[I"]
def wsX5_triggersOf_r2 : List Cond := [Cond.methodLink RX5 90 yX5_triggers, Cond.instanceMethod yX5_triggers, Cond.selects RX5 yX5_triggers yX5_triggers, Cond.code yX5_triggers cX5_triggers 3 none, Cond.fieldLink RX5 69 "LayeredTableModel" "height" "I", Cond.fieldLink RX5 25 "LayeredTableModel" "put" "[I", Cond.fieldLink RX5 28 "LayeredTableModel" "triggered" "[Z", Cond.fieldLink RX5 32 "LayeredTableModel" "whose" "[I", Cond.fieldLink RX5 80 "LayeredTableModel" "names" "I", Cond.fieldLink RX5 35 "LayeredTableModel" "mark" "[I", Cond.fieldLink RX5 38 "LayeredTableModel" "target" "[I"]
def wsX5_triggersOf : List Cond := .code yX5_triggersOf cX5_triggersOf 7 none :: ((wsX5_triggersOf_r1 ++ wsX5_triggersOf_r2) ++ wsX50)
def wsX5_enters_r1 : List Cond := [Cond.fieldLink RX5 66 "LayeredTableModel" "things" "I", Cond.fieldLink RX5 13 "LayeredTableModel" "card" "[I", Cond.fieldLink RX5 16 "LayeredTableModel" "owner" "[I", Cond.fieldLink RX5 80 "LayeredTableModel" "names" "I", Cond.fieldLink RX5 19 "LayeredTableModel" "name" "[I", Cond.fieldLink RX5 22 "LayeredTableModel" "aim" "[I", Cond.methodLink RX5 93 yX5_triggersOf, Cond.instanceMethod yX5_triggersOf, Cond.selects RX5 yX5_triggersOf yX5_triggersOf, Cond.initialized RX5, Cond.code yX5_triggersOf cX5_triggersOf 7 none, Cond.fieldLink RX5 87 "LayeredTableModel" "turn" "I", Cond.fieldLink RX5 41 "LayeredTableModel" "controller" "[I", Cond.methodLink RX5 83 yX5_lays, Cond.instanceMethod yX5_lays, Cond.selects RX5 yX5_lays yX5_lays, Cond.code yX5_lays cX5_lays 4 none, Cond.fieldLink RX5 44 "LayeredTableModel" "kinds" "[I", Cond.fieldLink RX5 47 "LayeredTableModel" "strength" "[I", Cond.fieldLink RX5 50 "LayeredTableModel" "kindsThen" "[I", Cond.fieldLink RX5 53 "LayeredTableModel" "strengthThen" "[I", Cond.methodLink RX5 76 yX5_layer, Cond.instanceMethod yX5_layer, Cond.selects RX5 yX5_layer yX5_layer]
def wsX5_enters_r2 : List Cond := [Cond.code yX5_layer cX5_layer 7 none, Cond.methodLink RX5 72 yX5_thingOf, Cond.instanceMethod yX5_thingOf, Cond.selects RX5 yX5_thingOf yX5_thingOf, Cond.code yX5_thingOf cX5_thingOf 4 (some .int), Cond.methodLink RX5 90 yX5_triggers, Cond.instanceMethod yX5_triggers, Cond.selects RX5 yX5_triggers yX5_triggers, Cond.code yX5_triggers cX5_triggers 3 none, Cond.fieldLink RX5 69 "LayeredTableModel" "height" "I", Cond.fieldLink RX5 25 "LayeredTableModel" "put" "[I", Cond.fieldLink RX5 28 "LayeredTableModel" "triggered" "[Z", Cond.fieldLink RX5 32 "LayeredTableModel" "whose" "[I", Cond.fieldLink RX5 35 "LayeredTableModel" "mark" "[I", Cond.fieldLink RX5 38 "LayeredTableModel" "target" "[I"]
def wsX5_enters : List Cond := .code yX5_enters cX5_enters 4 none :: ((wsX5_enters_r1 ++ wsX5_enters_r2) ++ wsX50)
def wsX5_leaves_r1 : List Cond := [Cond.fieldLink RX5 66 "LayeredTableModel" "things" "I", Cond.fieldLink RX5 13 "LayeredTableModel" "card" "[I", Cond.fieldLink RX5 16 "LayeredTableModel" "owner" "[I", Cond.fieldLink RX5 19 "LayeredTableModel" "name" "[I", Cond.fieldLink RX5 22 "LayeredTableModel" "aim" "[I", Cond.methodLink RX5 93 yX5_triggersOf, Cond.instanceMethod yX5_triggersOf, Cond.selects RX5 yX5_triggersOf yX5_triggersOf, Cond.initialized RX5, Cond.code yX5_triggersOf cX5_triggersOf 7 none, Cond.fieldLink RX5 87 "LayeredTableModel" "turn" "I", Cond.fieldLink RX5 41 "LayeredTableModel" "controller" "[I", Cond.methodLink RX5 83 yX5_lays, Cond.instanceMethod yX5_lays, Cond.selects RX5 yX5_lays yX5_lays, Cond.code yX5_lays cX5_lays 4 none, Cond.fieldLink RX5 44 "LayeredTableModel" "kinds" "[I", Cond.fieldLink RX5 47 "LayeredTableModel" "strength" "[I", Cond.fieldLink RX5 50 "LayeredTableModel" "kindsThen" "[I", Cond.fieldLink RX5 53 "LayeredTableModel" "strengthThen" "[I", Cond.methodLink RX5 76 yX5_layer, Cond.instanceMethod yX5_layer, Cond.selects RX5 yX5_layer yX5_layer, Cond.code yX5_layer cX5_layer 7 none]
def wsX5_leaves_r2 : List Cond := [Cond.methodLink RX5 72 yX5_thingOf, Cond.instanceMethod yX5_thingOf, Cond.selects RX5 yX5_thingOf yX5_thingOf, Cond.code yX5_thingOf cX5_thingOf 4 (some .int), Cond.methodLink RX5 90 yX5_triggers, Cond.instanceMethod yX5_triggers, Cond.selects RX5 yX5_triggers yX5_triggers, Cond.code yX5_triggers cX5_triggers 3 none, Cond.fieldLink RX5 69 "LayeredTableModel" "height" "I", Cond.fieldLink RX5 25 "LayeredTableModel" "put" "[I", Cond.fieldLink RX5 28 "LayeredTableModel" "triggered" "[Z", Cond.fieldLink RX5 32 "LayeredTableModel" "whose" "[I", Cond.fieldLink RX5 80 "LayeredTableModel" "names" "I", Cond.fieldLink RX5 35 "LayeredTableModel" "mark" "[I", Cond.fieldLink RX5 38 "LayeredTableModel" "target" "[I"]
def wsX5_leaves : List Cond := .code yX5_leaves cX5_leaves 3 none :: ((wsX5_leaves_r1 ++ wsX5_leaves_r2) ++ wsX50)
def wsX5_begins_r1 : List Cond := [Cond.fieldLink RX5 87 "LayeredTableModel" "turn" "I", Cond.fieldLink RX5 97 "LayeredTableModel" "acting" "I", Cond.fieldLink RX5 100 "LayeredTableModel" "rounds" "I", Cond.fieldLink RX5 7 "LayeredTableModel" "coins" "[I", Cond.fieldLink RX5 103 "LayeredTableModel" "known" "I", Cond.fieldLink RX5 66 "LayeredTableModel" "things" "I", Cond.fieldLink RX5 13 "LayeredTableModel" "card" "[I", Cond.fieldLink RX5 41 "LayeredTableModel" "controller" "[I", Cond.methodLink RX5 83 yX5_lays, Cond.instanceMethod yX5_lays, Cond.selects RX5 yX5_lays yX5_lays, Cond.initialized RX5, Cond.code yX5_lays cX5_lays 4 none, Cond.fieldLink RX5 16 "LayeredTableModel" "owner" "[I", Cond.fieldLink RX5 44 "LayeredTableModel" "kinds" "[I", Cond.fieldLink RX5 47 "LayeredTableModel" "strength" "[I", Cond.fieldLink RX5 50 "LayeredTableModel" "kindsThen" "[I", Cond.fieldLink RX5 53 "LayeredTableModel" "strengthThen" "[I", Cond.methodLink RX5 76 yX5_layer, Cond.instanceMethod yX5_layer, Cond.selects RX5 yX5_layer yX5_layer, Cond.code yX5_layer cX5_layer 7 none, Cond.fieldLink RX5 22 "LayeredTableModel" "aim" "[I", Cond.methodLink RX5 72 yX5_thingOf]
def wsX5_begins_r2 : List Cond := [Cond.instanceMethod yX5_thingOf, Cond.selects RX5 yX5_thingOf yX5_thingOf, Cond.code yX5_thingOf cX5_thingOf 4 (some .int), Cond.fieldLink RX5 19 "LayeredTableModel" "name" "[I", Cond.methodLink RX5 90 yX5_triggers, Cond.instanceMethod yX5_triggers, Cond.selects RX5 yX5_triggers yX5_triggers, Cond.code yX5_triggers cX5_triggers 3 none, Cond.fieldLink RX5 69 "LayeredTableModel" "height" "I", Cond.fieldLink RX5 25 "LayeredTableModel" "put" "[I", Cond.fieldLink RX5 28 "LayeredTableModel" "triggered" "[Z", Cond.fieldLink RX5 32 "LayeredTableModel" "whose" "[I", Cond.fieldLink RX5 80 "LayeredTableModel" "names" "I", Cond.fieldLink RX5 35 "LayeredTableModel" "mark" "[I", Cond.fieldLink RX5 38 "LayeredTableModel" "target" "[I"]
def wsX5_begins : List Cond := .code yX5_begins cX5_begins 2 none :: ((wsX5_begins_r1 ++ wsX5_begins_r2) ++ wsX50)
def wsX5_removes : List Cond := .code yX5_removes cX5_removes 3 none :: ([.fieldLink RX5 69 "LayeredTableModel" "height" "I", .fieldLink RX5 25 "LayeredTableModel" "put" "[I", .fieldLink RX5 28 "LayeredTableModel" "triggered" "[Z", .fieldLink RX5 32 "LayeredTableModel" "whose" "[I", .fieldLink RX5 35 "LayeredTableModel" "mark" "[I", .fieldLink RX5 38 "LayeredTableModel" "target" "[I"] ++ wsX50)
def wsX5_firstBeast : List Cond := .code yX5_firstBeast cX5_firstBeast 3 (some .int) :: ([.fieldLink RX5 66 "LayeredTableModel" "things" "I", .fieldLink RX5 13 "LayeredTableModel" "card" "[I"] ++ wsX50)
def wsX5_trigger_r1 : List Cond := [Cond.fieldLink RX5 7 "LayeredTableModel" "coins" "[I", Cond.methodLink RX5 106 yX5_enters, Cond.instanceMethod yX5_enters, Cond.selects RX5 yX5_enters yX5_enters, Cond.initialized RX5, Cond.code yX5_enters cX5_enters 4 none, Cond.fieldLink RX5 66 "LayeredTableModel" "things" "I", Cond.fieldLink RX5 13 "LayeredTableModel" "card" "[I", Cond.fieldLink RX5 16 "LayeredTableModel" "owner" "[I", Cond.fieldLink RX5 80 "LayeredTableModel" "names" "I", Cond.fieldLink RX5 19 "LayeredTableModel" "name" "[I", Cond.fieldLink RX5 22 "LayeredTableModel" "aim" "[I", Cond.methodLink RX5 93 yX5_triggersOf, Cond.instanceMethod yX5_triggersOf, Cond.selects RX5 yX5_triggersOf yX5_triggersOf, Cond.code yX5_triggersOf cX5_triggersOf 7 none, Cond.fieldLink RX5 87 "LayeredTableModel" "turn" "I", Cond.fieldLink RX5 41 "LayeredTableModel" "controller" "[I", Cond.methodLink RX5 83 yX5_lays, Cond.instanceMethod yX5_lays, Cond.selects RX5 yX5_lays yX5_lays, Cond.code yX5_lays cX5_lays 4 none, Cond.fieldLink RX5 44 "LayeredTableModel" "kinds" "[I", Cond.fieldLink RX5 47 "LayeredTableModel" "strength" "[I"]
def wsX5_trigger_r2 : List Cond := [Cond.fieldLink RX5 50 "LayeredTableModel" "kindsThen" "[I", Cond.fieldLink RX5 53 "LayeredTableModel" "strengthThen" "[I", Cond.methodLink RX5 76 yX5_layer, Cond.instanceMethod yX5_layer, Cond.selects RX5 yX5_layer yX5_layer, Cond.code yX5_layer cX5_layer 7 none, Cond.methodLink RX5 72 yX5_thingOf, Cond.instanceMethod yX5_thingOf, Cond.selects RX5 yX5_thingOf yX5_thingOf, Cond.code yX5_thingOf cX5_thingOf 4 (some .int), Cond.methodLink RX5 90 yX5_triggers, Cond.instanceMethod yX5_triggers, Cond.selects RX5 yX5_triggers yX5_triggers, Cond.code yX5_triggers cX5_triggers 3 none, Cond.fieldLink RX5 69 "LayeredTableModel" "height" "I", Cond.fieldLink RX5 25 "LayeredTableModel" "put" "[I", Cond.fieldLink RX5 28 "LayeredTableModel" "triggered" "[Z", Cond.fieldLink RX5 32 "LayeredTableModel" "whose" "[I", Cond.fieldLink RX5 35 "LayeredTableModel" "mark" "[I", Cond.fieldLink RX5 38 "LayeredTableModel" "target" "[I", Cond.methodLink RX5 109 yX5_firstBeast, Cond.instanceMethod yX5_firstBeast, Cond.selects RX5 yX5_firstBeast yX5_firstBeast, Cond.code yX5_firstBeast cX5_firstBeast 3 (some .int)]
def wsX5_trigger_r3 : List Cond := [Cond.methodLink RX5 113 yX5_leaves, Cond.instanceMethod yX5_leaves, Cond.selects RX5 yX5_leaves yX5_leaves, Cond.code yX5_leaves cX5_leaves 3 none]
def wsX5_trigger : List Cond := .code yX5_trigger cX5_trigger 3 none :: ((wsX5_trigger_r1 ++ (wsX5_trigger_r2 ++ wsX5_trigger_r3)) ++ wsX50)
def wsX5_strikes_r1 : List Cond := [Cond.fieldLink RX5 47 "LayeredTableModel" "strength" "[I", Cond.methodLink RX5 72 yX5_thingOf, Cond.instanceMethod yX5_thingOf, Cond.selects RX5 yX5_thingOf yX5_thingOf, Cond.initialized RX5, Cond.code yX5_thingOf cX5_thingOf 4 (some .int), Cond.fieldLink RX5 66 "LayeredTableModel" "things" "I", Cond.fieldLink RX5 19 "LayeredTableModel" "name" "[I", Cond.methodLink RX5 83 yX5_lays, Cond.instanceMethod yX5_lays, Cond.selects RX5 yX5_lays yX5_lays, Cond.code yX5_lays cX5_lays 4 none, Cond.fieldLink RX5 41 "LayeredTableModel" "controller" "[I", Cond.fieldLink RX5 16 "LayeredTableModel" "owner" "[I", Cond.fieldLink RX5 44 "LayeredTableModel" "kinds" "[I", Cond.fieldLink RX5 13 "LayeredTableModel" "card" "[I", Cond.fieldLink RX5 50 "LayeredTableModel" "kindsThen" "[I", Cond.fieldLink RX5 53 "LayeredTableModel" "strengthThen" "[I", Cond.methodLink RX5 76 yX5_layer, Cond.instanceMethod yX5_layer, Cond.selects RX5 yX5_layer yX5_layer, Cond.code yX5_layer cX5_layer 7 none, Cond.fieldLink RX5 22 "LayeredTableModel" "aim" "[I", Cond.methodLink RX5 113 yX5_leaves]
def wsX5_strikes_r2 : List Cond := [Cond.instanceMethod yX5_leaves, Cond.selects RX5 yX5_leaves yX5_leaves, Cond.code yX5_leaves cX5_leaves 3 none, Cond.methodLink RX5 93 yX5_triggersOf, Cond.instanceMethod yX5_triggersOf, Cond.selects RX5 yX5_triggersOf yX5_triggersOf, Cond.code yX5_triggersOf cX5_triggersOf 7 none, Cond.fieldLink RX5 87 "LayeredTableModel" "turn" "I", Cond.methodLink RX5 90 yX5_triggers, Cond.instanceMethod yX5_triggers, Cond.selects RX5 yX5_triggers yX5_triggers, Cond.code yX5_triggers cX5_triggers 3 none, Cond.fieldLink RX5 69 "LayeredTableModel" "height" "I", Cond.fieldLink RX5 25 "LayeredTableModel" "put" "[I", Cond.fieldLink RX5 28 "LayeredTableModel" "triggered" "[Z", Cond.fieldLink RX5 32 "LayeredTableModel" "whose" "[I", Cond.fieldLink RX5 80 "LayeredTableModel" "names" "I", Cond.fieldLink RX5 35 "LayeredTableModel" "mark" "[I", Cond.fieldLink RX5 38 "LayeredTableModel" "target" "[I"]
def wsX5_strikes : List Cond := .code yX5_strikes cX5_strikes 3 none :: ((wsX5_strikes_r1 ++ wsX5_strikes_r2) ++ wsX50)
def wsX5_targetOf : List Cond := .code yX5_targetOf cX5_targetOf 3 (some .int) :: ([.fieldLink RX5 25 "LayeredTableModel" "put" "[I", .fieldLink RX5 28 "LayeredTableModel" "triggered" "[Z", .fieldLink RX5 38 "LayeredTableModel" "target" "[I", .methodLink RX5 72 yX5_thingOf, .instanceMethod yX5_thingOf, .selects RX5 yX5_thingOf yX5_thingOf, .initialized RX5, .code yX5_thingOf cX5_thingOf 4 (some .int), .fieldLink RX5 66 "LayeredTableModel" "things" "I", .fieldLink RX5 19 "LayeredTableModel" "name" "[I", .methodLink RX5 116 yX5_entryOf, .instanceMethod yX5_entryOf, .selects RX5 yX5_entryOf yX5_entryOf, .code yX5_entryOf cX5_entryOf 4 (some .int), .fieldLink RX5 69 "LayeredTableModel" "height" "I", .fieldLink RX5 35 "LayeredTableModel" "mark" "[I"] ++ wsX50)
def wsX5_laysState_r1 : List Cond := [Cond.fieldLink RX5 59 "LayeredTableModel" "state" "[I", Cond.fieldLink RX5 66 "LayeredTableModel" "things" "I", Cond.fieldLink RX5 69 "LayeredTableModel" "height" "I", Cond.fieldLink RX5 13 "LayeredTableModel" "card" "[I", Cond.fieldLink RX5 22 "LayeredTableModel" "aim" "[I", Cond.fieldLink RX5 16 "LayeredTableModel" "owner" "[I", Cond.fieldLink RX5 25 "LayeredTableModel" "put" "[I", Cond.fieldLink RX5 28 "LayeredTableModel" "triggered" "[Z", Cond.fieldLink RX5 32 "LayeredTableModel" "whose" "[I", Cond.methodLink RX5 72 yX5_thingOf, Cond.instanceMethod yX5_thingOf, Cond.selects RX5 yX5_thingOf yX5_thingOf, Cond.initialized RX5, Cond.code yX5_thingOf cX5_thingOf 4 (some .int), Cond.fieldLink RX5 19 "LayeredTableModel" "name" "[I", Cond.methodLink RX5 119 yX5_targetOf, Cond.instanceMethod yX5_targetOf, Cond.selects RX5 yX5_targetOf yX5_targetOf, Cond.code yX5_targetOf cX5_targetOf 3 (some .int), Cond.fieldLink RX5 38 "LayeredTableModel" "target" "[I", Cond.methodLink RX5 116 yX5_entryOf, Cond.instanceMethod yX5_entryOf, Cond.selects RX5 yX5_entryOf yX5_entryOf, Cond.code yX5_entryOf cX5_entryOf 4 (some .int)]
def wsX5_laysState_r2 : List Cond := [Cond.fieldLink RX5 35 "LayeredTableModel" "mark" "[I"]
def wsX5_laysState : List Cond := .code yX5_laysState cX5_laysState 3 none :: ((wsX5_laysState_r1 ++ wsX5_laysState_r2) ++ wsX50)
def wsX5_remembers_r1 : List Cond := [Cond.fieldLink RX5 103 "LayeredTableModel" "known" "I", Cond.fieldLink RX5 56 "LayeredTableModel" "states" "[I", Cond.fieldLink RX5 59 "LayeredTableModel" "state" "[I", Cond.fieldLink RX5 125 "LayeredTableModel" "loops" "I", Cond.fieldLink RX5 69 "LayeredTableModel" "height" "I", Cond.methodLink RX5 122 yX5_laysState, Cond.instanceMethod yX5_laysState, Cond.selects RX5 yX5_laysState yX5_laysState, Cond.initialized RX5, Cond.code yX5_laysState cX5_laysState 3 none, Cond.fieldLink RX5 66 "LayeredTableModel" "things" "I", Cond.fieldLink RX5 13 "LayeredTableModel" "card" "[I", Cond.fieldLink RX5 22 "LayeredTableModel" "aim" "[I", Cond.fieldLink RX5 16 "LayeredTableModel" "owner" "[I", Cond.fieldLink RX5 25 "LayeredTableModel" "put" "[I", Cond.fieldLink RX5 28 "LayeredTableModel" "triggered" "[Z", Cond.fieldLink RX5 32 "LayeredTableModel" "whose" "[I", Cond.methodLink RX5 72 yX5_thingOf, Cond.instanceMethod yX5_thingOf, Cond.selects RX5 yX5_thingOf yX5_thingOf, Cond.code yX5_thingOf cX5_thingOf 4 (some .int), Cond.fieldLink RX5 19 "LayeredTableModel" "name" "[I", Cond.methodLink RX5 119 yX5_targetOf, Cond.instanceMethod yX5_targetOf]
def wsX5_remembers_r2 : List Cond := [Cond.selects RX5 yX5_targetOf yX5_targetOf, Cond.code yX5_targetOf cX5_targetOf 3 (some .int), Cond.fieldLink RX5 38 "LayeredTableModel" "target" "[I", Cond.methodLink RX5 116 yX5_entryOf, Cond.instanceMethod yX5_entryOf, Cond.selects RX5 yX5_entryOf yX5_entryOf, Cond.code yX5_entryOf cX5_entryOf 4 (some .int), Cond.fieldLink RX5 35 "LayeredTableModel" "mark" "[I"]
def wsX5_remembers : List Cond := .code yX5_remembers cX5_remembers 5 none :: ((wsX5_remembers_r1 ++ wsX5_remembers_r2) ++ wsX50)
def wsX5_resolves_r1 : List Cond := [Cond.fieldLink RX5 69 "LayeredTableModel" "height" "I", Cond.fieldLink RX5 25 "LayeredTableModel" "put" "[I", Cond.fieldLink RX5 32 "LayeredTableModel" "whose" "[I", Cond.fieldLink RX5 38 "LayeredTableModel" "target" "[I", Cond.fieldLink RX5 28 "LayeredTableModel" "triggered" "[Z", Cond.fieldLink RX5 87 "LayeredTableModel" "turn" "I", Cond.fieldLink RX5 97 "LayeredTableModel" "acting" "I", Cond.fieldLink RX5 140 "LayeredTableModel" "passes" "I", Cond.methodLink RX5 128 yX5_trigger, Cond.instanceMethod yX5_trigger, Cond.selects RX5 yX5_trigger yX5_trigger, Cond.initialized RX5, Cond.code yX5_trigger cX5_trigger 3 none, Cond.fieldLink RX5 7 "LayeredTableModel" "coins" "[I", Cond.methodLink RX5 106 yX5_enters, Cond.instanceMethod yX5_enters, Cond.selects RX5 yX5_enters yX5_enters, Cond.code yX5_enters cX5_enters 4 none, Cond.fieldLink RX5 66 "LayeredTableModel" "things" "I", Cond.fieldLink RX5 13 "LayeredTableModel" "card" "[I", Cond.fieldLink RX5 16 "LayeredTableModel" "owner" "[I", Cond.fieldLink RX5 80 "LayeredTableModel" "names" "I", Cond.fieldLink RX5 19 "LayeredTableModel" "name" "[I", Cond.fieldLink RX5 22 "LayeredTableModel" "aim" "[I"]
def wsX5_resolves_r2 : List Cond := [Cond.methodLink RX5 93 yX5_triggersOf, Cond.instanceMethod yX5_triggersOf, Cond.selects RX5 yX5_triggersOf yX5_triggersOf, Cond.code yX5_triggersOf cX5_triggersOf 7 none, Cond.fieldLink RX5 41 "LayeredTableModel" "controller" "[I", Cond.methodLink RX5 83 yX5_lays, Cond.instanceMethod yX5_lays, Cond.selects RX5 yX5_lays yX5_lays, Cond.code yX5_lays cX5_lays 4 none, Cond.fieldLink RX5 44 "LayeredTableModel" "kinds" "[I", Cond.fieldLink RX5 47 "LayeredTableModel" "strength" "[I", Cond.fieldLink RX5 50 "LayeredTableModel" "kindsThen" "[I", Cond.fieldLink RX5 53 "LayeredTableModel" "strengthThen" "[I", Cond.methodLink RX5 76 yX5_layer, Cond.instanceMethod yX5_layer, Cond.selects RX5 yX5_layer yX5_layer, Cond.code yX5_layer cX5_layer 7 none, Cond.methodLink RX5 72 yX5_thingOf, Cond.instanceMethod yX5_thingOf, Cond.selects RX5 yX5_thingOf yX5_thingOf, Cond.code yX5_thingOf cX5_thingOf 4 (some .int), Cond.methodLink RX5 90 yX5_triggers, Cond.instanceMethod yX5_triggers, Cond.selects RX5 yX5_triggers yX5_triggers]
def wsX5_resolves_r3 : List Cond := [Cond.code yX5_triggers cX5_triggers 3 none, Cond.fieldLink RX5 35 "LayeredTableModel" "mark" "[I", Cond.methodLink RX5 109 yX5_firstBeast, Cond.instanceMethod yX5_firstBeast, Cond.selects RX5 yX5_firstBeast yX5_firstBeast, Cond.code yX5_firstBeast cX5_firstBeast 3 (some .int), Cond.methodLink RX5 113 yX5_leaves, Cond.instanceMethod yX5_leaves, Cond.selects RX5 yX5_leaves yX5_leaves, Cond.code yX5_leaves cX5_leaves 3 none, Cond.methodLink RX5 131 yX5_strikes, Cond.instanceMethod yX5_strikes, Cond.selects RX5 yX5_strikes yX5_strikes, Cond.code yX5_strikes cX5_strikes 3 none, Cond.methodLink RX5 116 yX5_entryOf, Cond.instanceMethod yX5_entryOf, Cond.selects RX5 yX5_entryOf yX5_entryOf, Cond.code yX5_entryOf cX5_entryOf 4 (some .int), Cond.methodLink RX5 134 yX5_removes, Cond.instanceMethod yX5_removes, Cond.selects RX5 yX5_removes yX5_removes, Cond.code yX5_removes cX5_removes 3 none, Cond.methodLink RX5 137 yX5_remembers, Cond.instanceMethod yX5_remembers]
def wsX5_resolves_r4 : List Cond := [Cond.selects RX5 yX5_remembers yX5_remembers, Cond.code yX5_remembers cX5_remembers 5 none, Cond.fieldLink RX5 103 "LayeredTableModel" "known" "I", Cond.fieldLink RX5 56 "LayeredTableModel" "states" "[I", Cond.fieldLink RX5 59 "LayeredTableModel" "state" "[I", Cond.fieldLink RX5 125 "LayeredTableModel" "loops" "I", Cond.methodLink RX5 122 yX5_laysState, Cond.instanceMethod yX5_laysState, Cond.selects RX5 yX5_laysState yX5_laysState, Cond.code yX5_laysState cX5_laysState 3 none, Cond.methodLink RX5 119 yX5_targetOf, Cond.instanceMethod yX5_targetOf, Cond.selects RX5 yX5_targetOf yX5_targetOf, Cond.code yX5_targetOf cX5_targetOf 3 (some .int)]
def wsX5_resolves : List Cond := .code yX5_resolves cX5_resolves 4 none :: ((wsX5_resolves_r1 ++ (wsX5_resolves_r2 ++ (wsX5_resolves_r3 ++ wsX5_resolves_r4))) ++ wsX50)
def wsX5_obstacleOf : List Cond := .code yX5_obstacleOf cX5_obstacleOf 5 (some .int) :: ([.fieldLink RX5 69 "LayeredTableModel" "height" "I", .fieldLink RX5 97 "LayeredTableModel" "acting" "I", .fieldLink RX5 87 "LayeredTableModel" "turn" "I", .fieldLink RX5 7 "LayeredTableModel" "coins" "[I", .fieldLink RX5 66 "LayeredTableModel" "things" "I", .fieldLink RX5 28 "LayeredTableModel" "triggered" "[Z", .methodLink RX5 143 yX5_cost, .static yX5_cost, .initialized RX5, .code yX5_cost cX5_cost 1 (some .int), .methodLink RX5 146 yX5_isIn, .static yX5_isIn, .code yX5_isIn cX5_isIn 3 (some .boolean)] ++ wsX50)
def wsX5_play_r1 : List Cond := [Cond.fieldLink RX5 62 "LayeredTableModel" "thrown" "I", Cond.fieldLink RX5 7 "LayeredTableModel" "coins" "[I", Cond.fieldLink RX5 97 "LayeredTableModel" "acting" "I", Cond.fieldLink RX5 25 "LayeredTableModel" "put" "[I", Cond.fieldLink RX5 69 "LayeredTableModel" "height" "I", Cond.fieldLink RX5 28 "LayeredTableModel" "triggered" "[Z", Cond.fieldLink RX5 32 "LayeredTableModel" "whose" "[I", Cond.fieldLink RX5 80 "LayeredTableModel" "names" "I", Cond.fieldLink RX5 35 "LayeredTableModel" "mark" "[I", Cond.fieldLink RX5 38 "LayeredTableModel" "target" "[I", Cond.fieldLink RX5 19 "LayeredTableModel" "name" "[I", Cond.fieldLink RX5 140 "LayeredTableModel" "passes" "I", Cond.fieldLink RX5 103 "LayeredTableModel" "known" "I", Cond.methodLink RX5 146 yX5_isIn, Cond.static yX5_isIn, Cond.initialized RX5, Cond.code yX5_isIn cX5_isIn 3 (some .boolean), Cond.methodLink RX5 150 yX5_obstacleOf, Cond.instanceMethod yX5_obstacleOf, Cond.selects RX5 yX5_obstacleOf yX5_obstacleOf, Cond.code yX5_obstacleOf cX5_obstacleOf 5 (some .int), Cond.fieldLink RX5 87 "LayeredTableModel" "turn" "I", Cond.fieldLink RX5 66 "LayeredTableModel" "things" "I", Cond.methodLink RX5 143 yX5_cost]
def wsX5_play_r2 : List Cond := [Cond.static yX5_cost, Cond.code yX5_cost cX5_cost 1 (some .int)]
def wsX5_play : List Cond := .code yX5_play cX5_play 3 (some .int) :: ((wsX5_play_r1 ++ wsX5_play_r2) ++ wsX50)
def wsX5_obstacle : List Cond := .code yX5_obstacle cX5_obstacle 3 (some .int) :: ([.fieldLink RX5 62 "LayeredTableModel" "thrown" "I", .methodLink RX5 146 yX5_isIn, .static yX5_isIn, .initialized RX5, .code yX5_isIn cX5_isIn 3 (some .boolean), .methodLink RX5 150 yX5_obstacleOf, .instanceMethod yX5_obstacleOf, .selects RX5 yX5_obstacleOf yX5_obstacleOf, .code yX5_obstacleOf cX5_obstacleOf 5 (some .int), .fieldLink RX5 69 "LayeredTableModel" "height" "I", .fieldLink RX5 97 "LayeredTableModel" "acting" "I", .fieldLink RX5 87 "LayeredTableModel" "turn" "I", .fieldLink RX5 7 "LayeredTableModel" "coins" "[I", .fieldLink RX5 66 "LayeredTableModel" "things" "I", .fieldLink RX5 28 "LayeredTableModel" "triggered" "[Z", .methodLink RX5 143 yX5_cost, .static yX5_cost, .code yX5_cost cX5_cost 1 (some .int)] ++ wsX50)
def wsX5_pass_r1 : List Cond := [Cond.fieldLink RX5 62 "LayeredTableModel" "thrown" "I", Cond.fieldLink RX5 140 "LayeredTableModel" "passes" "I", Cond.fieldLink RX5 97 "LayeredTableModel" "acting" "I", Cond.fieldLink RX5 69 "LayeredTableModel" "height" "I", Cond.methodLink RX5 154 yX5_resolves, Cond.instanceMethod yX5_resolves, Cond.selects RX5 yX5_resolves yX5_resolves, Cond.initialized RX5, Cond.code yX5_resolves cX5_resolves 4 none, Cond.fieldLink RX5 25 "LayeredTableModel" "put" "[I", Cond.fieldLink RX5 32 "LayeredTableModel" "whose" "[I", Cond.fieldLink RX5 38 "LayeredTableModel" "target" "[I", Cond.fieldLink RX5 28 "LayeredTableModel" "triggered" "[Z", Cond.fieldLink RX5 87 "LayeredTableModel" "turn" "I", Cond.methodLink RX5 128 yX5_trigger, Cond.instanceMethod yX5_trigger, Cond.selects RX5 yX5_trigger yX5_trigger, Cond.code yX5_trigger cX5_trigger 3 none, Cond.fieldLink RX5 7 "LayeredTableModel" "coins" "[I", Cond.methodLink RX5 106 yX5_enters, Cond.instanceMethod yX5_enters, Cond.selects RX5 yX5_enters yX5_enters, Cond.code yX5_enters cX5_enters 4 none, Cond.fieldLink RX5 66 "LayeredTableModel" "things" "I"]
def wsX5_pass_r2 : List Cond := [Cond.fieldLink RX5 13 "LayeredTableModel" "card" "[I", Cond.fieldLink RX5 16 "LayeredTableModel" "owner" "[I", Cond.fieldLink RX5 80 "LayeredTableModel" "names" "I", Cond.fieldLink RX5 19 "LayeredTableModel" "name" "[I", Cond.fieldLink RX5 22 "LayeredTableModel" "aim" "[I", Cond.methodLink RX5 93 yX5_triggersOf, Cond.instanceMethod yX5_triggersOf, Cond.selects RX5 yX5_triggersOf yX5_triggersOf, Cond.code yX5_triggersOf cX5_triggersOf 7 none, Cond.fieldLink RX5 41 "LayeredTableModel" "controller" "[I", Cond.methodLink RX5 83 yX5_lays, Cond.instanceMethod yX5_lays, Cond.selects RX5 yX5_lays yX5_lays, Cond.code yX5_lays cX5_lays 4 none, Cond.fieldLink RX5 44 "LayeredTableModel" "kinds" "[I", Cond.fieldLink RX5 47 "LayeredTableModel" "strength" "[I", Cond.fieldLink RX5 50 "LayeredTableModel" "kindsThen" "[I", Cond.fieldLink RX5 53 "LayeredTableModel" "strengthThen" "[I", Cond.methodLink RX5 76 yX5_layer, Cond.instanceMethod yX5_layer, Cond.selects RX5 yX5_layer yX5_layer, Cond.code yX5_layer cX5_layer 7 none, Cond.methodLink RX5 72 yX5_thingOf, Cond.instanceMethod yX5_thingOf]
def wsX5_pass_r3 : List Cond := [Cond.selects RX5 yX5_thingOf yX5_thingOf, Cond.code yX5_thingOf cX5_thingOf 4 (some .int), Cond.methodLink RX5 90 yX5_triggers, Cond.instanceMethod yX5_triggers, Cond.selects RX5 yX5_triggers yX5_triggers, Cond.code yX5_triggers cX5_triggers 3 none, Cond.fieldLink RX5 35 "LayeredTableModel" "mark" "[I", Cond.methodLink RX5 109 yX5_firstBeast, Cond.instanceMethod yX5_firstBeast, Cond.selects RX5 yX5_firstBeast yX5_firstBeast, Cond.code yX5_firstBeast cX5_firstBeast 3 (some .int), Cond.methodLink RX5 113 yX5_leaves, Cond.instanceMethod yX5_leaves, Cond.selects RX5 yX5_leaves yX5_leaves, Cond.code yX5_leaves cX5_leaves 3 none, Cond.methodLink RX5 131 yX5_strikes, Cond.instanceMethod yX5_strikes, Cond.selects RX5 yX5_strikes yX5_strikes, Cond.code yX5_strikes cX5_strikes 3 none, Cond.methodLink RX5 116 yX5_entryOf, Cond.instanceMethod yX5_entryOf, Cond.selects RX5 yX5_entryOf yX5_entryOf, Cond.code yX5_entryOf cX5_entryOf 4 (some .int), Cond.methodLink RX5 134 yX5_removes]
def wsX5_pass_r4 : List Cond := [Cond.instanceMethod yX5_removes, Cond.selects RX5 yX5_removes yX5_removes, Cond.code yX5_removes cX5_removes 3 none, Cond.methodLink RX5 137 yX5_remembers, Cond.instanceMethod yX5_remembers, Cond.selects RX5 yX5_remembers yX5_remembers, Cond.code yX5_remembers cX5_remembers 5 none, Cond.fieldLink RX5 103 "LayeredTableModel" "known" "I", Cond.fieldLink RX5 56 "LayeredTableModel" "states" "[I", Cond.fieldLink RX5 59 "LayeredTableModel" "state" "[I", Cond.fieldLink RX5 125 "LayeredTableModel" "loops" "I", Cond.methodLink RX5 122 yX5_laysState, Cond.instanceMethod yX5_laysState, Cond.selects RX5 yX5_laysState yX5_laysState, Cond.code yX5_laysState cX5_laysState 3 none, Cond.methodLink RX5 119 yX5_targetOf, Cond.instanceMethod yX5_targetOf, Cond.selects RX5 yX5_targetOf yX5_targetOf, Cond.code yX5_targetOf cX5_targetOf 3 (some .int), Cond.methodLink RX5 157 yX5_begins, Cond.instanceMethod yX5_begins, Cond.selects RX5 yX5_begins yX5_begins, Cond.code yX5_begins cX5_begins 2 none, Cond.fieldLink RX5 100 "LayeredTableModel" "rounds" "I"]
def wsX5_pass : List Cond := .code yX5_pass cX5_pass 1 (some .int) :: ((wsX5_pass_r1 ++ (wsX5_pass_r2 ++ (wsX5_pass_r3 ++ wsX5_pass_r4))) ++ wsX50)
def wsX5_settle_r1 : List Cond := [Cond.fieldLink RX5 62 "LayeredTableModel" "thrown" "I", Cond.fieldLink RX5 69 "LayeredTableModel" "height" "I", Cond.methodLink RX5 146 yX5_isIn, Cond.static yX5_isIn, Cond.initialized RX5, Cond.code yX5_isIn cX5_isIn 3 (some .boolean), Cond.methodLink RX5 154 yX5_resolves, Cond.instanceMethod yX5_resolves, Cond.selects RX5 yX5_resolves yX5_resolves, Cond.code yX5_resolves cX5_resolves 4 none, Cond.fieldLink RX5 25 "LayeredTableModel" "put" "[I", Cond.fieldLink RX5 32 "LayeredTableModel" "whose" "[I", Cond.fieldLink RX5 38 "LayeredTableModel" "target" "[I", Cond.fieldLink RX5 28 "LayeredTableModel" "triggered" "[Z", Cond.fieldLink RX5 87 "LayeredTableModel" "turn" "I", Cond.fieldLink RX5 97 "LayeredTableModel" "acting" "I", Cond.fieldLink RX5 140 "LayeredTableModel" "passes" "I", Cond.methodLink RX5 128 yX5_trigger, Cond.instanceMethod yX5_trigger, Cond.selects RX5 yX5_trigger yX5_trigger, Cond.code yX5_trigger cX5_trigger 3 none, Cond.fieldLink RX5 7 "LayeredTableModel" "coins" "[I", Cond.methodLink RX5 106 yX5_enters, Cond.instanceMethod yX5_enters]
def wsX5_settle_r2 : List Cond := [Cond.selects RX5 yX5_enters yX5_enters, Cond.code yX5_enters cX5_enters 4 none, Cond.fieldLink RX5 66 "LayeredTableModel" "things" "I", Cond.fieldLink RX5 13 "LayeredTableModel" "card" "[I", Cond.fieldLink RX5 16 "LayeredTableModel" "owner" "[I", Cond.fieldLink RX5 80 "LayeredTableModel" "names" "I", Cond.fieldLink RX5 19 "LayeredTableModel" "name" "[I", Cond.fieldLink RX5 22 "LayeredTableModel" "aim" "[I", Cond.methodLink RX5 93 yX5_triggersOf, Cond.instanceMethod yX5_triggersOf, Cond.selects RX5 yX5_triggersOf yX5_triggersOf, Cond.code yX5_triggersOf cX5_triggersOf 7 none, Cond.fieldLink RX5 41 "LayeredTableModel" "controller" "[I", Cond.methodLink RX5 83 yX5_lays, Cond.instanceMethod yX5_lays, Cond.selects RX5 yX5_lays yX5_lays, Cond.code yX5_lays cX5_lays 4 none, Cond.fieldLink RX5 44 "LayeredTableModel" "kinds" "[I", Cond.fieldLink RX5 47 "LayeredTableModel" "strength" "[I", Cond.fieldLink RX5 50 "LayeredTableModel" "kindsThen" "[I", Cond.fieldLink RX5 53 "LayeredTableModel" "strengthThen" "[I", Cond.methodLink RX5 76 yX5_layer, Cond.instanceMethod yX5_layer, Cond.selects RX5 yX5_layer yX5_layer]
def wsX5_settle_r3 : List Cond := [Cond.code yX5_layer cX5_layer 7 none, Cond.methodLink RX5 72 yX5_thingOf, Cond.instanceMethod yX5_thingOf, Cond.selects RX5 yX5_thingOf yX5_thingOf, Cond.code yX5_thingOf cX5_thingOf 4 (some .int), Cond.methodLink RX5 90 yX5_triggers, Cond.instanceMethod yX5_triggers, Cond.selects RX5 yX5_triggers yX5_triggers, Cond.code yX5_triggers cX5_triggers 3 none, Cond.fieldLink RX5 35 "LayeredTableModel" "mark" "[I", Cond.methodLink RX5 109 yX5_firstBeast, Cond.instanceMethod yX5_firstBeast, Cond.selects RX5 yX5_firstBeast yX5_firstBeast, Cond.code yX5_firstBeast cX5_firstBeast 3 (some .int), Cond.methodLink RX5 113 yX5_leaves, Cond.instanceMethod yX5_leaves, Cond.selects RX5 yX5_leaves yX5_leaves, Cond.code yX5_leaves cX5_leaves 3 none, Cond.methodLink RX5 131 yX5_strikes, Cond.instanceMethod yX5_strikes, Cond.selects RX5 yX5_strikes yX5_strikes, Cond.code yX5_strikes cX5_strikes 3 none, Cond.methodLink RX5 116 yX5_entryOf, Cond.instanceMethod yX5_entryOf]
def wsX5_settle_r4 : List Cond := [Cond.selects RX5 yX5_entryOf yX5_entryOf, Cond.code yX5_entryOf cX5_entryOf 4 (some .int), Cond.methodLink RX5 134 yX5_removes, Cond.instanceMethod yX5_removes, Cond.selects RX5 yX5_removes yX5_removes, Cond.code yX5_removes cX5_removes 3 none, Cond.methodLink RX5 137 yX5_remembers, Cond.instanceMethod yX5_remembers, Cond.selects RX5 yX5_remembers yX5_remembers, Cond.code yX5_remembers cX5_remembers 5 none, Cond.fieldLink RX5 103 "LayeredTableModel" "known" "I", Cond.fieldLink RX5 56 "LayeredTableModel" "states" "[I", Cond.fieldLink RX5 59 "LayeredTableModel" "state" "[I", Cond.fieldLink RX5 125 "LayeredTableModel" "loops" "I", Cond.methodLink RX5 122 yX5_laysState, Cond.instanceMethod yX5_laysState, Cond.selects RX5 yX5_laysState yX5_laysState, Cond.code yX5_laysState cX5_laysState 3 none, Cond.methodLink RX5 119 yX5_targetOf, Cond.instanceMethod yX5_targetOf, Cond.selects RX5 yX5_targetOf yX5_targetOf, Cond.code yX5_targetOf cX5_targetOf 3 (some .int)]
def wsX5_settle : List Cond := .code yX5_settle cX5_settle 3 (some .int) :: ((wsX5_settle_r1 ++ (wsX5_settle_r2 ++ (wsX5_settle_r3 ++ wsX5_settle_r4))) ++ wsX50)
def wsX5_turn : List Cond := .code yX5_turn cX5_turn 1 (some .int) :: ([.fieldLink RX5 62 "LayeredTableModel" "thrown" "I", .fieldLink RX5 87 "LayeredTableModel" "turn" "I"] ++ wsX50)
def wsX5_acting : List Cond := .code yX5_acting cX5_acting 1 (some .int) :: ([.fieldLink RX5 62 "LayeredTableModel" "thrown" "I", .fieldLink RX5 97 "LayeredTableModel" "acting" "I"] ++ wsX50)
def wsX5_rounds : List Cond := .code yX5_rounds cX5_rounds 1 (some .int) :: ([.fieldLink RX5 62 "LayeredTableModel" "thrown" "I", .fieldLink RX5 100 "LayeredTableModel" "rounds" "I"] ++ wsX50)
def wsX5_loops : List Cond := .code yX5_loops cX5_loops 1 (some .int) :: ([.fieldLink RX5 62 "LayeredTableModel" "thrown" "I", .fieldLink RX5 125 "LayeredTableModel" "loops" "I"] ++ wsX50)
def wsX5_coins : List Cond := .code yX5_coins cX5_coins 2 (some .int) :: ([.fieldLink RX5 62 "LayeredTableModel" "thrown" "I", .fieldLink RX5 7 "LayeredTableModel" "coins" "[I", .methodLink RX5 146 yX5_isIn, .static yX5_isIn, .initialized RX5, .code yX5_isIn cX5_isIn 3 (some .boolean)] ++ wsX50)
def wsX5_things : List Cond := .code yX5_things cX5_things 1 (some .int) :: ([.fieldLink RX5 62 "LayeredTableModel" "thrown" "I", .fieldLink RX5 66 "LayeredTableModel" "things" "I"] ++ wsX50)
def wsX5_cardOf : List Cond := .code yX5_cardOf cX5_cardOf 2 (some .int) :: ([.fieldLink RX5 66 "LayeredTableModel" "things" "I", .fieldLink RX5 62 "LayeredTableModel" "thrown" "I", .fieldLink RX5 13 "LayeredTableModel" "card" "[I", .methodLink RX5 146 yX5_isIn, .static yX5_isIn, .initialized RX5, .code yX5_isIn cX5_isIn 3 (some .boolean)] ++ wsX50)
def wsX5_isLaid_r1 : List Cond := [Cond.fieldLink RX5 66 "LayeredTableModel" "things" "I", Cond.fieldLink RX5 62 "LayeredTableModel" "thrown" "I", Cond.methodLink RX5 146 yX5_isIn, Cond.static yX5_isIn, Cond.initialized RX5, Cond.code yX5_isIn cX5_isIn 3 (some .boolean), Cond.methodLink RX5 83 yX5_lays, Cond.instanceMethod yX5_lays, Cond.selects RX5 yX5_lays yX5_lays, Cond.code yX5_lays cX5_lays 4 none, Cond.fieldLink RX5 41 "LayeredTableModel" "controller" "[I", Cond.fieldLink RX5 16 "LayeredTableModel" "owner" "[I", Cond.fieldLink RX5 44 "LayeredTableModel" "kinds" "[I", Cond.fieldLink RX5 13 "LayeredTableModel" "card" "[I", Cond.fieldLink RX5 47 "LayeredTableModel" "strength" "[I", Cond.fieldLink RX5 50 "LayeredTableModel" "kindsThen" "[I", Cond.fieldLink RX5 53 "LayeredTableModel" "strengthThen" "[I", Cond.methodLink RX5 76 yX5_layer, Cond.instanceMethod yX5_layer, Cond.selects RX5 yX5_layer yX5_layer, Cond.code yX5_layer cX5_layer 7 none, Cond.fieldLink RX5 22 "LayeredTableModel" "aim" "[I", Cond.methodLink RX5 72 yX5_thingOf, Cond.instanceMethod yX5_thingOf]
def wsX5_isLaid_r2 : List Cond := [Cond.selects RX5 yX5_thingOf yX5_thingOf, Cond.code yX5_thingOf cX5_thingOf 4 (some .int), Cond.fieldLink RX5 19 "LayeredTableModel" "name" "[I"]
def wsX5_isLaid : List Cond := .code yX5_isLaid cX5_isLaid 3 (some .boolean) :: ((wsX5_isLaid_r1 ++ wsX5_isLaid_r2) ++ wsX50)
def wsX5_controllerOf_r1 : List Cond := [Cond.fieldLink RX5 41 "LayeredTableModel" "controller" "[I", Cond.methodLink RX5 160 yX5_isLaid, Cond.instanceMethod yX5_isLaid, Cond.selects RX5 yX5_isLaid yX5_isLaid, Cond.initialized RX5, Cond.code yX5_isLaid cX5_isLaid 3 (some .boolean), Cond.fieldLink RX5 66 "LayeredTableModel" "things" "I", Cond.fieldLink RX5 62 "LayeredTableModel" "thrown" "I", Cond.methodLink RX5 146 yX5_isIn, Cond.static yX5_isIn, Cond.code yX5_isIn cX5_isIn 3 (some .boolean), Cond.methodLink RX5 83 yX5_lays, Cond.instanceMethod yX5_lays, Cond.selects RX5 yX5_lays yX5_lays, Cond.code yX5_lays cX5_lays 4 none, Cond.fieldLink RX5 16 "LayeredTableModel" "owner" "[I", Cond.fieldLink RX5 44 "LayeredTableModel" "kinds" "[I", Cond.fieldLink RX5 13 "LayeredTableModel" "card" "[I", Cond.fieldLink RX5 47 "LayeredTableModel" "strength" "[I", Cond.fieldLink RX5 50 "LayeredTableModel" "kindsThen" "[I", Cond.fieldLink RX5 53 "LayeredTableModel" "strengthThen" "[I", Cond.methodLink RX5 76 yX5_layer, Cond.instanceMethod yX5_layer, Cond.selects RX5 yX5_layer yX5_layer]
def wsX5_controllerOf_r2 : List Cond := [Cond.code yX5_layer cX5_layer 7 none, Cond.fieldLink RX5 22 "LayeredTableModel" "aim" "[I", Cond.methodLink RX5 72 yX5_thingOf, Cond.instanceMethod yX5_thingOf, Cond.selects RX5 yX5_thingOf yX5_thingOf, Cond.code yX5_thingOf cX5_thingOf 4 (some .int), Cond.fieldLink RX5 19 "LayeredTableModel" "name" "[I"]
def wsX5_controllerOf : List Cond := .code yX5_controllerOf cX5_controllerOf 3 (some .int) :: ((wsX5_controllerOf_r1 ++ wsX5_controllerOf_r2) ++ wsX50)
def wsX5_kindsOf_r1 : List Cond := [Cond.fieldLink RX5 44 "LayeredTableModel" "kinds" "[I", Cond.methodLink RX5 160 yX5_isLaid, Cond.instanceMethod yX5_isLaid, Cond.selects RX5 yX5_isLaid yX5_isLaid, Cond.initialized RX5, Cond.code yX5_isLaid cX5_isLaid 3 (some .boolean), Cond.fieldLink RX5 66 "LayeredTableModel" "things" "I", Cond.fieldLink RX5 62 "LayeredTableModel" "thrown" "I", Cond.methodLink RX5 146 yX5_isIn, Cond.static yX5_isIn, Cond.code yX5_isIn cX5_isIn 3 (some .boolean), Cond.methodLink RX5 83 yX5_lays, Cond.instanceMethod yX5_lays, Cond.selects RX5 yX5_lays yX5_lays, Cond.code yX5_lays cX5_lays 4 none, Cond.fieldLink RX5 41 "LayeredTableModel" "controller" "[I", Cond.fieldLink RX5 16 "LayeredTableModel" "owner" "[I", Cond.fieldLink RX5 13 "LayeredTableModel" "card" "[I", Cond.fieldLink RX5 47 "LayeredTableModel" "strength" "[I", Cond.fieldLink RX5 50 "LayeredTableModel" "kindsThen" "[I", Cond.fieldLink RX5 53 "LayeredTableModel" "strengthThen" "[I", Cond.methodLink RX5 76 yX5_layer, Cond.instanceMethod yX5_layer, Cond.selects RX5 yX5_layer yX5_layer]
def wsX5_kindsOf_r2 : List Cond := [Cond.code yX5_layer cX5_layer 7 none, Cond.fieldLink RX5 22 "LayeredTableModel" "aim" "[I", Cond.methodLink RX5 72 yX5_thingOf, Cond.instanceMethod yX5_thingOf, Cond.selects RX5 yX5_thingOf yX5_thingOf, Cond.code yX5_thingOf cX5_thingOf 4 (some .int), Cond.fieldLink RX5 19 "LayeredTableModel" "name" "[I"]
def wsX5_kindsOf : List Cond := .code yX5_kindsOf cX5_kindsOf 3 (some .int) :: ((wsX5_kindsOf_r1 ++ wsX5_kindsOf_r2) ++ wsX50)
def wsX5_strengthOf_r1 : List Cond := [Cond.fieldLink RX5 47 "LayeredTableModel" "strength" "[I", Cond.methodLink RX5 160 yX5_isLaid, Cond.instanceMethod yX5_isLaid, Cond.selects RX5 yX5_isLaid yX5_isLaid, Cond.initialized RX5, Cond.code yX5_isLaid cX5_isLaid 3 (some .boolean), Cond.fieldLink RX5 66 "LayeredTableModel" "things" "I", Cond.fieldLink RX5 62 "LayeredTableModel" "thrown" "I", Cond.methodLink RX5 146 yX5_isIn, Cond.static yX5_isIn, Cond.code yX5_isIn cX5_isIn 3 (some .boolean), Cond.methodLink RX5 83 yX5_lays, Cond.instanceMethod yX5_lays, Cond.selects RX5 yX5_lays yX5_lays, Cond.code yX5_lays cX5_lays 4 none, Cond.fieldLink RX5 41 "LayeredTableModel" "controller" "[I", Cond.fieldLink RX5 16 "LayeredTableModel" "owner" "[I", Cond.fieldLink RX5 44 "LayeredTableModel" "kinds" "[I", Cond.fieldLink RX5 13 "LayeredTableModel" "card" "[I", Cond.fieldLink RX5 50 "LayeredTableModel" "kindsThen" "[I", Cond.fieldLink RX5 53 "LayeredTableModel" "strengthThen" "[I", Cond.methodLink RX5 76 yX5_layer, Cond.instanceMethod yX5_layer, Cond.selects RX5 yX5_layer yX5_layer]
def wsX5_strengthOf_r2 : List Cond := [Cond.code yX5_layer cX5_layer 7 none, Cond.fieldLink RX5 22 "LayeredTableModel" "aim" "[I", Cond.methodLink RX5 72 yX5_thingOf, Cond.instanceMethod yX5_thingOf, Cond.selects RX5 yX5_thingOf yX5_thingOf, Cond.code yX5_thingOf cX5_thingOf 4 (some .int), Cond.fieldLink RX5 19 "LayeredTableModel" "name" "[I"]
def wsX5_strengthOf : List Cond := .code yX5_strengthOf cX5_strengthOf 3 (some .int) :: ((wsX5_strengthOf_r1 ++ wsX5_strengthOf_r2) ++ wsX50)
def wsX5_power_r1 : List Cond := [Cond.fieldLink RX5 62 "LayeredTableModel" "thrown" "I", Cond.fieldLink RX5 66 "LayeredTableModel" "things" "I", Cond.fieldLink RX5 41 "LayeredTableModel" "controller" "[I", Cond.fieldLink RX5 44 "LayeredTableModel" "kinds" "[I", Cond.fieldLink RX5 47 "LayeredTableModel" "strength" "[I", Cond.methodLink RX5 146 yX5_isIn, Cond.static yX5_isIn, Cond.initialized RX5, Cond.code yX5_isIn cX5_isIn 3 (some .boolean), Cond.methodLink RX5 83 yX5_lays, Cond.instanceMethod yX5_lays, Cond.selects RX5 yX5_lays yX5_lays, Cond.code yX5_lays cX5_lays 4 none, Cond.fieldLink RX5 16 "LayeredTableModel" "owner" "[I", Cond.fieldLink RX5 13 "LayeredTableModel" "card" "[I", Cond.fieldLink RX5 50 "LayeredTableModel" "kindsThen" "[I", Cond.fieldLink RX5 53 "LayeredTableModel" "strengthThen" "[I", Cond.methodLink RX5 76 yX5_layer, Cond.instanceMethod yX5_layer, Cond.selects RX5 yX5_layer yX5_layer, Cond.code yX5_layer cX5_layer 7 none, Cond.fieldLink RX5 22 "LayeredTableModel" "aim" "[I", Cond.methodLink RX5 72 yX5_thingOf, Cond.instanceMethod yX5_thingOf]
def wsX5_power_r2 : List Cond := [Cond.selects RX5 yX5_thingOf yX5_thingOf, Cond.code yX5_thingOf cX5_thingOf 4 (some .int), Cond.fieldLink RX5 19 "LayeredTableModel" "name" "[I"]
def wsX5_power : List Cond := .code yX5_power cX5_power 4 (some .int) :: ((wsX5_power_r1 ++ wsX5_power_r2) ++ wsX50)
def wsX5_stack : List Cond := .code yX5_stack cX5_stack 1 (some .int) :: ([.fieldLink RX5 62 "LayeredTableModel" "thrown" "I", .fieldLink RX5 69 "LayeredTableModel" "height" "I"] ++ wsX50)
def wsX5_isEntry : List Cond := .code yX5_isEntry cX5_isEntry 2 (some .boolean) :: ([.fieldLink RX5 69 "LayeredTableModel" "height" "I", .fieldLink RX5 62 "LayeredTableModel" "thrown" "I", .methodLink RX5 146 yX5_isIn, .static yX5_isIn, .initialized RX5, .code yX5_isIn cX5_isIn 3 (some .boolean)] ++ wsX50)
def wsX5_entryCard : List Cond := .code yX5_entryCard cX5_entryCard 2 (some .int) :: ([.fieldLink RX5 25 "LayeredTableModel" "put" "[I", .fieldLink RX5 69 "LayeredTableModel" "height" "I", .methodLink RX5 164 yX5_isEntry, .instanceMethod yX5_isEntry, .selects RX5 yX5_isEntry yX5_isEntry, .initialized RX5, .code yX5_isEntry cX5_isEntry 2 (some .boolean), .fieldLink RX5 62 "LayeredTableModel" "thrown" "I", .methodLink RX5 146 yX5_isIn, .static yX5_isIn, .code yX5_isIn cX5_isIn 3 (some .boolean)] ++ wsX50)
def wsX5_isTrigger : List Cond := .code yX5_isTrigger cX5_isTrigger 2 (some .boolean) :: ([.fieldLink RX5 28 "LayeredTableModel" "triggered" "[Z", .fieldLink RX5 69 "LayeredTableModel" "height" "I", .methodLink RX5 164 yX5_isEntry, .instanceMethod yX5_isEntry, .selects RX5 yX5_isEntry yX5_isEntry, .initialized RX5, .code yX5_isEntry cX5_isEntry 2 (some .boolean), .fieldLink RX5 62 "LayeredTableModel" "thrown" "I", .methodLink RX5 146 yX5_isIn, .static yX5_isIn, .code yX5_isIn cX5_isIn 3 (some .boolean)] ++ wsX50)
def wsX5_entryPlayer : List Cond := .code yX5_entryPlayer cX5_entryPlayer 2 (some .int) :: ([.fieldLink RX5 32 "LayeredTableModel" "whose" "[I", .fieldLink RX5 69 "LayeredTableModel" "height" "I", .methodLink RX5 164 yX5_isEntry, .instanceMethod yX5_isEntry, .selects RX5 yX5_isEntry yX5_isEntry, .initialized RX5, .code yX5_isEntry cX5_isEntry 2 (some .boolean), .fieldLink RX5 62 "LayeredTableModel" "thrown" "I", .methodLink RX5 146 yX5_isIn, .static yX5_isIn, .code yX5_isIn cX5_isIn 3 (some .boolean)] ++ wsX50)
def wsX5_entryTarget_r1 : List Cond := [Cond.fieldLink RX5 69 "LayeredTableModel" "height" "I", Cond.methodLink RX5 164 yX5_isEntry, Cond.instanceMethod yX5_isEntry, Cond.selects RX5 yX5_isEntry yX5_isEntry, Cond.initialized RX5, Cond.code yX5_isEntry cX5_isEntry 2 (some .boolean), Cond.fieldLink RX5 62 "LayeredTableModel" "thrown" "I", Cond.methodLink RX5 146 yX5_isIn, Cond.static yX5_isIn, Cond.code yX5_isIn cX5_isIn 3 (some .boolean), Cond.methodLink RX5 119 yX5_targetOf, Cond.instanceMethod yX5_targetOf, Cond.selects RX5 yX5_targetOf yX5_targetOf, Cond.code yX5_targetOf cX5_targetOf 3 (some .int), Cond.fieldLink RX5 25 "LayeredTableModel" "put" "[I", Cond.fieldLink RX5 28 "LayeredTableModel" "triggered" "[Z", Cond.fieldLink RX5 38 "LayeredTableModel" "target" "[I", Cond.methodLink RX5 72 yX5_thingOf, Cond.instanceMethod yX5_thingOf, Cond.selects RX5 yX5_thingOf yX5_thingOf, Cond.code yX5_thingOf cX5_thingOf 4 (some .int), Cond.fieldLink RX5 66 "LayeredTableModel" "things" "I", Cond.fieldLink RX5 19 "LayeredTableModel" "name" "[I", Cond.methodLink RX5 116 yX5_entryOf]
def wsX5_entryTarget_r2 : List Cond := [Cond.instanceMethod yX5_entryOf, Cond.selects RX5 yX5_entryOf yX5_entryOf, Cond.code yX5_entryOf cX5_entryOf 4 (some .int), Cond.fieldLink RX5 35 "LayeredTableModel" "mark" "[I"]
def wsX5_entryTarget : List Cond := .code yX5_entryTarget cX5_entryTarget 2 (some .int) :: ((wsX5_entryTarget_r1 ++ wsX5_entryTarget_r2) ++ wsX50)
def wsL_play_r1 : List Cond := [Cond.classLink RL 13 "java/lang/IndexOutOfBoundsException", Cond.classLink RL 15 "java/lang/IllegalStateException", Cond.methodLink RL 7 yX4_play, Cond.instanceMethod yX4_play, Cond.selects RX4 yX4_play yX4_play, Cond.initialized RX4, Cond.code yX4_play cX4_play 3 (some .int), Cond.classLink RX4 41 "java/lang/IndexOutOfBoundsException", Cond.initialized "java/lang/IndexOutOfBoundsException", Cond.classLink RX4 52 "java/lang/IllegalStateException", Cond.initialized "java/lang/IllegalStateException", Cond.fieldLink RX4 57 "LayeredTable" "actingPlayer" "I", Cond.fieldLink RX4 23 "LayeredTable" "pile" "LLayeredTable$Entries;", Cond.fieldLink RX4 37 "LayeredTable" "memory" "LLayeredTable$Memory;", Cond.fieldLink RX4 83 "LayeredTable" "passes" "I", Cond.fieldLink RX4 89 "LayeredTable$Entries" "size" "I", Cond.methodLink RX4 48 yX4_findObstacle, Cond.instanceMethod yX4_findObstacle, Cond.selects RX4 yX4_findObstacle yX4_findObstacle, Cond.code yX4_findObstacle cX4_findObstacle 3 (some .int), Cond.fieldLink RX4 103 "LayeredTable" "turnPlayer" "I", Cond.methodLink RX4 168 yX4_isThing, Cond.static yX4_isThing, Cond.code yX4_isThing cX4_isThing 1 (some .boolean)]
def wsL_play_r2 : List Cond := [Cond.methodLink RX4 171 yX4_coinsOf, Cond.instanceMethod yX4_coinsOf, Cond.selects RX4 yX4_coinsOf yX4_coinsOf, Cond.code yX4_coinsOf cX4_coinsOf 2 (some .int), Cond.fieldLink RX4 9 "LayeredTable" "purses" "[I", Cond.methodLink RX4 61 yX4_costOf, Cond.static yX4_costOf, Cond.code yX4_costOf cX4_costOf 1 (some .int), Cond.fieldLink RX4 159 "LayeredTable" "COST_OF" "[I", Cond.methodLink RX4 174 yX4_hasTarget, Cond.instanceMethod yX4_hasTarget, Cond.selects RX4 yX4_hasTarget yX4_hasTarget, Cond.code yX4_hasTarget cX4_hasTarget 3 (some .boolean), Cond.fieldLink RX4 16 "LayeredTable" "table" "LLayeredTable$Things;", Cond.fieldLink RX4 147 "LayeredTable$Entries" "triggers" "[Z", Cond.methodLink RX4 115 yX2_has, Cond.instanceMethod yX2_has, Cond.selects RX2 yX2_has yX2_has, Cond.initialized RX2, Cond.code yX2_has cX2_has 2 (some .boolean), Cond.fieldLink RX2 24 "LayeredTable$Things" "size" "I", Cond.methodLink RX4 140 yX0_has, Cond.instanceMethod yX0_has, Cond.selects RX0 yX0_has yX0_has]
def wsL_play_r3 : List Cond := [Cond.initialized RX0, Cond.code yX0_has cX0_has 2 (some .boolean), Cond.fieldLink RX0 28 "LayeredTable$Entries" "size" "I", Cond.methodLink RX4 144 yX0_indexOf, Cond.instanceMethod yX0_indexOf, Cond.selects RX0 yX0_indexOf yX0_indexOf, Cond.code yX0_indexOf cX0_indexOf 2 (some .int), Cond.methodLink RX0 32 yX0_has, Cond.methodLink RX4 65 yX4_pay, Cond.instanceMethod yX4_pay, Cond.selects RX4 yX4_pay yX4_pay, Cond.code yX4_pay cX4_pay 3 none, Cond.methodLink RX4 69 yX4_targetId, Cond.instanceMethod yX4_targetId, Cond.selects RX4 yX4_targetId yX4_targetId, Cond.code yX4_targetId cX4_targetId 3 (some .int), Cond.fieldLink RX4 178 "LayeredTable$Things" "ids" "[I", Cond.fieldLink RX4 181 "LayeredTable$Entries" "ids" "[I", Cond.methodLink RX4 72 yX4_newId, Cond.instanceMethod yX4_newId, Cond.selects RX4 yX4_newId yX4_newId, Cond.code yX4_newId cX4_newId 2 (some .int), Cond.fieldLink RX4 165 "LayeredTable" "nextId" "I", Cond.methodLink RX4 76 yX0_push]
def wsL_play_r4 : List Cond := [Cond.instanceMethod yX0_push, Cond.selects RX0 yX0_push yX0_push, Cond.code yX0_push cX0_push 6 none, Cond.fieldLink RX0 9 "LayeredTable$Entries" "cards" "[I", Cond.fieldLink RX0 15 "LayeredTable$Entries" "triggers" "[Z", Cond.fieldLink RX0 19 "LayeredTable$Entries" "players" "[I", Cond.fieldLink RX0 22 "LayeredTable$Entries" "targets" "[I", Cond.fieldLink RX0 25 "LayeredTable$Entries" "ids" "[I", Cond.methodLink RX4 80 yX1_forget, Cond.instanceMethod yX1_forget, Cond.selects RX1 yX1_forget yX1_forget, Cond.initialized RX1, Cond.code yX1_forget cX1_forget 1 none, Cond.fieldLink RX1 20 "LayeredTable$Memory" "size" "I", Cond.fieldLink RX1 24 "LayeredTable$Memory" "next" "I", Cond.methodLink RX4 86 yX4_nextPlayer, Cond.static yX4_nextPlayer, Cond.code yX4_nextPlayer cX4_nextPlayer 1 (some .int)]
def wsL_play : List Cond := .codeWith yL_play cL_play 5 (some .int) [(0, 10, 13, 13), (0, 10, 17, 15)] :: ((wsL_play_r1 ++ (wsL_play_r2 ++ (wsL_play_r3 ++ wsL_play_r4))) ++ wsX40 ++ wsX00 ++ wsX20 ++ wsX10 ++ (vx_atS RX4 45 "java/lang/IndexOutOfBoundsException" ["java/lang/RuntimeException", "java/lang/Exception"]).filter goodWord ++ (vx_atS RX4 56 "java/lang/IllegalStateException" ["java/lang/RuntimeException", "java/lang/Exception"]).filter goodWord)
def wsL_obstacle_r1 : List Cond := [Cond.classLink RL 13 "java/lang/IndexOutOfBoundsException", Cond.methodLink RL 17 yX4_obstacle, Cond.instanceMethod yX4_obstacle, Cond.selects RX4 yX4_obstacle yX4_obstacle, Cond.initialized RX4, Cond.code yX4_obstacle cX4_obstacle 3 (some .int), Cond.classLink RX4 41 "java/lang/IndexOutOfBoundsException", Cond.initialized "java/lang/IndexOutOfBoundsException", Cond.methodLink RX4 48 yX4_findObstacle, Cond.instanceMethod yX4_findObstacle, Cond.selects RX4 yX4_findObstacle yX4_findObstacle, Cond.code yX4_findObstacle cX4_findObstacle 3 (some .int), Cond.fieldLink RX4 23 "LayeredTable" "pile" "LLayeredTable$Entries;", Cond.fieldLink RX4 89 "LayeredTable$Entries" "size" "I", Cond.fieldLink RX4 57 "LayeredTable" "actingPlayer" "I", Cond.fieldLink RX4 103 "LayeredTable" "turnPlayer" "I", Cond.methodLink RX4 168 yX4_isThing, Cond.static yX4_isThing, Cond.code yX4_isThing cX4_isThing 1 (some .boolean), Cond.methodLink RX4 171 yX4_coinsOf, Cond.instanceMethod yX4_coinsOf, Cond.selects RX4 yX4_coinsOf yX4_coinsOf, Cond.code yX4_coinsOf cX4_coinsOf 2 (some .int), Cond.fieldLink RX4 9 "LayeredTable" "purses" "[I"]
def wsL_obstacle_r2 : List Cond := [Cond.methodLink RX4 61 yX4_costOf, Cond.static yX4_costOf, Cond.code yX4_costOf cX4_costOf 1 (some .int), Cond.fieldLink RX4 159 "LayeredTable" "COST_OF" "[I", Cond.methodLink RX4 174 yX4_hasTarget, Cond.instanceMethod yX4_hasTarget, Cond.selects RX4 yX4_hasTarget yX4_hasTarget, Cond.code yX4_hasTarget cX4_hasTarget 3 (some .boolean), Cond.fieldLink RX4 16 "LayeredTable" "table" "LLayeredTable$Things;", Cond.fieldLink RX4 147 "LayeredTable$Entries" "triggers" "[Z", Cond.methodLink RX4 115 yX2_has, Cond.instanceMethod yX2_has, Cond.selects RX2 yX2_has yX2_has, Cond.initialized RX2, Cond.code yX2_has cX2_has 2 (some .boolean), Cond.fieldLink RX2 24 "LayeredTable$Things" "size" "I", Cond.methodLink RX4 140 yX0_has, Cond.instanceMethod yX0_has, Cond.selects RX0 yX0_has yX0_has, Cond.initialized RX0, Cond.code yX0_has cX0_has 2 (some .boolean), Cond.fieldLink RX0 28 "LayeredTable$Entries" "size" "I", Cond.methodLink RX4 144 yX0_indexOf, Cond.instanceMethod yX0_indexOf]
def wsL_obstacle_r3 : List Cond := [Cond.selects RX0 yX0_indexOf yX0_indexOf, Cond.code yX0_indexOf cX0_indexOf 2 (some .int), Cond.methodLink RX0 32 yX0_has]
def wsL_obstacle : List Cond := .codeWith yL_obstacle cL_obstacle 5 (some .int) [(0, 10, 13, 13)] :: ((wsL_obstacle_r1 ++ (wsL_obstacle_r2 ++ wsL_obstacle_r3)) ++ wsX40 ++ wsX00 ++ wsX20 ++ (vx_atS RX4 45 "java/lang/IndexOutOfBoundsException" ["java/lang/RuntimeException", "java/lang/Exception"]).filter goodWord)
def wsL_settle_r1 : List Cond := [Cond.classLink RL 24 "java/lang/IllegalArgumentException", Cond.methodLink RL 20 yX4_settle, Cond.instanceMethod yX4_settle, Cond.selects RX4 yX4_settle yX4_settle, Cond.initialized RX4, Cond.code yX4_settle cX4_settle 3 (some .int), Cond.classLink RX4 98 "java/lang/IllegalArgumentException", Cond.initialized "java/lang/IllegalArgumentException", Cond.fieldLink RX4 23 "LayeredTable" "pile" "LLayeredTable$Entries;", Cond.fieldLink RX4 89 "LayeredTable$Entries" "size" "I", Cond.methodLink RX4 92 yX4_resolveTop, Cond.instanceMethod yX4_resolveTop, Cond.selects RX4 yX4_resolveTop yX4_resolveTop, Cond.code yX4_resolveTop cX4_resolveTop 6 none, Cond.fieldLink RX4 143 "LayeredTable$Entries" "cards" "[I", Cond.fieldLink RX4 147 "LayeredTable$Entries" "triggers" "[Z", Cond.fieldLink RX4 151 "LayeredTable$Entries" "players" "[I", Cond.fieldLink RX4 182 "LayeredTable$Entries" "targets" "[I", Cond.fieldLink RX4 83 "LayeredTable" "passes" "I", Cond.fieldLink RX4 103 "LayeredTable" "turnPlayer" "I", Cond.fieldLink RX4 57 "LayeredTable" "actingPlayer" "I", Cond.methodLink RX4 193 yX0_remove, Cond.instanceMethod yX0_remove, Cond.selects RX0 yX0_remove yX0_remove]
def wsL_settle_r2 : List Cond := [Cond.initialized RX0, Cond.code yX0_remove cX0_remove 3 none, Cond.fieldLink RX0 28 "LayeredTable$Entries" "size" "I", Cond.fieldLink RX0 9 "LayeredTable$Entries" "cards" "[I", Cond.fieldLink RX0 15 "LayeredTable$Entries" "triggers" "[Z", Cond.fieldLink RX0 19 "LayeredTable$Entries" "players" "[I", Cond.fieldLink RX0 22 "LayeredTable$Entries" "targets" "[I", Cond.fieldLink RX0 25 "LayeredTable$Entries" "ids" "[I", Cond.methodLink RX4 196 yX4_triggerEffect, Cond.instanceMethod yX4_triggerEffect, Cond.selects RX4 yX4_triggerEffect yX4_triggerEffect, Cond.code yX4_triggerEffect cX4_triggerEffect 3 (some .int), Cond.fieldLink RX4 16 "LayeredTable" "table" "LLayeredTable$Things;", Cond.methodLink RX4 65 yX4_pay, Cond.instanceMethod yX4_pay, Cond.selects RX4 yX4_pay yX4_pay, Cond.code yX4_pay cX4_pay 3 none, Cond.fieldLink RX4 9 "LayeredTable" "purses" "[I", Cond.methodLink RX4 206 yX4_enter, Cond.instanceMethod yX4_enter, Cond.selects RX4 yX4_enter yX4_enter, Cond.code yX4_enter cX4_enter 4 (some .int), Cond.methodLink RX4 72 yX4_newId, Cond.instanceMethod yX4_newId]
def wsL_settle_r3 : List Cond := [Cond.selects RX4 yX4_newId yX4_newId, Cond.code yX4_newId cX4_newId 2 (some .int), Cond.fieldLink RX4 165 "LayeredTable" "nextId" "I", Cond.methodLink RX4 218 yX2_add, Cond.instanceMethod yX2_add, Cond.selects RX2 yX2_add yX2_add, Cond.initialized RX2, Cond.code yX2_add cX2_add 5 (some .boolean), Cond.fieldLink RX2 24 "LayeredTable$Things" "size" "I", Cond.fieldLink RX2 9 "LayeredTable$Things" "cards" "[I", Cond.fieldLink RX2 15 "LayeredTable$Things" "players" "[I", Cond.fieldLink RX2 18 "LayeredTable$Things" "targets" "[I", Cond.fieldLink RX2 21 "LayeredTable$Things" "ids" "[I", Cond.methodLink RX4 212 yX2_firstOf, Cond.instanceMethod yX2_firstOf, Cond.selects RX2 yX2_firstOf yX2_firstOf, Cond.code yX2_firstOf cX2_firstOf 3 (some .int), Cond.methodLink RX4 215 yX4_leave, Cond.instanceMethod yX4_leave, Cond.selects RX4 yX4_leave yX4_leave, Cond.code yX4_leave cX4_leave 2 (some .int), Cond.methodLink RX4 222 yX2_remove, Cond.instanceMethod yX2_remove, Cond.selects RX2 yX2_remove yX2_remove]
def wsL_settle_r4 : List Cond := [Cond.code yX2_remove cX2_remove 3 (some .boolean), Cond.methodLink RX2 28 yX2_has, Cond.instanceMethod yX2_has, Cond.selects RX2 yX2_has yX2_has, Cond.code yX2_has cX2_has 2 (some .boolean), Cond.methodLink RX4 199 yX4_cardEffect, Cond.instanceMethod yX4_cardEffect, Cond.selects RX4 yX4_cardEffect yX4_cardEffect, Cond.code yX4_cardEffect cX4_cardEffect 4 (some .int), Cond.methodLink RX4 168 yX4_isThing, Cond.static yX4_isThing, Cond.code yX4_isThing cX4_isThing 1 (some .boolean), Cond.methodLink RX4 188 yX2_placeOf, Cond.instanceMethod yX2_placeOf, Cond.selects RX2 yX2_placeOf yX2_placeOf, Cond.code yX2_placeOf cX2_placeOf 3 (some .int), Cond.methodLink RX4 209 yX4_strike, Cond.instanceMethod yX4_strike, Cond.selects RX4 yX4_strike yX4_strike, Cond.code yX4_strike cX4_strike 2 (some .int), Cond.fieldLink RX4 30 "LayeredTable" "view" "LLayeredTable$View;", Cond.fieldLink RX4 137 "LayeredTable$View" "strengths" "[I", Cond.methodLink RX4 115 yX2_has, Cond.methodLink RX4 127 yX3_find]
def wsL_settle_r5 : List Cond := [Cond.instanceMethod yX3_find, Cond.selects RX3 yX3_find yX3_find, Cond.initialized RX3, Cond.code yX3_find cX3_find 5 none, Cond.fieldLink RX3 27 "LayeredTable$Things" "size" "I", Cond.fieldLink RX3 33 "LayeredTable$Things" "cards" "[I", Cond.fieldLink RX3 9 "LayeredTable$View" "controllers" "[I", Cond.fieldLink RX3 36 "LayeredTable$Things" "players" "[I", Cond.fieldLink RX3 15 "LayeredTable$View" "kinds" "[I", Cond.fieldLink RX3 18 "LayeredTable$View" "strengths" "[I", Cond.methodLink RX3 39 yX3_goThrough, Cond.instanceMethod yX3_goThrough, Cond.selects RX3 yX3_goThrough yX3_goThrough, Cond.code yX3_goThrough cX3_goThrough 6 none, Cond.fieldLink RX3 21 "LayeredTable$View" "kindsBefore" "[I", Cond.fieldLink RX3 24 "LayeredTable$View" "strengthsBefore" "[I", Cond.static yX4_layerOf, Cond.code yX4_layerOf cX4_layerOf 1 (some .int), Cond.fieldLink RX4 162 "LayeredTable" "LAYER_OF" "[I", Cond.methodLink RX3 47 yX3_takes, Cond.instanceMethod yX3_takes, Cond.selects RX3 yX3_takes yX3_takes, Cond.code yX3_takes cX3_takes 5 (some .boolean), Cond.fieldLink RX3 55 "LayeredTable$Things" "ids" "[I"]
def wsL_settle_r6 : List Cond := [Cond.fieldLink RX3 58 "LayeredTable$Things" "targets" "[I", Cond.methodLink RX3 51 yX3_change, Cond.instanceMethod yX3_change, Cond.selects RX3 yX3_change yX3_change, Cond.code yX3_change cX3_change 4 none, Cond.methodLink RX4 185 yX0_placeOf, Cond.instanceMethod yX0_placeOf, Cond.selects RX0 yX0_placeOf yX0_placeOf, Cond.code yX0_placeOf cX0_placeOf 3 (some .int), Cond.methodLink RX4 144 yX0_indexOf, Cond.instanceMethod yX0_indexOf, Cond.selects RX0 yX0_indexOf yX0_indexOf, Cond.code yX0_indexOf cX0_indexOf 2 (some .int), Cond.methodLink RX0 32 yX0_has, Cond.instanceMethod yX0_has, Cond.selects RX0 yX0_has yX0_has, Cond.code yX0_has cX0_has 2 (some .boolean), Cond.methodLink RX4 189 yX4_raiseTriggers, Cond.instanceMethod yX4_raiseTriggers, Cond.selects RX4 yX4_raiseTriggers yX4_raiseTriggers, Cond.code yX4_raiseTriggers cX4_raiseTriggers 7 none, Cond.fieldLink RX4 114 "LayeredTable$Things" "size" "I", Cond.fieldLink RX4 121 "LayeredTable$Things" "cards" "[I", Cond.fieldLink RX4 131 "LayeredTable$View" "controllers" "[I"]
def wsL_settle_r7 : List Cond := [Cond.methodLink RX4 224 yX4_hasTrigger, Cond.instanceMethod yX4_hasTrigger, Cond.selects RX4 yX4_hasTrigger yX4_hasTrigger, Cond.code yX4_hasTrigger cX4_hasTrigger 4 (some .boolean), Cond.methodLink RX4 76 yX0_push, Cond.instanceMethod yX0_push, Cond.selects RX0 yX0_push yX0_push, Cond.code yX0_push cX0_push 6 none, Cond.methodLink RX4 86 yX4_nextPlayer, Cond.static yX4_nextPlayer, Cond.code yX4_nextPlayer cX4_nextPlayer 1 (some .int), Cond.methodLink RX4 203 yX4_breakLoop, Cond.instanceMethod yX4_breakLoop, Cond.selects RX4 yX4_breakLoop yX4_breakLoop, Cond.code yX4_breakLoop cX4_breakLoop 2 none, Cond.fieldLink RX4 37 "LayeredTable" "memory" "LLayeredTable$Memory;", Cond.fieldLink RX4 231 "LayeredTable$Things" "players" "[I", Cond.fieldLink RX4 232 "LayeredTable$Things" "targets" "[I", Cond.fieldLink RX4 109 "LayeredTable" "loopCount" "I", Cond.methodLink RX4 228 yX1_start, Cond.instanceMethod yX1_start, Cond.selects RX1 yX1_start yX1_start, Cond.initialized RX1, Cond.code yX1_start cX1_start 3 none]
def wsL_settle_r8 : List Cond := [Cond.fieldLink RX1 11 "LayeredTable$Memory" "state" "[I", Cond.fieldLink RX1 27 "LayeredTable$Memory" "length" "I", Cond.methodLink RX4 233 yX1_write, Cond.instanceMethod yX1_write, Cond.selects RX1 yX1_write yX1_write, Cond.code yX1_write cX1_write 5 none, Cond.methodLink RX4 154 yX4_targetPlace, Cond.instanceMethod yX4_targetPlace, Cond.selects RX4 yX4_targetPlace yX4_targetPlace, Cond.code yX4_targetPlace cX4_targetPlace 3 (some .int), Cond.methodLink RX4 237 yX1_knowsState, Cond.instanceMethod yX1_knowsState, Cond.selects RX1 yX1_knowsState yX1_knowsState, Cond.code yX1_knowsState cX1_knowsState 2 (some .boolean), Cond.fieldLink RX1 20 "LayeredTable$Memory" "size" "I", Cond.fieldLink RX1 17 "LayeredTable$Memory" "kept" "[[I", Cond.methodLink RX1 30 yX1_isState, Cond.instanceMethod yX1_isState, Cond.selects RX1 yX1_isState yX1_isState, Cond.code yX1_isState cX1_isState 3 (some .boolean), Cond.methodLink RX4 80 yX1_forget, Cond.instanceMethod yX1_forget, Cond.selects RX1 yX1_forget yX1_forget, Cond.code yX1_forget cX1_forget 1 none]
def wsL_settle_r9 : List Cond := [Cond.fieldLink RX1 24 "LayeredTable$Memory" "next" "I", Cond.methodLink RX4 241 yX1_keepState, Cond.instanceMethod yX1_keepState, Cond.selects RX1 yX1_keepState yX1_keepState, Cond.code yX1_keepState cX1_keepState 1 none, Cond.methodLink RX1 34 arraycopyName, Cond.native arraycopyName, Cond.static arraycopyName, Cond.initialized "java/lang/System"]
def wsL_settle : List Cond := .codeWith yL_settle cL_settle 4 (some .int) [(0, 9, 12, 24)] :: ((wsL_settle_r1 ++ (wsL_settle_r2 ++ (wsL_settle_r3 ++ (wsL_settle_r4 ++ (wsL_settle_r5 ++ (wsL_settle_r6 ++ (wsL_settle_r7 ++ (wsL_settle_r8 ++ wsL_settle_r9)))))))) ++ wsX40 ++ wsX00 ++ wsX20 ++ wsX30 ++ wsX10 ++ (vx_atS RX4 102 "java/lang/IllegalArgumentException" ["java/lang/RuntimeException", "java/lang/Exception"]).filter goodWord)
def wsL_coins : List Cond := .codeWith yL_coins cL_coins 4 (some .int) [(0, 9, 12, 13)] :: ([.classLink RL 13 "java/lang/IndexOutOfBoundsException", .methodLink RL 26 yX4_coins, .instanceMethod yX4_coins, .selects RX4 yX4_coins yX4_coins, .initialized RX4, .code yX4_coins cX4_coins 2 (some .int), .classLink RX4 41 "java/lang/IndexOutOfBoundsException", .initialized "java/lang/IndexOutOfBoundsException", .fieldLink RX4 9 "LayeredTable" "purses" "[I"] ++ wsX40 ++ (vx_atS RX4 45 "java/lang/IndexOutOfBoundsException" ["java/lang/RuntimeException", "java/lang/Exception"]).filter goodWord)
def wsL_cardOf : List Cond := .codeWith yL_cardOf cL_cardOf 4 (some .int) [(0, 9, 12, 13)] :: ([.classLink RL 13 "java/lang/IndexOutOfBoundsException", .methodLink RL 29 yX4_cardOf, .instanceMethod yX4_cardOf, .selects RX4 yX4_cardOf yX4_cardOf, .initialized RX4, .code yX4_cardOf cX4_cardOf 2 (some .int), .classLink RX4 41 "java/lang/IndexOutOfBoundsException", .initialized "java/lang/IndexOutOfBoundsException", .fieldLink RX4 16 "LayeredTable" "table" "LLayeredTable$Things;", .fieldLink RX4 121 "LayeredTable$Things" "cards" "[I", .methodLink RX4 115 yX2_has, .instanceMethod yX2_has, .selects RX2 yX2_has yX2_has, .initialized RX2, .code yX2_has cX2_has 2 (some .boolean), .fieldLink RX2 24 "LayeredTable$Things" "size" "I"] ++ wsX40 ++ wsX20 ++ (vx_atS RX4 45 "java/lang/IndexOutOfBoundsException" ["java/lang/RuntimeException", "java/lang/Exception"]).filter goodWord)
def wsL_controllerOf_r1 : List Cond := [Cond.classLink RL 13 "java/lang/IndexOutOfBoundsException", Cond.classLink RL 24 "java/lang/IllegalArgumentException", Cond.methodLink RL 32 yX4_controllerOf, Cond.instanceMethod yX4_controllerOf, Cond.selects RX4 yX4_controllerOf yX4_controllerOf, Cond.initialized RX4, Cond.code yX4_controllerOf cX4_controllerOf 3 (some .int), Cond.fieldLink RX4 30 "LayeredTable" "view" "LLayeredTable$View;", Cond.fieldLink RX4 16 "LayeredTable" "table" "LLayeredTable$Things;", Cond.fieldLink RX4 131 "LayeredTable$View" "controllers" "[I", Cond.methodLink RX4 124 yX4_requireThingAndLayer, Cond.instanceMethod yX4_requireThingAndLayer, Cond.selects RX4 yX4_requireThingAndLayer yX4_requireThingAndLayer, Cond.code yX4_requireThingAndLayer cX4_requireThingAndLayer 3 none, Cond.classLink RX4 41 "java/lang/IndexOutOfBoundsException", Cond.initialized "java/lang/IndexOutOfBoundsException", Cond.classLink RX4 98 "java/lang/IllegalArgumentException", Cond.initialized "java/lang/IllegalArgumentException", Cond.methodLink RX4 115 yX2_has, Cond.instanceMethod yX2_has, Cond.selects RX2 yX2_has yX2_has, Cond.initialized RX2, Cond.code yX2_has cX2_has 2 (some .boolean), Cond.fieldLink RX2 24 "LayeredTable$Things" "size" "I"]
def wsL_controllerOf_r2 : List Cond := [Cond.methodLink RX4 127 yX3_find, Cond.instanceMethod yX3_find, Cond.selects RX3 yX3_find yX3_find, Cond.initialized RX3, Cond.code yX3_find cX3_find 5 none, Cond.fieldLink RX3 27 "LayeredTable$Things" "size" "I", Cond.fieldLink RX3 33 "LayeredTable$Things" "cards" "[I", Cond.fieldLink RX3 9 "LayeredTable$View" "controllers" "[I", Cond.fieldLink RX3 36 "LayeredTable$Things" "players" "[I", Cond.fieldLink RX3 15 "LayeredTable$View" "kinds" "[I", Cond.fieldLink RX3 18 "LayeredTable$View" "strengths" "[I", Cond.methodLink RX3 39 yX3_goThrough, Cond.instanceMethod yX3_goThrough, Cond.selects RX3 yX3_goThrough yX3_goThrough, Cond.code yX3_goThrough cX3_goThrough 6 none, Cond.fieldLink RX3 21 "LayeredTable$View" "kindsBefore" "[I", Cond.fieldLink RX3 24 "LayeredTable$View" "strengthsBefore" "[I", Cond.static yX4_layerOf, Cond.code yX4_layerOf cX4_layerOf 1 (some .int), Cond.fieldLink RX4 162 "LayeredTable" "LAYER_OF" "[I", Cond.methodLink RX3 47 yX3_takes, Cond.instanceMethod yX3_takes, Cond.selects RX3 yX3_takes yX3_takes, Cond.code yX3_takes cX3_takes 5 (some .boolean)]
def wsL_controllerOf_r3 : List Cond := [Cond.fieldLink RX3 55 "LayeredTable$Things" "ids" "[I", Cond.fieldLink RX3 58 "LayeredTable$Things" "targets" "[I", Cond.methodLink RX3 51 yX3_change, Cond.instanceMethod yX3_change, Cond.selects RX3 yX3_change yX3_change, Cond.code yX3_change cX3_change 4 none]
def wsL_controllerOf : List Cond := .codeWith yL_controllerOf cL_controllerOf 5 (some .int) [(0, 10, 13, 13), (0, 10, 17, 24)] :: ((wsL_controllerOf_r1 ++ (wsL_controllerOf_r2 ++ wsL_controllerOf_r3)) ++ wsX40 ++ wsX30 ++ wsX20 ++ (vx_atS RX4 45 "java/lang/IndexOutOfBoundsException" ["java/lang/RuntimeException", "java/lang/Exception"]).filter goodWord ++ (vx_atS RX4 102 "java/lang/IllegalArgumentException" ["java/lang/RuntimeException", "java/lang/Exception"]).filter goodWord)
def wsL_kindsOf_r1 : List Cond := [Cond.classLink RL 13 "java/lang/IndexOutOfBoundsException", Cond.classLink RL 24 "java/lang/IllegalArgumentException", Cond.methodLink RL 35 yX4_kindsOf, Cond.instanceMethod yX4_kindsOf, Cond.selects RX4 yX4_kindsOf yX4_kindsOf, Cond.initialized RX4, Cond.code yX4_kindsOf cX4_kindsOf 3 (some .int), Cond.fieldLink RX4 30 "LayeredTable" "view" "LLayeredTable$View;", Cond.fieldLink RX4 16 "LayeredTable" "table" "LLayeredTable$Things;", Cond.fieldLink RX4 134 "LayeredTable$View" "kinds" "[I", Cond.methodLink RX4 124 yX4_requireThingAndLayer, Cond.instanceMethod yX4_requireThingAndLayer, Cond.selects RX4 yX4_requireThingAndLayer yX4_requireThingAndLayer, Cond.code yX4_requireThingAndLayer cX4_requireThingAndLayer 3 none, Cond.classLink RX4 41 "java/lang/IndexOutOfBoundsException", Cond.initialized "java/lang/IndexOutOfBoundsException", Cond.classLink RX4 98 "java/lang/IllegalArgumentException", Cond.initialized "java/lang/IllegalArgumentException", Cond.methodLink RX4 115 yX2_has, Cond.instanceMethod yX2_has, Cond.selects RX2 yX2_has yX2_has, Cond.initialized RX2, Cond.code yX2_has cX2_has 2 (some .boolean), Cond.fieldLink RX2 24 "LayeredTable$Things" "size" "I"]
def wsL_kindsOf_r2 : List Cond := [Cond.methodLink RX4 127 yX3_find, Cond.instanceMethod yX3_find, Cond.selects RX3 yX3_find yX3_find, Cond.initialized RX3, Cond.code yX3_find cX3_find 5 none, Cond.fieldLink RX3 27 "LayeredTable$Things" "size" "I", Cond.fieldLink RX3 33 "LayeredTable$Things" "cards" "[I", Cond.fieldLink RX3 9 "LayeredTable$View" "controllers" "[I", Cond.fieldLink RX3 36 "LayeredTable$Things" "players" "[I", Cond.fieldLink RX3 15 "LayeredTable$View" "kinds" "[I", Cond.fieldLink RX3 18 "LayeredTable$View" "strengths" "[I", Cond.methodLink RX3 39 yX3_goThrough, Cond.instanceMethod yX3_goThrough, Cond.selects RX3 yX3_goThrough yX3_goThrough, Cond.code yX3_goThrough cX3_goThrough 6 none, Cond.fieldLink RX3 21 "LayeredTable$View" "kindsBefore" "[I", Cond.fieldLink RX3 24 "LayeredTable$View" "strengthsBefore" "[I", Cond.static yX4_layerOf, Cond.code yX4_layerOf cX4_layerOf 1 (some .int), Cond.fieldLink RX4 162 "LayeredTable" "LAYER_OF" "[I", Cond.methodLink RX3 47 yX3_takes, Cond.instanceMethod yX3_takes, Cond.selects RX3 yX3_takes yX3_takes, Cond.code yX3_takes cX3_takes 5 (some .boolean)]
def wsL_kindsOf_r3 : List Cond := [Cond.fieldLink RX3 55 "LayeredTable$Things" "ids" "[I", Cond.fieldLink RX3 58 "LayeredTable$Things" "targets" "[I", Cond.methodLink RX3 51 yX3_change, Cond.instanceMethod yX3_change, Cond.selects RX3 yX3_change yX3_change, Cond.code yX3_change cX3_change 4 none]
def wsL_kindsOf : List Cond := .codeWith yL_kindsOf cL_kindsOf 5 (some .int) [(0, 10, 13, 13), (0, 10, 17, 24)] :: ((wsL_kindsOf_r1 ++ (wsL_kindsOf_r2 ++ wsL_kindsOf_r3)) ++ wsX40 ++ wsX30 ++ wsX20 ++ (vx_atS RX4 45 "java/lang/IndexOutOfBoundsException" ["java/lang/RuntimeException", "java/lang/Exception"]).filter goodWord ++ (vx_atS RX4 102 "java/lang/IllegalArgumentException" ["java/lang/RuntimeException", "java/lang/Exception"]).filter goodWord)
def wsL_strengthOf_r1 : List Cond := [Cond.classLink RL 13 "java/lang/IndexOutOfBoundsException", Cond.classLink RL 24 "java/lang/IllegalArgumentException", Cond.methodLink RL 38 yX4_strengthOf, Cond.instanceMethod yX4_strengthOf, Cond.selects RX4 yX4_strengthOf yX4_strengthOf, Cond.initialized RX4, Cond.code yX4_strengthOf cX4_strengthOf 3 (some .int), Cond.fieldLink RX4 30 "LayeredTable" "view" "LLayeredTable$View;", Cond.fieldLink RX4 16 "LayeredTable" "table" "LLayeredTable$Things;", Cond.fieldLink RX4 137 "LayeredTable$View" "strengths" "[I", Cond.methodLink RX4 124 yX4_requireThingAndLayer, Cond.instanceMethod yX4_requireThingAndLayer, Cond.selects RX4 yX4_requireThingAndLayer yX4_requireThingAndLayer, Cond.code yX4_requireThingAndLayer cX4_requireThingAndLayer 3 none, Cond.classLink RX4 41 "java/lang/IndexOutOfBoundsException", Cond.initialized "java/lang/IndexOutOfBoundsException", Cond.classLink RX4 98 "java/lang/IllegalArgumentException", Cond.initialized "java/lang/IllegalArgumentException", Cond.methodLink RX4 115 yX2_has, Cond.instanceMethod yX2_has, Cond.selects RX2 yX2_has yX2_has, Cond.initialized RX2, Cond.code yX2_has cX2_has 2 (some .boolean), Cond.fieldLink RX2 24 "LayeredTable$Things" "size" "I"]
def wsL_strengthOf_r2 : List Cond := [Cond.methodLink RX4 127 yX3_find, Cond.instanceMethod yX3_find, Cond.selects RX3 yX3_find yX3_find, Cond.initialized RX3, Cond.code yX3_find cX3_find 5 none, Cond.fieldLink RX3 27 "LayeredTable$Things" "size" "I", Cond.fieldLink RX3 33 "LayeredTable$Things" "cards" "[I", Cond.fieldLink RX3 9 "LayeredTable$View" "controllers" "[I", Cond.fieldLink RX3 36 "LayeredTable$Things" "players" "[I", Cond.fieldLink RX3 15 "LayeredTable$View" "kinds" "[I", Cond.fieldLink RX3 18 "LayeredTable$View" "strengths" "[I", Cond.methodLink RX3 39 yX3_goThrough, Cond.instanceMethod yX3_goThrough, Cond.selects RX3 yX3_goThrough yX3_goThrough, Cond.code yX3_goThrough cX3_goThrough 6 none, Cond.fieldLink RX3 21 "LayeredTable$View" "kindsBefore" "[I", Cond.fieldLink RX3 24 "LayeredTable$View" "strengthsBefore" "[I", Cond.static yX4_layerOf, Cond.code yX4_layerOf cX4_layerOf 1 (some .int), Cond.fieldLink RX4 162 "LayeredTable" "LAYER_OF" "[I", Cond.methodLink RX3 47 yX3_takes, Cond.instanceMethod yX3_takes, Cond.selects RX3 yX3_takes yX3_takes, Cond.code yX3_takes cX3_takes 5 (some .boolean)]
def wsL_strengthOf_r3 : List Cond := [Cond.fieldLink RX3 55 "LayeredTable$Things" "ids" "[I", Cond.fieldLink RX3 58 "LayeredTable$Things" "targets" "[I", Cond.methodLink RX3 51 yX3_change, Cond.instanceMethod yX3_change, Cond.selects RX3 yX3_change yX3_change, Cond.code yX3_change cX3_change 4 none]
def wsL_strengthOf : List Cond := .codeWith yL_strengthOf cL_strengthOf 5 (some .int) [(0, 10, 13, 13), (0, 10, 17, 24)] :: ((wsL_strengthOf_r1 ++ (wsL_strengthOf_r2 ++ wsL_strengthOf_r3)) ++ wsX40 ++ wsX30 ++ wsX20 ++ (vx_atS RX4 45 "java/lang/IndexOutOfBoundsException" ["java/lang/RuntimeException", "java/lang/Exception"]).filter goodWord ++ (vx_atS RX4 102 "java/lang/IllegalArgumentException" ["java/lang/RuntimeException", "java/lang/Exception"]).filter goodWord)
def wsL_power_r1 : List Cond := [Cond.classLink RL 13 "java/lang/IndexOutOfBoundsException", Cond.methodLink RL 41 yX4_power, Cond.instanceMethod yX4_power, Cond.selects RX4 yX4_power yX4_power, Cond.initialized RX4, Cond.code yX4_power cX4_power 4 (some .int), Cond.classLink RX4 41 "java/lang/IndexOutOfBoundsException", Cond.initialized "java/lang/IndexOutOfBoundsException", Cond.fieldLink RX4 30 "LayeredTable" "view" "LLayeredTable$View;", Cond.fieldLink RX4 16 "LayeredTable" "table" "LLayeredTable$Things;", Cond.fieldLink RX4 114 "LayeredTable$Things" "size" "I", Cond.fieldLink RX4 131 "LayeredTable$View" "controllers" "[I", Cond.fieldLink RX4 134 "LayeredTable$View" "kinds" "[I", Cond.fieldLink RX4 137 "LayeredTable$View" "strengths" "[I", Cond.methodLink RX4 127 yX3_find, Cond.instanceMethod yX3_find, Cond.selects RX3 yX3_find yX3_find, Cond.initialized RX3, Cond.code yX3_find cX3_find 5 none, Cond.fieldLink RX3 27 "LayeredTable$Things" "size" "I", Cond.fieldLink RX3 33 "LayeredTable$Things" "cards" "[I", Cond.fieldLink RX3 9 "LayeredTable$View" "controllers" "[I", Cond.fieldLink RX3 36 "LayeredTable$Things" "players" "[I", Cond.fieldLink RX3 15 "LayeredTable$View" "kinds" "[I"]
def wsL_power_r2 : List Cond := [Cond.fieldLink RX3 18 "LayeredTable$View" "strengths" "[I", Cond.methodLink RX3 39 yX3_goThrough, Cond.instanceMethod yX3_goThrough, Cond.selects RX3 yX3_goThrough yX3_goThrough, Cond.code yX3_goThrough cX3_goThrough 6 none, Cond.fieldLink RX3 21 "LayeredTable$View" "kindsBefore" "[I", Cond.fieldLink RX3 24 "LayeredTable$View" "strengthsBefore" "[I", Cond.static yX4_layerOf, Cond.code yX4_layerOf cX4_layerOf 1 (some .int), Cond.fieldLink RX4 162 "LayeredTable" "LAYER_OF" "[I", Cond.methodLink RX3 47 yX3_takes, Cond.instanceMethod yX3_takes, Cond.selects RX3 yX3_takes yX3_takes, Cond.code yX3_takes cX3_takes 5 (some .boolean), Cond.fieldLink RX3 55 "LayeredTable$Things" "ids" "[I", Cond.fieldLink RX3 58 "LayeredTable$Things" "targets" "[I", Cond.methodLink RX3 51 yX3_change, Cond.instanceMethod yX3_change, Cond.selects RX3 yX3_change yX3_change, Cond.code yX3_change cX3_change 4 none]
def wsL_power : List Cond := .codeWith yL_power cL_power 4 (some .int) [(0, 9, 12, 13)] :: ((wsL_power_r1 ++ wsL_power_r2) ++ wsX40 ++ wsX20 ++ wsX30 ++ (vx_atS RX4 45 "java/lang/IndexOutOfBoundsException" ["java/lang/RuntimeException", "java/lang/Exception"]).filter goodWord)
def wsL_entryCard : List Cond := .codeWith yL_entryCard cL_entryCard 4 (some .int) [(0, 9, 12, 13)] :: ([.classLink RL 13 "java/lang/IndexOutOfBoundsException", .methodLink RL 44 yX4_entryCard, .instanceMethod yX4_entryCard, .selects RX4 yX4_entryCard yX4_entryCard, .initialized RX4, .code yX4_entryCard cX4_entryCard 2 (some .int), .classLink RX4 41 "java/lang/IndexOutOfBoundsException", .initialized "java/lang/IndexOutOfBoundsException", .fieldLink RX4 23 "LayeredTable" "pile" "LLayeredTable$Entries;", .fieldLink RX4 143 "LayeredTable$Entries" "cards" "[I", .methodLink RX4 140 yX0_has, .instanceMethod yX0_has, .selects RX0 yX0_has yX0_has, .initialized RX0, .code yX0_has cX0_has 2 (some .boolean), .fieldLink RX0 28 "LayeredTable$Entries" "size" "I", .methodLink RX4 144 yX0_indexOf, .instanceMethod yX0_indexOf, .selects RX0 yX0_indexOf yX0_indexOf, .code yX0_indexOf cX0_indexOf 2 (some .int), .methodLink RX0 32 yX0_has] ++ wsX40 ++ wsX00 ++ (vx_atS RX4 45 "java/lang/IndexOutOfBoundsException" ["java/lang/RuntimeException", "java/lang/Exception"]).filter goodWord)
def wsL_isTrigger : List Cond := .codeWith yL_isTrigger cL_isTrigger 4 (some .int) [(0, 16, 19, 13)] :: ([.classLink RL 13 "java/lang/IndexOutOfBoundsException", .methodLink RL 47 yX4_isTrigger, .instanceMethod yX4_isTrigger, .selects RX4 yX4_isTrigger yX4_isTrigger, .initialized RX4, .code yX4_isTrigger cX4_isTrigger 2 (some .boolean), .classLink RX4 41 "java/lang/IndexOutOfBoundsException", .initialized "java/lang/IndexOutOfBoundsException", .fieldLink RX4 23 "LayeredTable" "pile" "LLayeredTable$Entries;", .fieldLink RX4 147 "LayeredTable$Entries" "triggers" "[Z", .methodLink RX4 140 yX0_has, .instanceMethod yX0_has, .selects RX0 yX0_has yX0_has, .initialized RX0, .code yX0_has cX0_has 2 (some .boolean), .fieldLink RX0 28 "LayeredTable$Entries" "size" "I", .methodLink RX4 144 yX0_indexOf, .instanceMethod yX0_indexOf, .selects RX0 yX0_indexOf yX0_indexOf, .code yX0_indexOf cX0_indexOf 2 (some .int), .methodLink RX0 32 yX0_has] ++ wsX40 ++ wsX00 ++ (vx_atS RX4 45 "java/lang/IndexOutOfBoundsException" ["java/lang/RuntimeException", "java/lang/Exception"]).filter goodWord)
def wsL_entryPlayer : List Cond := .codeWith yL_entryPlayer cL_entryPlayer 4 (some .int) [(0, 9, 12, 13)] :: ([.classLink RL 13 "java/lang/IndexOutOfBoundsException", .methodLink RL 51 yX4_entryPlayer, .instanceMethod yX4_entryPlayer, .selects RX4 yX4_entryPlayer yX4_entryPlayer, .initialized RX4, .code yX4_entryPlayer cX4_entryPlayer 2 (some .int), .classLink RX4 41 "java/lang/IndexOutOfBoundsException", .initialized "java/lang/IndexOutOfBoundsException", .fieldLink RX4 23 "LayeredTable" "pile" "LLayeredTable$Entries;", .fieldLink RX4 151 "LayeredTable$Entries" "players" "[I", .methodLink RX4 140 yX0_has, .instanceMethod yX0_has, .selects RX0 yX0_has yX0_has, .initialized RX0, .code yX0_has cX0_has 2 (some .boolean), .fieldLink RX0 28 "LayeredTable$Entries" "size" "I", .methodLink RX4 144 yX0_indexOf, .instanceMethod yX0_indexOf, .selects RX0 yX0_indexOf yX0_indexOf, .code yX0_indexOf cX0_indexOf 2 (some .int), .methodLink RX0 32 yX0_has] ++ wsX40 ++ wsX00 ++ (vx_atS RX4 45 "java/lang/IndexOutOfBoundsException" ["java/lang/RuntimeException", "java/lang/Exception"]).filter goodWord)
def wsL_entryTarget_r1 : List Cond := [Cond.classLink RL 13 "java/lang/IndexOutOfBoundsException", Cond.methodLink RL 54 yX4_entryTarget, Cond.instanceMethod yX4_entryTarget, Cond.selects RX4 yX4_entryTarget yX4_entryTarget, Cond.initialized RX4, Cond.code yX4_entryTarget cX4_entryTarget 2 (some .int), Cond.classLink RX4 41 "java/lang/IndexOutOfBoundsException", Cond.initialized "java/lang/IndexOutOfBoundsException", Cond.fieldLink RX4 23 "LayeredTable" "pile" "LLayeredTable$Entries;", Cond.methodLink RX4 140 yX0_has, Cond.instanceMethod yX0_has, Cond.selects RX0 yX0_has yX0_has, Cond.initialized RX0, Cond.code yX0_has cX0_has 2 (some .boolean), Cond.fieldLink RX0 28 "LayeredTable$Entries" "size" "I", Cond.methodLink RX4 144 yX0_indexOf, Cond.instanceMethod yX0_indexOf, Cond.selects RX0 yX0_indexOf yX0_indexOf, Cond.code yX0_indexOf cX0_indexOf 2 (some .int), Cond.methodLink RX0 32 yX0_has, Cond.methodLink RX4 154 yX4_targetPlace, Cond.instanceMethod yX4_targetPlace, Cond.selects RX4 yX4_targetPlace yX4_targetPlace, Cond.code yX4_targetPlace cX4_targetPlace 3 (some .int)]
def wsL_entryTarget_r2 : List Cond := [Cond.fieldLink RX4 89 "LayeredTable$Entries" "size" "I", Cond.fieldLink RX4 182 "LayeredTable$Entries" "targets" "[I", Cond.fieldLink RX4 143 "LayeredTable$Entries" "cards" "[I", Cond.fieldLink RX4 16 "LayeredTable" "table" "LLayeredTable$Things;", Cond.methodLink RX4 185 yX0_placeOf, Cond.instanceMethod yX0_placeOf, Cond.selects RX0 yX0_placeOf yX0_placeOf, Cond.code yX0_placeOf cX0_placeOf 3 (some .int), Cond.fieldLink RX0 25 "LayeredTable$Entries" "ids" "[I", Cond.methodLink RX4 188 yX2_placeOf, Cond.instanceMethod yX2_placeOf, Cond.selects RX2 yX2_placeOf yX2_placeOf, Cond.initialized RX2, Cond.code yX2_placeOf cX2_placeOf 3 (some .int), Cond.fieldLink RX2 24 "LayeredTable$Things" "size" "I", Cond.fieldLink RX2 21 "LayeredTable$Things" "ids" "[I"]
def wsL_entryTarget : List Cond := .codeWith yL_entryTarget cL_entryTarget 4 (some .int) [(0, 9, 12, 13)] :: ((wsL_entryTarget_r1 ++ wsL_entryTarget_r2) ++ wsX40 ++ wsX00 ++ wsX20 ++ (vx_atS RX4 45 "java/lang/IndexOutOfBoundsException" ["java/lang/RuntimeException", "java/lang/Exception"]).filter goodWord)
def wsL_law0_r1 : List Cond := [Cond.classLink RL 8 RX4, Cond.instantiable RX4 11, Cond.initialized RX4, Cond.classLink RL 58 RX5, Cond.instantiable RX5 27, Cond.initialized RX5, Cond.arrayClass .long, Cond.methodLink RL 57 yX4_init, Cond.instanceMethod yX4_init, Cond.code yX4_init cX4_init 2 none, Cond.methodLink RX4 1 objectInit, Cond.instanceMethod objectInit, Cond.code objectInit ⟨#[0xb1]⟩ 1 none, Cond.arrayClass .int, Cond.fieldLink RX4 9 "LayeredTable" "purses" "[I", Cond.classLink RX4 13 RX2, Cond.instantiable RX2 5, Cond.initialized RX2, Cond.fieldLink RX4 16 "LayeredTable" "table" "LLayeredTable$Things;", Cond.classLink RX4 20 RX0, Cond.instantiable RX0 6, Cond.initialized RX0, Cond.fieldLink RX4 23 "LayeredTable" "pile" "LLayeredTable$Entries;", Cond.classLink RX4 27 RX3]
def wsL_law0_r2 : List Cond := [Cond.instantiable RX3 5, Cond.initialized RX3, Cond.fieldLink RX4 30 "LayeredTable" "view" "LLayeredTable$View;", Cond.classLink RX4 34 RX1, Cond.instantiable RX1 5, Cond.initialized RX1, Cond.fieldLink RX4 37 "LayeredTable" "memory" "LLayeredTable$Memory;", Cond.instanceMethod yX2_init, Cond.code yX2_init cX2_init 1 none, Cond.methodLink RX2 3 objectInit, Cond.fieldLink RX2 9 "LayeredTable$Things" "cards" "[I", Cond.fieldLink RX2 15 "LayeredTable$Things" "players" "[I", Cond.fieldLink RX2 18 "LayeredTable$Things" "targets" "[I", Cond.fieldLink RX2 21 "LayeredTable$Things" "ids" "[I", Cond.instanceMethod yX0_init, Cond.code yX0_init cX0_init 1 none, Cond.methodLink RX0 3 objectInit, Cond.fieldLink RX0 9 "LayeredTable$Entries" "cards" "[I", Cond.arrayClass .boolean, Cond.fieldLink RX0 15 "LayeredTable$Entries" "triggers" "[Z", Cond.fieldLink RX0 19 "LayeredTable$Entries" "players" "[I", Cond.fieldLink RX0 22 "LayeredTable$Entries" "targets" "[I", Cond.fieldLink RX0 25 "LayeredTable$Entries" "ids" "[I", Cond.instanceMethod yX3_init]
def wsL_law0_r3 : List Cond := [Cond.code yX3_init cX3_init 1 none, Cond.methodLink RX3 3 objectInit, Cond.fieldLink RX3 9 "LayeredTable$View" "controllers" "[I", Cond.fieldLink RX3 15 "LayeredTable$View" "kinds" "[I", Cond.fieldLink RX3 18 "LayeredTable$View" "strengths" "[I", Cond.fieldLink RX3 21 "LayeredTable$View" "kindsBefore" "[I", Cond.fieldLink RX3 24 "LayeredTable$View" "strengthsBefore" "[I", Cond.instanceMethod yX1_init, Cond.code yX1_init cX1_init 1 none, Cond.methodLink RX1 3 objectInit, Cond.fieldLink RX1 11 "LayeredTable$Memory" "state" "[I", Cond.classLink RX1 15 "[[I", Cond.fieldLink RX1 17 "LayeredTable$Memory" "kept" "[[I", Cond.methodLink RL 60 yX5_init, Cond.instanceMethod yX5_init, Cond.code yX5_init cX5_init 2 none, Cond.methodLink RX5 1 objectInit, Cond.fieldLink RX5 7 "LayeredTableModel" "coins" "[I", Cond.fieldLink RX5 13 "LayeredTableModel" "card" "[I", Cond.fieldLink RX5 16 "LayeredTableModel" "owner" "[I", Cond.fieldLink RX5 19 "LayeredTableModel" "name" "[I", Cond.fieldLink RX5 22 "LayeredTableModel" "aim" "[I", Cond.fieldLink RX5 25 "LayeredTableModel" "put" "[I", Cond.fieldLink RX5 28 "LayeredTableModel" "triggered" "[Z"]
def wsL_law0_r4 : List Cond := [Cond.fieldLink RX5 32 "LayeredTableModel" "whose" "[I", Cond.fieldLink RX5 35 "LayeredTableModel" "mark" "[I", Cond.fieldLink RX5 38 "LayeredTableModel" "target" "[I", Cond.fieldLink RX5 41 "LayeredTableModel" "controller" "[I", Cond.fieldLink RX5 44 "LayeredTableModel" "kinds" "[I", Cond.fieldLink RX5 47 "LayeredTableModel" "strength" "[I", Cond.fieldLink RX5 50 "LayeredTableModel" "kindsThen" "[I", Cond.fieldLink RX5 53 "LayeredTableModel" "strengthThen" "[I", Cond.fieldLink RX5 56 "LayeredTableModel" "states" "[I", Cond.fieldLink RX5 59 "LayeredTableModel" "state" "[I", Cond.methodLink RL 61 yL_play, Cond.static yL_play, Cond.initialized RL, Cond.codeWith yL_play cL_play 5 (some .int) [(0, 10, 13, 13), (0, 10, 17, 15)], Cond.classLink RL 13 "java/lang/IndexOutOfBoundsException", Cond.classLink RL 15 "java/lang/IllegalStateException", Cond.methodLink RL 7 yX4_play, Cond.instanceMethod yX4_play, Cond.selects RX4 yX4_play yX4_play, Cond.code yX4_play cX4_play 3 (some .int), Cond.classLink RX4 41 "java/lang/IndexOutOfBoundsException", Cond.initialized "java/lang/IndexOutOfBoundsException", Cond.classLink RX4 52 "java/lang/IllegalStateException", Cond.initialized "java/lang/IllegalStateException"]
def wsL_law0_r5 : List Cond := [Cond.fieldLink RX4 57 "LayeredTable" "actingPlayer" "I", Cond.fieldLink RX4 83 "LayeredTable" "passes" "I", Cond.fieldLink RX4 89 "LayeredTable$Entries" "size" "I", Cond.methodLink RX4 48 yX4_findObstacle, Cond.instanceMethod yX4_findObstacle, Cond.selects RX4 yX4_findObstacle yX4_findObstacle, Cond.code yX4_findObstacle cX4_findObstacle 3 (some .int), Cond.fieldLink RX4 103 "LayeredTable" "turnPlayer" "I", Cond.methodLink RX4 168 yX4_isThing, Cond.static yX4_isThing, Cond.code yX4_isThing cX4_isThing 1 (some .boolean), Cond.methodLink RX4 171 yX4_coinsOf, Cond.instanceMethod yX4_coinsOf, Cond.selects RX4 yX4_coinsOf yX4_coinsOf, Cond.code yX4_coinsOf cX4_coinsOf 2 (some .int), Cond.methodLink RX4 61 yX4_costOf, Cond.static yX4_costOf, Cond.code yX4_costOf cX4_costOf 1 (some .int), Cond.fieldLink RX4 159 "LayeredTable" "COST_OF" "[I", Cond.methodLink RX4 174 yX4_hasTarget, Cond.instanceMethod yX4_hasTarget, Cond.selects RX4 yX4_hasTarget yX4_hasTarget, Cond.code yX4_hasTarget cX4_hasTarget 3 (some .boolean), Cond.fieldLink RX4 147 "LayeredTable$Entries" "triggers" "[Z"]
def wsL_law0_r6 : List Cond := [Cond.methodLink RX4 115 yX2_has, Cond.instanceMethod yX2_has, Cond.selects RX2 yX2_has yX2_has, Cond.code yX2_has cX2_has 2 (some .boolean), Cond.fieldLink RX2 24 "LayeredTable$Things" "size" "I", Cond.methodLink RX4 140 yX0_has, Cond.instanceMethod yX0_has, Cond.selects RX0 yX0_has yX0_has, Cond.code yX0_has cX0_has 2 (some .boolean), Cond.fieldLink RX0 28 "LayeredTable$Entries" "size" "I", Cond.methodLink RX4 144 yX0_indexOf, Cond.instanceMethod yX0_indexOf, Cond.selects RX0 yX0_indexOf yX0_indexOf, Cond.code yX0_indexOf cX0_indexOf 2 (some .int), Cond.methodLink RX0 32 yX0_has, Cond.methodLink RX4 65 yX4_pay, Cond.instanceMethod yX4_pay, Cond.selects RX4 yX4_pay yX4_pay, Cond.code yX4_pay cX4_pay 3 none, Cond.methodLink RX4 69 yX4_targetId, Cond.instanceMethod yX4_targetId, Cond.selects RX4 yX4_targetId yX4_targetId, Cond.code yX4_targetId cX4_targetId 3 (some .int), Cond.fieldLink RX4 178 "LayeredTable$Things" "ids" "[I"]
def wsL_law0_r7 : List Cond := [Cond.fieldLink RX4 181 "LayeredTable$Entries" "ids" "[I", Cond.methodLink RX4 72 yX4_newId, Cond.instanceMethod yX4_newId, Cond.selects RX4 yX4_newId yX4_newId, Cond.code yX4_newId cX4_newId 2 (some .int), Cond.fieldLink RX4 165 "LayeredTable" "nextId" "I", Cond.methodLink RX4 76 yX0_push, Cond.instanceMethod yX0_push, Cond.selects RX0 yX0_push yX0_push, Cond.code yX0_push cX0_push 6 none, Cond.methodLink RX4 80 yX1_forget, Cond.instanceMethod yX1_forget, Cond.selects RX1 yX1_forget yX1_forget, Cond.code yX1_forget cX1_forget 1 none, Cond.fieldLink RX1 20 "LayeredTable$Memory" "size" "I", Cond.fieldLink RX1 24 "LayeredTable$Memory" "next" "I", Cond.methodLink RX4 86 yX4_nextPlayer, Cond.static yX4_nextPlayer, Cond.code yX4_nextPlayer cX4_nextPlayer 1 (some .int), Cond.methodLink RL 66 yX5_play, Cond.instanceMethod yX5_play, Cond.selects RX5 yX5_play yX5_play, Cond.code yX5_play cX5_play 3 (some .int), Cond.fieldLink RX5 62 "LayeredTableModel" "thrown" "I"]
def wsL_law0_r8 : List Cond := [Cond.fieldLink RX5 97 "LayeredTableModel" "acting" "I", Cond.fieldLink RX5 69 "LayeredTableModel" "height" "I", Cond.fieldLink RX5 80 "LayeredTableModel" "names" "I", Cond.fieldLink RX5 140 "LayeredTableModel" "passes" "I", Cond.fieldLink RX5 103 "LayeredTableModel" "known" "I", Cond.methodLink RX5 146 yX5_isIn, Cond.static yX5_isIn, Cond.code yX5_isIn cX5_isIn 3 (some .boolean), Cond.methodLink RX5 150 yX5_obstacleOf, Cond.instanceMethod yX5_obstacleOf, Cond.selects RX5 yX5_obstacleOf yX5_obstacleOf, Cond.code yX5_obstacleOf cX5_obstacleOf 5 (some .int), Cond.fieldLink RX5 87 "LayeredTableModel" "turn" "I", Cond.fieldLink RX5 66 "LayeredTableModel" "things" "I", Cond.methodLink RX5 143 yX5_cost, Cond.static yX5_cost, Cond.code yX5_cost cX5_cost 1 (some .int), Cond.methodLink RL 67 yX5_thrown, Cond.instanceMethod yX5_thrown, Cond.selects RX5 yX5_thrown yX5_thrown, Cond.code yX5_thrown cX5_thrown 1 (some .int), Cond.methodLink RL 71 yL_obstacle, Cond.static yL_obstacle, Cond.codeWith yL_obstacle cL_obstacle 5 (some .int) [(0, 10, 13, 13)]]
def wsL_law0_r9 : List Cond := [Cond.methodLink RL 17 yX4_obstacle, Cond.instanceMethod yX4_obstacle, Cond.selects RX4 yX4_obstacle yX4_obstacle, Cond.code yX4_obstacle cX4_obstacle 3 (some .int), Cond.methodLink RL 73 yX5_obstacle, Cond.instanceMethod yX5_obstacle, Cond.selects RX5 yX5_obstacle yX5_obstacle, Cond.code yX5_obstacle cX5_obstacle 3 (some .int), Cond.methodLink RL 74 yX4_pass, Cond.instanceMethod yX4_pass, Cond.selects RX4 yX4_pass yX4_pass, Cond.code yX4_pass cX4_pass 1 (some .int), Cond.methodLink RX4 92 yX4_resolveTop, Cond.instanceMethod yX4_resolveTop, Cond.selects RX4 yX4_resolveTop yX4_resolveTop, Cond.code yX4_resolveTop cX4_resolveTop 6 none, Cond.fieldLink RX4 143 "LayeredTable$Entries" "cards" "[I", Cond.fieldLink RX4 151 "LayeredTable$Entries" "players" "[I", Cond.fieldLink RX4 182 "LayeredTable$Entries" "targets" "[I", Cond.methodLink RX4 193 yX0_remove, Cond.instanceMethod yX0_remove, Cond.selects RX0 yX0_remove yX0_remove, Cond.code yX0_remove cX0_remove 3 none, Cond.methodLink RX4 196 yX4_triggerEffect]
def wsL_law0_r10 : List Cond := [Cond.instanceMethod yX4_triggerEffect, Cond.selects RX4 yX4_triggerEffect yX4_triggerEffect, Cond.code yX4_triggerEffect cX4_triggerEffect 3 (some .int), Cond.methodLink RX4 206 yX4_enter, Cond.instanceMethod yX4_enter, Cond.selects RX4 yX4_enter yX4_enter, Cond.code yX4_enter cX4_enter 4 (some .int), Cond.methodLink RX4 218 yX2_add, Cond.instanceMethod yX2_add, Cond.selects RX2 yX2_add yX2_add, Cond.code yX2_add cX2_add 5 (some .boolean), Cond.methodLink RX4 212 yX2_firstOf, Cond.instanceMethod yX2_firstOf, Cond.selects RX2 yX2_firstOf yX2_firstOf, Cond.code yX2_firstOf cX2_firstOf 3 (some .int), Cond.methodLink RX4 215 yX4_leave, Cond.instanceMethod yX4_leave, Cond.selects RX4 yX4_leave yX4_leave, Cond.code yX4_leave cX4_leave 2 (some .int), Cond.methodLink RX4 222 yX2_remove, Cond.instanceMethod yX2_remove, Cond.selects RX2 yX2_remove yX2_remove, Cond.code yX2_remove cX2_remove 3 (some .boolean), Cond.methodLink RX2 28 yX2_has]
def wsL_law0_r11 : List Cond := [Cond.methodLink RX4 199 yX4_cardEffect, Cond.instanceMethod yX4_cardEffect, Cond.selects RX4 yX4_cardEffect yX4_cardEffect, Cond.code yX4_cardEffect cX4_cardEffect 4 (some .int), Cond.methodLink RX4 188 yX2_placeOf, Cond.instanceMethod yX2_placeOf, Cond.selects RX2 yX2_placeOf yX2_placeOf, Cond.code yX2_placeOf cX2_placeOf 3 (some .int), Cond.methodLink RX4 209 yX4_strike, Cond.instanceMethod yX4_strike, Cond.selects RX4 yX4_strike yX4_strike, Cond.code yX4_strike cX4_strike 2 (some .int), Cond.fieldLink RX4 137 "LayeredTable$View" "strengths" "[I", Cond.methodLink RX4 127 yX3_find, Cond.instanceMethod yX3_find, Cond.selects RX3 yX3_find yX3_find, Cond.code yX3_find cX3_find 5 none, Cond.fieldLink RX3 27 "LayeredTable$Things" "size" "I", Cond.fieldLink RX3 33 "LayeredTable$Things" "cards" "[I", Cond.fieldLink RX3 36 "LayeredTable$Things" "players" "[I", Cond.methodLink RX3 39 yX3_goThrough, Cond.instanceMethod yX3_goThrough, Cond.selects RX3 yX3_goThrough yX3_goThrough, Cond.code yX3_goThrough cX3_goThrough 6 none]
def wsL_law0_r12 : List Cond := [Cond.static yX4_layerOf, Cond.code yX4_layerOf cX4_layerOf 1 (some .int), Cond.fieldLink RX4 162 "LayeredTable" "LAYER_OF" "[I", Cond.methodLink RX3 47 yX3_takes, Cond.instanceMethod yX3_takes, Cond.selects RX3 yX3_takes yX3_takes, Cond.code yX3_takes cX3_takes 5 (some .boolean), Cond.fieldLink RX3 55 "LayeredTable$Things" "ids" "[I", Cond.fieldLink RX3 58 "LayeredTable$Things" "targets" "[I", Cond.methodLink RX3 51 yX3_change, Cond.instanceMethod yX3_change, Cond.selects RX3 yX3_change yX3_change, Cond.code yX3_change cX3_change 4 none, Cond.methodLink RX4 185 yX0_placeOf, Cond.instanceMethod yX0_placeOf, Cond.selects RX0 yX0_placeOf yX0_placeOf, Cond.code yX0_placeOf cX0_placeOf 3 (some .int), Cond.methodLink RX4 189 yX4_raiseTriggers, Cond.instanceMethod yX4_raiseTriggers, Cond.selects RX4 yX4_raiseTriggers yX4_raiseTriggers, Cond.code yX4_raiseTriggers cX4_raiseTriggers 7 none, Cond.fieldLink RX4 114 "LayeredTable$Things" "size" "I", Cond.fieldLink RX4 121 "LayeredTable$Things" "cards" "[I", Cond.fieldLink RX4 131 "LayeredTable$View" "controllers" "[I"]
def wsL_law0_r13 : List Cond := [Cond.methodLink RX4 224 yX4_hasTrigger, Cond.instanceMethod yX4_hasTrigger, Cond.selects RX4 yX4_hasTrigger yX4_hasTrigger, Cond.code yX4_hasTrigger cX4_hasTrigger 4 (some .boolean), Cond.methodLink RX4 203 yX4_breakLoop, Cond.instanceMethod yX4_breakLoop, Cond.selects RX4 yX4_breakLoop yX4_breakLoop, Cond.code yX4_breakLoop cX4_breakLoop 2 none, Cond.fieldLink RX4 231 "LayeredTable$Things" "players" "[I", Cond.fieldLink RX4 232 "LayeredTable$Things" "targets" "[I", Cond.fieldLink RX4 109 "LayeredTable" "loopCount" "I", Cond.methodLink RX4 228 yX1_start, Cond.instanceMethod yX1_start, Cond.selects RX1 yX1_start yX1_start, Cond.code yX1_start cX1_start 3 none, Cond.fieldLink RX1 27 "LayeredTable$Memory" "length" "I", Cond.methodLink RX4 233 yX1_write, Cond.instanceMethod yX1_write, Cond.selects RX1 yX1_write yX1_write, Cond.code yX1_write cX1_write 5 none, Cond.methodLink RX4 154 yX4_targetPlace, Cond.instanceMethod yX4_targetPlace, Cond.selects RX4 yX4_targetPlace yX4_targetPlace, Cond.code yX4_targetPlace cX4_targetPlace 3 (some .int)]
def wsL_law0_r14 : List Cond := [Cond.methodLink RX4 237 yX1_knowsState, Cond.instanceMethod yX1_knowsState, Cond.selects RX1 yX1_knowsState yX1_knowsState, Cond.code yX1_knowsState cX1_knowsState 2 (some .boolean), Cond.methodLink RX1 30 yX1_isState, Cond.instanceMethod yX1_isState, Cond.selects RX1 yX1_isState yX1_isState, Cond.code yX1_isState cX1_isState 3 (some .boolean), Cond.methodLink RX4 241 yX1_keepState, Cond.instanceMethod yX1_keepState, Cond.selects RX1 yX1_keepState yX1_keepState, Cond.code yX1_keepState cX1_keepState 1 none, Cond.methodLink RX1 34 arraycopyName, Cond.native arraycopyName, Cond.static arraycopyName, Cond.initialized "java/lang/System", Cond.methodLink RX4 95 yX4_beginTurn, Cond.instanceMethod yX4_beginTurn, Cond.selects RX4 yX4_beginTurn yX4_beginTurn, Cond.code yX4_beginTurn cX4_beginTurn 1 none, Cond.fieldLink RX4 106 "LayeredTable" "roundCount" "I", Cond.methodLink RL 77 yX5_pass, Cond.instanceMethod yX5_pass, Cond.selects RX5 yX5_pass yX5_pass]
def wsL_law0_r15 : List Cond := [Cond.code yX5_pass cX5_pass 1 (some .int), Cond.methodLink RX5 154 yX5_resolves, Cond.instanceMethod yX5_resolves, Cond.selects RX5 yX5_resolves yX5_resolves, Cond.code yX5_resolves cX5_resolves 4 none, Cond.methodLink RX5 128 yX5_trigger, Cond.instanceMethod yX5_trigger, Cond.selects RX5 yX5_trigger yX5_trigger, Cond.code yX5_trigger cX5_trigger 3 none, Cond.methodLink RX5 106 yX5_enters, Cond.instanceMethod yX5_enters, Cond.selects RX5 yX5_enters yX5_enters, Cond.code yX5_enters cX5_enters 4 none, Cond.methodLink RX5 93 yX5_triggersOf, Cond.instanceMethod yX5_triggersOf, Cond.selects RX5 yX5_triggersOf yX5_triggersOf, Cond.code yX5_triggersOf cX5_triggersOf 7 none, Cond.methodLink RX5 83 yX5_lays, Cond.instanceMethod yX5_lays, Cond.selects RX5 yX5_lays yX5_lays, Cond.code yX5_lays cX5_lays 4 none, Cond.methodLink RX5 76 yX5_layer, Cond.instanceMethod yX5_layer, Cond.selects RX5 yX5_layer yX5_layer]
def wsL_law0_r16 : List Cond := [Cond.code yX5_layer cX5_layer 7 none, Cond.methodLink RX5 72 yX5_thingOf, Cond.instanceMethod yX5_thingOf, Cond.selects RX5 yX5_thingOf yX5_thingOf, Cond.code yX5_thingOf cX5_thingOf 4 (some .int), Cond.methodLink RX5 90 yX5_triggers, Cond.instanceMethod yX5_triggers, Cond.selects RX5 yX5_triggers yX5_triggers, Cond.code yX5_triggers cX5_triggers 3 none, Cond.methodLink RX5 109 yX5_firstBeast, Cond.instanceMethod yX5_firstBeast, Cond.selects RX5 yX5_firstBeast yX5_firstBeast, Cond.code yX5_firstBeast cX5_firstBeast 3 (some .int), Cond.methodLink RX5 113 yX5_leaves, Cond.instanceMethod yX5_leaves, Cond.selects RX5 yX5_leaves yX5_leaves, Cond.code yX5_leaves cX5_leaves 3 none, Cond.methodLink RX5 131 yX5_strikes, Cond.instanceMethod yX5_strikes, Cond.selects RX5 yX5_strikes yX5_strikes, Cond.code yX5_strikes cX5_strikes 3 none, Cond.methodLink RX5 116 yX5_entryOf, Cond.instanceMethod yX5_entryOf, Cond.selects RX5 yX5_entryOf yX5_entryOf]
def wsL_law0_r17 : List Cond := [Cond.code yX5_entryOf cX5_entryOf 4 (some .int), Cond.methodLink RX5 134 yX5_removes, Cond.instanceMethod yX5_removes, Cond.selects RX5 yX5_removes yX5_removes, Cond.code yX5_removes cX5_removes 3 none, Cond.methodLink RX5 137 yX5_remembers, Cond.instanceMethod yX5_remembers, Cond.selects RX5 yX5_remembers yX5_remembers, Cond.code yX5_remembers cX5_remembers 5 none, Cond.fieldLink RX5 125 "LayeredTableModel" "loops" "I", Cond.methodLink RX5 122 yX5_laysState, Cond.instanceMethod yX5_laysState, Cond.selects RX5 yX5_laysState yX5_laysState, Cond.code yX5_laysState cX5_laysState 3 none, Cond.methodLink RX5 119 yX5_targetOf, Cond.instanceMethod yX5_targetOf, Cond.selects RX5 yX5_targetOf yX5_targetOf, Cond.code yX5_targetOf cX5_targetOf 3 (some .int), Cond.methodLink RX5 157 yX5_begins, Cond.instanceMethod yX5_begins, Cond.selects RX5 yX5_begins yX5_begins, Cond.code yX5_begins cX5_begins 2 none, Cond.fieldLink RX5 100 "LayeredTableModel" "rounds" "I", Cond.methodLink RL 78 yL_settle]
def wsL_law0_r18 : List Cond := [Cond.static yL_settle, Cond.codeWith yL_settle cL_settle 4 (some .int) [(0, 9, 12, 24)], Cond.classLink RL 24 "java/lang/IllegalArgumentException", Cond.methodLink RL 20 yX4_settle, Cond.instanceMethod yX4_settle, Cond.selects RX4 yX4_settle yX4_settle, Cond.code yX4_settle cX4_settle 3 (some .int), Cond.classLink RX4 98 "java/lang/IllegalArgumentException", Cond.initialized "java/lang/IllegalArgumentException", Cond.methodLink RL 81 yX5_settle, Cond.instanceMethod yX5_settle, Cond.selects RX5 yX5_settle yX5_settle, Cond.code yX5_settle cX5_settle 3 (some .int), Cond.methodLink RL 82 yX4_turn, Cond.instanceMethod yX4_turn, Cond.selects RX4 yX4_turn yX4_turn, Cond.code yX4_turn cX4_turn 1 (some .int), Cond.methodLink RL 85 yX5_turn, Cond.instanceMethod yX5_turn, Cond.selects RX5 yX5_turn yX5_turn, Cond.code yX5_turn cX5_turn 1 (some .int), Cond.methodLink RL 86 yX4_acting, Cond.instanceMethod yX4_acting, Cond.selects RX4 yX4_acting yX4_acting]
def wsL_law0_r19 : List Cond := [Cond.code yX4_acting cX4_acting 1 (some .int), Cond.methodLink RL 89 yX5_acting, Cond.instanceMethod yX5_acting, Cond.selects RX5 yX5_acting yX5_acting, Cond.code yX5_acting cX5_acting 1 (some .int), Cond.methodLink RL 90 yX4_rounds, Cond.instanceMethod yX4_rounds, Cond.selects RX4 yX4_rounds yX4_rounds, Cond.code yX4_rounds cX4_rounds 1 (some .int), Cond.methodLink RL 93 yX5_rounds, Cond.instanceMethod yX5_rounds, Cond.selects RX5 yX5_rounds yX5_rounds, Cond.code yX5_rounds cX5_rounds 1 (some .int), Cond.methodLink RL 94 yX4_loops, Cond.instanceMethod yX4_loops, Cond.selects RX4 yX4_loops yX4_loops, Cond.code yX4_loops cX4_loops 1 (some .int), Cond.methodLink RL 97 yX5_loops, Cond.instanceMethod yX5_loops, Cond.selects RX5 yX5_loops yX5_loops, Cond.code yX5_loops cX5_loops 1 (some .int), Cond.methodLink RL 98 yL_coins, Cond.static yL_coins, Cond.codeWith yL_coins cL_coins 4 (some .int) [(0, 9, 12, 13)]]
def wsL_law0_r20 : List Cond := [Cond.methodLink RL 26 yX4_coins, Cond.instanceMethod yX4_coins, Cond.selects RX4 yX4_coins yX4_coins, Cond.code yX4_coins cX4_coins 2 (some .int), Cond.methodLink RL 100 yX5_coins, Cond.instanceMethod yX5_coins, Cond.selects RX5 yX5_coins yX5_coins, Cond.code yX5_coins cX5_coins 2 (some .int), Cond.methodLink RL 101 yX4_things, Cond.instanceMethod yX4_things, Cond.selects RX4 yX4_things yX4_things, Cond.code yX4_things cX4_things 1 (some .int), Cond.methodLink RL 104 yX5_things, Cond.instanceMethod yX5_things, Cond.selects RX5 yX5_things yX5_things, Cond.code yX5_things cX5_things 1 (some .int), Cond.methodLink RL 105 yL_cardOf, Cond.static yL_cardOf, Cond.codeWith yL_cardOf cL_cardOf 4 (some .int) [(0, 9, 12, 13)], Cond.methodLink RL 29 yX4_cardOf, Cond.instanceMethod yX4_cardOf, Cond.selects RX4 yX4_cardOf yX4_cardOf, Cond.code yX4_cardOf cX4_cardOf 2 (some .int), Cond.methodLink RL 107 yX5_cardOf]
def wsL_law0_r21 : List Cond := [Cond.instanceMethod yX5_cardOf, Cond.selects RX5 yX5_cardOf yX5_cardOf, Cond.code yX5_cardOf cX5_cardOf 2 (some .int), Cond.methodLink RL 108 yL_controllerOf, Cond.static yL_controllerOf, Cond.codeWith yL_controllerOf cL_controllerOf 5 (some .int) [(0, 10, 13, 13), (0, 10, 17, 24)], Cond.methodLink RL 32 yX4_controllerOf, Cond.instanceMethod yX4_controllerOf, Cond.selects RX4 yX4_controllerOf yX4_controllerOf, Cond.code yX4_controllerOf cX4_controllerOf 3 (some .int), Cond.methodLink RX4 124 yX4_requireThingAndLayer, Cond.instanceMethod yX4_requireThingAndLayer, Cond.selects RX4 yX4_requireThingAndLayer yX4_requireThingAndLayer, Cond.code yX4_requireThingAndLayer cX4_requireThingAndLayer 3 none, Cond.methodLink RL 110 yX5_controllerOf, Cond.instanceMethod yX5_controllerOf, Cond.selects RX5 yX5_controllerOf yX5_controllerOf, Cond.code yX5_controllerOf cX5_controllerOf 3 (some .int), Cond.methodLink RX5 160 yX5_isLaid, Cond.instanceMethod yX5_isLaid, Cond.selects RX5 yX5_isLaid yX5_isLaid, Cond.code yX5_isLaid cX5_isLaid 3 (some .boolean), Cond.methodLink RL 111 yL_kindsOf, Cond.static yL_kindsOf]
def wsL_law0_r22 : List Cond := [Cond.codeWith yL_kindsOf cL_kindsOf 5 (some .int) [(0, 10, 13, 13), (0, 10, 17, 24)], Cond.methodLink RL 35 yX4_kindsOf, Cond.instanceMethod yX4_kindsOf, Cond.selects RX4 yX4_kindsOf yX4_kindsOf, Cond.code yX4_kindsOf cX4_kindsOf 3 (some .int), Cond.fieldLink RX4 134 "LayeredTable$View" "kinds" "[I", Cond.methodLink RL 113 yX5_kindsOf, Cond.instanceMethod yX5_kindsOf, Cond.selects RX5 yX5_kindsOf yX5_kindsOf, Cond.code yX5_kindsOf cX5_kindsOf 3 (some .int), Cond.methodLink RL 114 yL_strengthOf, Cond.static yL_strengthOf, Cond.codeWith yL_strengthOf cL_strengthOf 5 (some .int) [(0, 10, 13, 13), (0, 10, 17, 24)], Cond.methodLink RL 38 yX4_strengthOf, Cond.instanceMethod yX4_strengthOf, Cond.selects RX4 yX4_strengthOf yX4_strengthOf, Cond.code yX4_strengthOf cX4_strengthOf 3 (some .int), Cond.methodLink RL 116 yX5_strengthOf, Cond.instanceMethod yX5_strengthOf, Cond.selects RX5 yX5_strengthOf yX5_strengthOf, Cond.code yX5_strengthOf cX5_strengthOf 3 (some .int), Cond.methodLink RL 117 yL_power, Cond.static yL_power, Cond.codeWith yL_power cL_power 4 (some .int) [(0, 9, 12, 13)]]
def wsL_law0_r23 : List Cond := [Cond.methodLink RL 41 yX4_power, Cond.instanceMethod yX4_power, Cond.selects RX4 yX4_power yX4_power, Cond.code yX4_power cX4_power 4 (some .int), Cond.methodLink RL 119 yX5_power, Cond.instanceMethod yX5_power, Cond.selects RX5 yX5_power yX5_power, Cond.code yX5_power cX5_power 4 (some .int), Cond.methodLink RL 120 yX4_stack, Cond.instanceMethod yX4_stack, Cond.selects RX4 yX4_stack yX4_stack, Cond.code yX4_stack cX4_stack 1 (some .int), Cond.methodLink RL 123 yX5_stack, Cond.instanceMethod yX5_stack, Cond.selects RX5 yX5_stack yX5_stack, Cond.code yX5_stack cX5_stack 1 (some .int), Cond.methodLink RL 124 yL_entryCard, Cond.static yL_entryCard, Cond.codeWith yL_entryCard cL_entryCard 4 (some .int) [(0, 9, 12, 13)], Cond.methodLink RL 44 yX4_entryCard, Cond.instanceMethod yX4_entryCard, Cond.selects RX4 yX4_entryCard yX4_entryCard, Cond.code yX4_entryCard cX4_entryCard 2 (some .int), Cond.methodLink RL 126 yX5_entryCard]
def wsL_law0_r24 : List Cond := [Cond.instanceMethod yX5_entryCard, Cond.selects RX5 yX5_entryCard yX5_entryCard, Cond.code yX5_entryCard cX5_entryCard 2 (some .int), Cond.methodLink RX5 164 yX5_isEntry, Cond.instanceMethod yX5_isEntry, Cond.selects RX5 yX5_isEntry yX5_isEntry, Cond.code yX5_isEntry cX5_isEntry 2 (some .boolean), Cond.methodLink RL 127 yL_isTrigger, Cond.static yL_isTrigger, Cond.codeWith yL_isTrigger cL_isTrigger 4 (some .int) [(0, 16, 19, 13)], Cond.methodLink RL 47 yX4_isTrigger, Cond.instanceMethod yX4_isTrigger, Cond.selects RX4 yX4_isTrigger yX4_isTrigger, Cond.code yX4_isTrigger cX4_isTrigger 2 (some .boolean), Cond.methodLink RL 129 yX5_isTrigger, Cond.instanceMethod yX5_isTrigger, Cond.selects RX5 yX5_isTrigger yX5_isTrigger, Cond.code yX5_isTrigger cX5_isTrigger 2 (some .boolean), Cond.methodLink RL 130 yL_entryPlayer, Cond.static yL_entryPlayer, Cond.codeWith yL_entryPlayer cL_entryPlayer 4 (some .int) [(0, 9, 12, 13)], Cond.methodLink RL 51 yX4_entryPlayer, Cond.instanceMethod yX4_entryPlayer, Cond.selects RX4 yX4_entryPlayer yX4_entryPlayer]
def wsL_law0_r25 : List Cond := [Cond.code yX4_entryPlayer cX4_entryPlayer 2 (some .int), Cond.methodLink RL 132 yX5_entryPlayer, Cond.instanceMethod yX5_entryPlayer, Cond.selects RX5 yX5_entryPlayer yX5_entryPlayer, Cond.code yX5_entryPlayer cX5_entryPlayer 2 (some .int), Cond.methodLink RL 133 yL_entryTarget, Cond.static yL_entryTarget, Cond.codeWith yL_entryTarget cL_entryTarget 4 (some .int) [(0, 9, 12, 13)], Cond.methodLink RL 54 yX4_entryTarget, Cond.instanceMethod yX4_entryTarget, Cond.selects RX4 yX4_entryTarget yX4_entryTarget, Cond.code yX4_entryTarget cX4_entryTarget 2 (some .int), Cond.methodLink RL 135 yX5_entryTarget, Cond.instanceMethod yX5_entryTarget, Cond.selects RX5 yX5_entryTarget yX5_entryTarget, Cond.code yX5_entryTarget cX5_entryTarget 2 (some .int)]
def wsL_law0 : List Cond := (wsL_law0_r1 ++ (wsL_law0_r2 ++ (wsL_law0_r3 ++ (wsL_law0_r4 ++ (wsL_law0_r5 ++ (wsL_law0_r6 ++ (wsL_law0_r7 ++ (wsL_law0_r8 ++ (wsL_law0_r9 ++ (wsL_law0_r10 ++ (wsL_law0_r11 ++ (wsL_law0_r12 ++ (wsL_law0_r13 ++ (wsL_law0_r14 ++ (wsL_law0_r15 ++ (wsL_law0_r16 ++ (wsL_law0_r17 ++ (wsL_law0_r18 ++ (wsL_law0_r19 ++ (wsL_law0_r20 ++ (wsL_law0_r21 ++ (wsL_law0_r22 ++ (wsL_law0_r23 ++ (wsL_law0_r24 ++ wsL_law0_r25)))))))))))))))))))))))) ++ wsX40 ++ wsX50 ++ wsX20 ++ wsX00 ++ wsX30 ++ wsX10 ++ ([] : List Cond)
def wsL_law : List Cond := wsL_law0 ++ (vx_atS RX4 45 "java/lang/IndexOutOfBoundsException" ["java/lang/RuntimeException", "java/lang/Exception"]).filter goodWord ++ (vx_atS RX4 56 "java/lang/IllegalStateException" ["java/lang/RuntimeException", "java/lang/Exception"]).filter goodWord ++ (vx_atS RX4 102 "java/lang/IllegalArgumentException" ["java/lang/RuntimeException", "java/lang/Exception"]).filter goodWord
set_option maxRecDepth 20000 in
theorem wsL_law_in0 : ∀ w ∈ wsL_law0, w ∈ lw_tbl := fun w h => (goodIn_p wsL_law0 [61, 64, 69, 102, 134, 159, 616, 396, 468, 270, 472, 475, 481, 263, 312, 308, 235, 502, 243, 324, 352, 219, 707, 710, 714, 717, 703, 509, 721, 216, 223, 227, 231, 239, 247, 251, 255, 259, 267, 274, 278, 283, 287, 290, 296, 300, 304, 316, 320, 328, 332, 336, 340, 344, 348, 356, 363, 725, 729, 733, 737, 741, 745, 749, 753, 757, 761, 765, 769, 773, 777, 781, 785, 789, 793, 517, 797, 367, 801, 371, 805, 375, 809, 379, 813, 540, 817, 383, 821, 548, 825, 556, 560, 829, 833, 568, 837, 575, 841, 582, 845, 387, 849, 589, 853, 857, 597, 861, 604, 865, 611, 869] (by decide +kernel) (by decide +kernel) w h).1
theorem wsL_law_x0 : ∀ w ∈ (vx_atS RX4 45 "java/lang/IndexOutOfBoundsException" ["java/lang/RuntimeException", "java/lang/Exception"]).filter goodWord, w ∈ lw_tbl := by decide +kernel
theorem wsL_law_x1 : ∀ w ∈ (vx_atS RX4 56 "java/lang/IllegalStateException" ["java/lang/RuntimeException", "java/lang/Exception"]).filter goodWord, w ∈ lw_tbl := by decide +kernel
theorem wsL_law_x2 : ∀ w ∈ (vx_atS RX4 102 "java/lang/IllegalArgumentException" ["java/lang/RuntimeException", "java/lang/Exception"]).filter goodWord, w ∈ lw_tbl := by decide +kernel
theorem wsL_law_in : ∀ w ∈ wsL_law, w ∈ lw_tbl := fun w h => (List.mem_append.mp h).elim (fun h => (List.mem_append.mp h).elim (fun h => (List.mem_append.mp h).elim (fun h => wsL_law_in0 w h) (fun h => wsL_law_x0 w h)) (fun h => wsL_law_x1 w h)) (fun h => wsL_law_x2 w h)
theorem inlX0 : ∀ w ∈ wsX00, w ∈ wsL_law := fun _ h => List.mem_append_left _ (List.mem_append_left _ (List.mem_append_left _ (List.mem_append_left _ (List.mem_append_left _ (List.mem_append_left _ (List.mem_append_right _ h))))))
theorem inX0 : ∀ w ∈ wsX00, w ∈ lw_tbl := fun w h => wsL_law_in w (inlX0 w h)
theorem inlX1 : ∀ w ∈ wsX10, w ∈ wsL_law := fun _ h => List.mem_append_left _ (List.mem_append_left _ (List.mem_append_left _ (List.mem_append_left _ (List.mem_append_right _ h))))
theorem inX1 : ∀ w ∈ wsX10, w ∈ lw_tbl := fun w h => wsL_law_in w (inlX1 w h)
theorem inlX2 : ∀ w ∈ wsX20, w ∈ wsL_law := fun _ h => List.mem_append_left _ (List.mem_append_left _ (List.mem_append_left _ (List.mem_append_left _ (List.mem_append_left _ (List.mem_append_left _ (List.mem_append_left _ (List.mem_append_right _ h)))))))
theorem inX2 : ∀ w ∈ wsX20, w ∈ lw_tbl := fun w h => wsL_law_in w (inlX2 w h)
theorem inlX3 : ∀ w ∈ wsX30, w ∈ wsL_law := fun _ h => List.mem_append_left _ (List.mem_append_left _ (List.mem_append_left _ (List.mem_append_left _ (List.mem_append_left _ (List.mem_append_right _ h)))))
theorem inX3 : ∀ w ∈ wsX30, w ∈ lw_tbl := fun w h => wsL_law_in w (inlX3 w h)
theorem inlX4 : ∀ w ∈ wsX40, w ∈ wsL_law := fun _ h => List.mem_append_left _ (List.mem_append_left _ (List.mem_append_left _ (List.mem_append_left _ (List.mem_append_left _ (List.mem_append_left _ (List.mem_append_left _ (List.mem_append_left _ (List.mem_append_left _ (List.mem_append_right _ h)))))))))
theorem inX4 : ∀ w ∈ wsX40, w ∈ lw_tbl := fun w h => wsL_law_in w (inlX4 w h)
theorem inlX5 : ∀ w ∈ wsX50, w ∈ wsL_law := fun _ h => List.mem_append_left _ (List.mem_append_left _ (List.mem_append_left _ (List.mem_append_left _ (List.mem_append_left _ (List.mem_append_left _ (List.mem_append_left _ (List.mem_append_left _ (List.mem_append_right _ h))))))))
theorem inX5 : ∀ w ∈ wsX50, w ∈ lw_tbl := fun w h => wsL_law_in w (inlX5 w h)
theorem inJ0 : ∀ w ∈ wsJ00, w ∈ lw_tbl := by decide +kernel
theorem inJ10 : ∀ w ∈ wsJ100, w ∈ lw_tbl := by decide +kernel
theorem dX0_init_0 : decode cX0_init 0 = .ok (.aload_n 0, 1) := by decide +kernel
theorem dX0_init_1 : decode cX0_init 1 = .ok (.invokespecial 3, 3) := by decide +kernel
theorem dX0_init_4 : decode cX0_init 4 = .ok (.aload_n 0, 1) := by decide +kernel
theorem dX0_init_5 : decode cX0_init 5 = .ok (.bipush 12, 2) := by decide +kernel
theorem dX0_init_7 : decode cX0_init 7 = .ok (.newarray .int, 2) := by decide +kernel
theorem dX0_init_9 : decode cX0_init 9 = .ok (.putfield 9, 3) := by decide +kernel
theorem dX0_init_12 : decode cX0_init 12 = .ok (.aload_n 0, 1) := by decide +kernel
theorem dX0_init_13 : decode cX0_init 13 = .ok (.bipush 12, 2) := by decide +kernel
theorem dX0_init_15 : decode cX0_init 15 = .ok (.newarray .boolean, 2) := by decide +kernel
theorem dX0_init_17 : decode cX0_init 17 = .ok (.putfield 15, 3) := by decide +kernel
theorem dX0_init_20 : decode cX0_init 20 = .ok (.aload_n 0, 1) := by decide +kernel
theorem dX0_init_21 : decode cX0_init 21 = .ok (.bipush 12, 2) := by decide +kernel
theorem dX0_init_23 : decode cX0_init 23 = .ok (.newarray .int, 2) := by decide +kernel
theorem dX0_init_25 : decode cX0_init 25 = .ok (.putfield 19, 3) := by decide +kernel
theorem dX0_init_28 : decode cX0_init 28 = .ok (.aload_n 0, 1) := by decide +kernel
theorem dX0_init_29 : decode cX0_init 29 = .ok (.bipush 12, 2) := by decide +kernel
theorem dX0_init_31 : decode cX0_init 31 = .ok (.newarray .int, 2) := by decide +kernel
theorem dX0_init_33 : decode cX0_init 33 = .ok (.putfield 22, 3) := by decide +kernel
theorem dX0_init_36 : decode cX0_init 36 = .ok (.aload_n 0, 1) := by decide +kernel
theorem dX0_init_37 : decode cX0_init 37 = .ok (.bipush 12, 2) := by decide +kernel
theorem dX0_init_39 : decode cX0_init 39 = .ok (.newarray .int, 2) := by decide +kernel
theorem dX0_init_41 : decode cX0_init 41 = .ok (.putfield 25, 3) := by decide +kernel
theorem dX0_init_44 : decode cX0_init 44 = .ok (.return_, 1) := by decide +kernel
theorem dX0_has_0 : decode cX0_has 0 = .ok (.iload_n 1, 1) := by decide +kernel
theorem dX0_has_1 : decode cX0_has 1 = .ok (.ifCond .lt 15, 3) := by decide +kernel
theorem dX0_has_4 : decode cX0_has 4 = .ok (.iload_n 1, 1) := by decide +kernel
theorem dX0_has_5 : decode cX0_has 5 = .ok (.aload_n 0, 1) := by decide +kernel
theorem dX0_has_6 : decode cX0_has 6 = .ok (.getfield 28, 3) := by decide +kernel
theorem dX0_has_9 : decode cX0_has 9 = .ok (.if_icmp .ge 7, 3) := by decide +kernel
theorem dX0_has_12 : decode cX0_has 12 = .ok (.iconst 1, 1) := by decide +kernel
theorem dX0_has_13 : decode cX0_has 13 = .ok (.goto 4, 3) := by decide +kernel
theorem dX0_has_16 : decode cX0_has 16 = .ok (.iconst 0, 1) := by decide +kernel
theorem dX0_has_17 : decode cX0_has 17 = .ok (.ireturn, 1) := by decide +kernel
set_option maxRecDepth 20000 in
theorem ggX0_indexOf_X0_has : GoodIn wsX0_indexOf wsX0_has := goodIn_r _ [6, 1, 7, 8, 9, 10, 11, 12] (by decide +kernel) (by decide +kernel)
set_option maxRecDepth 20000 in
theorem gX0_indexOf_X0_has : GoodIn wsX0_indexOf (wsV RX0 32 RX0 yX0_has wsX0_has) := goodIn_app (goodIn_of _ (by decide +kernel)) ggX0_indexOf_X0_has
theorem dX0_indexOf_0 : decode cX0_indexOf 0 = .ok (.aload_n 0, 1) := by decide +kernel
theorem dX0_indexOf_1 : decode cX0_indexOf 1 = .ok (.iload_n 1, 1) := by decide +kernel
theorem dX0_indexOf_2 : decode cX0_indexOf 2 = .ok (.invokevirtual 32, 3) := by decide +kernel
theorem dX0_indexOf_5 : decode cX0_indexOf 5 = .ok (.ifCond .eq 14, 3) := by decide +kernel
theorem dX0_indexOf_8 : decode cX0_indexOf 8 = .ok (.aload_n 0, 1) := by decide +kernel
theorem dX0_indexOf_9 : decode cX0_indexOf 9 = .ok (.getfield 28, 3) := by decide +kernel
theorem dX0_indexOf_12 : decode cX0_indexOf 12 = .ok (.iconst 1, 1) := by decide +kernel
theorem dX0_indexOf_13 : decode cX0_indexOf 13 = .ok (.isub, 1) := by decide +kernel
theorem dX0_indexOf_14 : decode cX0_indexOf 14 = .ok (.iload_n 1, 1) := by decide +kernel
theorem dX0_indexOf_15 : decode cX0_indexOf 15 = .ok (.isub, 1) := by decide +kernel
theorem dX0_indexOf_16 : decode cX0_indexOf 16 = .ok (.goto 4, 3) := by decide +kernel
theorem dX0_indexOf_19 : decode cX0_indexOf 19 = .ok (.iconst (-1), 1) := by decide +kernel
theorem dX0_indexOf_20 : decode cX0_indexOf 20 = .ok (.ireturn, 1) := by decide +kernel
theorem dX0_push_0 : decode cX0_push 0 = .ok (.aload_n 0, 1) := by decide +kernel
theorem dX0_push_1 : decode cX0_push 1 = .ok (.getfield 28, 3) := by decide +kernel
theorem dX0_push_4 : decode cX0_push 4 = .ok (.bipush 12, 2) := by decide +kernel
theorem dX0_push_6 : decode cX0_push 6 = .ok (.if_icmp .lt 4, 3) := by decide +kernel
theorem dX0_push_9 : decode cX0_push 9 = .ok (.return_, 1) := by decide +kernel
theorem dX0_push_10 : decode cX0_push 10 = .ok (.aload_n 0, 1) := by decide +kernel
theorem dX0_push_11 : decode cX0_push 11 = .ok (.getfield 9, 3) := by decide +kernel
theorem dX0_push_14 : decode cX0_push 14 = .ok (.aload_n 0, 1) := by decide +kernel
theorem dX0_push_15 : decode cX0_push 15 = .ok (.getfield 28, 3) := by decide +kernel
theorem dX0_push_18 : decode cX0_push 18 = .ok (.iload_n 1, 1) := by decide +kernel
theorem dX0_push_19 : decode cX0_push 19 = .ok (.iastore, 1) := by decide +kernel
theorem dX0_push_20 : decode cX0_push 20 = .ok (.aload_n 0, 1) := by decide +kernel
theorem dX0_push_21 : decode cX0_push 21 = .ok (.getfield 15, 3) := by decide +kernel
theorem dX0_push_24 : decode cX0_push 24 = .ok (.aload_n 0, 1) := by decide +kernel
theorem dX0_push_25 : decode cX0_push 25 = .ok (.getfield 28, 3) := by decide +kernel
theorem dX0_push_28 : decode cX0_push 28 = .ok (.iload_n 2, 1) := by decide +kernel
theorem dX0_push_29 : decode cX0_push 29 = .ok (.bastore, 1) := by decide +kernel
theorem dX0_push_30 : decode cX0_push 30 = .ok (.aload_n 0, 1) := by decide +kernel
theorem dX0_push_31 : decode cX0_push 31 = .ok (.getfield 19, 3) := by decide +kernel
theorem dX0_push_34 : decode cX0_push 34 = .ok (.aload_n 0, 1) := by decide +kernel
theorem dX0_push_35 : decode cX0_push 35 = .ok (.getfield 28, 3) := by decide +kernel
theorem dX0_push_38 : decode cX0_push 38 = .ok (.iload_n 3, 1) := by decide +kernel
theorem dX0_push_39 : decode cX0_push 39 = .ok (.iastore, 1) := by decide +kernel
theorem dX0_push_40 : decode cX0_push 40 = .ok (.aload_n 0, 1) := by decide +kernel
theorem dX0_push_41 : decode cX0_push 41 = .ok (.getfield 22, 3) := by decide +kernel
theorem dX0_push_44 : decode cX0_push 44 = .ok (.aload_n 0, 1) := by decide +kernel
theorem dX0_push_45 : decode cX0_push 45 = .ok (.getfield 28, 3) := by decide +kernel
theorem dX0_push_48 : decode cX0_push 48 = .ok (.iload 4, 2) := by decide +kernel
theorem dX0_push_50 : decode cX0_push 50 = .ok (.iastore, 1) := by decide +kernel
theorem dX0_push_51 : decode cX0_push 51 = .ok (.aload_n 0, 1) := by decide +kernel
theorem dX0_push_52 : decode cX0_push 52 = .ok (.getfield 25, 3) := by decide +kernel
theorem dX0_push_55 : decode cX0_push 55 = .ok (.aload_n 0, 1) := by decide +kernel
theorem dX0_push_56 : decode cX0_push 56 = .ok (.getfield 28, 3) := by decide +kernel
theorem dX0_push_59 : decode cX0_push 59 = .ok (.iload 5, 2) := by decide +kernel
theorem dX0_push_61 : decode cX0_push 61 = .ok (.iastore, 1) := by decide +kernel
theorem dX0_push_62 : decode cX0_push 62 = .ok (.aload_n 0, 1) := by decide +kernel
theorem dX0_push_63 : decode cX0_push 63 = .ok (.dup, 1) := by decide +kernel
theorem dX0_push_64 : decode cX0_push 64 = .ok (.getfield 28, 3) := by decide +kernel
theorem dX0_push_67 : decode cX0_push 67 = .ok (.iconst 1, 1) := by decide +kernel
theorem dX0_push_68 : decode cX0_push 68 = .ok (.iadd, 1) := by decide +kernel
theorem dX0_push_69 : decode cX0_push 69 = .ok (.putfield 28, 3) := by decide +kernel
theorem dX0_push_72 : decode cX0_push 72 = .ok (.return_, 1) := by decide +kernel
theorem dX0_remove_0 : decode cX0_remove 0 = .ok (.iload_n 1, 1) := by decide +kernel
theorem dX0_remove_1 : decode cX0_remove 1 = .ok (.ifCond .lt 11, 3) := by decide +kernel
theorem dX0_remove_4 : decode cX0_remove 4 = .ok (.iload_n 1, 1) := by decide +kernel
theorem dX0_remove_5 : decode cX0_remove 5 = .ok (.aload_n 0, 1) := by decide +kernel
theorem dX0_remove_6 : decode cX0_remove 6 = .ok (.getfield 28, 3) := by decide +kernel
theorem dX0_remove_9 : decode cX0_remove 9 = .ok (.if_icmp .lt 4, 3) := by decide +kernel
theorem dX0_remove_12 : decode cX0_remove 12 = .ok (.return_, 1) := by decide +kernel
theorem dX0_remove_13 : decode cX0_remove 13 = .ok (.aload_n 0, 1) := by decide +kernel
theorem dX0_remove_14 : decode cX0_remove 14 = .ok (.dup, 1) := by decide +kernel
theorem dX0_remove_15 : decode cX0_remove 15 = .ok (.getfield 28, 3) := by decide +kernel
theorem dX0_remove_18 : decode cX0_remove 18 = .ok (.iconst 1, 1) := by decide +kernel
theorem dX0_remove_19 : decode cX0_remove 19 = .ok (.isub, 1) := by decide +kernel
theorem dX0_remove_20 : decode cX0_remove 20 = .ok (.putfield 28, 3) := by decide +kernel
theorem dX0_remove_23 : decode cX0_remove 23 = .ok (.iload_n 1, 1) := by decide +kernel
theorem dX0_remove_24 : decode cX0_remove 24 = .ok (.istore_n 2, 1) := by decide +kernel
theorem dX0_remove_25 : decode cX0_remove 25 = .ok (.iload_n 2, 1) := by decide +kernel
theorem dX0_remove_26 : decode cX0_remove 26 = .ok (.aload_n 0, 1) := by decide +kernel
theorem dX0_remove_27 : decode cX0_remove 27 = .ok (.getfield 28, 3) := by decide +kernel
theorem dX0_remove_30 : decode cX0_remove 30 = .ok (.if_icmp .ge 79, 3) := by decide +kernel
theorem dX0_remove_33 : decode cX0_remove 33 = .ok (.aload_n 0, 1) := by decide +kernel
theorem dX0_remove_34 : decode cX0_remove 34 = .ok (.getfield 9, 3) := by decide +kernel
theorem dX0_remove_37 : decode cX0_remove 37 = .ok (.iload_n 2, 1) := by decide +kernel
theorem dX0_remove_38 : decode cX0_remove 38 = .ok (.aload_n 0, 1) := by decide +kernel
theorem dX0_remove_39 : decode cX0_remove 39 = .ok (.getfield 9, 3) := by decide +kernel
theorem dX0_remove_42 : decode cX0_remove 42 = .ok (.iload_n 2, 1) := by decide +kernel
theorem dX0_remove_43 : decode cX0_remove 43 = .ok (.iconst 1, 1) := by decide +kernel
theorem dX0_remove_44 : decode cX0_remove 44 = .ok (.iadd, 1) := by decide +kernel
theorem dX0_remove_45 : decode cX0_remove 45 = .ok (.iaload, 1) := by decide +kernel
theorem dX0_remove_46 : decode cX0_remove 46 = .ok (.iastore, 1) := by decide +kernel
theorem dX0_remove_47 : decode cX0_remove 47 = .ok (.aload_n 0, 1) := by decide +kernel
theorem dX0_remove_48 : decode cX0_remove 48 = .ok (.getfield 15, 3) := by decide +kernel
theorem dX0_remove_51 : decode cX0_remove 51 = .ok (.iload_n 2, 1) := by decide +kernel
theorem dX0_remove_52 : decode cX0_remove 52 = .ok (.aload_n 0, 1) := by decide +kernel
theorem dX0_remove_53 : decode cX0_remove 53 = .ok (.getfield 15, 3) := by decide +kernel
theorem dX0_remove_56 : decode cX0_remove 56 = .ok (.iload_n 2, 1) := by decide +kernel
theorem dX0_remove_57 : decode cX0_remove 57 = .ok (.iconst 1, 1) := by decide +kernel
theorem dX0_remove_58 : decode cX0_remove 58 = .ok (.iadd, 1) := by decide +kernel
theorem dX0_remove_59 : decode cX0_remove 59 = .ok (.baload, 1) := by decide +kernel
theorem dX0_remove_60 : decode cX0_remove 60 = .ok (.bastore, 1) := by decide +kernel
theorem dX0_remove_61 : decode cX0_remove 61 = .ok (.aload_n 0, 1) := by decide +kernel
theorem dX0_remove_62 : decode cX0_remove 62 = .ok (.getfield 19, 3) := by decide +kernel
theorem dX0_remove_65 : decode cX0_remove 65 = .ok (.iload_n 2, 1) := by decide +kernel
theorem dX0_remove_66 : decode cX0_remove 66 = .ok (.aload_n 0, 1) := by decide +kernel
theorem dX0_remove_67 : decode cX0_remove 67 = .ok (.getfield 19, 3) := by decide +kernel
theorem dX0_remove_70 : decode cX0_remove 70 = .ok (.iload_n 2, 1) := by decide +kernel
theorem dX0_remove_71 : decode cX0_remove 71 = .ok (.iconst 1, 1) := by decide +kernel
theorem dX0_remove_72 : decode cX0_remove 72 = .ok (.iadd, 1) := by decide +kernel
theorem dX0_remove_73 : decode cX0_remove 73 = .ok (.iaload, 1) := by decide +kernel
theorem dX0_remove_74 : decode cX0_remove 74 = .ok (.iastore, 1) := by decide +kernel
theorem dX0_remove_75 : decode cX0_remove 75 = .ok (.aload_n 0, 1) := by decide +kernel
theorem dX0_remove_76 : decode cX0_remove 76 = .ok (.getfield 22, 3) := by decide +kernel
theorem dX0_remove_79 : decode cX0_remove 79 = .ok (.iload_n 2, 1) := by decide +kernel
theorem dX0_remove_80 : decode cX0_remove 80 = .ok (.aload_n 0, 1) := by decide +kernel
theorem dX0_remove_81 : decode cX0_remove 81 = .ok (.getfield 22, 3) := by decide +kernel
theorem dX0_remove_84 : decode cX0_remove 84 = .ok (.iload_n 2, 1) := by decide +kernel
theorem dX0_remove_85 : decode cX0_remove 85 = .ok (.iconst 1, 1) := by decide +kernel
theorem dX0_remove_86 : decode cX0_remove 86 = .ok (.iadd, 1) := by decide +kernel
theorem dX0_remove_87 : decode cX0_remove 87 = .ok (.iaload, 1) := by decide +kernel
theorem dX0_remove_88 : decode cX0_remove 88 = .ok (.iastore, 1) := by decide +kernel
theorem dX0_remove_89 : decode cX0_remove 89 = .ok (.aload_n 0, 1) := by decide +kernel
theorem dX0_remove_90 : decode cX0_remove 90 = .ok (.getfield 25, 3) := by decide +kernel
theorem dX0_remove_93 : decode cX0_remove 93 = .ok (.iload_n 2, 1) := by decide +kernel
theorem dX0_remove_94 : decode cX0_remove 94 = .ok (.aload_n 0, 1) := by decide +kernel
theorem dX0_remove_95 : decode cX0_remove 95 = .ok (.getfield 25, 3) := by decide +kernel
theorem dX0_remove_98 : decode cX0_remove 98 = .ok (.iload_n 2, 1) := by decide +kernel
theorem dX0_remove_99 : decode cX0_remove 99 = .ok (.iconst 1, 1) := by decide +kernel
theorem dX0_remove_100 : decode cX0_remove 100 = .ok (.iadd, 1) := by decide +kernel
theorem dX0_remove_101 : decode cX0_remove 101 = .ok (.iaload, 1) := by decide +kernel
theorem dX0_remove_102 : decode cX0_remove 102 = .ok (.iastore, 1) := by decide +kernel
theorem dX0_remove_103 : decode cX0_remove 103 = .ok (.iinc 2 1, 3) := by decide +kernel
theorem dX0_remove_106 : decode cX0_remove 106 = .ok (.goto (-81), 3) := by decide +kernel
theorem dX0_remove_109 : decode cX0_remove 109 = .ok (.return_, 1) := by decide +kernel
theorem dX0_placeOf_0 : decode cX0_placeOf 0 = .ok (.iconst 0, 1) := by decide +kernel
theorem dX0_placeOf_1 : decode cX0_placeOf 1 = .ok (.istore_n 2, 1) := by decide +kernel
theorem dX0_placeOf_2 : decode cX0_placeOf 2 = .ok (.iload_n 2, 1) := by decide +kernel
theorem dX0_placeOf_3 : decode cX0_placeOf 3 = .ok (.aload_n 0, 1) := by decide +kernel
theorem dX0_placeOf_4 : decode cX0_placeOf 4 = .ok (.getfield 28, 3) := by decide +kernel
theorem dX0_placeOf_7 : decode cX0_placeOf 7 = .ok (.if_icmp .ge 28, 3) := by decide +kernel
theorem dX0_placeOf_10 : decode cX0_placeOf 10 = .ok (.aload_n 0, 1) := by decide +kernel
theorem dX0_placeOf_11 : decode cX0_placeOf 11 = .ok (.getfield 25, 3) := by decide +kernel
theorem dX0_placeOf_14 : decode cX0_placeOf 14 = .ok (.iload_n 2, 1) := by decide +kernel
theorem dX0_placeOf_15 : decode cX0_placeOf 15 = .ok (.iaload, 1) := by decide +kernel
theorem dX0_placeOf_16 : decode cX0_placeOf 16 = .ok (.iload_n 1, 1) := by decide +kernel
theorem dX0_placeOf_17 : decode cX0_placeOf 17 = .ok (.if_icmp .ne 12, 3) := by decide +kernel
theorem dX0_placeOf_20 : decode cX0_placeOf 20 = .ok (.aload_n 0, 1) := by decide +kernel
theorem dX0_placeOf_21 : decode cX0_placeOf 21 = .ok (.getfield 28, 3) := by decide +kernel
theorem dX0_placeOf_24 : decode cX0_placeOf 24 = .ok (.iconst 1, 1) := by decide +kernel
theorem dX0_placeOf_25 : decode cX0_placeOf 25 = .ok (.isub, 1) := by decide +kernel
theorem dX0_placeOf_26 : decode cX0_placeOf 26 = .ok (.iload_n 2, 1) := by decide +kernel
theorem dX0_placeOf_27 : decode cX0_placeOf 27 = .ok (.isub, 1) := by decide +kernel
theorem dX0_placeOf_28 : decode cX0_placeOf 28 = .ok (.ireturn, 1) := by decide +kernel
theorem dX0_placeOf_29 : decode cX0_placeOf 29 = .ok (.iinc 2 1, 3) := by decide +kernel
theorem dX0_placeOf_32 : decode cX0_placeOf 32 = .ok (.goto (-30), 3) := by decide +kernel
theorem dX0_placeOf_35 : decode cX0_placeOf 35 = .ok (.iconst (-1), 1) := by decide +kernel
theorem dX0_placeOf_36 : decode cX0_placeOf 36 = .ok (.ireturn, 1) := by decide +kernel
theorem dX1_init_0 : decode cX1_init 0 = .ok (.aload_n 0, 1) := by decide +kernel
theorem dX1_init_1 : decode cX1_init 1 = .ok (.invokespecial 3, 3) := by decide +kernel
theorem dX1_init_4 : decode cX1_init 4 = .ok (.aload_n 0, 1) := by decide +kernel
theorem dX1_init_5 : decode cX1_init 5 = .ok (.bipush 24, 2) := by decide +kernel
theorem dX1_init_7 : decode cX1_init 7 = .ok (.newarray .int, 2) := by decide +kernel
theorem dX1_init_9 : decode cX1_init 9 = .ok (.putfield 11, 3) := by decide +kernel
theorem dX1_init_12 : decode cX1_init 12 = .ok (.aload_n 0, 1) := by decide +kernel
theorem dX1_init_13 : decode cX1_init 13 = .ok (.bipush 40, 2) := by decide +kernel
theorem dX1_init_15 : decode cX1_init 15 = .ok (.bipush 24, 2) := by decide +kernel
theorem dX1_init_17 : decode cX1_init 17 = .ok (.multianewarray 15 2, 4) := by decide +kernel
theorem dX1_init_21 : decode cX1_init 21 = .ok (.putfield 17, 3) := by decide +kernel
theorem dX1_init_24 : decode cX1_init 24 = .ok (.return_, 1) := by decide +kernel
theorem dX1_forget_0 : decode cX1_forget 0 = .ok (.aload_n 0, 1) := by decide +kernel
theorem dX1_forget_1 : decode cX1_forget 1 = .ok (.iconst 0, 1) := by decide +kernel
theorem dX1_forget_2 : decode cX1_forget 2 = .ok (.putfield 20, 3) := by decide +kernel
theorem dX1_forget_5 : decode cX1_forget 5 = .ok (.aload_n 0, 1) := by decide +kernel
theorem dX1_forget_6 : decode cX1_forget 6 = .ok (.iconst 0, 1) := by decide +kernel
theorem dX1_forget_7 : decode cX1_forget 7 = .ok (.putfield 24, 3) := by decide +kernel
theorem dX1_forget_10 : decode cX1_forget 10 = .ok (.return_, 1) := by decide +kernel
theorem dX1_start_0 : decode cX1_start 0 = .ok (.aload_n 0, 1) := by decide +kernel
theorem dX1_start_1 : decode cX1_start 1 = .ok (.getfield 11, 3) := by decide +kernel
theorem dX1_start_4 : decode cX1_start 4 = .ok (.iconst 0, 1) := by decide +kernel
theorem dX1_start_5 : decode cX1_start 5 = .ok (.iload_n 1, 1) := by decide +kernel
theorem dX1_start_6 : decode cX1_start 6 = .ok (.iastore, 1) := by decide +kernel
theorem dX1_start_7 : decode cX1_start 7 = .ok (.aload_n 0, 1) := by decide +kernel
theorem dX1_start_8 : decode cX1_start 8 = .ok (.getfield 11, 3) := by decide +kernel
theorem dX1_start_11 : decode cX1_start 11 = .ok (.iconst 1, 1) := by decide +kernel
theorem dX1_start_12 : decode cX1_start 12 = .ok (.iload_n 2, 1) := by decide +kernel
theorem dX1_start_13 : decode cX1_start 13 = .ok (.iastore, 1) := by decide +kernel
theorem dX1_start_14 : decode cX1_start 14 = .ok (.aload_n 0, 1) := by decide +kernel
theorem dX1_start_15 : decode cX1_start 15 = .ok (.iconst 2, 1) := by decide +kernel
theorem dX1_start_16 : decode cX1_start 16 = .ok (.putfield 27, 3) := by decide +kernel
theorem dX1_start_19 : decode cX1_start 19 = .ok (.return_, 1) := by decide +kernel
theorem dX1_write_0 : decode cX1_write 0 = .ok (.aload_n 0, 1) := by decide +kernel
theorem dX1_write_1 : decode cX1_write 1 = .ok (.getfield 27, 3) := by decide +kernel
theorem dX1_write_4 : decode cX1_write 4 = .ok (.bipush 24, 2) := by decide +kernel
theorem dX1_write_6 : decode cX1_write 6 = .ok (.if_icmp .ge 48, 3) := by decide +kernel
theorem dX1_write_9 : decode cX1_write 9 = .ok (.aload_n 0, 1) := by decide +kernel
theorem dX1_write_10 : decode cX1_write 10 = .ok (.getfield 11, 3) := by decide +kernel
theorem dX1_write_13 : decode cX1_write 13 = .ok (.aload_n 0, 1) := by decide +kernel
theorem dX1_write_14 : decode cX1_write 14 = .ok (.getfield 27, 3) := by decide +kernel
theorem dX1_write_17 : decode cX1_write 17 = .ok (.iload_n 1, 1) := by decide +kernel
theorem dX1_write_18 : decode cX1_write 18 = .ok (.bipush 16, 2) := by decide +kernel
theorem dX1_write_20 : decode cX1_write 20 = .ok (.ishl, 1) := by decide +kernel
theorem dX1_write_21 : decode cX1_write 21 = .ok (.iload_n 2, 1) := by decide +kernel
theorem dX1_write_22 : decode cX1_write 22 = .ok (.ifCond .eq 9, 3) := by decide +kernel
theorem dX1_write_25 : decode cX1_write 25 = .ok (.sipush 4096, 3) := by decide +kernel
theorem dX1_write_28 : decode cX1_write 28 = .ok (.goto 4, 3) := by decide +kernel
theorem dX1_write_31 : decode cX1_write 31 = .ok (.iconst 0, 1) := by decide +kernel
theorem dX1_write_32 : decode cX1_write 32 = .ok (.ior, 1) := by decide +kernel
theorem dX1_write_33 : decode cX1_write 33 = .ok (.iload_n 3, 1) := by decide +kernel
theorem dX1_write_34 : decode cX1_write 34 = .ok (.bipush 8, 2) := by decide +kernel
theorem dX1_write_36 : decode cX1_write 36 = .ok (.ishl, 1) := by decide +kernel
theorem dX1_write_37 : decode cX1_write 37 = .ok (.ior, 1) := by decide +kernel
theorem dX1_write_38 : decode cX1_write 38 = .ok (.iload 4, 2) := by decide +kernel
theorem dX1_write_40 : decode cX1_write 40 = .ok (.iconst 1, 1) := by decide +kernel
theorem dX1_write_41 : decode cX1_write 41 = .ok (.iadd, 1) := by decide +kernel
theorem dX1_write_42 : decode cX1_write 42 = .ok (.ior, 1) := by decide +kernel
theorem dX1_write_43 : decode cX1_write 43 = .ok (.iastore, 1) := by decide +kernel
theorem dX1_write_44 : decode cX1_write 44 = .ok (.aload_n 0, 1) := by decide +kernel
theorem dX1_write_45 : decode cX1_write 45 = .ok (.dup, 1) := by decide +kernel
theorem dX1_write_46 : decode cX1_write 46 = .ok (.getfield 27, 3) := by decide +kernel
theorem dX1_write_49 : decode cX1_write 49 = .ok (.iconst 1, 1) := by decide +kernel
theorem dX1_write_50 : decode cX1_write 50 = .ok (.iadd, 1) := by decide +kernel
theorem dX1_write_51 : decode cX1_write 51 = .ok (.putfield 27, 3) := by decide +kernel
theorem dX1_write_54 : decode cX1_write 54 = .ok (.return_, 1) := by decide +kernel
set_option maxRecDepth 20000 in
theorem ggX1_knowsState_X1_isState : GoodIn wsX1_knowsState wsX1_isState := goodIn_r _ [7, 8, 9, 10, 11, 12, 13, 14] (by decide +kernel) (by decide +kernel)
set_option maxRecDepth 20000 in
theorem gX1_knowsState_X1_isState : GoodIn wsX1_knowsState (wsV RX1 30 RX1 yX1_isState wsX1_isState) := goodIn_app (goodIn_of _ (by decide +kernel)) ggX1_knowsState_X1_isState
theorem dX1_knowsState_0 : decode cX1_knowsState 0 = .ok (.iconst 0, 1) := by decide +kernel
theorem dX1_knowsState_1 : decode cX1_knowsState 1 = .ok (.istore_n 1, 1) := by decide +kernel
theorem dX1_knowsState_2 : decode cX1_knowsState 2 = .ok (.iload_n 1, 1) := by decide +kernel
theorem dX1_knowsState_3 : decode cX1_knowsState 3 = .ok (.aload_n 0, 1) := by decide +kernel
theorem dX1_knowsState_4 : decode cX1_knowsState 4 = .ok (.getfield 20, 3) := by decide +kernel
theorem dX1_knowsState_7 : decode cX1_knowsState 7 = .ok (.if_icmp .ge 24, 3) := by decide +kernel
theorem dX1_knowsState_10 : decode cX1_knowsState 10 = .ok (.aload_n 0, 1) := by decide +kernel
theorem dX1_knowsState_11 : decode cX1_knowsState 11 = .ok (.aload_n 0, 1) := by decide +kernel
theorem dX1_knowsState_12 : decode cX1_knowsState 12 = .ok (.getfield 17, 3) := by decide +kernel
theorem dX1_knowsState_15 : decode cX1_knowsState 15 = .ok (.iload_n 1, 1) := by decide +kernel
theorem dX1_knowsState_16 : decode cX1_knowsState 16 = .ok (.aaload, 1) := by decide +kernel
theorem dX1_knowsState_17 : decode cX1_knowsState 17 = .ok (.invokevirtual 30, 3) := by decide +kernel
theorem dX1_knowsState_20 : decode cX1_knowsState 20 = .ok (.ifCond .eq 5, 3) := by decide +kernel
theorem dX1_knowsState_23 : decode cX1_knowsState 23 = .ok (.iconst 1, 1) := by decide +kernel
theorem dX1_knowsState_24 : decode cX1_knowsState 24 = .ok (.ireturn, 1) := by decide +kernel
theorem dX1_knowsState_25 : decode cX1_knowsState 25 = .ok (.iinc 1 1, 3) := by decide +kernel
theorem dX1_knowsState_28 : decode cX1_knowsState 28 = .ok (.goto (-26), 3) := by decide +kernel
theorem dX1_knowsState_31 : decode cX1_knowsState 31 = .ok (.iconst 0, 1) := by decide +kernel
theorem dX1_knowsState_32 : decode cX1_knowsState 32 = .ok (.ireturn, 1) := by decide +kernel
theorem dX1_isState_0 : decode cX1_isState 0 = .ok (.iconst 0, 1) := by decide +kernel
theorem dX1_isState_1 : decode cX1_isState 1 = .ok (.istore_n 2, 1) := by decide +kernel
theorem dX1_isState_2 : decode cX1_isState 2 = .ok (.iload_n 2, 1) := by decide +kernel
theorem dX1_isState_3 : decode cX1_isState 3 = .ok (.aload_n 0, 1) := by decide +kernel
theorem dX1_isState_4 : decode cX1_isState 4 = .ok (.getfield 27, 3) := by decide +kernel
theorem dX1_isState_7 : decode cX1_isState 7 = .ok (.if_icmp .ge 23, 3) := by decide +kernel
theorem dX1_isState_10 : decode cX1_isState 10 = .ok (.aload_n 1, 1) := by decide +kernel
theorem dX1_isState_11 : decode cX1_isState 11 = .ok (.iload_n 2, 1) := by decide +kernel
theorem dX1_isState_12 : decode cX1_isState 12 = .ok (.iaload, 1) := by decide +kernel
theorem dX1_isState_13 : decode cX1_isState 13 = .ok (.aload_n 0, 1) := by decide +kernel
theorem dX1_isState_14 : decode cX1_isState 14 = .ok (.getfield 11, 3) := by decide +kernel
theorem dX1_isState_17 : decode cX1_isState 17 = .ok (.iload_n 2, 1) := by decide +kernel
theorem dX1_isState_18 : decode cX1_isState 18 = .ok (.iaload, 1) := by decide +kernel
theorem dX1_isState_19 : decode cX1_isState 19 = .ok (.if_icmp .eq 5, 3) := by decide +kernel
theorem dX1_isState_22 : decode cX1_isState 22 = .ok (.iconst 0, 1) := by decide +kernel
theorem dX1_isState_23 : decode cX1_isState 23 = .ok (.ireturn, 1) := by decide +kernel
theorem dX1_isState_24 : decode cX1_isState 24 = .ok (.iinc 2 1, 3) := by decide +kernel
theorem dX1_isState_27 : decode cX1_isState 27 = .ok (.goto (-25), 3) := by decide +kernel
theorem dX1_isState_30 : decode cX1_isState 30 = .ok (.iconst 1, 1) := by decide +kernel
theorem dX1_isState_31 : decode cX1_isState 31 = .ok (.ireturn, 1) := by decide +kernel
theorem dX1_keepState_0 : decode cX1_keepState 0 = .ok (.aload_n 0, 1) := by decide +kernel
theorem dX1_keepState_1 : decode cX1_keepState 1 = .ok (.getfield 11, 3) := by decide +kernel
theorem dX1_keepState_4 : decode cX1_keepState 4 = .ok (.iconst 0, 1) := by decide +kernel
theorem dX1_keepState_5 : decode cX1_keepState 5 = .ok (.aload_n 0, 1) := by decide +kernel
theorem dX1_keepState_6 : decode cX1_keepState 6 = .ok (.getfield 17, 3) := by decide +kernel
theorem dX1_keepState_9 : decode cX1_keepState 9 = .ok (.aload_n 0, 1) := by decide +kernel
theorem dX1_keepState_10 : decode cX1_keepState 10 = .ok (.getfield 24, 3) := by decide +kernel
theorem dX1_keepState_13 : decode cX1_keepState 13 = .ok (.aaload, 1) := by decide +kernel
theorem dX1_keepState_14 : decode cX1_keepState 14 = .ok (.iconst 0, 1) := by decide +kernel
theorem dX1_keepState_15 : decode cX1_keepState 15 = .ok (.bipush 24, 2) := by decide +kernel
theorem dX1_keepState_17 : decode cX1_keepState 17 = .ok (.invokestatic 34, 3) := by decide +kernel
theorem dX1_keepState_20 : decode cX1_keepState 20 = .ok (.aload_n 0, 1) := by decide +kernel
theorem dX1_keepState_21 : decode cX1_keepState 21 = .ok (.aload_n 0, 1) := by decide +kernel
theorem dX1_keepState_22 : decode cX1_keepState 22 = .ok (.getfield 24, 3) := by decide +kernel
theorem dX1_keepState_25 : decode cX1_keepState 25 = .ok (.iconst 1, 1) := by decide +kernel
theorem dX1_keepState_26 : decode cX1_keepState 26 = .ok (.iadd, 1) := by decide +kernel
theorem dX1_keepState_27 : decode cX1_keepState 27 = .ok (.bipush 40, 2) := by decide +kernel
theorem dX1_keepState_29 : decode cX1_keepState 29 = .ok (.if_icmp .ge 12, 3) := by decide +kernel
theorem dX1_keepState_32 : decode cX1_keepState 32 = .ok (.aload_n 0, 1) := by decide +kernel
theorem dX1_keepState_33 : decode cX1_keepState 33 = .ok (.getfield 24, 3) := by decide +kernel
theorem dX1_keepState_36 : decode cX1_keepState 36 = .ok (.iconst 1, 1) := by decide +kernel
theorem dX1_keepState_37 : decode cX1_keepState 37 = .ok (.iadd, 1) := by decide +kernel
theorem dX1_keepState_38 : decode cX1_keepState 38 = .ok (.goto 4, 3) := by decide +kernel
theorem dX1_keepState_41 : decode cX1_keepState 41 = .ok (.iconst 0, 1) := by decide +kernel
theorem dX1_keepState_42 : decode cX1_keepState 42 = .ok (.putfield 24, 3) := by decide +kernel
theorem dX1_keepState_45 : decode cX1_keepState 45 = .ok (.aload_n 0, 1) := by decide +kernel
theorem dX1_keepState_46 : decode cX1_keepState 46 = .ok (.getfield 20, 3) := by decide +kernel
theorem dX1_keepState_49 : decode cX1_keepState 49 = .ok (.bipush 40, 2) := by decide +kernel
theorem dX1_keepState_51 : decode cX1_keepState 51 = .ok (.if_icmp .ge 13, 3) := by decide +kernel
theorem dX1_keepState_54 : decode cX1_keepState 54 = .ok (.aload_n 0, 1) := by decide +kernel
theorem dX1_keepState_55 : decode cX1_keepState 55 = .ok (.dup, 1) := by decide +kernel
theorem dX1_keepState_56 : decode cX1_keepState 56 = .ok (.getfield 20, 3) := by decide +kernel
theorem dX1_keepState_59 : decode cX1_keepState 59 = .ok (.iconst 1, 1) := by decide +kernel
theorem dX1_keepState_60 : decode cX1_keepState 60 = .ok (.iadd, 1) := by decide +kernel
theorem dX1_keepState_61 : decode cX1_keepState 61 = .ok (.putfield 20, 3) := by decide +kernel
theorem dX1_keepState_64 : decode cX1_keepState 64 = .ok (.return_, 1) := by decide +kernel
theorem dX2_init_0 : decode cX2_init 0 = .ok (.aload_n 0, 1) := by decide +kernel
theorem dX2_init_1 : decode cX2_init 1 = .ok (.invokespecial 3, 3) := by decide +kernel
theorem dX2_init_4 : decode cX2_init 4 = .ok (.aload_n 0, 1) := by decide +kernel
theorem dX2_init_5 : decode cX2_init 5 = .ok (.bipush 10, 2) := by decide +kernel
theorem dX2_init_7 : decode cX2_init 7 = .ok (.newarray .int, 2) := by decide +kernel
theorem dX2_init_9 : decode cX2_init 9 = .ok (.putfield 9, 3) := by decide +kernel
theorem dX2_init_12 : decode cX2_init 12 = .ok (.aload_n 0, 1) := by decide +kernel
theorem dX2_init_13 : decode cX2_init 13 = .ok (.bipush 10, 2) := by decide +kernel
theorem dX2_init_15 : decode cX2_init 15 = .ok (.newarray .int, 2) := by decide +kernel
theorem dX2_init_17 : decode cX2_init 17 = .ok (.putfield 15, 3) := by decide +kernel
theorem dX2_init_20 : decode cX2_init 20 = .ok (.aload_n 0, 1) := by decide +kernel
theorem dX2_init_21 : decode cX2_init 21 = .ok (.bipush 10, 2) := by decide +kernel
theorem dX2_init_23 : decode cX2_init 23 = .ok (.newarray .int, 2) := by decide +kernel
theorem dX2_init_25 : decode cX2_init 25 = .ok (.putfield 18, 3) := by decide +kernel
theorem dX2_init_28 : decode cX2_init 28 = .ok (.aload_n 0, 1) := by decide +kernel
theorem dX2_init_29 : decode cX2_init 29 = .ok (.bipush 10, 2) := by decide +kernel
theorem dX2_init_31 : decode cX2_init 31 = .ok (.newarray .int, 2) := by decide +kernel
theorem dX2_init_33 : decode cX2_init 33 = .ok (.putfield 21, 3) := by decide +kernel
theorem dX2_init_36 : decode cX2_init 36 = .ok (.return_, 1) := by decide +kernel
theorem dX2_has_0 : decode cX2_has 0 = .ok (.iload_n 1, 1) := by decide +kernel
theorem dX2_has_1 : decode cX2_has 1 = .ok (.ifCond .lt 15, 3) := by decide +kernel
theorem dX2_has_4 : decode cX2_has 4 = .ok (.iload_n 1, 1) := by decide +kernel
theorem dX2_has_5 : decode cX2_has 5 = .ok (.aload_n 0, 1) := by decide +kernel
theorem dX2_has_6 : decode cX2_has 6 = .ok (.getfield 24, 3) := by decide +kernel
theorem dX2_has_9 : decode cX2_has 9 = .ok (.if_icmp .ge 7, 3) := by decide +kernel
theorem dX2_has_12 : decode cX2_has 12 = .ok (.iconst 1, 1) := by decide +kernel
theorem dX2_has_13 : decode cX2_has 13 = .ok (.goto 4, 3) := by decide +kernel
theorem dX2_has_16 : decode cX2_has 16 = .ok (.iconst 0, 1) := by decide +kernel
theorem dX2_has_17 : decode cX2_has 17 = .ok (.ireturn, 1) := by decide +kernel
theorem dX2_add_0 : decode cX2_add 0 = .ok (.aload_n 0, 1) := by decide +kernel
theorem dX2_add_1 : decode cX2_add 1 = .ok (.getfield 24, 3) := by decide +kernel
theorem dX2_add_4 : decode cX2_add 4 = .ok (.bipush 10, 2) := by decide +kernel
theorem dX2_add_6 : decode cX2_add 6 = .ok (.if_icmp .lt 5, 3) := by decide +kernel
theorem dX2_add_9 : decode cX2_add 9 = .ok (.iconst 0, 1) := by decide +kernel
theorem dX2_add_10 : decode cX2_add 10 = .ok (.ireturn, 1) := by decide +kernel
theorem dX2_add_11 : decode cX2_add 11 = .ok (.aload_n 0, 1) := by decide +kernel
theorem dX2_add_12 : decode cX2_add 12 = .ok (.getfield 9, 3) := by decide +kernel
theorem dX2_add_15 : decode cX2_add 15 = .ok (.aload_n 0, 1) := by decide +kernel
theorem dX2_add_16 : decode cX2_add 16 = .ok (.getfield 24, 3) := by decide +kernel
theorem dX2_add_19 : decode cX2_add 19 = .ok (.iload_n 1, 1) := by decide +kernel
theorem dX2_add_20 : decode cX2_add 20 = .ok (.iastore, 1) := by decide +kernel
theorem dX2_add_21 : decode cX2_add 21 = .ok (.aload_n 0, 1) := by decide +kernel
theorem dX2_add_22 : decode cX2_add 22 = .ok (.getfield 15, 3) := by decide +kernel
theorem dX2_add_25 : decode cX2_add 25 = .ok (.aload_n 0, 1) := by decide +kernel
theorem dX2_add_26 : decode cX2_add 26 = .ok (.getfield 24, 3) := by decide +kernel
theorem dX2_add_29 : decode cX2_add 29 = .ok (.iload_n 2, 1) := by decide +kernel
theorem dX2_add_30 : decode cX2_add 30 = .ok (.iastore, 1) := by decide +kernel
theorem dX2_add_31 : decode cX2_add 31 = .ok (.aload_n 0, 1) := by decide +kernel
theorem dX2_add_32 : decode cX2_add 32 = .ok (.getfield 18, 3) := by decide +kernel
theorem dX2_add_35 : decode cX2_add 35 = .ok (.aload_n 0, 1) := by decide +kernel
theorem dX2_add_36 : decode cX2_add 36 = .ok (.getfield 24, 3) := by decide +kernel
theorem dX2_add_39 : decode cX2_add 39 = .ok (.iload_n 3, 1) := by decide +kernel
theorem dX2_add_40 : decode cX2_add 40 = .ok (.iastore, 1) := by decide +kernel
theorem dX2_add_41 : decode cX2_add 41 = .ok (.aload_n 0, 1) := by decide +kernel
theorem dX2_add_42 : decode cX2_add 42 = .ok (.getfield 21, 3) := by decide +kernel
theorem dX2_add_45 : decode cX2_add 45 = .ok (.aload_n 0, 1) := by decide +kernel
theorem dX2_add_46 : decode cX2_add 46 = .ok (.getfield 24, 3) := by decide +kernel
theorem dX2_add_49 : decode cX2_add 49 = .ok (.iload 4, 2) := by decide +kernel
theorem dX2_add_51 : decode cX2_add 51 = .ok (.iastore, 1) := by decide +kernel
theorem dX2_add_52 : decode cX2_add 52 = .ok (.aload_n 0, 1) := by decide +kernel
theorem dX2_add_53 : decode cX2_add 53 = .ok (.dup, 1) := by decide +kernel
theorem dX2_add_54 : decode cX2_add 54 = .ok (.getfield 24, 3) := by decide +kernel
theorem dX2_add_57 : decode cX2_add 57 = .ok (.iconst 1, 1) := by decide +kernel
theorem dX2_add_58 : decode cX2_add 58 = .ok (.iadd, 1) := by decide +kernel
theorem dX2_add_59 : decode cX2_add 59 = .ok (.putfield 24, 3) := by decide +kernel
theorem dX2_add_62 : decode cX2_add 62 = .ok (.iconst 1, 1) := by decide +kernel
theorem dX2_add_63 : decode cX2_add 63 = .ok (.ireturn, 1) := by decide +kernel
set_option maxRecDepth 20000 in
theorem ggX2_remove_X2_has : GoodIn wsX2_remove wsX2_has := goodIn_r _ [10, 1, 11, 12, 13, 14, 15] (by decide +kernel) (by decide +kernel)
set_option maxRecDepth 20000 in
theorem gX2_remove_X2_has : GoodIn wsX2_remove (wsV RX2 28 RX2 yX2_has wsX2_has) := goodIn_app (goodIn_of _ (by decide +kernel)) ggX2_remove_X2_has
theorem dX2_remove_0 : decode cX2_remove 0 = .ok (.aload_n 0, 1) := by decide +kernel
theorem dX2_remove_1 : decode cX2_remove 1 = .ok (.iload_n 1, 1) := by decide +kernel
theorem dX2_remove_2 : decode cX2_remove 2 = .ok (.invokevirtual 28, 3) := by decide +kernel
theorem dX2_remove_5 : decode cX2_remove 5 = .ok (.ifCond .ne 5, 3) := by decide +kernel
theorem dX2_remove_8 : decode cX2_remove 8 = .ok (.iconst 0, 1) := by decide +kernel
theorem dX2_remove_9 : decode cX2_remove 9 = .ok (.ireturn, 1) := by decide +kernel
theorem dX2_remove_10 : decode cX2_remove 10 = .ok (.aload_n 0, 1) := by decide +kernel
theorem dX2_remove_11 : decode cX2_remove 11 = .ok (.dup, 1) := by decide +kernel
theorem dX2_remove_12 : decode cX2_remove 12 = .ok (.getfield 24, 3) := by decide +kernel
theorem dX2_remove_15 : decode cX2_remove 15 = .ok (.iconst 1, 1) := by decide +kernel
theorem dX2_remove_16 : decode cX2_remove 16 = .ok (.isub, 1) := by decide +kernel
theorem dX2_remove_17 : decode cX2_remove 17 = .ok (.putfield 24, 3) := by decide +kernel
theorem dX2_remove_20 : decode cX2_remove 20 = .ok (.iload_n 1, 1) := by decide +kernel
theorem dX2_remove_21 : decode cX2_remove 21 = .ok (.istore_n 2, 1) := by decide +kernel
theorem dX2_remove_22 : decode cX2_remove 22 = .ok (.iload_n 2, 1) := by decide +kernel
theorem dX2_remove_23 : decode cX2_remove 23 = .ok (.aload_n 0, 1) := by decide +kernel
theorem dX2_remove_24 : decode cX2_remove 24 = .ok (.getfield 24, 3) := by decide +kernel
theorem dX2_remove_27 : decode cX2_remove 27 = .ok (.if_icmp .ge 65, 3) := by decide +kernel
theorem dX2_remove_30 : decode cX2_remove 30 = .ok (.aload_n 0, 1) := by decide +kernel
theorem dX2_remove_31 : decode cX2_remove 31 = .ok (.getfield 9, 3) := by decide +kernel
theorem dX2_remove_34 : decode cX2_remove 34 = .ok (.iload_n 2, 1) := by decide +kernel
theorem dX2_remove_35 : decode cX2_remove 35 = .ok (.aload_n 0, 1) := by decide +kernel
theorem dX2_remove_36 : decode cX2_remove 36 = .ok (.getfield 9, 3) := by decide +kernel
theorem dX2_remove_39 : decode cX2_remove 39 = .ok (.iload_n 2, 1) := by decide +kernel
theorem dX2_remove_40 : decode cX2_remove 40 = .ok (.iconst 1, 1) := by decide +kernel
theorem dX2_remove_41 : decode cX2_remove 41 = .ok (.iadd, 1) := by decide +kernel
theorem dX2_remove_42 : decode cX2_remove 42 = .ok (.iaload, 1) := by decide +kernel
theorem dX2_remove_43 : decode cX2_remove 43 = .ok (.iastore, 1) := by decide +kernel
theorem dX2_remove_44 : decode cX2_remove 44 = .ok (.aload_n 0, 1) := by decide +kernel
theorem dX2_remove_45 : decode cX2_remove 45 = .ok (.getfield 15, 3) := by decide +kernel
theorem dX2_remove_48 : decode cX2_remove 48 = .ok (.iload_n 2, 1) := by decide +kernel
theorem dX2_remove_49 : decode cX2_remove 49 = .ok (.aload_n 0, 1) := by decide +kernel
theorem dX2_remove_50 : decode cX2_remove 50 = .ok (.getfield 15, 3) := by decide +kernel
theorem dX2_remove_53 : decode cX2_remove 53 = .ok (.iload_n 2, 1) := by decide +kernel
theorem dX2_remove_54 : decode cX2_remove 54 = .ok (.iconst 1, 1) := by decide +kernel
theorem dX2_remove_55 : decode cX2_remove 55 = .ok (.iadd, 1) := by decide +kernel
theorem dX2_remove_56 : decode cX2_remove 56 = .ok (.iaload, 1) := by decide +kernel
theorem dX2_remove_57 : decode cX2_remove 57 = .ok (.iastore, 1) := by decide +kernel
theorem dX2_remove_58 : decode cX2_remove 58 = .ok (.aload_n 0, 1) := by decide +kernel
theorem dX2_remove_59 : decode cX2_remove 59 = .ok (.getfield 18, 3) := by decide +kernel
theorem dX2_remove_62 : decode cX2_remove 62 = .ok (.iload_n 2, 1) := by decide +kernel
theorem dX2_remove_63 : decode cX2_remove 63 = .ok (.aload_n 0, 1) := by decide +kernel
theorem dX2_remove_64 : decode cX2_remove 64 = .ok (.getfield 18, 3) := by decide +kernel
theorem dX2_remove_67 : decode cX2_remove 67 = .ok (.iload_n 2, 1) := by decide +kernel
theorem dX2_remove_68 : decode cX2_remove 68 = .ok (.iconst 1, 1) := by decide +kernel
theorem dX2_remove_69 : decode cX2_remove 69 = .ok (.iadd, 1) := by decide +kernel
theorem dX2_remove_70 : decode cX2_remove 70 = .ok (.iaload, 1) := by decide +kernel
theorem dX2_remove_71 : decode cX2_remove 71 = .ok (.iastore, 1) := by decide +kernel
theorem dX2_remove_72 : decode cX2_remove 72 = .ok (.aload_n 0, 1) := by decide +kernel
theorem dX2_remove_73 : decode cX2_remove 73 = .ok (.getfield 21, 3) := by decide +kernel
theorem dX2_remove_76 : decode cX2_remove 76 = .ok (.iload_n 2, 1) := by decide +kernel
theorem dX2_remove_77 : decode cX2_remove 77 = .ok (.aload_n 0, 1) := by decide +kernel
theorem dX2_remove_78 : decode cX2_remove 78 = .ok (.getfield 21, 3) := by decide +kernel
theorem dX2_remove_81 : decode cX2_remove 81 = .ok (.iload_n 2, 1) := by decide +kernel
theorem dX2_remove_82 : decode cX2_remove 82 = .ok (.iconst 1, 1) := by decide +kernel
theorem dX2_remove_83 : decode cX2_remove 83 = .ok (.iadd, 1) := by decide +kernel
theorem dX2_remove_84 : decode cX2_remove 84 = .ok (.iaload, 1) := by decide +kernel
theorem dX2_remove_85 : decode cX2_remove 85 = .ok (.iastore, 1) := by decide +kernel
theorem dX2_remove_86 : decode cX2_remove 86 = .ok (.iinc 2 1, 3) := by decide +kernel
theorem dX2_remove_89 : decode cX2_remove 89 = .ok (.goto (-67), 3) := by decide +kernel
theorem dX2_remove_92 : decode cX2_remove 92 = .ok (.iconst 1, 1) := by decide +kernel
theorem dX2_remove_93 : decode cX2_remove 93 = .ok (.ireturn, 1) := by decide +kernel
theorem dX2_placeOf_0 : decode cX2_placeOf 0 = .ok (.iconst 0, 1) := by decide +kernel
theorem dX2_placeOf_1 : decode cX2_placeOf 1 = .ok (.istore_n 2, 1) := by decide +kernel
theorem dX2_placeOf_2 : decode cX2_placeOf 2 = .ok (.iload_n 2, 1) := by decide +kernel
theorem dX2_placeOf_3 : decode cX2_placeOf 3 = .ok (.aload_n 0, 1) := by decide +kernel
theorem dX2_placeOf_4 : decode cX2_placeOf 4 = .ok (.getfield 24, 3) := by decide +kernel
theorem dX2_placeOf_7 : decode cX2_placeOf 7 = .ok (.if_icmp .ge 21, 3) := by decide +kernel
theorem dX2_placeOf_10 : decode cX2_placeOf 10 = .ok (.aload_n 0, 1) := by decide +kernel
theorem dX2_placeOf_11 : decode cX2_placeOf 11 = .ok (.getfield 21, 3) := by decide +kernel
theorem dX2_placeOf_14 : decode cX2_placeOf 14 = .ok (.iload_n 2, 1) := by decide +kernel
theorem dX2_placeOf_15 : decode cX2_placeOf 15 = .ok (.iaload, 1) := by decide +kernel
theorem dX2_placeOf_16 : decode cX2_placeOf 16 = .ok (.iload_n 1, 1) := by decide +kernel
theorem dX2_placeOf_17 : decode cX2_placeOf 17 = .ok (.if_icmp .ne 5, 3) := by decide +kernel
theorem dX2_placeOf_20 : decode cX2_placeOf 20 = .ok (.iload_n 2, 1) := by decide +kernel
theorem dX2_placeOf_21 : decode cX2_placeOf 21 = .ok (.ireturn, 1) := by decide +kernel
theorem dX2_placeOf_22 : decode cX2_placeOf 22 = .ok (.iinc 2 1, 3) := by decide +kernel
theorem dX2_placeOf_25 : decode cX2_placeOf 25 = .ok (.goto (-23), 3) := by decide +kernel
theorem dX2_placeOf_28 : decode cX2_placeOf 28 = .ok (.iconst (-1), 1) := by decide +kernel
theorem dX2_placeOf_29 : decode cX2_placeOf 29 = .ok (.ireturn, 1) := by decide +kernel
theorem dX2_firstOf_0 : decode cX2_firstOf 0 = .ok (.iconst 0, 1) := by decide +kernel
theorem dX2_firstOf_1 : decode cX2_firstOf 1 = .ok (.istore_n 2, 1) := by decide +kernel
theorem dX2_firstOf_2 : decode cX2_firstOf 2 = .ok (.iload_n 2, 1) := by decide +kernel
theorem dX2_firstOf_3 : decode cX2_firstOf 3 = .ok (.aload_n 0, 1) := by decide +kernel
theorem dX2_firstOf_4 : decode cX2_firstOf 4 = .ok (.getfield 24, 3) := by decide +kernel
theorem dX2_firstOf_7 : decode cX2_firstOf 7 = .ok (.if_icmp .ge 21, 3) := by decide +kernel
theorem dX2_firstOf_10 : decode cX2_firstOf 10 = .ok (.aload_n 0, 1) := by decide +kernel
theorem dX2_firstOf_11 : decode cX2_firstOf 11 = .ok (.getfield 9, 3) := by decide +kernel
theorem dX2_firstOf_14 : decode cX2_firstOf 14 = .ok (.iload_n 2, 1) := by decide +kernel
theorem dX2_firstOf_15 : decode cX2_firstOf 15 = .ok (.iaload, 1) := by decide +kernel
theorem dX2_firstOf_16 : decode cX2_firstOf 16 = .ok (.iload_n 1, 1) := by decide +kernel
theorem dX2_firstOf_17 : decode cX2_firstOf 17 = .ok (.if_icmp .ne 5, 3) := by decide +kernel
theorem dX2_firstOf_20 : decode cX2_firstOf 20 = .ok (.iload_n 2, 1) := by decide +kernel
theorem dX2_firstOf_21 : decode cX2_firstOf 21 = .ok (.ireturn, 1) := by decide +kernel
theorem dX2_firstOf_22 : decode cX2_firstOf 22 = .ok (.iinc 2 1, 3) := by decide +kernel
theorem dX2_firstOf_25 : decode cX2_firstOf 25 = .ok (.goto (-23), 3) := by decide +kernel
theorem dX2_firstOf_28 : decode cX2_firstOf 28 = .ok (.iconst (-1), 1) := by decide +kernel
theorem dX2_firstOf_29 : decode cX2_firstOf 29 = .ok (.ireturn, 1) := by decide +kernel
theorem dX3_init_0 : decode cX3_init 0 = .ok (.aload_n 0, 1) := by decide +kernel
theorem dX3_init_1 : decode cX3_init 1 = .ok (.invokespecial 3, 3) := by decide +kernel
theorem dX3_init_4 : decode cX3_init 4 = .ok (.aload_n 0, 1) := by decide +kernel
theorem dX3_init_5 : decode cX3_init 5 = .ok (.bipush 10, 2) := by decide +kernel
theorem dX3_init_7 : decode cX3_init 7 = .ok (.newarray .int, 2) := by decide +kernel
theorem dX3_init_9 : decode cX3_init 9 = .ok (.putfield 9, 3) := by decide +kernel
theorem dX3_init_12 : decode cX3_init 12 = .ok (.aload_n 0, 1) := by decide +kernel
theorem dX3_init_13 : decode cX3_init 13 = .ok (.bipush 10, 2) := by decide +kernel
theorem dX3_init_15 : decode cX3_init 15 = .ok (.newarray .int, 2) := by decide +kernel
theorem dX3_init_17 : decode cX3_init 17 = .ok (.putfield 15, 3) := by decide +kernel
theorem dX3_init_20 : decode cX3_init 20 = .ok (.aload_n 0, 1) := by decide +kernel
theorem dX3_init_21 : decode cX3_init 21 = .ok (.bipush 10, 2) := by decide +kernel
theorem dX3_init_23 : decode cX3_init 23 = .ok (.newarray .int, 2) := by decide +kernel
theorem dX3_init_25 : decode cX3_init 25 = .ok (.putfield 18, 3) := by decide +kernel
theorem dX3_init_28 : decode cX3_init 28 = .ok (.aload_n 0, 1) := by decide +kernel
theorem dX3_init_29 : decode cX3_init 29 = .ok (.bipush 10, 2) := by decide +kernel
theorem dX3_init_31 : decode cX3_init 31 = .ok (.newarray .int, 2) := by decide +kernel
theorem dX3_init_33 : decode cX3_init 33 = .ok (.putfield 21, 3) := by decide +kernel
theorem dX3_init_36 : decode cX3_init 36 = .ok (.aload_n 0, 1) := by decide +kernel
theorem dX3_init_37 : decode cX3_init 37 = .ok (.bipush 10, 2) := by decide +kernel
theorem dX3_init_39 : decode cX3_init 39 = .ok (.newarray .int, 2) := by decide +kernel
theorem dX3_init_41 : decode cX3_init 41 = .ok (.putfield 24, 3) := by decide +kernel
theorem dX3_init_44 : decode cX3_init 44 = .ok (.return_, 1) := by decide +kernel
set_option maxRecDepth 20000 in
theorem ggX3_find_X3_goThrough : GoodIn wsX3_find wsX3_goThrough := goodIn_r _ [11, 1, 12, 5, 13, 6, 2, 14, 15, 16, 17, 18, 19, 20, 10, 21, 22, 23, 3, 24, 25, 26, 27, 4, 28, 29, 30, 31, 32, 33, 34, 35, 36, 37] (by decide +kernel) (by decide +kernel)
set_option maxRecDepth 20000 in
theorem gX3_find_X3_goThrough : GoodIn wsX3_find (wsV RX3 39 RX3 yX3_goThrough wsX3_goThrough) := goodIn_app (goodIn_of _ (by decide +kernel)) ggX3_find_X3_goThrough
theorem dX3_find_0 : decode cX3_find 0 = .ok (.iconst 0, 1) := by decide +kernel
theorem dX3_find_1 : decode cX3_find 1 = .ok (.istore_n 3, 1) := by decide +kernel
theorem dX3_find_2 : decode cX3_find 2 = .ok (.iload_n 3, 1) := by decide +kernel
theorem dX3_find_3 : decode cX3_find 3 = .ok (.aload_n 1, 1) := by decide +kernel
theorem dX3_find_4 : decode cX3_find 4 = .ok (.getfield 27, 3) := by decide +kernel
theorem dX3_find_7 : decode cX3_find 7 = .ok (.if_icmp .ge 81, 3) := by decide +kernel
theorem dX3_find_10 : decode cX3_find 10 = .ok (.aload_n 1, 1) := by decide +kernel
theorem dX3_find_11 : decode cX3_find 11 = .ok (.getfield 33, 3) := by decide +kernel
theorem dX3_find_14 : decode cX3_find 14 = .ok (.iload_n 3, 1) := by decide +kernel
theorem dX3_find_15 : decode cX3_find 15 = .ok (.iaload, 1) := by decide +kernel
theorem dX3_find_16 : decode cX3_find 16 = .ok (.istore 4, 2) := by decide +kernel
theorem dX3_find_18 : decode cX3_find 18 = .ok (.aload_n 0, 1) := by decide +kernel
theorem dX3_find_19 : decode cX3_find 19 = .ok (.getfield 9, 3) := by decide +kernel
theorem dX3_find_22 : decode cX3_find 22 = .ok (.iload_n 3, 1) := by decide +kernel
theorem dX3_find_23 : decode cX3_find 23 = .ok (.aload_n 1, 1) := by decide +kernel
theorem dX3_find_24 : decode cX3_find 24 = .ok (.getfield 36, 3) := by decide +kernel
theorem dX3_find_27 : decode cX3_find 27 = .ok (.iload_n 3, 1) := by decide +kernel
theorem dX3_find_28 : decode cX3_find 28 = .ok (.iaload, 1) := by decide +kernel
theorem dX3_find_29 : decode cX3_find 29 = .ok (.iastore, 1) := by decide +kernel
theorem dX3_find_30 : decode cX3_find 30 = .ok (.aload_n 0, 1) := by decide +kernel
theorem dX3_find_31 : decode cX3_find 31 = .ok (.getfield 15, 3) := by decide +kernel
theorem dX3_find_34 : decode cX3_find 34 = .ok (.iload_n 3, 1) := by decide +kernel
theorem dX3_find_35 : decode cX3_find 35 = .ok (.iload 4, 2) := by decide +kernel
theorem dX3_find_37 : decode cX3_find 37 = .ok (.ifCond .ne 7, 3) := by decide +kernel
theorem dX3_find_40 : decode cX3_find 40 = .ok (.iconst 1, 1) := by decide +kernel
theorem dX3_find_41 : decode cX3_find 41 = .ok (.goto 14, 3) := by decide +kernel
theorem dX3_find_44 : decode cX3_find 44 = .ok (.iload 4, 2) := by decide +kernel
theorem dX3_find_46 : decode cX3_find 46 = .ok (.iconst 1, 1) := by decide +kernel
theorem dX3_find_47 : decode cX3_find 47 = .ok (.if_icmp .ne 7, 3) := by decide +kernel
theorem dX3_find_50 : decode cX3_find 50 = .ok (.iconst 2, 1) := by decide +kernel
theorem dX3_find_51 : decode cX3_find 51 = .ok (.goto 4, 3) := by decide +kernel
theorem dX3_find_54 : decode cX3_find 54 = .ok (.iconst 4, 1) := by decide +kernel
theorem dX3_find_55 : decode cX3_find 55 = .ok (.iastore, 1) := by decide +kernel
theorem dX3_find_56 : decode cX3_find 56 = .ok (.aload_n 0, 1) := by decide +kernel
theorem dX3_find_57 : decode cX3_find 57 = .ok (.getfield 18, 3) := by decide +kernel
theorem dX3_find_60 : decode cX3_find 60 = .ok (.iload_n 3, 1) := by decide +kernel
theorem dX3_find_61 : decode cX3_find 61 = .ok (.iload 4, 2) := by decide +kernel
theorem dX3_find_63 : decode cX3_find 63 = .ok (.ifCond .ne 7, 3) := by decide +kernel
theorem dX3_find_66 : decode cX3_find 66 = .ok (.iconst 2, 1) := by decide +kernel
theorem dX3_find_67 : decode cX3_find 67 = .ok (.goto 14, 3) := by decide +kernel
theorem dX3_find_70 : decode cX3_find 70 = .ok (.iload 4, 2) := by decide +kernel
theorem dX3_find_72 : decode cX3_find 72 = .ok (.iconst 1, 1) := by decide +kernel
theorem dX3_find_73 : decode cX3_find 73 = .ok (.if_icmp .ne 7, 3) := by decide +kernel
theorem dX3_find_76 : decode cX3_find 76 = .ok (.iconst 1, 1) := by decide +kernel
theorem dX3_find_77 : decode cX3_find 77 = .ok (.goto 4, 3) := by decide +kernel
theorem dX3_find_80 : decode cX3_find 80 = .ok (.iconst 0, 1) := by decide +kernel
theorem dX3_find_81 : decode cX3_find 81 = .ok (.iastore, 1) := by decide +kernel
theorem dX3_find_82 : decode cX3_find 82 = .ok (.iinc 3 1, 3) := by decide +kernel
theorem dX3_find_85 : decode cX3_find 85 = .ok (.goto (-83), 3) := by decide +kernel
theorem dX3_find_88 : decode cX3_find 88 = .ok (.iconst 1, 1) := by decide +kernel
theorem dX3_find_89 : decode cX3_find 89 = .ok (.istore_n 3, 1) := by decide +kernel
theorem dX3_find_90 : decode cX3_find 90 = .ok (.iload_n 3, 1) := by decide +kernel
theorem dX3_find_91 : decode cX3_find 91 = .ok (.iload_n 2, 1) := by decide +kernel
theorem dX3_find_92 : decode cX3_find 92 = .ok (.if_icmp .gt 15, 3) := by decide +kernel
theorem dX3_find_95 : decode cX3_find 95 = .ok (.aload_n 0, 1) := by decide +kernel
theorem dX3_find_96 : decode cX3_find 96 = .ok (.aload_n 1, 1) := by decide +kernel
theorem dX3_find_97 : decode cX3_find 97 = .ok (.iload_n 3, 1) := by decide +kernel
theorem dX3_find_98 : decode cX3_find 98 = .ok (.invokevirtual 39, 3) := by decide +kernel
theorem dX3_find_101 : decode cX3_find 101 = .ok (.iinc 3 1, 3) := by decide +kernel
theorem dX3_find_104 : decode cX3_find 104 = .ok (.goto (-14), 3) := by decide +kernel
theorem dX3_find_107 : decode cX3_find 107 = .ok (.return_, 1) := by decide +kernel
set_option maxRecDepth 20000 in
theorem ggX3_goThrough_X4_layerOf : GoodIn wsX3_goThrough wsX4_layerOf := goodIn_r _ [9, 10] (by decide +kernel) (by decide +kernel)
set_option maxRecDepth 20000 in
theorem gX3_goThrough_X4_layerOf_n43 : GoodIn wsX3_goThrough (wsX4_layerOf) := ggX3_goThrough_X4_layerOf
set_option maxRecDepth 20000 in
theorem ggX3_goThrough_X3_takes : GoodIn wsX3_goThrough wsX3_takes := goodIn_r _ [15, 2, 6, 16, 17, 18, 4, 29, 30, 31, 32, 33, 24, 25, 26, 27, 28] (by decide +kernel) (by decide +kernel)
set_option maxRecDepth 20000 in
theorem gX3_goThrough_X3_takes : GoodIn wsX3_goThrough (wsV RX3 47 RX3 yX3_takes wsX3_takes) := goodIn_app (goodIn_of _ (by decide +kernel)) ggX3_goThrough_X3_takes
set_option maxRecDepth 20000 in
theorem ggX3_goThrough_X3_change : GoodIn wsX3_goThrough wsX3_change := goodIn_r _ [22, 6, 18, 23, 3, 5, 24, 25, 26, 27, 28, 29, 30, 31, 32, 33] (by decide +kernel) (by decide +kernel)
set_option maxRecDepth 20000 in
theorem gX3_goThrough_X3_change : GoodIn wsX3_goThrough (wsV RX3 51 RX3 yX3_change wsX3_change) := goodIn_app (goodIn_of _ (by decide +kernel)) ggX3_goThrough_X3_change
theorem dX3_goThrough_0 : decode cX3_goThrough 0 = .ok (.iconst 0, 1) := by decide +kernel
theorem dX3_goThrough_1 : decode cX3_goThrough 1 = .ok (.istore_n 3, 1) := by decide +kernel
theorem dX3_goThrough_2 : decode cX3_goThrough 2 = .ok (.iload_n 3, 1) := by decide +kernel
theorem dX3_goThrough_3 : decode cX3_goThrough 3 = .ok (.aload_n 1, 1) := by decide +kernel
theorem dX3_goThrough_4 : decode cX3_goThrough 4 = .ok (.getfield 27, 3) := by decide +kernel
theorem dX3_goThrough_7 : decode cX3_goThrough 7 = .ok (.if_icmp .ge 33, 3) := by decide +kernel
theorem dX3_goThrough_10 : decode cX3_goThrough 10 = .ok (.aload_n 0, 1) := by decide +kernel
theorem dX3_goThrough_11 : decode cX3_goThrough 11 = .ok (.getfield 21, 3) := by decide +kernel
theorem dX3_goThrough_14 : decode cX3_goThrough 14 = .ok (.iload_n 3, 1) := by decide +kernel
theorem dX3_goThrough_15 : decode cX3_goThrough 15 = .ok (.aload_n 0, 1) := by decide +kernel
theorem dX3_goThrough_16 : decode cX3_goThrough 16 = .ok (.getfield 15, 3) := by decide +kernel
theorem dX3_goThrough_19 : decode cX3_goThrough 19 = .ok (.iload_n 3, 1) := by decide +kernel
theorem dX3_goThrough_20 : decode cX3_goThrough 20 = .ok (.iaload, 1) := by decide +kernel
theorem dX3_goThrough_21 : decode cX3_goThrough 21 = .ok (.iastore, 1) := by decide +kernel
theorem dX3_goThrough_22 : decode cX3_goThrough 22 = .ok (.aload_n 0, 1) := by decide +kernel
theorem dX3_goThrough_23 : decode cX3_goThrough 23 = .ok (.getfield 24, 3) := by decide +kernel
theorem dX3_goThrough_26 : decode cX3_goThrough 26 = .ok (.iload_n 3, 1) := by decide +kernel
theorem dX3_goThrough_27 : decode cX3_goThrough 27 = .ok (.aload_n 0, 1) := by decide +kernel
theorem dX3_goThrough_28 : decode cX3_goThrough 28 = .ok (.getfield 18, 3) := by decide +kernel
theorem dX3_goThrough_31 : decode cX3_goThrough 31 = .ok (.iload_n 3, 1) := by decide +kernel
theorem dX3_goThrough_32 : decode cX3_goThrough 32 = .ok (.iaload, 1) := by decide +kernel
theorem dX3_goThrough_33 : decode cX3_goThrough 33 = .ok (.iastore, 1) := by decide +kernel
theorem dX3_goThrough_34 : decode cX3_goThrough 34 = .ok (.iinc 3 1, 3) := by decide +kernel
theorem dX3_goThrough_37 : decode cX3_goThrough 37 = .ok (.goto (-35), 3) := by decide +kernel
theorem dX3_goThrough_40 : decode cX3_goThrough 40 = .ok (.iconst 0, 1) := by decide +kernel
theorem dX3_goThrough_41 : decode cX3_goThrough 41 = .ok (.istore_n 3, 1) := by decide +kernel
theorem dX3_goThrough_42 : decode cX3_goThrough 42 = .ok (.iload_n 3, 1) := by decide +kernel
theorem dX3_goThrough_43 : decode cX3_goThrough 43 = .ok (.aload_n 1, 1) := by decide +kernel
theorem dX3_goThrough_44 : decode cX3_goThrough 44 = .ok (.getfield 27, 3) := by decide +kernel
theorem dX3_goThrough_47 : decode cX3_goThrough 47 = .ok (.if_icmp .ge 71, 3) := by decide +kernel
theorem dX3_goThrough_50 : decode cX3_goThrough 50 = .ok (.aload_n 1, 1) := by decide +kernel
theorem dX3_goThrough_51 : decode cX3_goThrough 51 = .ok (.getfield 33, 3) := by decide +kernel
theorem dX3_goThrough_54 : decode cX3_goThrough 54 = .ok (.iload_n 3, 1) := by decide +kernel
theorem dX3_goThrough_55 : decode cX3_goThrough 55 = .ok (.iaload, 1) := by decide +kernel
theorem dX3_goThrough_56 : decode cX3_goThrough 56 = .ok (.invokestatic 43, 3) := by decide +kernel
theorem dX3_goThrough_59 : decode cX3_goThrough 59 = .ok (.iload_n 2, 1) := by decide +kernel
theorem dX3_goThrough_60 : decode cX3_goThrough 60 = .ok (.if_icmp .ne 7, 3) := by decide +kernel
theorem dX3_goThrough_63 : decode cX3_goThrough 63 = .ok (.iconst 1, 1) := by decide +kernel
theorem dX3_goThrough_64 : decode cX3_goThrough 64 = .ok (.goto 4, 3) := by decide +kernel
theorem dX3_goThrough_67 : decode cX3_goThrough 67 = .ok (.iconst 0, 1) := by decide +kernel
theorem dX3_goThrough_68 : decode cX3_goThrough 68 = .ok (.istore 4, 2) := by decide +kernel
theorem dX3_goThrough_70 : decode cX3_goThrough 70 = .ok (.iconst 0, 1) := by decide +kernel
theorem dX3_goThrough_71 : decode cX3_goThrough 71 = .ok (.istore 5, 2) := by decide +kernel
theorem dX3_goThrough_73 : decode cX3_goThrough 73 = .ok (.iload 4, 2) := by decide +kernel
theorem dX3_goThrough_75 : decode cX3_goThrough 75 = .ok (.ifCond .eq 37, 3) := by decide +kernel
theorem dX3_goThrough_78 : decode cX3_goThrough 78 = .ok (.iload 5, 2) := by decide +kernel
theorem dX3_goThrough_80 : decode cX3_goThrough 80 = .ok (.aload_n 1, 1) := by decide +kernel
theorem dX3_goThrough_81 : decode cX3_goThrough 81 = .ok (.getfield 27, 3) := by decide +kernel
theorem dX3_goThrough_84 : decode cX3_goThrough 84 = .ok (.if_icmp .ge 28, 3) := by decide +kernel
theorem dX3_goThrough_87 : decode cX3_goThrough 87 = .ok (.aload_n 0, 1) := by decide +kernel
theorem dX3_goThrough_88 : decode cX3_goThrough 88 = .ok (.aload_n 1, 1) := by decide +kernel
theorem dX3_goThrough_89 : decode cX3_goThrough 89 = .ok (.iload_n 3, 1) := by decide +kernel
theorem dX3_goThrough_90 : decode cX3_goThrough 90 = .ok (.iload 5, 2) := by decide +kernel
theorem dX3_goThrough_92 : decode cX3_goThrough 92 = .ok (.invokevirtual 47, 3) := by decide +kernel
theorem dX3_goThrough_95 : decode cX3_goThrough 95 = .ok (.ifCond .eq 11, 3) := by decide +kernel
theorem dX3_goThrough_98 : decode cX3_goThrough 98 = .ok (.aload_n 0, 1) := by decide +kernel
theorem dX3_goThrough_99 : decode cX3_goThrough 99 = .ok (.aload_n 1, 1) := by decide +kernel
theorem dX3_goThrough_100 : decode cX3_goThrough 100 = .ok (.iload_n 3, 1) := by decide +kernel
theorem dX3_goThrough_101 : decode cX3_goThrough 101 = .ok (.iload 5, 2) := by decide +kernel
theorem dX3_goThrough_103 : decode cX3_goThrough 103 = .ok (.invokevirtual 51, 3) := by decide +kernel
theorem dX3_goThrough_106 : decode cX3_goThrough 106 = .ok (.iinc 5 1, 3) := by decide +kernel
theorem dX3_goThrough_109 : decode cX3_goThrough 109 = .ok (.goto (-36), 3) := by decide +kernel
theorem dX3_goThrough_112 : decode cX3_goThrough 112 = .ok (.iinc 3 1, 3) := by decide +kernel
theorem dX3_goThrough_115 : decode cX3_goThrough 115 = .ok (.goto (-73), 3) := by decide +kernel
theorem dX3_goThrough_118 : decode cX3_goThrough 118 = .ok (.return_, 1) := by decide +kernel
theorem dX3_takes_0 : decode cX3_takes 0 = .ok (.aload_n 0, 1) := by decide +kernel
theorem dX3_takes_1 : decode cX3_takes 1 = .ok (.getfield 21, 3) := by decide +kernel
theorem dX3_takes_4 : decode cX3_takes 4 = .ok (.iload_n 3, 1) := by decide +kernel
theorem dX3_takes_5 : decode cX3_takes 5 = .ok (.iaload, 1) := by decide +kernel
theorem dX3_takes_6 : decode cX3_takes 6 = .ok (.iconst 1, 1) := by decide +kernel
theorem dX3_takes_7 : decode cX3_takes 7 = .ok (.iand, 1) := by decide +kernel
theorem dX3_takes_8 : decode cX3_takes 8 = .ok (.ifCond .eq 7, 3) := by decide +kernel
theorem dX3_takes_11 : decode cX3_takes 11 = .ok (.iconst 1, 1) := by decide +kernel
theorem dX3_takes_12 : decode cX3_takes 12 = .ok (.goto 4, 3) := by decide +kernel
theorem dX3_takes_15 : decode cX3_takes 15 = .ok (.iconst 0, 1) := by decide +kernel
theorem dX3_takes_16 : decode cX3_takes 16 = .ok (.istore 4, 2) := by decide +kernel
theorem dX3_takes_18 : decode cX3_takes 18 = .ok (.aload_n 1, 1) := by decide +kernel
theorem dX3_takes_19 : decode cX3_takes 19 = .ok (.getfield 33, 3) := by decide +kernel
theorem dX3_takes_22 : decode cX3_takes 22 = .ok (.iload_n 2, 1) := by decide +kernel
theorem dX3_takes_23 : decode cX3_takes 23 = .ok (.iaload, 1) := by decide +kernel
theorem dX3_takes_24 : decode cX3_takes 24 = .ok (.tableswitch 129 2 8 #[82, 129, 129, 65, 129, 44, 108], 44) := by decide +kernel
theorem dX3_takes_68 : decode cX3_takes 68 = .ok (.aload_n 1, 1) := by decide +kernel
theorem dX3_takes_69 : decode cX3_takes 69 = .ok (.getfield 55, 3) := by decide +kernel
theorem dX3_takes_72 : decode cX3_takes 72 = .ok (.iload_n 3, 1) := by decide +kernel
theorem dX3_takes_73 : decode cX3_takes 73 = .ok (.iaload, 1) := by decide +kernel
theorem dX3_takes_74 : decode cX3_takes 74 = .ok (.aload_n 1, 1) := by decide +kernel
theorem dX3_takes_75 : decode cX3_takes 75 = .ok (.getfield 58, 3) := by decide +kernel
theorem dX3_takes_78 : decode cX3_takes 78 = .ok (.iload_n 2, 1) := by decide +kernel
theorem dX3_takes_79 : decode cX3_takes 79 = .ok (.iaload, 1) := by decide +kernel
theorem dX3_takes_80 : decode cX3_takes 80 = .ok (.if_icmp .ne 7, 3) := by decide +kernel
theorem dX3_takes_83 : decode cX3_takes 83 = .ok (.iconst 1, 1) := by decide +kernel
theorem dX3_takes_84 : decode cX3_takes 84 = .ok (.goto 4, 3) := by decide +kernel
theorem dX3_takes_87 : decode cX3_takes 87 = .ok (.iconst 0, 1) := by decide +kernel
theorem dX3_takes_88 : decode cX3_takes 88 = .ok (.ireturn, 1) := by decide +kernel
theorem dX3_takes_89 : decode cX3_takes 89 = .ok (.aload_n 0, 1) := by decide +kernel
theorem dX3_takes_90 : decode cX3_takes 90 = .ok (.getfield 21, 3) := by decide +kernel
theorem dX3_takes_93 : decode cX3_takes 93 = .ok (.iload_n 3, 1) := by decide +kernel
theorem dX3_takes_94 : decode cX3_takes 94 = .ok (.iaload, 1) := by decide +kernel
theorem dX3_takes_95 : decode cX3_takes 95 = .ok (.iconst 2, 1) := by decide +kernel
theorem dX3_takes_96 : decode cX3_takes 96 = .ok (.iand, 1) := by decide +kernel
theorem dX3_takes_97 : decode cX3_takes 97 = .ok (.ifCond .eq 7, 3) := by decide +kernel
theorem dX3_takes_100 : decode cX3_takes 100 = .ok (.iconst 1, 1) := by decide +kernel
theorem dX3_takes_101 : decode cX3_takes 101 = .ok (.goto 4, 3) := by decide +kernel
theorem dX3_takes_104 : decode cX3_takes 104 = .ok (.iconst 0, 1) := by decide +kernel
theorem dX3_takes_105 : decode cX3_takes 105 = .ok (.ireturn, 1) := by decide +kernel
theorem dX3_takes_106 : decode cX3_takes 106 = .ok (.iload 4, 2) := by decide +kernel
theorem dX3_takes_108 : decode cX3_takes 108 = .ok (.ifCond .eq 22, 3) := by decide +kernel
theorem dX3_takes_111 : decode cX3_takes 111 = .ok (.aload_n 0, 1) := by decide +kernel
theorem dX3_takes_112 : decode cX3_takes 112 = .ok (.getfield 9, 3) := by decide +kernel
theorem dX3_takes_115 : decode cX3_takes 115 = .ok (.iload_n 3, 1) := by decide +kernel
theorem dX3_takes_116 : decode cX3_takes 116 = .ok (.iaload, 1) := by decide +kernel
theorem dX3_takes_117 : decode cX3_takes 117 = .ok (.aload_n 0, 1) := by decide +kernel
theorem dX3_takes_118 : decode cX3_takes 118 = .ok (.getfield 9, 3) := by decide +kernel
theorem dX3_takes_121 : decode cX3_takes 121 = .ok (.iload_n 2, 1) := by decide +kernel
theorem dX3_takes_122 : decode cX3_takes 122 = .ok (.iaload, 1) := by decide +kernel
theorem dX3_takes_123 : decode cX3_takes 123 = .ok (.if_icmp .ne 7, 3) := by decide +kernel
theorem dX3_takes_126 : decode cX3_takes 126 = .ok (.iconst 1, 1) := by decide +kernel
theorem dX3_takes_127 : decode cX3_takes 127 = .ok (.goto 4, 3) := by decide +kernel
theorem dX3_takes_130 : decode cX3_takes 130 = .ok (.iconst 0, 1) := by decide +kernel
theorem dX3_takes_131 : decode cX3_takes 131 = .ok (.ireturn, 1) := by decide +kernel
theorem dX3_takes_132 : decode cX3_takes 132 = .ok (.iload 4, 2) := by decide +kernel
theorem dX3_takes_134 : decode cX3_takes 134 = .ok (.ifCond .eq 17, 3) := by decide +kernel
theorem dX3_takes_137 : decode cX3_takes 137 = .ok (.aload_n 0, 1) := by decide +kernel
theorem dX3_takes_138 : decode cX3_takes 138 = .ok (.getfield 24, 3) := by decide +kernel
theorem dX3_takes_141 : decode cX3_takes 141 = .ok (.iload_n 3, 1) := by decide +kernel
theorem dX3_takes_142 : decode cX3_takes 142 = .ok (.iaload, 1) := by decide +kernel
theorem dX3_takes_143 : decode cX3_takes 143 = .ok (.iconst 3, 1) := by decide +kernel
theorem dX3_takes_144 : decode cX3_takes 144 = .ok (.if_icmp .lt 7, 3) := by decide +kernel
theorem dX3_takes_147 : decode cX3_takes 147 = .ok (.iconst 1, 1) := by decide +kernel
theorem dX3_takes_148 : decode cX3_takes 148 = .ok (.goto 4, 3) := by decide +kernel
theorem dX3_takes_151 : decode cX3_takes 151 = .ok (.iconst 0, 1) := by decide +kernel
theorem dX3_takes_152 : decode cX3_takes 152 = .ok (.ireturn, 1) := by decide +kernel
theorem dX3_takes_153 : decode cX3_takes 153 = .ok (.iload 4, 2) := by decide +kernel
theorem dX3_takes_155 : decode cX3_takes 155 = .ok (.ireturn, 1) := by decide +kernel
theorem dX3_change_0 : decode cX3_change 0 = .ok (.aload_n 1, 1) := by decide +kernel
theorem dX3_change_1 : decode cX3_change 1 = .ok (.getfield 33, 3) := by decide +kernel
theorem dX3_change_4 : decode cX3_change 4 = .ok (.iload_n 2, 1) := by decide +kernel
theorem dX3_change_5 : decode cX3_change 5 = .ok (.iaload, 1) := by decide +kernel
theorem dX3_change_6 : decode cX3_change 6 = .ok (.tableswitch 136 2 8 #[110, 90, 100, 57, 70, 42, 123], 42) := by decide +kernel
theorem dX3_change_48 : decode cX3_change 48 = .ok (.aload_n 0, 1) := by decide +kernel
theorem dX3_change_49 : decode cX3_change 49 = .ok (.getfield 9, 3) := by decide +kernel
theorem dX3_change_52 : decode cX3_change 52 = .ok (.iload_n 3, 1) := by decide +kernel
theorem dX3_change_53 : decode cX3_change 53 = .ok (.aload_n 1, 1) := by decide +kernel
theorem dX3_change_54 : decode cX3_change 54 = .ok (.getfield 36, 3) := by decide +kernel
theorem dX3_change_57 : decode cX3_change 57 = .ok (.iload_n 2, 1) := by decide +kernel
theorem dX3_change_58 : decode cX3_change 58 = .ok (.iaload, 1) := by decide +kernel
theorem dX3_change_59 : decode cX3_change 59 = .ok (.iastore, 1) := by decide +kernel
theorem dX3_change_60 : decode cX3_change 60 = .ok (.goto 82, 3) := by decide +kernel
theorem dX3_change_63 : decode cX3_change 63 = .ok (.aload_n 0, 1) := by decide +kernel
theorem dX3_change_64 : decode cX3_change 64 = .ok (.getfield 15, 3) := by decide +kernel
theorem dX3_change_67 : decode cX3_change 67 = .ok (.iload_n 3, 1) := by decide +kernel
theorem dX3_change_68 : decode cX3_change 68 = .ok (.dup2, 1) := by decide +kernel
theorem dX3_change_69 : decode cX3_change 69 = .ok (.iaload, 1) := by decide +kernel
theorem dX3_change_70 : decode cX3_change 70 = .ok (.iconst 1, 1) := by decide +kernel
theorem dX3_change_71 : decode cX3_change 71 = .ok (.ior, 1) := by decide +kernel
theorem dX3_change_72 : decode cX3_change 72 = .ok (.iastore, 1) := by decide +kernel
theorem dX3_change_73 : decode cX3_change 73 = .ok (.goto 69, 3) := by decide +kernel
theorem dX3_change_76 : decode cX3_change 76 = .ok (.aload_n 0, 1) := by decide +kernel
theorem dX3_change_77 : decode cX3_change 77 = .ok (.getfield 15, 3) := by decide +kernel
theorem dX3_change_80 : decode cX3_change 80 = .ok (.iload_n 3, 1) := by decide +kernel
theorem dX3_change_81 : decode cX3_change 81 = .ok (.aload_n 0, 1) := by decide +kernel
theorem dX3_change_82 : decode cX3_change 82 = .ok (.getfield 15, 3) := by decide +kernel
theorem dX3_change_85 : decode cX3_change 85 = .ok (.iload_n 3, 1) := by decide +kernel
theorem dX3_change_86 : decode cX3_change 86 = .ok (.iaload, 1) := by decide +kernel
theorem dX3_change_87 : decode cX3_change 87 = .ok (.bipush (-2), 2) := by decide +kernel
theorem dX3_change_89 : decode cX3_change 89 = .ok (.iand, 1) := by decide +kernel
theorem dX3_change_90 : decode cX3_change 90 = .ok (.iconst 2, 1) := by decide +kernel
theorem dX3_change_91 : decode cX3_change 91 = .ok (.ior, 1) := by decide +kernel
theorem dX3_change_92 : decode cX3_change 92 = .ok (.iastore, 1) := by decide +kernel
theorem dX3_change_93 : decode cX3_change 93 = .ok (.goto 49, 3) := by decide +kernel
theorem dX3_change_96 : decode cX3_change 96 = .ok (.aload_n 0, 1) := by decide +kernel
theorem dX3_change_97 : decode cX3_change 97 = .ok (.getfield 18, 3) := by decide +kernel
theorem dX3_change_100 : decode cX3_change 100 = .ok (.iload_n 3, 1) := by decide +kernel
theorem dX3_change_101 : decode cX3_change 101 = .ok (.iconst 1, 1) := by decide +kernel
theorem dX3_change_102 : decode cX3_change 102 = .ok (.iastore, 1) := by decide +kernel
theorem dX3_change_103 : decode cX3_change 103 = .ok (.goto 39, 3) := by decide +kernel
theorem dX3_change_106 : decode cX3_change 106 = .ok (.aload_n 0, 1) := by decide +kernel
theorem dX3_change_107 : decode cX3_change 107 = .ok (.getfield 18, 3) := by decide +kernel
theorem dX3_change_110 : decode cX3_change 110 = .ok (.iload_n 3, 1) := by decide +kernel
theorem dX3_change_111 : decode cX3_change 111 = .ok (.iconst 4, 1) := by decide +kernel
theorem dX3_change_112 : decode cX3_change 112 = .ok (.iastore, 1) := by decide +kernel
theorem dX3_change_113 : decode cX3_change 113 = .ok (.goto 29, 3) := by decide +kernel
theorem dX3_change_116 : decode cX3_change 116 = .ok (.aload_n 0, 1) := by decide +kernel
theorem dX3_change_117 : decode cX3_change 117 = .ok (.getfield 18, 3) := by decide +kernel
theorem dX3_change_120 : decode cX3_change 120 = .ok (.iload_n 3, 1) := by decide +kernel
theorem dX3_change_121 : decode cX3_change 121 = .ok (.dup2, 1) := by decide +kernel
theorem dX3_change_122 : decode cX3_change 122 = .ok (.iaload, 1) := by decide +kernel
theorem dX3_change_123 : decode cX3_change 123 = .ok (.iconst 2, 1) := by decide +kernel
theorem dX3_change_124 : decode cX3_change 124 = .ok (.iadd, 1) := by decide +kernel
theorem dX3_change_125 : decode cX3_change 125 = .ok (.iastore, 1) := by decide +kernel
theorem dX3_change_126 : decode cX3_change 126 = .ok (.goto 16, 3) := by decide +kernel
theorem dX3_change_129 : decode cX3_change 129 = .ok (.aload_n 0, 1) := by decide +kernel
theorem dX3_change_130 : decode cX3_change 130 = .ok (.getfield 18, 3) := by decide +kernel
theorem dX3_change_133 : decode cX3_change 133 = .ok (.iload_n 3, 1) := by decide +kernel
theorem dX3_change_134 : decode cX3_change 134 = .ok (.dup2, 1) := by decide +kernel
theorem dX3_change_135 : decode cX3_change 135 = .ok (.iaload, 1) := by decide +kernel
theorem dX3_change_136 : decode cX3_change 136 = .ok (.iconst 2, 1) := by decide +kernel
theorem dX3_change_137 : decode cX3_change 137 = .ok (.imul, 1) := by decide +kernel
theorem dX3_change_138 : decode cX3_change 138 = .ok (.iastore, 1) := by decide +kernel
theorem dX3_change_139 : decode cX3_change 139 = .ok (.goto 3, 3) := by decide +kernel
theorem dX3_change_142 : decode cX3_change 142 = .ok (.return_, 1) := by decide +kernel
set_option maxRecDepth 20000 in
theorem ggX4_init_X2_init : GoodIn wsX4_init wsX2_init := goodIn_r _ [23, 24, 2, 3, 4, 25, 26, 27, 28, 63, 64, 65, 66, 67] (by decide +kernel) (by decide +kernel)
set_option maxRecDepth 20000 in
theorem gX4_init_X2_init_n15 : GoodIn wsX4_init (wsX2_init) := ggX4_init_X2_init
set_option maxRecDepth 20000 in
theorem ggX4_init_X0_init : GoodIn wsX4_init wsX0_init := goodIn_r _ [30, 31, 2, 3, 4, 32, 33, 34, 35, 36, 37, 68, 69, 70, 71, 72, 73] (by decide +kernel) (by decide +kernel)
set_option maxRecDepth 20000 in
theorem gX4_init_X0_init_n22 : GoodIn wsX4_init (wsX0_init) := ggX4_init_X0_init
set_option maxRecDepth 20000 in
theorem ggX4_init_X3_init : GoodIn wsX4_init wsX3_init := goodIn_r _ [39, 40, 2, 3, 4, 41, 42, 43, 44, 45, 74, 75, 76, 77, 78] (by decide +kernel) (by decide +kernel)
set_option maxRecDepth 20000 in
theorem gX4_init_X3_init_n29 : GoodIn wsX4_init (wsX3_init) := ggX4_init_X3_init
set_option maxRecDepth 20000 in
theorem ggX4_init_X1_init : GoodIn wsX4_init wsX1_init := goodIn_r _ [47, 48, 2, 3, 4, 49, 50, 51, 79, 80, 81, 82, 83] (by decide +kernel) (by decide +kernel)
set_option maxRecDepth 20000 in
theorem gX4_init_X1_init_n36 : GoodIn wsX4_init (wsX1_init) := ggX4_init_X1_init
theorem dX4_init_0 : decode cX4_init 0 = .ok (.aload_n 0, 1) := by decide +kernel
theorem dX4_init_1 : decode cX4_init 1 = .ok (.invokespecial 1, 3) := by decide +kernel
theorem dX4_init_4 : decode cX4_init 4 = .ok (.aload_n 0, 1) := by decide +kernel
theorem dX4_init_5 : decode cX4_init 5 = .ok (.iconst 3, 1) := by decide +kernel
theorem dX4_init_6 : decode cX4_init 6 = .ok (.newarray .int, 2) := by decide +kernel
theorem dX4_init_8 : decode cX4_init 8 = .ok (.putfield 9, 3) := by decide +kernel
theorem dX4_init_11 : decode cX4_init 11 = .ok (.iconst 0, 1) := by decide +kernel
theorem dX4_init_12 : decode cX4_init 12 = .ok (.istore_n 1, 1) := by decide +kernel
theorem dX4_init_13 : decode cX4_init 13 = .ok (.iload_n 1, 1) := by decide +kernel
theorem dX4_init_14 : decode cX4_init 14 = .ok (.iconst 3, 1) := by decide +kernel
theorem dX4_init_15 : decode cX4_init 15 = .ok (.if_icmp .ge 17, 3) := by decide +kernel
theorem dX4_init_18 : decode cX4_init 18 = .ok (.aload_n 0, 1) := by decide +kernel
theorem dX4_init_19 : decode cX4_init 19 = .ok (.getfield 9, 3) := by decide +kernel
theorem dX4_init_22 : decode cX4_init 22 = .ok (.iload_n 1, 1) := by decide +kernel
theorem dX4_init_23 : decode cX4_init 23 = .ok (.bipush 6, 2) := by decide +kernel
theorem dX4_init_25 : decode cX4_init 25 = .ok (.iastore, 1) := by decide +kernel
theorem dX4_init_26 : decode cX4_init 26 = .ok (.iinc 1 1, 3) := by decide +kernel
theorem dX4_init_29 : decode cX4_init 29 = .ok (.goto (-16), 3) := by decide +kernel
theorem dX4_init_32 : decode cX4_init 32 = .ok (.aload_n 0, 1) := by decide +kernel
theorem dX4_init_33 : decode cX4_init 33 = .ok (.new 13, 3) := by decide +kernel
theorem dX4_init_36 : decode cX4_init 36 = .ok (.dup, 1) := by decide +kernel
theorem dX4_init_37 : decode cX4_init 37 = .ok (.invokespecial 15, 3) := by decide +kernel
theorem dX4_init_40 : decode cX4_init 40 = .ok (.putfield 16, 3) := by decide +kernel
theorem dX4_init_43 : decode cX4_init 43 = .ok (.aload_n 0, 1) := by decide +kernel
theorem dX4_init_44 : decode cX4_init 44 = .ok (.new 20, 3) := by decide +kernel
theorem dX4_init_47 : decode cX4_init 47 = .ok (.dup, 1) := by decide +kernel
theorem dX4_init_48 : decode cX4_init 48 = .ok (.invokespecial 22, 3) := by decide +kernel
theorem dX4_init_51 : decode cX4_init 51 = .ok (.putfield 23, 3) := by decide +kernel
theorem dX4_init_54 : decode cX4_init 54 = .ok (.aload_n 0, 1) := by decide +kernel
theorem dX4_init_55 : decode cX4_init 55 = .ok (.new 27, 3) := by decide +kernel
theorem dX4_init_58 : decode cX4_init 58 = .ok (.dup, 1) := by decide +kernel
theorem dX4_init_59 : decode cX4_init 59 = .ok (.invokespecial 29, 3) := by decide +kernel
theorem dX4_init_62 : decode cX4_init 62 = .ok (.putfield 30, 3) := by decide +kernel
theorem dX4_init_65 : decode cX4_init 65 = .ok (.aload_n 0, 1) := by decide +kernel
theorem dX4_init_66 : decode cX4_init 66 = .ok (.new 34, 3) := by decide +kernel
theorem dX4_init_69 : decode cX4_init 69 = .ok (.dup, 1) := by decide +kernel
theorem dX4_init_70 : decode cX4_init 70 = .ok (.invokespecial 36, 3) := by decide +kernel
theorem dX4_init_73 : decode cX4_init 73 = .ok (.putfield 37, 3) := by decide +kernel
theorem dX4_init_76 : decode cX4_init 76 = .ok (.return_, 1) := by decide +kernel
set_option maxRecDepth 20000 in
theorem ggX4_play_X4_findObstacle : GoodIn wsX4_play wsX4_findObstacle := goodIn_r _ [14, 6, 9, 5, 15, 16, 17, 13, 18, 19, 20, 21, 22, 23, 24, 25, 26, 27, 28, 29, 30, 31, 32, 33, 34, 35, 36, 37, 38, 39, 40, 41, 42, 43, 44, 45, 46, 47, 48, 49, 50, 85, 86, 87, 88, 89, 90, 91, 92, 93, 94, 95, 96, 97, 98, 99, 100, 101, 102, 103, 104, 105, 106] (by decide +kernel) (by decide +kernel)
set_option maxRecDepth 20000 in
theorem gX4_play_X4_findObstacle : GoodIn wsX4_play (wsV RX4 48 RX4 yX4_findObstacle wsX4_findObstacle) := goodIn_app (goodIn_of _ (by decide +kernel)) ggX4_play_X4_findObstacle
set_option maxRecDepth 20000 in
theorem ggX4_play_X4_costOf : GoodIn wsX4_play wsX4_costOf := goodIn_r _ [26, 27] (by decide +kernel) (by decide +kernel)
set_option maxRecDepth 20000 in
theorem gX4_play_X4_costOf : GoodIn wsX4_play (va_wsS RX4 61 yX4_costOf wsX4_costOf) := goodIn_app (goodIn_of _ (by decide +kernel)) ggX4_play_X4_costOf
set_option maxRecDepth 20000 in
theorem ggX4_play_X4_pay : GoodIn wsX4_play wsX4_pay := goodIn_r _ [54, 23, 85, 86, 87, 88, 89, 90, 91, 92, 93, 94, 95] (by decide +kernel) (by decide +kernel)
set_option maxRecDepth 20000 in
theorem gX4_play_X4_pay : GoodIn wsX4_play (wsV RX4 65 RX4 yX4_pay wsX4_pay) := goodIn_app (goodIn_of _ (by decide +kernel)) ggX4_play_X4_pay
set_option maxRecDepth 20000 in
theorem ggX4_play_X4_targetId : GoodIn wsX4_play wsX4_targetId := goodIn_r _ [58, 32, 59, 6, 60, 34, 35, 36, 37, 38, 39, 40, 41, 42, 43, 44, 45, 46, 47, 48, 49, 50, 85, 86, 87, 88, 89, 90, 91, 92, 93, 94, 95, 102, 103, 104, 105, 106, 96, 97, 98, 99, 100, 101] (by decide +kernel) (by decide +kernel)
set_option maxRecDepth 20000 in
theorem gX4_play_X4_targetId : GoodIn wsX4_play (wsV RX4 69 RX4 yX4_targetId wsX4_targetId) := goodIn_app (goodIn_of _ (by decide +kernel)) ggX4_play_X4_targetId
set_option maxRecDepth 20000 in
theorem ggX4_play_X4_newId : GoodIn wsX4_play wsX4_newId := goodIn_r _ [64, 65, 85, 86, 87, 88, 89, 90, 91, 92, 93, 94, 95] (by decide +kernel) (by decide +kernel)
set_option maxRecDepth 20000 in
theorem gX4_play_X4_newId : GoodIn wsX4_play (wsV RX4 72 RX4 yX4_newId wsX4_newId) := goodIn_app (goodIn_of _ (by decide +kernel)) ggX4_play_X4_newId
set_option maxRecDepth 20000 in
theorem ggX4_play_X0_push : GoodIn wsX4_play wsX0_push := goodIn_r _ [69, 45, 70, 71, 72, 73, 74, 96, 97, 98, 99, 100, 101] (by decide +kernel) (by decide +kernel)
set_option maxRecDepth 20000 in
theorem gX4_play_X0_push : GoodIn wsX4_play (wsV RX4 76 RX0 yX0_push wsX0_push) := goodIn_app (goodIn_of _ (by decide +kernel)) ggX4_play_X0_push
set_option maxRecDepth 20000 in
theorem ggX4_play_X1_forget : GoodIn wsX4_play wsX1_forget := goodIn_r _ [79, 80, 81, 107, 108, 109, 110, 111] (by decide +kernel) (by decide +kernel)
set_option maxRecDepth 20000 in
theorem gX4_play_X1_forget : GoodIn wsX4_play (wsV RX4 80 RX1 yX1_forget wsX1_forget) := goodIn_app (goodIn_of _ (by decide +kernel)) ggX4_play_X1_forget
set_option maxRecDepth 20000 in
theorem ggX4_play_X4_nextPlayer : GoodIn wsX4_play wsX4_nextPlayer := goodIn_r _ [84] (by decide +kernel) (by decide +kernel)
set_option maxRecDepth 20000 in
theorem gX4_play_X4_nextPlayer : GoodIn wsX4_play (va_wsS RX4 86 yX4_nextPlayer wsX4_nextPlayer) := goodIn_app (goodIn_of _ (by decide +kernel)) ggX4_play_X4_nextPlayer
theorem dX4_play_0 : decode cX4_play 0 = .ok (.iload_n 1, 1) := by decide +kernel
theorem dX4_play_1 : decode cX4_play 1 = .ok (.ifCond .lt 9, 3) := by decide +kernel
theorem dX4_play_4 : decode cX4_play 4 = .ok (.iload_n 1, 1) := by decide +kernel
theorem dX4_play_5 : decode cX4_play 5 = .ok (.bipush 14, 2) := by decide +kernel
theorem dX4_play_7 : decode cX4_play 7 = .ok (.if_icmp .lt 13, 3) := by decide +kernel
theorem dX4_play_10 : decode cX4_play 10 = .ok (.new 41, 3) := by decide +kernel
theorem dX4_play_13 : decode cX4_play 13 = .ok (.dup, 1) := by decide +kernel
theorem dX4_play_14 : decode cX4_play 14 = .ok (.ldc 43, 2) := by decide +kernel
theorem dX4_play_16 : decode cX4_play 16 = .ok (.invokespecial 45, 3) := by decide +kernel
theorem dX4_play_19 : decode cX4_play 19 = .ok (.athrow, 1) := by decide +kernel
theorem dX4_play_20 : decode cX4_play 20 = .ok (.aload_n 0, 1) := by decide +kernel
theorem dX4_play_21 : decode cX4_play 21 = .ok (.iload_n 1, 1) := by decide +kernel
theorem dX4_play_22 : decode cX4_play 22 = .ok (.iload_n 2, 1) := by decide +kernel
theorem dX4_play_23 : decode cX4_play 23 = .ok (.invokevirtual 48, 3) := by decide +kernel
theorem dX4_play_26 : decode cX4_play 26 = .ok (.ifCond .eq 13, 3) := by decide +kernel
theorem dX4_play_29 : decode cX4_play 29 = .ok (.new 52, 3) := by decide +kernel
theorem dX4_play_32 : decode cX4_play 32 = .ok (.dup, 1) := by decide +kernel
theorem dX4_play_33 : decode cX4_play 33 = .ok (.ldc 54, 2) := by decide +kernel
theorem dX4_play_35 : decode cX4_play 35 = .ok (.invokespecial 56, 3) := by decide +kernel
theorem dX4_play_38 : decode cX4_play 38 = .ok (.athrow, 1) := by decide +kernel
theorem dX4_play_39 : decode cX4_play 39 = .ok (.aload_n 0, 1) := by decide +kernel
theorem dX4_play_40 : decode cX4_play 40 = .ok (.aload_n 0, 1) := by decide +kernel
theorem dX4_play_41 : decode cX4_play 41 = .ok (.getfield 57, 3) := by decide +kernel
theorem dX4_play_44 : decode cX4_play 44 = .ok (.iload_n 1, 1) := by decide +kernel
theorem dX4_play_45 : decode cX4_play 45 = .ok (.invokestatic 61, 3) := by decide +kernel
theorem dX4_play_48 : decode cX4_play 48 = .ok (.ineg, 1) := by decide +kernel
theorem dX4_play_49 : decode cX4_play 49 = .ok (.invokevirtual 65, 3) := by decide +kernel
theorem dX4_play_52 : decode cX4_play 52 = .ok (.aload_n 0, 1) := by decide +kernel
theorem dX4_play_53 : decode cX4_play 53 = .ok (.getfield 23, 3) := by decide +kernel
theorem dX4_play_56 : decode cX4_play 56 = .ok (.iload_n 1, 1) := by decide +kernel
theorem dX4_play_57 : decode cX4_play 57 = .ok (.iconst 0, 1) := by decide +kernel
theorem dX4_play_58 : decode cX4_play 58 = .ok (.aload_n 0, 1) := by decide +kernel
theorem dX4_play_59 : decode cX4_play 59 = .ok (.getfield 57, 3) := by decide +kernel
theorem dX4_play_62 : decode cX4_play 62 = .ok (.aload_n 0, 1) := by decide +kernel
theorem dX4_play_63 : decode cX4_play 63 = .ok (.iload_n 1, 1) := by decide +kernel
theorem dX4_play_64 : decode cX4_play 64 = .ok (.iload_n 2, 1) := by decide +kernel
theorem dX4_play_65 : decode cX4_play 65 = .ok (.invokevirtual 69, 3) := by decide +kernel
theorem dX4_play_68 : decode cX4_play 68 = .ok (.aload_n 0, 1) := by decide +kernel
theorem dX4_play_69 : decode cX4_play 69 = .ok (.invokevirtual 72, 3) := by decide +kernel
theorem dX4_play_72 : decode cX4_play 72 = .ok (.invokevirtual 76, 3) := by decide +kernel
theorem dX4_play_75 : decode cX4_play 75 = .ok (.aload_n 0, 1) := by decide +kernel
theorem dX4_play_76 : decode cX4_play 76 = .ok (.getfield 37, 3) := by decide +kernel
theorem dX4_play_79 : decode cX4_play 79 = .ok (.invokevirtual 80, 3) := by decide +kernel
theorem dX4_play_82 : decode cX4_play 82 = .ok (.aload_n 0, 1) := by decide +kernel
theorem dX4_play_83 : decode cX4_play 83 = .ok (.iconst 0, 1) := by decide +kernel
theorem dX4_play_84 : decode cX4_play 84 = .ok (.putfield 83, 3) := by decide +kernel
theorem dX4_play_87 : decode cX4_play 87 = .ok (.aload_n 0, 1) := by decide +kernel
theorem dX4_play_88 : decode cX4_play 88 = .ok (.aload_n 0, 1) := by decide +kernel
theorem dX4_play_89 : decode cX4_play 89 = .ok (.getfield 57, 3) := by decide +kernel
theorem dX4_play_92 : decode cX4_play 92 = .ok (.invokestatic 86, 3) := by decide +kernel
theorem dX4_play_95 : decode cX4_play 95 = .ok (.putfield 57, 3) := by decide +kernel
theorem dX4_play_98 : decode cX4_play 98 = .ok (.aload_n 0, 1) := by decide +kernel
theorem dX4_play_99 : decode cX4_play 99 = .ok (.getfield 23, 3) := by decide +kernel
theorem dX4_play_102 : decode cX4_play 102 = .ok (.getfield 89, 3) := by decide +kernel
theorem dX4_play_105 : decode cX4_play 105 = .ok (.ireturn, 1) := by decide +kernel
set_option maxRecDepth 20000 in
theorem ggX4_obstacle_X4_findObstacle : GoodIn wsX4_obstacle wsX4_findObstacle := goodIn_r _ [7, 8, 9, 10, 11, 12, 13, 6, 14, 15, 16, 17, 18, 19, 20, 21, 22, 23, 24, 25, 26, 27, 28, 29, 30, 31, 32, 33, 34, 35, 36, 37, 38, 39, 40, 41, 42, 43, 44, 45, 46, 47, 48, 49, 50, 51, 52, 53, 54, 55, 56, 57, 58, 59, 60, 61, 62, 63, 64, 65, 66, 67, 68] (by decide +kernel) (by decide +kernel)
set_option maxRecDepth 20000 in
theorem gX4_obstacle_X4_findObstacle : GoodIn wsX4_obstacle (wsV RX4 48 RX4 yX4_findObstacle wsX4_findObstacle) := goodIn_app (goodIn_of _ (by decide +kernel)) ggX4_obstacle_X4_findObstacle
theorem dX4_obstacle_0 : decode cX4_obstacle 0 = .ok (.iload_n 1, 1) := by decide +kernel
theorem dX4_obstacle_1 : decode cX4_obstacle 1 = .ok (.ifCond .lt 9, 3) := by decide +kernel
theorem dX4_obstacle_4 : decode cX4_obstacle 4 = .ok (.iload_n 1, 1) := by decide +kernel
theorem dX4_obstacle_5 : decode cX4_obstacle 5 = .ok (.bipush 14, 2) := by decide +kernel
theorem dX4_obstacle_7 : decode cX4_obstacle 7 = .ok (.if_icmp .lt 13, 3) := by decide +kernel
theorem dX4_obstacle_10 : decode cX4_obstacle 10 = .ok (.new 41, 3) := by decide +kernel
theorem dX4_obstacle_13 : decode cX4_obstacle 13 = .ok (.dup, 1) := by decide +kernel
theorem dX4_obstacle_14 : decode cX4_obstacle 14 = .ok (.ldc 43, 2) := by decide +kernel
theorem dX4_obstacle_16 : decode cX4_obstacle 16 = .ok (.invokespecial 45, 3) := by decide +kernel
theorem dX4_obstacle_19 : decode cX4_obstacle 19 = .ok (.athrow, 1) := by decide +kernel
theorem dX4_obstacle_20 : decode cX4_obstacle 20 = .ok (.aload_n 0, 1) := by decide +kernel
theorem dX4_obstacle_21 : decode cX4_obstacle 21 = .ok (.iload_n 1, 1) := by decide +kernel
theorem dX4_obstacle_22 : decode cX4_obstacle 22 = .ok (.iload_n 2, 1) := by decide +kernel
theorem dX4_obstacle_23 : decode cX4_obstacle 23 = .ok (.invokevirtual 48, 3) := by decide +kernel
theorem dX4_obstacle_26 : decode cX4_obstacle 26 = .ok (.ireturn, 1) := by decide +kernel
set_option maxRecDepth 20000 in
theorem ggX4_pass_X4_nextPlayer : GoodIn wsX4_pass wsX4_nextPlayer := goodIn_r _ [8] (by decide +kernel) (by decide +kernel)
set_option maxRecDepth 20000 in
theorem gX4_pass_X4_nextPlayer : GoodIn wsX4_pass (va_wsS RX4 86 yX4_nextPlayer wsX4_nextPlayer) := goodIn_app (goodIn_of _ (by decide +kernel)) ggX4_pass_X4_nextPlayer
set_option maxRecDepth 20000 in
theorem ggX4_pass_X4_resolveTop : GoodIn wsX4_pass wsX4_resolveTop := goodIn_r _ [12, 3, 4, 13, 14, 15, 16, 1, 17, 2, 18, 19, 20, 21, 22, 23, 24, 25, 26, 27, 28, 29, 30, 31, 7, 32, 33, 34, 35, 36, 37, 38, 39, 40, 41, 42, 43, 44, 45, 46, 47, 48, 49, 50, 51, 52, 53, 54, 55, 56, 57, 58, 59, 60, 61, 62, 63, 64, 65, 66, 67, 68, 69, 70, 71, 72, 73, 74, 75, 76, 77, 78, 79, 80, 81, 82, 83, 84, 85, 86, 87, 88, 89, 90, 91, 92, 93, 94, 95, 96, 97, 98, 99, 100, 101, 102, 103, 104, 105, 106, 107, 108, 109, 110, 111, 112, 113, 114, 115, 116, 117, 118, 119, 120, 121, 122, 123, 124, 125, 126, 127, 128, 129, 130, 131, 132, 133, 134, 135, 136, 137, 138, 139, 140, 141, 142, 143, 144, 145, 146, 147, 148, 5, 6, 8, 149, 150, 151, 152, 153, 154, 155, 156, 157, 158, 159, 160, 161, 162, 163, 164, 165, 166, 167, 168, 169, 170, 171, 172, 173, 174, 175, 176, 177, 178, 179, 180, 181, 182, 183, 184, 185, 186, 187, 188, 189, 190, 191, 192, 193, 194, 200, 201, 202, 203, 204, 205, 206, 207, 208, 209, 210, 211, 212, 213, 214, 215, 216, 217, 218, 219, 220, 221, 222, 223, 224, 225, 226, 227, 228, 229, 230, 231] (by decide +kernel) (by decide +kernel)
set_option maxRecDepth 20000 in
theorem gX4_pass_X4_resolveTop : GoodIn wsX4_pass (wsV RX4 92 RX4 yX4_resolveTop wsX4_resolveTop) := goodIn_app (goodIn_of _ (by decide +kernel)) ggX4_pass_X4_resolveTop
set_option maxRecDepth 20000 in
theorem ggX4_pass_X4_beginTurn : GoodIn wsX4_pass wsX4_beginTurn := goodIn_r _ [198, 17, 2, 1, 199, 153, 5, 6, 7, 8, 182, 183, 184, 160, 185, 176, 186, 34, 35, 36, 37, 38, 134, 135, 136, 137, 89, 33, 138, 139, 140, 3, 92, 93, 94, 95, 96, 97, 98, 99, 100, 101, 102, 103, 104, 105, 106, 107, 108, 109, 110, 111, 112, 113, 114, 115, 116, 117, 118, 119, 120, 121, 141, 142, 143, 144, 43, 44, 45, 46, 47, 145, 146, 147, 21, 148, 23, 24, 25, 26, 27, 28, 200, 201, 202, 203, 204, 205, 206, 207, 208, 209, 210, 227, 228, 229, 230, 231, 217, 218, 219, 220, 221, 222, 223, 224, 225, 226, 211, 212, 213, 214, 215, 216] (by decide +kernel) (by decide +kernel)
set_option maxRecDepth 20000 in
theorem gX4_pass_X4_beginTurn : GoodIn wsX4_pass (wsV RX4 95 RX4 yX4_beginTurn wsX4_beginTurn) := goodIn_app (goodIn_of _ (by decide +kernel)) ggX4_pass_X4_beginTurn
theorem dX4_pass_0 : decode cX4_pass 0 = .ok (.aload_n 0, 1) := by decide +kernel
theorem dX4_pass_1 : decode cX4_pass 1 = .ok (.dup, 1) := by decide +kernel
theorem dX4_pass_2 : decode cX4_pass 2 = .ok (.getfield 83, 3) := by decide +kernel
theorem dX4_pass_5 : decode cX4_pass 5 = .ok (.iconst 1, 1) := by decide +kernel
theorem dX4_pass_6 : decode cX4_pass 6 = .ok (.iadd, 1) := by decide +kernel
theorem dX4_pass_7 : decode cX4_pass 7 = .ok (.putfield 83, 3) := by decide +kernel
theorem dX4_pass_10 : decode cX4_pass 10 = .ok (.aload_n 0, 1) := by decide +kernel
theorem dX4_pass_11 : decode cX4_pass 11 = .ok (.getfield 83, 3) := by decide +kernel
theorem dX4_pass_14 : decode cX4_pass 14 = .ok (.iconst 3, 1) := by decide +kernel
theorem dX4_pass_15 : decode cX4_pass 15 = .ok (.if_icmp .ge 16, 3) := by decide +kernel
theorem dX4_pass_18 : decode cX4_pass 18 = .ok (.aload_n 0, 1) := by decide +kernel
theorem dX4_pass_19 : decode cX4_pass 19 = .ok (.aload_n 0, 1) := by decide +kernel
theorem dX4_pass_20 : decode cX4_pass 20 = .ok (.getfield 57, 3) := by decide +kernel
theorem dX4_pass_23 : decode cX4_pass 23 = .ok (.invokestatic 86, 3) := by decide +kernel
theorem dX4_pass_26 : decode cX4_pass 26 = .ok (.putfield 57, 3) := by decide +kernel
theorem dX4_pass_29 : decode cX4_pass 29 = .ok (.iconst 0, 1) := by decide +kernel
theorem dX4_pass_30 : decode cX4_pass 30 = .ok (.ireturn, 1) := by decide +kernel
theorem dX4_pass_31 : decode cX4_pass 31 = .ok (.aload_n 0, 1) := by decide +kernel
theorem dX4_pass_32 : decode cX4_pass 32 = .ok (.getfield 23, 3) := by decide +kernel
theorem dX4_pass_35 : decode cX4_pass 35 = .ok (.getfield 89, 3) := by decide +kernel
theorem dX4_pass_38 : decode cX4_pass 38 = .ok (.ifCond .le 9, 3) := by decide +kernel
theorem dX4_pass_41 : decode cX4_pass 41 = .ok (.aload_n 0, 1) := by decide +kernel
theorem dX4_pass_42 : decode cX4_pass 42 = .ok (.invokevirtual 92, 3) := by decide +kernel
theorem dX4_pass_45 : decode cX4_pass 45 = .ok (.iconst 1, 1) := by decide +kernel
theorem dX4_pass_46 : decode cX4_pass 46 = .ok (.ireturn, 1) := by decide +kernel
theorem dX4_pass_47 : decode cX4_pass 47 = .ok (.aload_n 0, 1) := by decide +kernel
theorem dX4_pass_48 : decode cX4_pass 48 = .ok (.invokevirtual 95, 3) := by decide +kernel
theorem dX4_pass_51 : decode cX4_pass 51 = .ok (.iconst 2, 1) := by decide +kernel
theorem dX4_pass_52 : decode cX4_pass 52 = .ok (.ireturn, 1) := by decide +kernel
set_option maxRecDepth 20000 in
theorem ggX4_settle_X4_resolveTop : GoodIn wsX4_settle wsX4_resolveTop := goodIn_r _ [9, 3, 4, 10, 11, 12, 13, 14, 15, 16, 17, 18, 19, 20, 21, 22, 23, 24, 25, 26, 27, 28, 29, 30, 8, 31, 32, 33, 34, 35, 36, 37, 38, 39, 40, 41, 42, 43, 44, 45, 46, 47, 48, 49, 50, 51, 52, 53, 54, 55, 56, 57, 58, 59, 60, 61, 62, 63, 64, 65, 66, 67, 68, 69, 70, 71, 72, 73, 74, 75, 76, 77, 78, 79, 80, 81, 82, 83, 84, 85, 86, 87, 88, 89, 90, 91, 92, 93, 94, 95, 96, 97, 98, 99, 100, 101, 102, 103, 104, 105, 106, 107, 108, 109, 110, 111, 112, 113, 114, 115, 116, 117, 118, 119, 120, 121, 122, 123, 124, 125, 126, 127, 128, 129, 130, 131, 132, 133, 134, 135, 136, 137, 138, 139, 140, 141, 142, 143, 144, 145, 146, 147, 148, 149, 150, 151, 152, 153, 154, 155, 156, 157, 158, 159, 160, 161, 162, 163, 164, 165, 166, 167, 168, 169, 170, 171, 172, 173, 174, 175, 176, 177, 178, 179, 180, 181, 182, 183, 184, 185, 186, 187, 188, 189, 190, 191, 192, 193, 194, 195, 196, 197, 198, 199, 200, 201, 202, 203, 204, 205, 206, 207, 208, 209, 210, 211, 212, 213, 214, 215, 216, 217, 218, 219, 220, 221, 222, 223, 224, 225, 226, 227, 228] (by decide +kernel) (by decide +kernel)
set_option maxRecDepth 20000 in
theorem gX4_settle_X4_resolveTop : GoodIn wsX4_settle (wsV RX4 92 RX4 yX4_resolveTop wsX4_resolveTop) := goodIn_app (goodIn_of _ (by decide +kernel)) ggX4_settle_X4_resolveTop
theorem dX4_settle_0 : decode cX4_settle 0 = .ok (.iload_n 1, 1) := by decide +kernel
theorem dX4_settle_1 : decode cX4_settle 1 = .ok (.iconst 1, 1) := by decide +kernel
theorem dX4_settle_2 : decode cX4_settle 2 = .ok (.if_icmp .lt 9, 3) := by decide +kernel
theorem dX4_settle_5 : decode cX4_settle 5 = .ok (.iload_n 1, 1) := by decide +kernel
theorem dX4_settle_6 : decode cX4_settle 6 = .ok (.bipush 60, 2) := by decide +kernel
theorem dX4_settle_8 : decode cX4_settle 8 = .ok (.if_icmp .le 13, 3) := by decide +kernel
theorem dX4_settle_11 : decode cX4_settle 11 = .ok (.new 98, 3) := by decide +kernel
theorem dX4_settle_14 : decode cX4_settle 14 = .ok (.dup, 1) := by decide +kernel
theorem dX4_settle_15 : decode cX4_settle 15 = .ok (.ldc 100, 2) := by decide +kernel
theorem dX4_settle_17 : decode cX4_settle 17 = .ok (.invokespecial 102, 3) := by decide +kernel
theorem dX4_settle_20 : decode cX4_settle 20 = .ok (.athrow, 1) := by decide +kernel
theorem dX4_settle_21 : decode cX4_settle 21 = .ok (.iconst 0, 1) := by decide +kernel
theorem dX4_settle_22 : decode cX4_settle 22 = .ok (.istore_n 2, 1) := by decide +kernel
theorem dX4_settle_23 : decode cX4_settle 23 = .ok (.iload_n 2, 1) := by decide +kernel
theorem dX4_settle_24 : decode cX4_settle 24 = .ok (.iload_n 1, 1) := by decide +kernel
theorem dX4_settle_25 : decode cX4_settle 25 = .ok (.if_icmp .ge 23, 3) := by decide +kernel
theorem dX4_settle_28 : decode cX4_settle 28 = .ok (.aload_n 0, 1) := by decide +kernel
theorem dX4_settle_29 : decode cX4_settle 29 = .ok (.getfield 23, 3) := by decide +kernel
theorem dX4_settle_32 : decode cX4_settle 32 = .ok (.getfield 89, 3) := by decide +kernel
theorem dX4_settle_35 : decode cX4_settle 35 = .ok (.ifCond .le 13, 3) := by decide +kernel
theorem dX4_settle_38 : decode cX4_settle 38 = .ok (.aload_n 0, 1) := by decide +kernel
theorem dX4_settle_39 : decode cX4_settle 39 = .ok (.invokevirtual 92, 3) := by decide +kernel
theorem dX4_settle_42 : decode cX4_settle 42 = .ok (.iinc 2 1, 3) := by decide +kernel
theorem dX4_settle_45 : decode cX4_settle 45 = .ok (.goto (-22), 3) := by decide +kernel
theorem dX4_settle_48 : decode cX4_settle 48 = .ok (.iload_n 2, 1) := by decide +kernel
theorem dX4_settle_49 : decode cX4_settle 49 = .ok (.ireturn, 1) := by decide +kernel
theorem dX4_turn_0 : decode cX4_turn 0 = .ok (.aload_n 0, 1) := by decide +kernel
theorem dX4_turn_1 : decode cX4_turn 1 = .ok (.getfield 103, 3) := by decide +kernel
theorem dX4_turn_4 : decode cX4_turn 4 = .ok (.ireturn, 1) := by decide +kernel
theorem dX4_acting_0 : decode cX4_acting 0 = .ok (.aload_n 0, 1) := by decide +kernel
theorem dX4_acting_1 : decode cX4_acting 1 = .ok (.getfield 57, 3) := by decide +kernel
theorem dX4_acting_4 : decode cX4_acting 4 = .ok (.ireturn, 1) := by decide +kernel
theorem dX4_rounds_0 : decode cX4_rounds 0 = .ok (.aload_n 0, 1) := by decide +kernel
theorem dX4_rounds_1 : decode cX4_rounds 1 = .ok (.getfield 106, 3) := by decide +kernel
theorem dX4_rounds_4 : decode cX4_rounds 4 = .ok (.ireturn, 1) := by decide +kernel
theorem dX4_loops_0 : decode cX4_loops 0 = .ok (.aload_n 0, 1) := by decide +kernel
theorem dX4_loops_1 : decode cX4_loops 1 = .ok (.getfield 109, 3) := by decide +kernel
theorem dX4_loops_4 : decode cX4_loops 4 = .ok (.ireturn, 1) := by decide +kernel
theorem dX4_coins_0 : decode cX4_coins 0 = .ok (.iload_n 1, 1) := by decide +kernel
theorem dX4_coins_1 : decode cX4_coins 1 = .ok (.ifCond .lt 8, 3) := by decide +kernel
theorem dX4_coins_4 : decode cX4_coins 4 = .ok (.iload_n 1, 1) := by decide +kernel
theorem dX4_coins_5 : decode cX4_coins 5 = .ok (.iconst 3, 1) := by decide +kernel
theorem dX4_coins_6 : decode cX4_coins 6 = .ok (.if_icmp .lt 13, 3) := by decide +kernel
theorem dX4_coins_9 : decode cX4_coins 9 = .ok (.new 41, 3) := by decide +kernel
theorem dX4_coins_12 : decode cX4_coins 12 = .ok (.dup, 1) := by decide +kernel
theorem dX4_coins_13 : decode cX4_coins 13 = .ok (.ldc 112, 2) := by decide +kernel
theorem dX4_coins_15 : decode cX4_coins 15 = .ok (.invokespecial 45, 3) := by decide +kernel
theorem dX4_coins_18 : decode cX4_coins 18 = .ok (.athrow, 1) := by decide +kernel
theorem dX4_coins_19 : decode cX4_coins 19 = .ok (.aload_n 0, 1) := by decide +kernel
theorem dX4_coins_20 : decode cX4_coins 20 = .ok (.getfield 9, 3) := by decide +kernel
theorem dX4_coins_23 : decode cX4_coins 23 = .ok (.iload_n 1, 1) := by decide +kernel
theorem dX4_coins_24 : decode cX4_coins 24 = .ok (.iaload, 1) := by decide +kernel
theorem dX4_coins_25 : decode cX4_coins 25 = .ok (.ireturn, 1) := by decide +kernel
theorem dX4_things_0 : decode cX4_things 0 = .ok (.aload_n 0, 1) := by decide +kernel
theorem dX4_things_1 : decode cX4_things 1 = .ok (.getfield 16, 3) := by decide +kernel
theorem dX4_things_4 : decode cX4_things 4 = .ok (.getfield 114, 3) := by decide +kernel
theorem dX4_things_7 : decode cX4_things 7 = .ok (.ireturn, 1) := by decide +kernel
set_option maxRecDepth 20000 in
theorem ggX4_cardOf_X2_has : GoodIn wsX4_cardOf wsX2_has := goodIn_r _ [9, 10, 22, 23, 24, 25, 26] (by decide +kernel) (by decide +kernel)
set_option maxRecDepth 20000 in
theorem gX4_cardOf_X2_has : GoodIn wsX4_cardOf (wsV RX4 115 RX2 yX2_has wsX2_has) := goodIn_app (goodIn_of _ (by decide +kernel)) ggX4_cardOf_X2_has
theorem dX4_cardOf_0 : decode cX4_cardOf 0 = .ok (.aload_n 0, 1) := by decide +kernel
theorem dX4_cardOf_1 : decode cX4_cardOf 1 = .ok (.getfield 16, 3) := by decide +kernel
theorem dX4_cardOf_4 : decode cX4_cardOf 4 = .ok (.iload_n 1, 1) := by decide +kernel
theorem dX4_cardOf_5 : decode cX4_cardOf 5 = .ok (.invokevirtual 115, 3) := by decide +kernel
theorem dX4_cardOf_8 : decode cX4_cardOf 8 = .ok (.ifCond .ne 13, 3) := by decide +kernel
theorem dX4_cardOf_11 : decode cX4_cardOf 11 = .ok (.new 41, 3) := by decide +kernel
theorem dX4_cardOf_14 : decode cX4_cardOf 14 = .ok (.dup, 1) := by decide +kernel
theorem dX4_cardOf_15 : decode cX4_cardOf 15 = .ok (.ldc 119, 2) := by decide +kernel
theorem dX4_cardOf_17 : decode cX4_cardOf 17 = .ok (.invokespecial 45, 3) := by decide +kernel
theorem dX4_cardOf_20 : decode cX4_cardOf 20 = .ok (.athrow, 1) := by decide +kernel
theorem dX4_cardOf_21 : decode cX4_cardOf 21 = .ok (.aload_n 0, 1) := by decide +kernel
theorem dX4_cardOf_22 : decode cX4_cardOf 22 = .ok (.getfield 16, 3) := by decide +kernel
theorem dX4_cardOf_25 : decode cX4_cardOf 25 = .ok (.getfield 121, 3) := by decide +kernel
theorem dX4_cardOf_28 : decode cX4_cardOf 28 = .ok (.iload_n 1, 1) := by decide +kernel
theorem dX4_cardOf_29 : decode cX4_cardOf 29 = .ok (.iaload, 1) := by decide +kernel
theorem dX4_cardOf_30 : decode cX4_cardOf 30 = .ok (.ireturn, 1) := by decide +kernel
set_option maxRecDepth 20000 in
theorem ggX4_controllerOf_X4_requireThingAndLayer : GoodIn wsX4_controllerOf wsX4_requireThingAndLayer := goodIn_ca (goodIn_ca (goodIn_r _ [8, 9, 10, 11, 12, 2, 13, 14, 15, 16, 17, 18, 49, 50, 51, 52, 53, 54, 55, 56, 57, 58, 59, 65, 66, 67, 68, 69] (by decide +kernel) (by decide +kernel)) (goodIn_sub (fun _ h => List.mem_cons_of_mem _ (List.mem_append_left _ (List.mem_append_right _ h))) (by decide +kernel))) (goodIn_sub (fun _ h => List.mem_cons_of_mem _ (List.mem_append_right _ h)) (by decide +kernel))
set_option maxRecDepth 20000 in
theorem gX4_controllerOf_X4_requireThingAndLayer : GoodIn wsX4_controllerOf (wsV RX4 124 RX4 yX4_requireThingAndLayer wsX4_requireThingAndLayer) := goodIn_app (goodIn_of _ (by decide +kernel)) ggX4_controllerOf_X4_requireThingAndLayer
set_option maxRecDepth 20000 in
theorem ggX4_controllerOf_X3_find : GoodIn wsX4_controllerOf wsX3_find := goodIn_r _ [23, 24, 25, 26, 27, 28, 29, 30, 31, 32, 22, 33, 34, 35, 36, 7, 37, 38, 39, 40, 41, 42, 43, 44, 45, 46, 47, 48, 65, 66, 67, 68, 69, 60, 61, 62, 63, 64] (by decide +kernel) (by decide +kernel)
set_option maxRecDepth 20000 in
theorem gX4_controllerOf_X3_find : GoodIn wsX4_controllerOf (wsV RX4 127 RX3 yX3_find wsX3_find) := goodIn_app (goodIn_of _ (by decide +kernel)) ggX4_controllerOf_X3_find
theorem dX4_controllerOf_0 : decode cX4_controllerOf 0 = .ok (.aload_n 0, 1) := by decide +kernel
theorem dX4_controllerOf_1 : decode cX4_controllerOf 1 = .ok (.iload_n 1, 1) := by decide +kernel
theorem dX4_controllerOf_2 : decode cX4_controllerOf 2 = .ok (.iload_n 2, 1) := by decide +kernel
theorem dX4_controllerOf_3 : decode cX4_controllerOf 3 = .ok (.invokevirtual 124, 3) := by decide +kernel
theorem dX4_controllerOf_6 : decode cX4_controllerOf 6 = .ok (.aload_n 0, 1) := by decide +kernel
theorem dX4_controllerOf_7 : decode cX4_controllerOf 7 = .ok (.getfield 30, 3) := by decide +kernel
theorem dX4_controllerOf_10 : decode cX4_controllerOf 10 = .ok (.aload_n 0, 1) := by decide +kernel
theorem dX4_controllerOf_11 : decode cX4_controllerOf 11 = .ok (.getfield 16, 3) := by decide +kernel
theorem dX4_controllerOf_14 : decode cX4_controllerOf 14 = .ok (.iload_n 2, 1) := by decide +kernel
theorem dX4_controllerOf_15 : decode cX4_controllerOf 15 = .ok (.invokevirtual 127, 3) := by decide +kernel
theorem dX4_controllerOf_18 : decode cX4_controllerOf 18 = .ok (.aload_n 0, 1) := by decide +kernel
theorem dX4_controllerOf_19 : decode cX4_controllerOf 19 = .ok (.getfield 30, 3) := by decide +kernel
theorem dX4_controllerOf_22 : decode cX4_controllerOf 22 = .ok (.getfield 131, 3) := by decide +kernel
theorem dX4_controllerOf_25 : decode cX4_controllerOf 25 = .ok (.iload_n 1, 1) := by decide +kernel
theorem dX4_controllerOf_26 : decode cX4_controllerOf 26 = .ok (.iaload, 1) := by decide +kernel
theorem dX4_controllerOf_27 : decode cX4_controllerOf 27 = .ok (.ireturn, 1) := by decide +kernel
set_option maxRecDepth 20000 in
theorem ggX4_kindsOf_X4_requireThingAndLayer : GoodIn wsX4_kindsOf wsX4_requireThingAndLayer := goodIn_ca (goodIn_ca (goodIn_r _ [8, 9, 10, 11, 12, 2, 13, 14, 15, 16, 17, 18, 49, 50, 51, 52, 53, 54, 55, 56, 57, 58, 59, 65, 66, 67, 68, 69] (by decide +kernel) (by decide +kernel)) (goodIn_sub (fun _ h => List.mem_cons_of_mem _ (List.mem_append_left _ (List.mem_append_right _ h))) (by decide +kernel))) (goodIn_sub (fun _ h => List.mem_cons_of_mem _ (List.mem_append_right _ h)) (by decide +kernel))
set_option maxRecDepth 20000 in
theorem gX4_kindsOf_X4_requireThingAndLayer : GoodIn wsX4_kindsOf (wsV RX4 124 RX4 yX4_requireThingAndLayer wsX4_requireThingAndLayer) := goodIn_app (goodIn_of _ (by decide +kernel)) ggX4_kindsOf_X4_requireThingAndLayer
set_option maxRecDepth 20000 in
theorem ggX4_kindsOf_X3_find : GoodIn wsX4_kindsOf wsX3_find := goodIn_r _ [23, 24, 25, 26, 27, 28, 29, 30, 31, 32, 22, 33, 34, 35, 36, 7, 37, 38, 39, 40, 41, 42, 43, 44, 45, 46, 47, 48, 65, 66, 67, 68, 69, 60, 61, 62, 63, 64] (by decide +kernel) (by decide +kernel)
set_option maxRecDepth 20000 in
theorem gX4_kindsOf_X3_find : GoodIn wsX4_kindsOf (wsV RX4 127 RX3 yX3_find wsX3_find) := goodIn_app (goodIn_of _ (by decide +kernel)) ggX4_kindsOf_X3_find
theorem dX4_kindsOf_0 : decode cX4_kindsOf 0 = .ok (.aload_n 0, 1) := by decide +kernel
theorem dX4_kindsOf_1 : decode cX4_kindsOf 1 = .ok (.iload_n 1, 1) := by decide +kernel
theorem dX4_kindsOf_2 : decode cX4_kindsOf 2 = .ok (.iload_n 2, 1) := by decide +kernel
theorem dX4_kindsOf_3 : decode cX4_kindsOf 3 = .ok (.invokevirtual 124, 3) := by decide +kernel
theorem dX4_kindsOf_6 : decode cX4_kindsOf 6 = .ok (.aload_n 0, 1) := by decide +kernel
theorem dX4_kindsOf_7 : decode cX4_kindsOf 7 = .ok (.getfield 30, 3) := by decide +kernel
theorem dX4_kindsOf_10 : decode cX4_kindsOf 10 = .ok (.aload_n 0, 1) := by decide +kernel
theorem dX4_kindsOf_11 : decode cX4_kindsOf 11 = .ok (.getfield 16, 3) := by decide +kernel
theorem dX4_kindsOf_14 : decode cX4_kindsOf 14 = .ok (.iload_n 2, 1) := by decide +kernel
theorem dX4_kindsOf_15 : decode cX4_kindsOf 15 = .ok (.invokevirtual 127, 3) := by decide +kernel
theorem dX4_kindsOf_18 : decode cX4_kindsOf 18 = .ok (.aload_n 0, 1) := by decide +kernel
theorem dX4_kindsOf_19 : decode cX4_kindsOf 19 = .ok (.getfield 30, 3) := by decide +kernel
theorem dX4_kindsOf_22 : decode cX4_kindsOf 22 = .ok (.getfield 134, 3) := by decide +kernel
theorem dX4_kindsOf_25 : decode cX4_kindsOf 25 = .ok (.iload_n 1, 1) := by decide +kernel
theorem dX4_kindsOf_26 : decode cX4_kindsOf 26 = .ok (.iaload, 1) := by decide +kernel
theorem dX4_kindsOf_27 : decode cX4_kindsOf 27 = .ok (.ireturn, 1) := by decide +kernel
set_option maxRecDepth 20000 in
theorem ggX4_strengthOf_X4_requireThingAndLayer : GoodIn wsX4_strengthOf wsX4_requireThingAndLayer := goodIn_ca (goodIn_ca (goodIn_r _ [8, 9, 10, 11, 12, 2, 13, 14, 15, 16, 17, 18, 49, 50, 51, 52, 53, 54, 55, 56, 57, 58, 59, 65, 66, 67, 68, 69] (by decide +kernel) (by decide +kernel)) (goodIn_sub (fun _ h => List.mem_cons_of_mem _ (List.mem_append_left _ (List.mem_append_right _ h))) (by decide +kernel))) (goodIn_sub (fun _ h => List.mem_cons_of_mem _ (List.mem_append_right _ h)) (by decide +kernel))
set_option maxRecDepth 20000 in
theorem gX4_strengthOf_X4_requireThingAndLayer : GoodIn wsX4_strengthOf (wsV RX4 124 RX4 yX4_requireThingAndLayer wsX4_requireThingAndLayer) := goodIn_app (goodIn_of _ (by decide +kernel)) ggX4_strengthOf_X4_requireThingAndLayer
set_option maxRecDepth 20000 in
theorem ggX4_strengthOf_X3_find : GoodIn wsX4_strengthOf wsX3_find := goodIn_r _ [23, 24, 25, 26, 27, 28, 29, 30, 31, 32, 22, 33, 34, 35, 36, 7, 37, 38, 39, 40, 41, 42, 43, 44, 45, 46, 47, 48, 65, 66, 67, 68, 69, 60, 61, 62, 63, 64] (by decide +kernel) (by decide +kernel)
set_option maxRecDepth 20000 in
theorem gX4_strengthOf_X3_find : GoodIn wsX4_strengthOf (wsV RX4 127 RX3 yX3_find wsX3_find) := goodIn_app (goodIn_of _ (by decide +kernel)) ggX4_strengthOf_X3_find
theorem dX4_strengthOf_0 : decode cX4_strengthOf 0 = .ok (.aload_n 0, 1) := by decide +kernel
theorem dX4_strengthOf_1 : decode cX4_strengthOf 1 = .ok (.iload_n 1, 1) := by decide +kernel
theorem dX4_strengthOf_2 : decode cX4_strengthOf 2 = .ok (.iload_n 2, 1) := by decide +kernel
theorem dX4_strengthOf_3 : decode cX4_strengthOf 3 = .ok (.invokevirtual 124, 3) := by decide +kernel
theorem dX4_strengthOf_6 : decode cX4_strengthOf 6 = .ok (.aload_n 0, 1) := by decide +kernel
theorem dX4_strengthOf_7 : decode cX4_strengthOf 7 = .ok (.getfield 30, 3) := by decide +kernel
theorem dX4_strengthOf_10 : decode cX4_strengthOf 10 = .ok (.aload_n 0, 1) := by decide +kernel
theorem dX4_strengthOf_11 : decode cX4_strengthOf 11 = .ok (.getfield 16, 3) := by decide +kernel
theorem dX4_strengthOf_14 : decode cX4_strengthOf 14 = .ok (.iload_n 2, 1) := by decide +kernel
theorem dX4_strengthOf_15 : decode cX4_strengthOf 15 = .ok (.invokevirtual 127, 3) := by decide +kernel
theorem dX4_strengthOf_18 : decode cX4_strengthOf 18 = .ok (.aload_n 0, 1) := by decide +kernel
theorem dX4_strengthOf_19 : decode cX4_strengthOf 19 = .ok (.getfield 30, 3) := by decide +kernel
theorem dX4_strengthOf_22 : decode cX4_strengthOf 22 = .ok (.getfield 137, 3) := by decide +kernel
theorem dX4_strengthOf_25 : decode cX4_strengthOf 25 = .ok (.iload_n 1, 1) := by decide +kernel
theorem dX4_strengthOf_26 : decode cX4_strengthOf 26 = .ok (.iaload, 1) := by decide +kernel
theorem dX4_strengthOf_27 : decode cX4_strengthOf 27 = .ok (.ireturn, 1) := by decide +kernel
set_option maxRecDepth 20000 in
theorem ggX4_power_X3_find : GoodIn wsX4_power wsX3_find := goodIn_r _ [13, 14, 15, 16, 17, 18, 19, 20, 21, 22, 12, 23, 24, 25, 26, 27, 28, 29, 30, 31, 32, 33, 34, 35, 36, 37, 38, 39, 51, 52, 53, 54, 55, 56, 57, 58, 59, 60] (by decide +kernel) (by decide +kernel)
set_option maxRecDepth 20000 in
theorem gX4_power_X3_find : GoodIn wsX4_power (wsV RX4 127 RX3 yX3_find wsX3_find) := goodIn_app (goodIn_of _ (by decide +kernel)) ggX4_power_X3_find
theorem dX4_power_0 : decode cX4_power 0 = .ok (.iload_n 1, 1) := by decide +kernel
theorem dX4_power_1 : decode cX4_power 1 = .ok (.ifCond .lt 8, 3) := by decide +kernel
theorem dX4_power_4 : decode cX4_power 4 = .ok (.iload_n 1, 1) := by decide +kernel
theorem dX4_power_5 : decode cX4_power 5 = .ok (.iconst 3, 1) := by decide +kernel
theorem dX4_power_6 : decode cX4_power 6 = .ok (.if_icmp .lt 13, 3) := by decide +kernel
theorem dX4_power_9 : decode cX4_power 9 = .ok (.new 41, 3) := by decide +kernel
theorem dX4_power_12 : decode cX4_power 12 = .ok (.dup, 1) := by decide +kernel
theorem dX4_power_13 : decode cX4_power 13 = .ok (.ldc 112, 2) := by decide +kernel
theorem dX4_power_15 : decode cX4_power 15 = .ok (.invokespecial 45, 3) := by decide +kernel
theorem dX4_power_18 : decode cX4_power 18 = .ok (.athrow, 1) := by decide +kernel
theorem dX4_power_19 : decode cX4_power 19 = .ok (.aload_n 0, 1) := by decide +kernel
theorem dX4_power_20 : decode cX4_power 20 = .ok (.getfield 30, 3) := by decide +kernel
theorem dX4_power_23 : decode cX4_power 23 = .ok (.aload_n 0, 1) := by decide +kernel
theorem dX4_power_24 : decode cX4_power 24 = .ok (.getfield 16, 3) := by decide +kernel
theorem dX4_power_27 : decode cX4_power 27 = .ok (.iconst 5, 1) := by decide +kernel
theorem dX4_power_28 : decode cX4_power 28 = .ok (.invokevirtual 127, 3) := by decide +kernel
theorem dX4_power_31 : decode cX4_power 31 = .ok (.iconst 0, 1) := by decide +kernel
theorem dX4_power_32 : decode cX4_power 32 = .ok (.istore_n 2, 1) := by decide +kernel
theorem dX4_power_33 : decode cX4_power 33 = .ok (.iconst 0, 1) := by decide +kernel
theorem dX4_power_34 : decode cX4_power 34 = .ok (.istore_n 3, 1) := by decide +kernel
theorem dX4_power_35 : decode cX4_power 35 = .ok (.iload_n 3, 1) := by decide +kernel
theorem dX4_power_36 : decode cX4_power 36 = .ok (.aload_n 0, 1) := by decide +kernel
theorem dX4_power_37 : decode cX4_power 37 = .ok (.getfield 16, 3) := by decide +kernel
theorem dX4_power_40 : decode cX4_power 40 = .ok (.getfield 114, 3) := by decide +kernel
theorem dX4_power_43 : decode cX4_power 43 = .ok (.if_icmp .ge 48, 3) := by decide +kernel
theorem dX4_power_46 : decode cX4_power 46 = .ok (.aload_n 0, 1) := by decide +kernel
theorem dX4_power_47 : decode cX4_power 47 = .ok (.getfield 30, 3) := by decide +kernel
theorem dX4_power_50 : decode cX4_power 50 = .ok (.getfield 131, 3) := by decide +kernel
theorem dX4_power_53 : decode cX4_power 53 = .ok (.iload_n 3, 1) := by decide +kernel
theorem dX4_power_54 : decode cX4_power 54 = .ok (.iaload, 1) := by decide +kernel
theorem dX4_power_55 : decode cX4_power 55 = .ok (.iload_n 1, 1) := by decide +kernel
theorem dX4_power_56 : decode cX4_power 56 = .ok (.if_icmp .ne 29, 3) := by decide +kernel
theorem dX4_power_59 : decode cX4_power 59 = .ok (.aload_n 0, 1) := by decide +kernel
theorem dX4_power_60 : decode cX4_power 60 = .ok (.getfield 30, 3) := by decide +kernel
theorem dX4_power_63 : decode cX4_power 63 = .ok (.getfield 134, 3) := by decide +kernel
theorem dX4_power_66 : decode cX4_power 66 = .ok (.iload_n 3, 1) := by decide +kernel
theorem dX4_power_67 : decode cX4_power 67 = .ok (.iaload, 1) := by decide +kernel
theorem dX4_power_68 : decode cX4_power 68 = .ok (.iconst 1, 1) := by decide +kernel
theorem dX4_power_69 : decode cX4_power 69 = .ok (.iand, 1) := by decide +kernel
theorem dX4_power_70 : decode cX4_power 70 = .ok (.ifCond .eq 15, 3) := by decide +kernel
theorem dX4_power_73 : decode cX4_power 73 = .ok (.iload_n 2, 1) := by decide +kernel
theorem dX4_power_74 : decode cX4_power 74 = .ok (.aload_n 0, 1) := by decide +kernel
theorem dX4_power_75 : decode cX4_power 75 = .ok (.getfield 30, 3) := by decide +kernel
theorem dX4_power_78 : decode cX4_power 78 = .ok (.getfield 137, 3) := by decide +kernel
theorem dX4_power_81 : decode cX4_power 81 = .ok (.iload_n 3, 1) := by decide +kernel
theorem dX4_power_82 : decode cX4_power 82 = .ok (.iaload, 1) := by decide +kernel
theorem dX4_power_83 : decode cX4_power 83 = .ok (.iadd, 1) := by decide +kernel
theorem dX4_power_84 : decode cX4_power 84 = .ok (.istore_n 2, 1) := by decide +kernel
theorem dX4_power_85 : decode cX4_power 85 = .ok (.iinc 3 1, 3) := by decide +kernel
theorem dX4_power_88 : decode cX4_power 88 = .ok (.goto (-53), 3) := by decide +kernel
theorem dX4_power_91 : decode cX4_power 91 = .ok (.iload_n 2, 1) := by decide +kernel
theorem dX4_power_92 : decode cX4_power 92 = .ok (.ireturn, 1) := by decide +kernel
theorem dX4_stack_0 : decode cX4_stack 0 = .ok (.aload_n 0, 1) := by decide +kernel
theorem dX4_stack_1 : decode cX4_stack 1 = .ok (.getfield 23, 3) := by decide +kernel
theorem dX4_stack_4 : decode cX4_stack 4 = .ok (.getfield 89, 3) := by decide +kernel
theorem dX4_stack_7 : decode cX4_stack 7 = .ok (.ireturn, 1) := by decide +kernel
set_option maxRecDepth 20000 in
theorem ggX4_entryCard_X0_has : GoodIn wsX4_entryCard wsX0_has := goodIn_r _ [9, 10, 27, 28, 29, 30, 31, 32] (by decide +kernel) (by decide +kernel)
set_option maxRecDepth 20000 in
theorem gX4_entryCard_X0_has : GoodIn wsX4_entryCard (wsV RX4 140 RX0 yX0_has wsX0_has) := goodIn_app (goodIn_of _ (by decide +kernel)) ggX4_entryCard_X0_has
set_option maxRecDepth 20000 in
theorem ggX4_entryCard_X0_indexOf : GoodIn wsX4_entryCard wsX0_indexOf := goodIn_r _ [14, 10, 15, 6, 7, 8, 9, 27, 28, 29, 30, 31, 32] (by decide +kernel) (by decide +kernel)
set_option maxRecDepth 20000 in
theorem gX4_entryCard_X0_indexOf : GoodIn wsX4_entryCard (wsV RX4 144 RX0 yX0_indexOf wsX0_indexOf) := goodIn_app (goodIn_of _ (by decide +kernel)) ggX4_entryCard_X0_indexOf
theorem dX4_entryCard_0 : decode cX4_entryCard 0 = .ok (.aload_n 0, 1) := by decide +kernel
theorem dX4_entryCard_1 : decode cX4_entryCard 1 = .ok (.getfield 23, 3) := by decide +kernel
theorem dX4_entryCard_4 : decode cX4_entryCard 4 = .ok (.iload_n 1, 1) := by decide +kernel
theorem dX4_entryCard_5 : decode cX4_entryCard 5 = .ok (.invokevirtual 140, 3) := by decide +kernel
theorem dX4_entryCard_8 : decode cX4_entryCard 8 = .ok (.ifCond .ne 13, 3) := by decide +kernel
theorem dX4_entryCard_11 : decode cX4_entryCard 11 = .ok (.new 41, 3) := by decide +kernel
theorem dX4_entryCard_14 : decode cX4_entryCard 14 = .ok (.dup, 1) := by decide +kernel
theorem dX4_entryCard_15 : decode cX4_entryCard 15 = .ok (.ldc 141, 2) := by decide +kernel
theorem dX4_entryCard_17 : decode cX4_entryCard 17 = .ok (.invokespecial 45, 3) := by decide +kernel
theorem dX4_entryCard_20 : decode cX4_entryCard 20 = .ok (.athrow, 1) := by decide +kernel
theorem dX4_entryCard_21 : decode cX4_entryCard 21 = .ok (.aload_n 0, 1) := by decide +kernel
theorem dX4_entryCard_22 : decode cX4_entryCard 22 = .ok (.getfield 23, 3) := by decide +kernel
theorem dX4_entryCard_25 : decode cX4_entryCard 25 = .ok (.getfield 143, 3) := by decide +kernel
theorem dX4_entryCard_28 : decode cX4_entryCard 28 = .ok (.aload_n 0, 1) := by decide +kernel
theorem dX4_entryCard_29 : decode cX4_entryCard 29 = .ok (.getfield 23, 3) := by decide +kernel
theorem dX4_entryCard_32 : decode cX4_entryCard 32 = .ok (.iload_n 1, 1) := by decide +kernel
theorem dX4_entryCard_33 : decode cX4_entryCard 33 = .ok (.invokevirtual 144, 3) := by decide +kernel
theorem dX4_entryCard_36 : decode cX4_entryCard 36 = .ok (.iaload, 1) := by decide +kernel
theorem dX4_entryCard_37 : decode cX4_entryCard 37 = .ok (.ireturn, 1) := by decide +kernel
set_option maxRecDepth 20000 in
theorem ggX4_isTrigger_X0_has : GoodIn wsX4_isTrigger wsX0_has := goodIn_r _ [9, 10, 27, 28, 29, 30, 31, 32] (by decide +kernel) (by decide +kernel)
set_option maxRecDepth 20000 in
theorem gX4_isTrigger_X0_has : GoodIn wsX4_isTrigger (wsV RX4 140 RX0 yX0_has wsX0_has) := goodIn_app (goodIn_of _ (by decide +kernel)) ggX4_isTrigger_X0_has
set_option maxRecDepth 20000 in
theorem ggX4_isTrigger_X0_indexOf : GoodIn wsX4_isTrigger wsX0_indexOf := goodIn_r _ [14, 10, 15, 6, 7, 8, 9, 27, 28, 29, 30, 31, 32] (by decide +kernel) (by decide +kernel)
set_option maxRecDepth 20000 in
theorem gX4_isTrigger_X0_indexOf : GoodIn wsX4_isTrigger (wsV RX4 144 RX0 yX0_indexOf wsX0_indexOf) := goodIn_app (goodIn_of _ (by decide +kernel)) ggX4_isTrigger_X0_indexOf
theorem dX4_isTrigger_0 : decode cX4_isTrigger 0 = .ok (.aload_n 0, 1) := by decide +kernel
theorem dX4_isTrigger_1 : decode cX4_isTrigger 1 = .ok (.getfield 23, 3) := by decide +kernel
theorem dX4_isTrigger_4 : decode cX4_isTrigger 4 = .ok (.iload_n 1, 1) := by decide +kernel
theorem dX4_isTrigger_5 : decode cX4_isTrigger 5 = .ok (.invokevirtual 140, 3) := by decide +kernel
theorem dX4_isTrigger_8 : decode cX4_isTrigger 8 = .ok (.ifCond .ne 13, 3) := by decide +kernel
theorem dX4_isTrigger_11 : decode cX4_isTrigger 11 = .ok (.new 41, 3) := by decide +kernel
theorem dX4_isTrigger_14 : decode cX4_isTrigger 14 = .ok (.dup, 1) := by decide +kernel
theorem dX4_isTrigger_15 : decode cX4_isTrigger 15 = .ok (.ldc 141, 2) := by decide +kernel
theorem dX4_isTrigger_17 : decode cX4_isTrigger 17 = .ok (.invokespecial 45, 3) := by decide +kernel
theorem dX4_isTrigger_20 : decode cX4_isTrigger 20 = .ok (.athrow, 1) := by decide +kernel
theorem dX4_isTrigger_21 : decode cX4_isTrigger 21 = .ok (.aload_n 0, 1) := by decide +kernel
theorem dX4_isTrigger_22 : decode cX4_isTrigger 22 = .ok (.getfield 23, 3) := by decide +kernel
theorem dX4_isTrigger_25 : decode cX4_isTrigger 25 = .ok (.getfield 147, 3) := by decide +kernel
theorem dX4_isTrigger_28 : decode cX4_isTrigger 28 = .ok (.aload_n 0, 1) := by decide +kernel
theorem dX4_isTrigger_29 : decode cX4_isTrigger 29 = .ok (.getfield 23, 3) := by decide +kernel
theorem dX4_isTrigger_32 : decode cX4_isTrigger 32 = .ok (.iload_n 1, 1) := by decide +kernel
theorem dX4_isTrigger_33 : decode cX4_isTrigger 33 = .ok (.invokevirtual 144, 3) := by decide +kernel
theorem dX4_isTrigger_36 : decode cX4_isTrigger 36 = .ok (.baload, 1) := by decide +kernel
theorem dX4_isTrigger_37 : decode cX4_isTrigger 37 = .ok (.ireturn, 1) := by decide +kernel
set_option maxRecDepth 20000 in
theorem ggX4_entryPlayer_X0_has : GoodIn wsX4_entryPlayer wsX0_has := goodIn_r _ [9, 10, 27, 28, 29, 30, 31, 32] (by decide +kernel) (by decide +kernel)
set_option maxRecDepth 20000 in
theorem gX4_entryPlayer_X0_has : GoodIn wsX4_entryPlayer (wsV RX4 140 RX0 yX0_has wsX0_has) := goodIn_app (goodIn_of _ (by decide +kernel)) ggX4_entryPlayer_X0_has
set_option maxRecDepth 20000 in
theorem ggX4_entryPlayer_X0_indexOf : GoodIn wsX4_entryPlayer wsX0_indexOf := goodIn_r _ [14, 10, 15, 6, 7, 8, 9, 27, 28, 29, 30, 31, 32] (by decide +kernel) (by decide +kernel)
set_option maxRecDepth 20000 in
theorem gX4_entryPlayer_X0_indexOf : GoodIn wsX4_entryPlayer (wsV RX4 144 RX0 yX0_indexOf wsX0_indexOf) := goodIn_app (goodIn_of _ (by decide +kernel)) ggX4_entryPlayer_X0_indexOf
theorem dX4_entryPlayer_0 : decode cX4_entryPlayer 0 = .ok (.aload_n 0, 1) := by decide +kernel
theorem dX4_entryPlayer_1 : decode cX4_entryPlayer 1 = .ok (.getfield 23, 3) := by decide +kernel
theorem dX4_entryPlayer_4 : decode cX4_entryPlayer 4 = .ok (.iload_n 1, 1) := by decide +kernel
theorem dX4_entryPlayer_5 : decode cX4_entryPlayer 5 = .ok (.invokevirtual 140, 3) := by decide +kernel
theorem dX4_entryPlayer_8 : decode cX4_entryPlayer 8 = .ok (.ifCond .ne 13, 3) := by decide +kernel
theorem dX4_entryPlayer_11 : decode cX4_entryPlayer 11 = .ok (.new 41, 3) := by decide +kernel
theorem dX4_entryPlayer_14 : decode cX4_entryPlayer 14 = .ok (.dup, 1) := by decide +kernel
theorem dX4_entryPlayer_15 : decode cX4_entryPlayer 15 = .ok (.ldc 141, 2) := by decide +kernel
theorem dX4_entryPlayer_17 : decode cX4_entryPlayer 17 = .ok (.invokespecial 45, 3) := by decide +kernel
theorem dX4_entryPlayer_20 : decode cX4_entryPlayer 20 = .ok (.athrow, 1) := by decide +kernel
theorem dX4_entryPlayer_21 : decode cX4_entryPlayer 21 = .ok (.aload_n 0, 1) := by decide +kernel
theorem dX4_entryPlayer_22 : decode cX4_entryPlayer 22 = .ok (.getfield 23, 3) := by decide +kernel
theorem dX4_entryPlayer_25 : decode cX4_entryPlayer 25 = .ok (.getfield 151, 3) := by decide +kernel
theorem dX4_entryPlayer_28 : decode cX4_entryPlayer 28 = .ok (.aload_n 0, 1) := by decide +kernel
theorem dX4_entryPlayer_29 : decode cX4_entryPlayer 29 = .ok (.getfield 23, 3) := by decide +kernel
theorem dX4_entryPlayer_32 : decode cX4_entryPlayer 32 = .ok (.iload_n 1, 1) := by decide +kernel
theorem dX4_entryPlayer_33 : decode cX4_entryPlayer 33 = .ok (.invokevirtual 144, 3) := by decide +kernel
theorem dX4_entryPlayer_36 : decode cX4_entryPlayer 36 = .ok (.iaload, 1) := by decide +kernel
theorem dX4_entryPlayer_37 : decode cX4_entryPlayer 37 = .ok (.ireturn, 1) := by decide +kernel
set_option maxRecDepth 20000 in
theorem ggX4_entryTarget_X0_has : GoodIn wsX4_entryTarget wsX0_has := goodIn_r _ [8, 9, 47, 48, 49, 50, 51, 52] (by decide +kernel) (by decide +kernel)
set_option maxRecDepth 20000 in
theorem gX4_entryTarget_X0_has : GoodIn wsX4_entryTarget (wsV RX4 140 RX0 yX0_has wsX0_has) := goodIn_app (goodIn_of _ (by decide +kernel)) ggX4_entryTarget_X0_has
set_option maxRecDepth 20000 in
theorem ggX4_entryTarget_X0_indexOf : GoodIn wsX4_entryTarget wsX0_indexOf := goodIn_r _ [13, 9, 14, 5, 6, 7, 8, 47, 48, 49, 50, 51, 52] (by decide +kernel) (by decide +kernel)
set_option maxRecDepth 20000 in
theorem gX4_entryTarget_X0_indexOf : GoodIn wsX4_entryTarget (wsV RX4 144 RX0 yX0_indexOf wsX0_indexOf) := goodIn_app (goodIn_of _ (by decide +kernel)) ggX4_entryTarget_X0_indexOf
set_option maxRecDepth 20000 in
theorem ggX4_entryTarget_X4_targetPlace : GoodIn wsX4_entryTarget wsX4_targetPlace := goodIn_r _ [19, 3, 20, 21, 22, 23, 24, 25, 26, 7, 27, 9, 28, 29, 30, 31, 32, 33, 34, 35, 36, 37, 38, 39, 40, 41, 42, 43, 44, 45, 46, 47, 48, 49, 50, 51, 52, 53, 54, 55, 56, 57] (by decide +kernel) (by decide +kernel)
set_option maxRecDepth 20000 in
theorem gX4_entryTarget_X4_targetPlace : GoodIn wsX4_entryTarget (wsV RX4 154 RX4 yX4_targetPlace wsX4_targetPlace) := goodIn_app (goodIn_of _ (by decide +kernel)) ggX4_entryTarget_X4_targetPlace
theorem dX4_entryTarget_0 : decode cX4_entryTarget 0 = .ok (.aload_n 0, 1) := by decide +kernel
theorem dX4_entryTarget_1 : decode cX4_entryTarget 1 = .ok (.getfield 23, 3) := by decide +kernel
theorem dX4_entryTarget_4 : decode cX4_entryTarget 4 = .ok (.iload_n 1, 1) := by decide +kernel
theorem dX4_entryTarget_5 : decode cX4_entryTarget 5 = .ok (.invokevirtual 140, 3) := by decide +kernel
theorem dX4_entryTarget_8 : decode cX4_entryTarget 8 = .ok (.ifCond .ne 13, 3) := by decide +kernel
theorem dX4_entryTarget_11 : decode cX4_entryTarget 11 = .ok (.new 41, 3) := by decide +kernel
theorem dX4_entryTarget_14 : decode cX4_entryTarget 14 = .ok (.dup, 1) := by decide +kernel
theorem dX4_entryTarget_15 : decode cX4_entryTarget 15 = .ok (.ldc 141, 2) := by decide +kernel
theorem dX4_entryTarget_17 : decode cX4_entryTarget 17 = .ok (.invokespecial 45, 3) := by decide +kernel
theorem dX4_entryTarget_20 : decode cX4_entryTarget 20 = .ok (.athrow, 1) := by decide +kernel
theorem dX4_entryTarget_21 : decode cX4_entryTarget 21 = .ok (.aload_n 0, 1) := by decide +kernel
theorem dX4_entryTarget_22 : decode cX4_entryTarget 22 = .ok (.aload_n 0, 1) := by decide +kernel
theorem dX4_entryTarget_23 : decode cX4_entryTarget 23 = .ok (.getfield 23, 3) := by decide +kernel
theorem dX4_entryTarget_26 : decode cX4_entryTarget 26 = .ok (.iload_n 1, 1) := by decide +kernel
theorem dX4_entryTarget_27 : decode cX4_entryTarget 27 = .ok (.invokevirtual 144, 3) := by decide +kernel
theorem dX4_entryTarget_30 : decode cX4_entryTarget 30 = .ok (.invokevirtual 154, 3) := by decide +kernel
theorem dX4_entryTarget_33 : decode cX4_entryTarget 33 = .ok (.ireturn, 1) := by decide +kernel
set_option maxRecDepth 20000 in
theorem ggX4_requireThingAndLayer_X2_has : GoodIn wsX4_requireThingAndLayer wsX2_has := goodIn_r _ [10, 11, 23, 24, 25, 26, 27] (by decide +kernel) (by decide +kernel)
set_option maxRecDepth 20000 in
theorem gX4_requireThingAndLayer_X2_has : GoodIn wsX4_requireThingAndLayer (wsV RX4 115 RX2 yX2_has wsX2_has) := goodIn_app (goodIn_of _ (by decide +kernel)) ggX4_requireThingAndLayer_X2_has
theorem dX4_requireThingAndLayer_0 : decode cX4_requireThingAndLayer 0 = .ok (.aload_n 0, 1) := by decide +kernel
theorem dX4_requireThingAndLayer_1 : decode cX4_requireThingAndLayer 1 = .ok (.getfield 16, 3) := by decide +kernel
theorem dX4_requireThingAndLayer_4 : decode cX4_requireThingAndLayer 4 = .ok (.iload_n 1, 1) := by decide +kernel
theorem dX4_requireThingAndLayer_5 : decode cX4_requireThingAndLayer 5 = .ok (.invokevirtual 115, 3) := by decide +kernel
theorem dX4_requireThingAndLayer_8 : decode cX4_requireThingAndLayer 8 = .ok (.ifCond .ne 13, 3) := by decide +kernel
theorem dX4_requireThingAndLayer_11 : decode cX4_requireThingAndLayer 11 = .ok (.new 41, 3) := by decide +kernel
theorem dX4_requireThingAndLayer_14 : decode cX4_requireThingAndLayer 14 = .ok (.dup, 1) := by decide +kernel
theorem dX4_requireThingAndLayer_15 : decode cX4_requireThingAndLayer 15 = .ok (.ldc 119, 2) := by decide +kernel
theorem dX4_requireThingAndLayer_17 : decode cX4_requireThingAndLayer 17 = .ok (.invokespecial 45, 3) := by decide +kernel
theorem dX4_requireThingAndLayer_20 : decode cX4_requireThingAndLayer 20 = .ok (.athrow, 1) := by decide +kernel
theorem dX4_requireThingAndLayer_21 : decode cX4_requireThingAndLayer 21 = .ok (.iload_n 2, 1) := by decide +kernel
theorem dX4_requireThingAndLayer_22 : decode cX4_requireThingAndLayer 22 = .ok (.ifCond .lt 8, 3) := by decide +kernel
theorem dX4_requireThingAndLayer_25 : decode cX4_requireThingAndLayer 25 = .ok (.iload_n 2, 1) := by decide +kernel
theorem dX4_requireThingAndLayer_26 : decode cX4_requireThingAndLayer 26 = .ok (.iconst 5, 1) := by decide +kernel
theorem dX4_requireThingAndLayer_27 : decode cX4_requireThingAndLayer 27 = .ok (.if_icmp .le 13, 3) := by decide +kernel
theorem dX4_requireThingAndLayer_30 : decode cX4_requireThingAndLayer 30 = .ok (.new 98, 3) := by decide +kernel
theorem dX4_requireThingAndLayer_33 : decode cX4_requireThingAndLayer 33 = .ok (.dup, 1) := by decide +kernel
theorem dX4_requireThingAndLayer_34 : decode cX4_requireThingAndLayer 34 = .ok (.ldc 157, 2) := by decide +kernel
theorem dX4_requireThingAndLayer_36 : decode cX4_requireThingAndLayer 36 = .ok (.invokespecial 102, 3) := by decide +kernel
theorem dX4_requireThingAndLayer_39 : decode cX4_requireThingAndLayer 39 = .ok (.athrow, 1) := by decide +kernel
theorem dX4_requireThingAndLayer_40 : decode cX4_requireThingAndLayer 40 = .ok (.return_, 1) := by decide +kernel
theorem dX4_nextPlayer_0 : decode cX4_nextPlayer 0 = .ok (.iload_n 0, 1) := by decide +kernel
theorem dX4_nextPlayer_1 : decode cX4_nextPlayer 1 = .ok (.iconst 1, 1) := by decide +kernel
theorem dX4_nextPlayer_2 : decode cX4_nextPlayer 2 = .ok (.iadd, 1) := by decide +kernel
theorem dX4_nextPlayer_3 : decode cX4_nextPlayer 3 = .ok (.iconst 3, 1) := by decide +kernel
theorem dX4_nextPlayer_4 : decode cX4_nextPlayer 4 = .ok (.if_icmp .ge 9, 3) := by decide +kernel
theorem dX4_nextPlayer_7 : decode cX4_nextPlayer 7 = .ok (.iload_n 0, 1) := by decide +kernel
theorem dX4_nextPlayer_8 : decode cX4_nextPlayer 8 = .ok (.iconst 1, 1) := by decide +kernel
theorem dX4_nextPlayer_9 : decode cX4_nextPlayer 9 = .ok (.iadd, 1) := by decide +kernel
theorem dX4_nextPlayer_10 : decode cX4_nextPlayer 10 = .ok (.goto 4, 3) := by decide +kernel
theorem dX4_nextPlayer_13 : decode cX4_nextPlayer 13 = .ok (.iconst 0, 1) := by decide +kernel
theorem dX4_nextPlayer_14 : decode cX4_nextPlayer 14 = .ok (.ireturn, 1) := by decide +kernel
theorem dX4_costOf_0 : decode cX4_costOf 0 = .ok (.iload_n 0, 1) := by decide +kernel
theorem dX4_costOf_1 : decode cX4_costOf 1 = .ok (.ifCond .lt 17, 3) := by decide +kernel
theorem dX4_costOf_4 : decode cX4_costOf 4 = .ok (.iload_n 0, 1) := by decide +kernel
theorem dX4_costOf_5 : decode cX4_costOf 5 = .ok (.bipush 14, 2) := by decide +kernel
theorem dX4_costOf_7 : decode cX4_costOf 7 = .ok (.if_icmp .ge 11, 3) := by decide +kernel
theorem dX4_costOf_10 : decode cX4_costOf 10 = .ok (.getstatic 159, 3) := by decide +kernel
theorem dX4_costOf_13 : decode cX4_costOf 13 = .ok (.iload_n 0, 1) := by decide +kernel
theorem dX4_costOf_14 : decode cX4_costOf 14 = .ok (.iaload, 1) := by decide +kernel
theorem dX4_costOf_15 : decode cX4_costOf 15 = .ok (.goto 4, 3) := by decide +kernel
theorem dX4_costOf_18 : decode cX4_costOf 18 = .ok (.iconst 0, 1) := by decide +kernel
theorem dX4_costOf_19 : decode cX4_costOf 19 = .ok (.ireturn, 1) := by decide +kernel
theorem dX4_layerOf_0 : decode cX4_layerOf 0 = .ok (.iload_n 0, 1) := by decide +kernel
theorem dX4_layerOf_1 : decode cX4_layerOf 1 = .ok (.ifCond .lt 17, 3) := by decide +kernel
theorem dX4_layerOf_4 : decode cX4_layerOf 4 = .ok (.iload_n 0, 1) := by decide +kernel
theorem dX4_layerOf_5 : decode cX4_layerOf 5 = .ok (.bipush 14, 2) := by decide +kernel
theorem dX4_layerOf_7 : decode cX4_layerOf 7 = .ok (.if_icmp .ge 11, 3) := by decide +kernel
theorem dX4_layerOf_10 : decode cX4_layerOf 10 = .ok (.getstatic 162, 3) := by decide +kernel
theorem dX4_layerOf_13 : decode cX4_layerOf 13 = .ok (.iload_n 0, 1) := by decide +kernel
theorem dX4_layerOf_14 : decode cX4_layerOf 14 = .ok (.iaload, 1) := by decide +kernel
theorem dX4_layerOf_15 : decode cX4_layerOf 15 = .ok (.goto 4, 3) := by decide +kernel
theorem dX4_layerOf_18 : decode cX4_layerOf 18 = .ok (.iconst 0, 1) := by decide +kernel
theorem dX4_layerOf_19 : decode cX4_layerOf 19 = .ok (.ireturn, 1) := by decide +kernel
theorem dX4_isThing_0 : decode cX4_isThing 0 = .ok (.iload_n 0, 1) := by decide +kernel
theorem dX4_isThing_1 : decode cX4_isThing 1 = .ok (.bipush 12, 2) := by decide +kernel
theorem dX4_isThing_3 : decode cX4_isThing 3 = .ok (.if_icmp .ge 7, 3) := by decide +kernel
theorem dX4_isThing_6 : decode cX4_isThing 6 = .ok (.iconst 1, 1) := by decide +kernel
theorem dX4_isThing_7 : decode cX4_isThing 7 = .ok (.goto 4, 3) := by decide +kernel
theorem dX4_isThing_10 : decode cX4_isThing 10 = .ok (.iconst 0, 1) := by decide +kernel
theorem dX4_isThing_11 : decode cX4_isThing 11 = .ok (.ireturn, 1) := by decide +kernel
theorem dX4_newId_0 : decode cX4_newId 0 = .ok (.aload_n 0, 1) := by decide +kernel
theorem dX4_newId_1 : decode cX4_newId 1 = .ok (.getfield 165, 3) := by decide +kernel
theorem dX4_newId_4 : decode cX4_newId 4 = .ok (.istore_n 1, 1) := by decide +kernel
theorem dX4_newId_5 : decode cX4_newId 5 = .ok (.aload_n 0, 1) := by decide +kernel
theorem dX4_newId_6 : decode cX4_newId 6 = .ok (.dup, 1) := by decide +kernel
theorem dX4_newId_7 : decode cX4_newId 7 = .ok (.getfield 165, 3) := by decide +kernel
theorem dX4_newId_10 : decode cX4_newId 10 = .ok (.iconst 1, 1) := by decide +kernel
theorem dX4_newId_11 : decode cX4_newId 11 = .ok (.iadd, 1) := by decide +kernel
theorem dX4_newId_12 : decode cX4_newId 12 = .ok (.putfield 165, 3) := by decide +kernel
theorem dX4_newId_15 : decode cX4_newId 15 = .ok (.iload_n 1, 1) := by decide +kernel
theorem dX4_newId_16 : decode cX4_newId 16 = .ok (.ireturn, 1) := by decide +kernel
theorem dX4_coinsOf_0 : decode cX4_coinsOf 0 = .ok (.iload_n 1, 1) := by decide +kernel
theorem dX4_coinsOf_1 : decode cX4_coinsOf 1 = .ok (.ifCond .lt 17, 3) := by decide +kernel
theorem dX4_coinsOf_4 : decode cX4_coinsOf 4 = .ok (.iload_n 1, 1) := by decide +kernel
theorem dX4_coinsOf_5 : decode cX4_coinsOf 5 = .ok (.iconst 3, 1) := by decide +kernel
theorem dX4_coinsOf_6 : decode cX4_coinsOf 6 = .ok (.if_icmp .ge 12, 3) := by decide +kernel
theorem dX4_coinsOf_9 : decode cX4_coinsOf 9 = .ok (.aload_n 0, 1) := by decide +kernel
theorem dX4_coinsOf_10 : decode cX4_coinsOf 10 = .ok (.getfield 9, 3) := by decide +kernel
theorem dX4_coinsOf_13 : decode cX4_coinsOf 13 = .ok (.iload_n 1, 1) := by decide +kernel
theorem dX4_coinsOf_14 : decode cX4_coinsOf 14 = .ok (.iaload, 1) := by decide +kernel
theorem dX4_coinsOf_15 : decode cX4_coinsOf 15 = .ok (.goto 4, 3) := by decide +kernel
theorem dX4_coinsOf_18 : decode cX4_coinsOf 18 = .ok (.iconst 0, 1) := by decide +kernel
theorem dX4_coinsOf_19 : decode cX4_coinsOf 19 = .ok (.ireturn, 1) := by decide +kernel
theorem dX4_pay_0 : decode cX4_pay 0 = .ok (.iload_n 1, 1) := by decide +kernel
theorem dX4_pay_1 : decode cX4_pay 1 = .ok (.ifCond .lt 18, 3) := by decide +kernel
theorem dX4_pay_4 : decode cX4_pay 4 = .ok (.iload_n 1, 1) := by decide +kernel
theorem dX4_pay_5 : decode cX4_pay 5 = .ok (.iconst 3, 1) := by decide +kernel
theorem dX4_pay_6 : decode cX4_pay 6 = .ok (.if_icmp .ge 13, 3) := by decide +kernel
theorem dX4_pay_9 : decode cX4_pay 9 = .ok (.aload_n 0, 1) := by decide +kernel
theorem dX4_pay_10 : decode cX4_pay 10 = .ok (.getfield 9, 3) := by decide +kernel
theorem dX4_pay_13 : decode cX4_pay 13 = .ok (.iload_n 1, 1) := by decide +kernel
theorem dX4_pay_14 : decode cX4_pay 14 = .ok (.dup2, 1) := by decide +kernel
theorem dX4_pay_15 : decode cX4_pay 15 = .ok (.iaload, 1) := by decide +kernel
theorem dX4_pay_16 : decode cX4_pay 16 = .ok (.iload_n 2, 1) := by decide +kernel
theorem dX4_pay_17 : decode cX4_pay 17 = .ok (.iadd, 1) := by decide +kernel
theorem dX4_pay_18 : decode cX4_pay 18 = .ok (.iastore, 1) := by decide +kernel
theorem dX4_pay_19 : decode cX4_pay 19 = .ok (.return_, 1) := by decide +kernel
set_option maxRecDepth 20000 in
theorem ggX4_findObstacle_X4_isThing : GoodIn wsX4_findObstacle wsX4_isThing := goodIn_r _ [8] (by decide +kernel) (by decide +kernel)
set_option maxRecDepth 20000 in
theorem gX4_findObstacle_X4_isThing : GoodIn wsX4_findObstacle (va_wsS RX4 168 yX4_isThing wsX4_isThing) := goodIn_app (goodIn_of _ (by decide +kernel)) ggX4_findObstacle_X4_isThing
set_option maxRecDepth 20000 in
theorem ggX4_findObstacle_X4_coinsOf : GoodIn wsX4_findObstacle wsX4_coinsOf := goodIn_r _ [12, 13, 41, 42, 43, 44, 45, 46, 47, 48, 49, 50, 51] (by decide +kernel) (by decide +kernel)
set_option maxRecDepth 20000 in
theorem gX4_findObstacle_X4_coinsOf : GoodIn wsX4_findObstacle (wsV RX4 171 RX4 yX4_coinsOf wsX4_coinsOf) := goodIn_app (goodIn_of _ (by decide +kernel)) ggX4_findObstacle_X4_coinsOf
set_option maxRecDepth 20000 in
theorem ggX4_findObstacle_X4_costOf : GoodIn wsX4_findObstacle wsX4_costOf := goodIn_r _ [16, 17] (by decide +kernel) (by decide +kernel)
set_option maxRecDepth 20000 in
theorem gX4_findObstacle_X4_costOf : GoodIn wsX4_findObstacle (va_wsS RX4 61 yX4_costOf wsX4_costOf) := goodIn_app (goodIn_of _ (by decide +kernel)) ggX4_findObstacle_X4_costOf
set_option maxRecDepth 20000 in
theorem ggX4_findObstacle_X4_hasTarget : GoodIn wsX4_findObstacle wsX4_hasTarget := goodIn_r _ [21, 22, 1, 23, 24, 25, 26, 27, 28, 29, 30, 31, 32, 33, 34, 35, 36, 37, 38, 39, 40, 41, 42, 43, 44, 45, 46, 47, 48, 49, 50, 51, 52, 53, 54, 55, 56, 57, 58, 59, 60, 61, 62] (by decide +kernel) (by decide +kernel)
set_option maxRecDepth 20000 in
theorem gX4_findObstacle_X4_hasTarget : GoodIn wsX4_findObstacle (wsV RX4 174 RX4 yX4_hasTarget wsX4_hasTarget) := goodIn_app (goodIn_of _ (by decide +kernel)) ggX4_findObstacle_X4_hasTarget
theorem dX4_findObstacle_0 : decode cX4_findObstacle 0 = .ok (.iload_n 1, 1) := by decide +kernel
theorem dX4_findObstacle_1 : decode cX4_findObstacle 1 = .ok (.invokestatic 168, 3) := by decide +kernel
theorem dX4_findObstacle_4 : decode cX4_findObstacle 4 = .ok (.ifCond .eq 26, 3) := by decide +kernel
theorem dX4_findObstacle_7 : decode cX4_findObstacle 7 = .ok (.aload_n 0, 1) := by decide +kernel
theorem dX4_findObstacle_8 : decode cX4_findObstacle 8 = .ok (.getfield 23, 3) := by decide +kernel
theorem dX4_findObstacle_11 : decode cX4_findObstacle 11 = .ok (.getfield 89, 3) := by decide +kernel
theorem dX4_findObstacle_14 : decode cX4_findObstacle 14 = .ok (.ifCond .gt 14, 3) := by decide +kernel
theorem dX4_findObstacle_17 : decode cX4_findObstacle 17 = .ok (.aload_n 0, 1) := by decide +kernel
theorem dX4_findObstacle_18 : decode cX4_findObstacle 18 = .ok (.getfield 57, 3) := by decide +kernel
theorem dX4_findObstacle_21 : decode cX4_findObstacle 21 = .ok (.aload_n 0, 1) := by decide +kernel
theorem dX4_findObstacle_22 : decode cX4_findObstacle 22 = .ok (.getfield 103, 3) := by decide +kernel
theorem dX4_findObstacle_25 : decode cX4_findObstacle 25 = .ok (.if_icmp .eq 5, 3) := by decide +kernel
theorem dX4_findObstacle_28 : decode cX4_findObstacle 28 = .ok (.iconst 1, 1) := by decide +kernel
theorem dX4_findObstacle_29 : decode cX4_findObstacle 29 = .ok (.ireturn, 1) := by decide +kernel
theorem dX4_findObstacle_30 : decode cX4_findObstacle 30 = .ok (.aload_n 0, 1) := by decide +kernel
theorem dX4_findObstacle_31 : decode cX4_findObstacle 31 = .ok (.aload_n 0, 1) := by decide +kernel
theorem dX4_findObstacle_32 : decode cX4_findObstacle 32 = .ok (.getfield 57, 3) := by decide +kernel
theorem dX4_findObstacle_35 : decode cX4_findObstacle 35 = .ok (.invokevirtual 171, 3) := by decide +kernel
theorem dX4_findObstacle_38 : decode cX4_findObstacle 38 = .ok (.iload_n 1, 1) := by decide +kernel
theorem dX4_findObstacle_39 : decode cX4_findObstacle 39 = .ok (.invokestatic 61, 3) := by decide +kernel
theorem dX4_findObstacle_42 : decode cX4_findObstacle 42 = .ok (.if_icmp .ge 5, 3) := by decide +kernel
theorem dX4_findObstacle_45 : decode cX4_findObstacle 45 = .ok (.iconst 2, 1) := by decide +kernel
theorem dX4_findObstacle_46 : decode cX4_findObstacle 46 = .ok (.ireturn, 1) := by decide +kernel
theorem dX4_findObstacle_47 : decode cX4_findObstacle 47 = .ok (.aload_n 0, 1) := by decide +kernel
theorem dX4_findObstacle_48 : decode cX4_findObstacle 48 = .ok (.iload_n 1, 1) := by decide +kernel
theorem dX4_findObstacle_49 : decode cX4_findObstacle 49 = .ok (.iload_n 2, 1) := by decide +kernel
theorem dX4_findObstacle_50 : decode cX4_findObstacle 50 = .ok (.invokevirtual 174, 3) := by decide +kernel
theorem dX4_findObstacle_53 : decode cX4_findObstacle 53 = .ok (.ifCond .ne 5, 3) := by decide +kernel
theorem dX4_findObstacle_56 : decode cX4_findObstacle 56 = .ok (.iconst 3, 1) := by decide +kernel
theorem dX4_findObstacle_57 : decode cX4_findObstacle 57 = .ok (.ireturn, 1) := by decide +kernel
theorem dX4_findObstacle_58 : decode cX4_findObstacle 58 = .ok (.aload_n 0, 1) := by decide +kernel
theorem dX4_findObstacle_59 : decode cX4_findObstacle 59 = .ok (.getfield 23, 3) := by decide +kernel
theorem dX4_findObstacle_62 : decode cX4_findObstacle 62 = .ok (.getfield 89, 3) := by decide +kernel
theorem dX4_findObstacle_65 : decode cX4_findObstacle 65 = .ok (.bipush 12, 2) := by decide +kernel
theorem dX4_findObstacle_67 : decode cX4_findObstacle 67 = .ok (.if_icmp .lt 7, 3) := by decide +kernel
theorem dX4_findObstacle_70 : decode cX4_findObstacle 70 = .ok (.iconst 4, 1) := by decide +kernel
theorem dX4_findObstacle_71 : decode cX4_findObstacle 71 = .ok (.goto 4, 3) := by decide +kernel
theorem dX4_findObstacle_74 : decode cX4_findObstacle 74 = .ok (.iconst 0, 1) := by decide +kernel
theorem dX4_findObstacle_75 : decode cX4_findObstacle 75 = .ok (.ireturn, 1) := by decide +kernel
set_option maxRecDepth 20000 in
theorem ggX4_hasTarget_X2_has : GoodIn wsX4_hasTarget wsX2_has := goodIn_r _ [8, 9, 38, 39, 40, 41, 42] (by decide +kernel) (by decide +kernel)
set_option maxRecDepth 20000 in
theorem gX4_hasTarget_X2_has : GoodIn wsX4_hasTarget (wsV RX4 115 RX2 yX2_has wsX2_has) := goodIn_app (goodIn_of _ (by decide +kernel)) ggX4_hasTarget_X2_has
set_option maxRecDepth 20000 in
theorem ggX4_hasTarget_X0_has : GoodIn wsX4_hasTarget wsX0_has := goodIn_r _ [14, 15, 32, 33, 34, 35, 36, 37] (by decide +kernel) (by decide +kernel)
set_option maxRecDepth 20000 in
theorem gX4_hasTarget_X0_has : GoodIn wsX4_hasTarget (wsV RX4 140 RX0 yX0_has wsX0_has) := goodIn_app (goodIn_of _ (by decide +kernel)) ggX4_hasTarget_X0_has
set_option maxRecDepth 20000 in
theorem ggX4_hasTarget_X0_indexOf : GoodIn wsX4_hasTarget wsX0_indexOf := goodIn_r _ [19, 15, 20, 11, 12, 13, 14, 32, 33, 34, 35, 36, 37] (by decide +kernel) (by decide +kernel)
set_option maxRecDepth 20000 in
theorem gX4_hasTarget_X0_indexOf : GoodIn wsX4_hasTarget (wsV RX4 144 RX0 yX0_indexOf wsX0_indexOf) := goodIn_app (goodIn_of _ (by decide +kernel)) ggX4_hasTarget_X0_indexOf
theorem dX4_hasTarget_0 : decode cX4_hasTarget 0 = .ok (.iload_n 1, 1) := by decide +kernel
theorem dX4_hasTarget_1 : decode cX4_hasTarget 1 = .ok (.bipush 7, 2) := by decide +kernel
theorem dX4_hasTarget_3 : decode cX4_hasTarget 3 = .ok (.if_icmp .eq 9, 3) := by decide +kernel
theorem dX4_hasTarget_6 : decode cX4_hasTarget 6 = .ok (.iload_n 1, 1) := by decide +kernel
theorem dX4_hasTarget_7 : decode cX4_hasTarget 7 = .ok (.bipush 12, 2) := by decide +kernel
theorem dX4_hasTarget_9 : decode cX4_hasTarget 9 = .ok (.if_icmp .ne 12, 3) := by decide +kernel
theorem dX4_hasTarget_12 : decode cX4_hasTarget 12 = .ok (.aload_n 0, 1) := by decide +kernel
theorem dX4_hasTarget_13 : decode cX4_hasTarget 13 = .ok (.getfield 16, 3) := by decide +kernel
theorem dX4_hasTarget_16 : decode cX4_hasTarget 16 = .ok (.iload_n 2, 1) := by decide +kernel
theorem dX4_hasTarget_17 : decode cX4_hasTarget 17 = .ok (.invokevirtual 115, 3) := by decide +kernel
theorem dX4_hasTarget_20 : decode cX4_hasTarget 20 = .ok (.ireturn, 1) := by decide +kernel
theorem dX4_hasTarget_21 : decode cX4_hasTarget 21 = .ok (.iload_n 1, 1) := by decide +kernel
theorem dX4_hasTarget_22 : decode cX4_hasTarget 22 = .ok (.bipush 13, 2) := by decide +kernel
theorem dX4_hasTarget_24 : decode cX4_hasTarget 24 = .ok (.if_icmp .ne 39, 3) := by decide +kernel
theorem dX4_hasTarget_27 : decode cX4_hasTarget 27 = .ok (.aload_n 0, 1) := by decide +kernel
theorem dX4_hasTarget_28 : decode cX4_hasTarget 28 = .ok (.getfield 23, 3) := by decide +kernel
theorem dX4_hasTarget_31 : decode cX4_hasTarget 31 = .ok (.iload_n 2, 1) := by decide +kernel
theorem dX4_hasTarget_32 : decode cX4_hasTarget 32 = .ok (.invokevirtual 140, 3) := by decide +kernel
theorem dX4_hasTarget_35 : decode cX4_hasTarget 35 = .ok (.ifCond .eq 26, 3) := by decide +kernel
theorem dX4_hasTarget_38 : decode cX4_hasTarget 38 = .ok (.aload_n 0, 1) := by decide +kernel
theorem dX4_hasTarget_39 : decode cX4_hasTarget 39 = .ok (.getfield 23, 3) := by decide +kernel
theorem dX4_hasTarget_42 : decode cX4_hasTarget 42 = .ok (.getfield 147, 3) := by decide +kernel
theorem dX4_hasTarget_45 : decode cX4_hasTarget 45 = .ok (.aload_n 0, 1) := by decide +kernel
theorem dX4_hasTarget_46 : decode cX4_hasTarget 46 = .ok (.getfield 23, 3) := by decide +kernel
theorem dX4_hasTarget_49 : decode cX4_hasTarget 49 = .ok (.iload_n 2, 1) := by decide +kernel
