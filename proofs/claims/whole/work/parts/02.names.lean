def RX : String := "FeedModulus"
def TX : u_T := fun k => match k with
  | 0 => ("FeedModulus", "parts", "LFeedModulus$Parts;", true)
  | 1 => ("FeedModulus", "riserTable", "LFeedModulus$RiserTable;", true)
  | 2 => ("FeedModulus", "flowTable", "LFeedModulus$FlowTable;", true)
  | _ => ("FeedModulus", "moldingBox", "LFeedModulus$MoldingBox;", true)
def tyX : Nat → FieldType := fun k => match k with
  | 0 => .object "FeedModulus$Parts"
  | 1 => .object "FeedModulus$RiserTable"
  | 2 => .object "FeedModulus$FlowTable"
  | _ => .object "FeedModulus$MoldingBox"
theorem nokX : ∀ a, a < 4 → ∀ b, b < 4 → a ≠ b → (TX a).2.1 ≠ (TX b).2.1 := by decide +kernel
theorem tokX : ∀ k, k < 4 → parseFieldDescriptor (TX k).2.2.1 = some (tyX k) := by decide +kernel
def RP : String := "FeedModulus$Parts"
def TP : u_T := fun k => match k with
  | 0 => ("FeedModulus$Parts", "uppers", "[J", true)
  | 1 => ("FeedModulus$Parts", "lowers", "[J", true)
  | 2 => ("FeedModulus$Parts", "faces", "[I", true)
  | 3 => ("FeedModulus$Parts", "weights", "[I", true)
  | 4 => ("FeedModulus$Parts", "times", "[I", true)
  | 5 => ("FeedModulus$Parts", "risers", "[I", true)
  | 6 => ("FeedModulus$Parts", "joints", "[Z", true)
  | _ => ("FeedModulus$Parts", "count", "I", false)
def tyP : Nat → FieldType := fun k => match k with
  | 0 => .array .long
  | 1 => .array .long
  | 2 => .array .int
  | 3 => .array .int
  | 4 => .array .int
  | 5 => .array .int
  | 6 => .array .boolean
  | _ => .int
theorem nokP : ∀ a, a < 8 → ∀ b, b < 8 → a ≠ b → (TP a).2.1 ≠ (TP b).2.1 := by decide +kernel
theorem tokP : ∀ k, k < 8 → parseFieldDescriptor (TP k).2.2.1 = some (tyP k) := by decide +kernel
def RR : String := "FeedModulus$RiserTable"
def TR : u_T := fun k => match k with
  | 0 => ("FeedModulus$RiserTable", "uppers", "[J", true)
  | 1 => ("FeedModulus$RiserTable", "lowers", "[J", true)
  | _ => ("FeedModulus$RiserTable", "count", "I", false)
def tyR : Nat → FieldType := fun k => match k with
  | 0 => .array .long
  | 1 => .array .long
  | _ => .int
theorem nokR : ∀ a, a < 3 → ∀ b, b < 3 → a ≠ b → (TR a).2.1 ≠ (TR b).2.1 := by decide +kernel
theorem tokR : ∀ k, k < 3 → parseFieldDescriptor (TR k).2.2.1 = some (tyR k) := by decide +kernel
def RF : String := "FeedModulus$FlowTable"
def TF : u_T := fun k => match k with
  | 0 => ("FeedModulus$FlowTable", "openings", "[I", true)
  | 1 => ("FeedModulus$FlowTable", "flows", "[I", true)
  | _ => ("FeedModulus$FlowTable", "count", "I", false)
def tyF : Nat → FieldType := fun k => match k with
  | 0 => .array .int
  | 1 => .array .int
  | _ => .int
theorem nokF : ∀ a, a < 3 → ∀ b, b < 3 → a ≠ b → (TF a).2.1 ≠ (TF b).2.1 := by decide +kernel
theorem tokF : ∀ k, k < 3 → parseFieldDescriptor (TF k).2.2.1 = some (tyF k) := by decide +kernel
def RM : String := "FeedModulus$MoldingBox"
def TM : u_T := fun k => match k with
  | 0 => ("FeedModulus$MoldingBox", "thingsAlongWidth", "[I", true)
  | 1 => ("FeedModulus$MoldingBox", "thingsAlongDepth", "[I", true)
  | 2 => ("FeedModulus$MoldingBox", "shelfBegins", "[I", true)
  | 3 => ("FeedModulus$MoldingBox", "shelfDepths", "[I", true)
  | 4 => ("FeedModulus$MoldingBox", "shelfWidthsUsed", "[I", true)
  | 5 => ("FeedModulus$MoldingBox", "width", "I", false)
  | 6 => ("FeedModulus$MoldingBox", "depth", "I", false)
  | 7 => ("FeedModulus$MoldingBox", "depthUsed", "I", false)
  | 8 => ("FeedModulus$MoldingBox", "things", "I", false)
  | _ => ("FeedModulus$MoldingBox", "shelves", "I", false)
def tyM : Nat → FieldType := fun k => match k with
  | 0 => .array .int
  | 1 => .array .int
  | 2 => .array .int
  | 3 => .array .int
  | 4 => .array .int
  | 5 => .int
  | 6 => .int
  | 7 => .int
  | 8 => .int
  | _ => .int
theorem nokM : ∀ a, a < 10 → ∀ b, b < 10 → a ≠ b → (TM a).2.1 ≠ (TM b).2.1 := by decide +kernel
theorem tokM : ∀ k, k < 10 → parseFieldDescriptor (TM k).2.2.1 = some (tyM k) := by decide +kernel
def RD : String := "FeedModulusModel"
def TD : u_T := fun k => match k with
  | 0 => ("FeedModulusModel", "thrown", "I", false)
  | 1 => ("FeedModulusModel", "parts", "I", false)
  | 2 => ("FeedModulusModel", "round", "[Z", true)
  | 3 => ("FeedModulusModel", "a", "[I", true)
  | 4 => ("FeedModulusModel", "b", "[I", true)
  | 5 => ("FeedModulusModel", "c", "[I", true)
  | 6 => ("FeedModulusModel", "cools", "[I", true)
  | 7 => ("FeedModulusModel", "joined", "[I", true)
  | 8 => ("FeedModulusModel", "riserOf", "[I", true)
  | 9 => ("FeedModulusModel", "risers", "I", false)
  | 10 => ("FeedModulusModel", "riserD", "[I", true)
  | 11 => ("FeedModulusModel", "riserH", "[I", true)
  | 12 => ("FeedModulusModel", "flows", "I", false)
  | 13 => ("FeedModulusModel", "opening", "[I", true)
  | 14 => ("FeedModulusModel", "flow", "[I", true)
  | 15 => ("FeedModulusModel", "width", "I", false)
  | 16 => ("FeedModulusModel", "depth", "I", false)
  | 17 => ("FeedModulusModel", "things", "I", false)
  | 18 => ("FeedModulusModel", "thingAcross", "[I", true)
  | 19 => ("FeedModulusModel", "thingFrom", "[I", true)
  | 20 => ("FeedModulusModel", "thingWide", "[I", true)
  | _ => ("FeedModulusModel", "thingDeep", "[I", true)
def tyD : Nat → FieldType := fun k => match k with
  | 0 => .int
  | 1 => .int
  | 2 => .array .boolean
  | 3 => .array .int
  | 4 => .array .int
  | 5 => .array .int
  | 6 => .array .int
  | 7 => .array .int
  | 8 => .array .int
  | 9 => .int
  | 10 => .array .int
  | 11 => .array .int
  | 12 => .int
  | 13 => .array .int
  | 14 => .array .int
  | 15 => .int
  | 16 => .int
  | 17 => .int
  | 18 => .array .int
  | 19 => .array .int
  | 20 => .array .int
  | _ => .array .int
theorem nokD : ∀ a, a < 22 → ∀ b, b < 22 → a ≠ b → (TD a).2.1 ≠ (TD b).2.1 := by decide +kernel
theorem tokD : ∀ k, k < 22 → parseFieldDescriptor (TD k).2.2.1 = some (tyD k) := by decide +kernel
def RL : String := "FeedModulusLaw"
def RJ : String := "java/lang/Long"
abbrev vwCl : List vw_C := [(RX, TX, 4), (RP, TP, 8), (RR, TR, 3), (RF, TF, 3), (RM, TM, 10), (RD, TD, 22)]
abbrev cX_init : ByteArray := prog_1_method_1_code
def yX_init : MethodName := ⟨RX, "<init>", "()V"⟩
abbrev cX_box : ByteArray := prog_1_method_2_code
def yX_box : MethodName := ⟨RX, "box", "(III)I"⟩
abbrev cX_cylinder : ByteArray := prog_1_method_3_code
def yX_cylinder : MethodName := ⟨RX, "cylinder", "(II)I"⟩
abbrev cX_face : ByteArray := prog_1_method_4_code
def yX_face : MethodName := ⟨RX, "face", "(III)V"⟩
abbrev cX_modulus : ByteArray := prog_1_method_5_code
def yX_modulus : MethodName := ⟨RX, "modulus", "(II)J"⟩
abbrev cX_join : ByteArray := prog_1_method_6_code
def yX_join : MethodName := ⟨RX, "join", "(IIZ)V"⟩
abbrev cX_order : ByteArray := prog_1_method_7_code
def yX_order : MethodName := ⟨RX, "order", "(I)I"⟩
abbrev cX_riserRow : ByteArray := prog_1_method_8_code
def yX_riserRow : MethodName := ⟨RX, "riserRow", "(II)I"⟩
abbrev cX_riser : ByteArray := prog_1_method_9_code
def yX_riser : MethodName := ⟨RX, "riser", "(I)I"⟩
abbrev cX_cutOff : ByteArray := prog_1_method_10_code
def yX_cutOff : MethodName := ⟨RX, "cutOff", "(I)V"⟩
abbrev cX_feeder : ByteArray := prog_1_method_11_code
def yX_feeder : MethodName := ⟨RX, "feeder", "(I)I"⟩
abbrev cX_unfed : ByteArray := prog_1_method_12_code
def yX_unfed : MethodName := ⟨RX, "unfed", "(I)I"⟩
abbrev cX_flowRow : ByteArray := prog_1_method_13_code
def yX_flowRow : MethodName := ⟨RX, "flowRow", "(II)I"⟩
abbrev cX_flow : ByteArray := prog_1_method_14_code
def yX_flow : MethodName := ⟨RX, "flow", "(I)I"⟩
abbrev cX_gate : ByteArray := prog_1_method_15_code
def yX_gate : MethodName := ⟨RX, "gate", "(I)I"⟩
abbrev cX_pattern : ByteArray := prog_1_method_16_code
def yX_pattern : MethodName := ⟨RX, "pattern", "(II)I"⟩
abbrev cX_molding : ByteArray := prog_1_method_17_code
def yX_molding : MethodName := ⟨RX, "molding", "(II)V"⟩
abbrev cX_pack : ByteArray := prog_1_method_18_code
def yX_pack : MethodName := ⟨RX, "pack", "(II)I"⟩
abbrev cX_packed : ByteArray := prog_1_method_19_code
def yX_packed : MethodName := ⟨RX, "packed", "(II)I"⟩
abbrev cX_whatFeeds : ByteArray := prog_1_method_20_code
def yX_whatFeeds : MethodName := ⟨RX, "whatFeeds", "(I)I"⟩
abbrev cX_requirePart : ByteArray := prog_1_method_21_code
def yX_requirePart : MethodName := ⟨RX, "requirePart", "(I)V"⟩
abbrev cX_requireRoomForPart : ByteArray := prog_1_method_22_code
def yX_requireRoomForPart : MethodName := ⟨RX, "requireRoomForPart", "()V"⟩
abbrev cX_requireTold : ByteArray := prog_1_method_23_code
def yX_requireTold : MethodName := ⟨RX, "requireTold", "(I)V"⟩
abbrev cX_requireFlowRows : ByteArray := prog_1_method_24_code
def yX_requireFlowRows : MethodName := ⟨RX, "requireFlowRows", "()V"⟩
abbrev cX_requireNotBelowZero : ByteArray := prog_1_method_25_code
def yX_requireNotBelowZero : MethodName := ⟨RX, "requireNotBelowZero", "(I)V"⟩
abbrev cX_requireSize : ByteArray := prog_1_method_26_code
def yX_requireSize : MethodName := ⟨RX, "requireSize", "(I)V"⟩
abbrev cX_requireOpening : ByteArray := prog_1_method_27_code
def yX_requireOpening : MethodName := ⟨RX, "requireOpening", "(I)V"⟩
abbrev cX_requireFlow : ByteArray := prog_1_method_28_code
def yX_requireFlow : MethodName := ⟨RX, "requireFlow", "(I)V"⟩
abbrev cX_requireMoldingSize : ByteArray := prog_1_method_29_code
def yX_requireMoldingSize : MethodName := ⟨RX, "requireMoldingSize", "(I)V"⟩
abbrev cX_inLowestTerms : ByteArray := prog_1_method_30_code
def yX_inLowestTerms : MethodName := ⟨RX, "inLowestTerms", "(JJI)J"⟩
abbrev cX_greatestDivisor : ByteArray := prog_1_method_31_code
def yX_greatestDivisor : MethodName := ⟨RX, "greatestDivisor", "(JJ)J"⟩
abbrev cD_init : ByteArray := prog_7_method_1_code
def yD_init : MethodName := ⟨RD, "<init>", "()V"⟩
abbrev cD_thrown : ByteArray := prog_7_method_2_code
def yD_thrown : MethodName := ⟨RD, "thrown", "()I"⟩
abbrev cD_throwing : ByteArray := prog_7_method_3_code
def yD_throwing : MethodName := ⟨RD, "throwing", "(ZZZ)Z"⟩
abbrev cD_in : ByteArray := prog_7_method_4_code
def yD_in : MethodName := ⟨RD, "in", "(III)Z"⟩
abbrev cD_isSize : ByteArray := prog_7_method_5_code
def yD_isSize : MethodName := ⟨RD, "isSize", "(I)Z"⟩
abbrev cD_isPart : ByteArray := prog_7_method_6_code
def yD_isPart : MethodName := ⟨RD, "isPart", "(I)Z"⟩
abbrev cD_add : ByteArray := prog_7_method_7_code
def yD_add : MethodName := ⟨RD, "add", "(ZIII)I"⟩
abbrev cD_box : ByteArray := prog_7_method_8_code
def yD_box : MethodName := ⟨RD, "box", "(III)I"⟩
abbrev cD_cylinder : ByteArray := prog_7_method_9_code
def yD_cylinder : MethodName := ⟨RD, "cylinder", "(II)I"⟩
abbrev cD_face : ByteArray := prog_7_method_10_code
def yD_face : MethodName := ⟨RD, "face", "(III)V"⟩
abbrev cD_upOf : ByteArray := prog_7_method_11_code
def yD_upOf : MethodName := ⟨RD, "upOf", "(I)J"⟩
abbrev cD_faces : ByteArray := prog_7_method_12_code
def yD_faces : MethodName := ⟨RD, "faces", "(II)I"⟩
abbrev cD_lowOf : ByteArray := prog_7_method_13_code
def yD_lowOf : MethodName := ⟨RD, "lowOf", "(I)J"⟩
abbrev cD_modulus : ByteArray := prog_7_method_14_code
def yD_modulus : MethodName := ⟨RD, "modulus", "(II)J"⟩
abbrev cD_compare : ByteArray := prog_7_method_15_code
def yD_compare : MethodName := ⟨RD, "compare", "(II)J"⟩
abbrev cD_isTold : ByteArray := prog_7_method_16_code
def yD_isTold : MethodName := ⟨RD, "isTold", "(I)Z"⟩
abbrev cD_join : ByteArray := prog_7_method_17_code
def yD_join : MethodName := ⟨RD, "join", "(IIZ)V"⟩
abbrev cD_order : ByteArray := prog_7_method_18_code
def yD_order : MethodName := ⟨RD, "order", "(I)I"⟩
abbrev cD_riserRow : ByteArray := prog_7_method_19_code
def yD_riserRow : MethodName := ⟨RD, "riserRow", "(II)I"⟩
abbrev cD_rowFor : ByteArray := prog_7_method_20_code
def yD_rowFor : MethodName := ⟨RD, "rowFor", "(I)I"⟩
abbrev cD_riser : ByteArray := prog_7_method_21_code
def yD_riser : MethodName := ⟨RD, "riser", "(I)I"⟩
abbrev cD_cutOff : ByteArray := prog_7_method_22_code
def yD_cutOff : MethodName := ⟨RD, "cutOff", "(I)V"⟩
abbrev cD_feederOf : ByteArray := prog_7_method_23_code
def yD_feederOf : MethodName := ⟨RD, "feederOf", "(I)I"⟩
abbrev cD_feeder : ByteArray := prog_7_method_24_code
def yD_feeder : MethodName := ⟨RD, "feeder", "(I)I"⟩
abbrev cD_unfed : ByteArray := prog_7_method_25_code
def yD_unfed : MethodName := ⟨RD, "unfed", "(I)I"⟩
abbrev cD_flowRow : ByteArray := prog_7_method_26_code
def yD_flowRow : MethodName := ⟨RD, "flowRow", "(II)I"⟩
abbrev cD_flowAt : ByteArray := prog_7_method_27_code
def yD_flowAt : MethodName := ⟨RD, "flowAt", "(I)I"⟩
abbrev cD_flow : ByteArray := prog_7_method_28_code
def yD_flow : MethodName := ⟨RD, "flow", "(I)I"⟩
abbrev cD_gate : ByteArray := prog_7_method_29_code
def yD_gate : MethodName := ⟨RD, "gate", "(I)I"⟩
abbrev cD_pattern : ByteArray := prog_7_method_30_code
def yD_pattern : MethodName := ⟨RD, "pattern", "(II)I"⟩
abbrev cD_isWide : ByteArray := prog_7_method_31_code
def yD_isWide : MethodName := ⟨RD, "isWide", "(I)Z"⟩
abbrev cD_molding : ByteArray := prog_7_method_32_code
def yD_molding : MethodName := ⟨RD, "molding", "(II)V"⟩
abbrev cD_taken : ByteArray := prog_7_method_33_code
def yD_taken : MethodName := ⟨RD, "taken", "(I)I"⟩
abbrev cD_shelfFor : ByteArray := prog_7_method_34_code
def yD_shelfFor : MethodName := ⟨RD, "shelfFor", "(II)I"⟩
abbrev cD_shelvesEnd : ByteArray := prog_7_method_35_code
def yD_shelvesEnd : MethodName := ⟨RD, "shelvesEnd", "()I"⟩
abbrev cD_pack : ByteArray := prog_7_method_36_code
def yD_pack : MethodName := ⟨RD, "pack", "(II)I"⟩
abbrev cD_packed : ByteArray := prog_7_method_37_code
def yD_packed : MethodName := ⟨RD, "packed", "(II)I"⟩
abbrev cF_init : ByteArray := prog_2_method_1_code
def yF_init : MethodName := ⟨RF, "<init>", "()V"⟩
abbrev cF_isFull : ByteArray := prog_2_method_2_code
def yF_isFull : MethodName := ⟨RF, "isFull", "()Z"⟩
abbrev cF_isEmpty : ByteArray := prog_2_method_3_code
def yF_isEmpty : MethodName := ⟨RF, "isEmpty", "()Z"⟩
abbrev cF_mayFollow : ByteArray := prog_2_method_4_code
def yF_mayFollow : MethodName := ⟨RF, "mayFollow", "(II)Z"⟩
abbrev cF_addRow : ByteArray := prog_2_method_5_code
def yF_addRow : MethodName := ⟨RF, "addRow", "(II)I"⟩
abbrev cF_flowAt : ByteArray := prog_2_method_6_code
def yF_flowAt : MethodName := ⟨RF, "flowAt", "(I)I"⟩
abbrev cF_flowBetween : ByteArray := prog_2_method_7_code
def yF_flowBetween : MethodName := ⟨RF, "flowBetween", "(III)I"⟩
abbrev cF_leastOpeningFor : ByteArray := prog_2_method_8_code
def yF_leastOpeningFor : MethodName := ⟨RF, "leastOpeningFor", "(I)I"⟩
abbrev cM_init : ByteArray := prog_3_method_1_code
def yM_init : MethodName := ⟨RM, "<init>", "()V"⟩
abbrev cM_clearTo : ByteArray := prog_3_method_2_code
def yM_clearTo : MethodName := ⟨RM, "clearTo", "(II)V"⟩
abbrev cM_isFull : ByteArray := prog_3_method_3_code
def yM_isFull : MethodName := ⟨RM, "isFull", "()Z"⟩
abbrev cM_hasThing : ByteArray := prog_3_method_4_code
def yM_hasThing : MethodName := ⟨RM, "hasThing", "(I)Z"⟩
abbrev cM_shelfFor : ByteArray := prog_3_method_5_code
def yM_shelfFor : MethodName := ⟨RM, "shelfFor", "(II)I"⟩
abbrev cM_putOn : ByteArray := prog_3_method_6_code
def yM_putOn : MethodName := ⟨RM, "putOn", "(III)I"⟩
abbrev cM_openShelf : ByteArray := prog_3_method_7_code
def yM_openShelf : MethodName := ⟨RM, "openShelf", "(I)V"⟩
abbrev cM_alongWidth : ByteArray := prog_3_method_8_code
def yM_alongWidth : MethodName := ⟨RM, "alongWidth", "(I)I"⟩
abbrev cM_alongDepth : ByteArray := prog_3_method_9_code
def yM_alongDepth : MethodName := ⟨RM, "alongDepth", "(I)I"⟩
abbrev cP_init : ByteArray := prog_4_method_1_code
def yP_init : MethodName := ⟨RP, "<init>", "()V"⟩
abbrev cP_count : ByteArray := prog_4_method_2_code
def yP_count : MethodName := ⟨RP, "count", "()I"⟩
abbrev cP_isFull : ByteArray := prog_4_method_3_code
def yP_isFull : MethodName := ⟨RP, "isFull", "()Z"⟩
abbrev cP_has : ByteArray := prog_4_method_4_code
def yP_has : MethodName := ⟨RP, "has", "(I)Z"⟩
abbrev cP_hasFace : ByteArray := prog_4_method_5_code
def yP_hasFace : MethodName := ⟨RP, "hasFace", "(II)Z"⟩
abbrev cP_addBox : ByteArray := prog_4_method_6_code
def yP_addBox : MethodName := ⟨RP, "addBox", "(III)I"⟩
abbrev cP_addCylinder : ByteArray := prog_4_method_7_code
def yP_addCylinder : MethodName := ⟨RP, "addCylinder", "(II)I"⟩
abbrev cP_open : ByteArray := prog_4_method_8_code
def yP_open : MethodName := ⟨RP, "open", "(IJ)I"⟩
abbrev cP_addFace : ByteArray := prog_4_method_9_code
def yP_addFace : MethodName := ⟨RP, "addFace", "(III)V"⟩
abbrev cP_setTimes : ByteArray := prog_4_method_10_code
def yP_setTimes : MethodName := ⟨RP, "setTimes", "(III)V"⟩
abbrev cP_upper : ByteArray := prog_4_method_11_code
def yP_upper : MethodName := ⟨RP, "upper", "(I)J"⟩
abbrev cP_lower : ByteArray := prog_4_method_12_code
def yP_lower : MethodName := ⟨RP, "lower", "(I)J"⟩
abbrev cP_isTold : ByteArray := prog_4_method_13_code
def yP_isTold : MethodName := ⟨RP, "isTold", "(I)Z"⟩
abbrev cP_areJoined : ByteArray := prog_4_method_14_code
def yP_areJoined : MethodName := ⟨RP, "areJoined", "(II)Z"⟩
abbrev cP_setJoined : ByteArray := prog_4_method_15_code
def yP_setJoined : MethodName := ⟨RP, "setJoined", "(IIZ)V"⟩
abbrev cP_riserOf : ByteArray := prog_4_method_16_code
def yP_riserOf : MethodName := ⟨RP, "riserOf", "(I)I"⟩
abbrev cP_setRiser : ByteArray := prog_4_method_17_code
def yP_setRiser : MethodName := ⟨RP, "setRiser", "(II)V"⟩
abbrev cP_compare : ByteArray := prog_4_method_18_code
def yP_compare : MethodName := ⟨RP, "compare", "(II)I"⟩
abbrev cP_solidBefore : ByteArray := prog_4_method_19_code
def yP_solidBefore : MethodName := ⟨RP, "solidBefore", "(I)I"⟩
abbrev cP_isEarlier : ByteArray := prog_4_method_20_code
def yP_isEarlier : MethodName := ⟨RP, "isEarlier", "(II)Z"⟩
abbrev cP_greatestNeighbour : ByteArray := prog_4_method_21_code
def yP_greatestNeighbour : MethodName := ⟨RP, "greatestNeighbour", "(I)I"⟩
abbrev cR_init : ByteArray := prog_5_method_1_code
def yR_init : MethodName := ⟨RR, "<init>", "()V"⟩
abbrev cR_isFull : ByteArray := prog_5_method_2_code
def yR_isFull : MethodName := ⟨RR, "isFull", "()Z"⟩
abbrev cR_addRow : ByteArray := prog_5_method_3_code
def yR_addRow : MethodName := ⟨RR, "addRow", "(II)I"⟩
abbrev cR_firstFor : ByteArray := prog_5_method_4_code
def yR_firstFor : MethodName := ⟨RR, "firstFor", "(JJ)I"⟩
abbrev cL_box : ByteArray := method_3_code
def yL_box : MethodName := ⟨RL, "box", "(LFeedModulus;III[J)I"⟩
abbrev cL_cylinder : ByteArray := method_4_code
def yL_cylinder : MethodName := ⟨RL, "cylinder", "(LFeedModulus;II[J)I"⟩
abbrev cL_face : ByteArray := method_5_code
def yL_face : MethodName := ⟨RL, "face", "(LFeedModulus;III)I"⟩
abbrev cL_modulus : ByteArray := method_6_code
def yL_modulus : MethodName := ⟨RL, "modulus", "(LFeedModulus;II[J)I"⟩
abbrev cL_join : ByteArray := method_7_code
def yL_join : MethodName := ⟨RL, "join", "(LFeedModulus;IIZ)I"⟩
abbrev cL_order : ByteArray := method_8_code
def yL_order : MethodName := ⟨RL, "order", "(LFeedModulus;I[J)I"⟩
abbrev cL_riserRow : ByteArray := method_9_code
def yL_riserRow : MethodName := ⟨RL, "riserRow", "(LFeedModulus;II[J)I"⟩
abbrev cL_riser : ByteArray := method_10_code
def yL_riser : MethodName := ⟨RL, "riser", "(LFeedModulus;I[J)I"⟩
abbrev cL_cutOff : ByteArray := method_11_code
def yL_cutOff : MethodName := ⟨RL, "cutOff", "(LFeedModulus;I)I"⟩
abbrev cL_feeder : ByteArray := method_12_code
def yL_feeder : MethodName := ⟨RL, "feeder", "(LFeedModulus;I[J)I"⟩
abbrev cL_unfed : ByteArray := method_13_code
def yL_unfed : MethodName := ⟨RL, "unfed", "(LFeedModulus;I[J)I"⟩
abbrev cL_flowRow : ByteArray := method_14_code
def yL_flowRow : MethodName := ⟨RL, "flowRow", "(LFeedModulus;II[J)I"⟩
abbrev cL_flow : ByteArray := method_15_code
def yL_flow : MethodName := ⟨RL, "flow", "(LFeedModulus;I[J)I"⟩
abbrev cL_gate : ByteArray := method_16_code
def yL_gate : MethodName := ⟨RL, "gate", "(LFeedModulus;I[J)I"⟩
abbrev cL_pattern : ByteArray := method_17_code
def yL_pattern : MethodName := ⟨RL, "pattern", "(LFeedModulus;II[J)I"⟩
abbrev cL_molding : ByteArray := method_18_code
def yL_molding : MethodName := ⟨RL, "molding", "(LFeedModulus;II)I"⟩
abbrev cL_pack : ByteArray := method_19_code
def yL_pack : MethodName := ⟨RL, "pack", "(LFeedModulus;II[J)I"⟩
abbrev cL_packed : ByteArray := method_20_code
def yL_packed : MethodName := ⟨RL, "packed", "(LFeedModulus;II[J)I"⟩
abbrev cL_law : ByteArray := code
def yL_law : MethodName := ⟨RL, "law", "([I)Z"⟩
abbrev cJ_compare : ByteArray := prog_12_method_42_code
def yJ_compare : MethodName := ⟨RJ, "compare", "(JJ)I"⟩
theorem dP_init_0 : decode cP_init 0 = .ok (.aload_n 0, 1) := by decide +kernel
theorem dP_init_1 : decode cP_init 1 = .ok (.invokespecial 3, 3) := by decide +kernel
theorem dP_init_4 : decode cP_init 4 = .ok (.aload_n 0, 1) := by decide +kernel
theorem dP_init_5 : decode cP_init 5 = .ok (.bipush 12, 2) := by decide +kernel
theorem dP_init_7 : decode cP_init 7 = .ok (.newarray .long, 2) := by decide +kernel
theorem dP_init_9 : decode cP_init 9 = .ok (.putfield 9, 3) := by decide +kernel
theorem dP_init_12 : decode cP_init 12 = .ok (.aload_n 0, 1) := by decide +kernel
theorem dP_init_13 : decode cP_init 13 = .ok (.bipush 12, 2) := by decide +kernel
theorem dP_init_15 : decode cP_init 15 = .ok (.newarray .long, 2) := by decide +kernel
theorem dP_init_17 : decode cP_init 17 = .ok (.putfield 15, 3) := by decide +kernel
theorem dP_init_20 : decode cP_init 20 = .ok (.aload_n 0, 1) := by decide +kernel
theorem dP_init_21 : decode cP_init 21 = .ok (.bipush 12, 2) := by decide +kernel
theorem dP_init_23 : decode cP_init 23 = .ok (.newarray .int, 2) := by decide +kernel
theorem dP_init_25 : decode cP_init 25 = .ok (.putfield 18, 3) := by decide +kernel
theorem dP_init_28 : decode cP_init 28 = .ok (.aload_n 0, 1) := by decide +kernel
theorem dP_init_29 : decode cP_init 29 = .ok (.bipush 72, 2) := by decide +kernel
theorem dP_init_31 : decode cP_init 31 = .ok (.newarray .int, 2) := by decide +kernel
theorem dP_init_33 : decode cP_init 33 = .ok (.putfield 22, 3) := by decide +kernel
theorem dP_init_36 : decode cP_init 36 = .ok (.aload_n 0, 1) := by decide +kernel
theorem dP_init_37 : decode cP_init 37 = .ok (.bipush 72, 2) := by decide +kernel
theorem dP_init_39 : decode cP_init 39 = .ok (.newarray .int, 2) := by decide +kernel
theorem dP_init_41 : decode cP_init 41 = .ok (.putfield 25, 3) := by decide +kernel
theorem dP_init_44 : decode cP_init 44 = .ok (.aload_n 0, 1) := by decide +kernel
theorem dP_init_45 : decode cP_init 45 = .ok (.bipush 12, 2) := by decide +kernel
theorem dP_init_47 : decode cP_init 47 = .ok (.newarray .int, 2) := by decide +kernel
theorem dP_init_49 : decode cP_init 49 = .ok (.putfield 28, 3) := by decide +kernel
theorem dP_init_52 : decode cP_init 52 = .ok (.aload_n 0, 1) := by decide +kernel
theorem dP_init_53 : decode cP_init 53 = .ok (.sipush 144, 3) := by decide +kernel
theorem dP_init_56 : decode cP_init 56 = .ok (.newarray .boolean, 2) := by decide +kernel
theorem dP_init_58 : decode cP_init 58 = .ok (.putfield 31, 3) := by decide +kernel
theorem dP_init_61 : decode cP_init 61 = .ok (.return_, 1) := by decide +kernel
theorem dP_count_0 : decode cP_count 0 = .ok (.aload_n 0, 1) := by decide +kernel
theorem dP_count_1 : decode cP_count 1 = .ok (.getfield 35, 3) := by decide +kernel
theorem dP_count_4 : decode cP_count 4 = .ok (.ireturn, 1) := by decide +kernel
theorem dP_isFull_0 : decode cP_isFull 0 = .ok (.aload_n 0, 1) := by decide +kernel
theorem dP_isFull_1 : decode cP_isFull 1 = .ok (.getfield 35, 3) := by decide +kernel
theorem dP_isFull_4 : decode cP_isFull 4 = .ok (.bipush 12, 2) := by decide +kernel
theorem dP_isFull_6 : decode cP_isFull 6 = .ok (.if_icmp .lt 7, 3) := by decide +kernel
theorem dP_isFull_9 : decode cP_isFull 9 = .ok (.iconst 1, 1) := by decide +kernel
theorem dP_isFull_10 : decode cP_isFull 10 = .ok (.goto 4, 3) := by decide +kernel
theorem dP_isFull_13 : decode cP_isFull 13 = .ok (.iconst 0, 1) := by decide +kernel
theorem dP_isFull_14 : decode cP_isFull 14 = .ok (.ireturn, 1) := by decide +kernel
theorem dP_has_0 : decode cP_has 0 = .ok (.iload_n 1, 1) := by decide +kernel
theorem dP_has_1 : decode cP_has 1 = .ok (.ifCond .lt 15, 3) := by decide +kernel
theorem dP_has_4 : decode cP_has 4 = .ok (.iload_n 1, 1) := by decide +kernel
theorem dP_has_5 : decode cP_has 5 = .ok (.aload_n 0, 1) := by decide +kernel
theorem dP_has_6 : decode cP_has 6 = .ok (.getfield 35, 3) := by decide +kernel
theorem dP_has_9 : decode cP_has 9 = .ok (.if_icmp .ge 7, 3) := by decide +kernel
theorem dP_has_12 : decode cP_has 12 = .ok (.iconst 1, 1) := by decide +kernel
theorem dP_has_13 : decode cP_has 13 = .ok (.goto 4, 3) := by decide +kernel
theorem dP_has_16 : decode cP_has 16 = .ok (.iconst 0, 1) := by decide +kernel
theorem dP_has_17 : decode cP_has 17 = .ok (.ireturn, 1) := by decide +kernel
theorem dP_hasFace_0 : decode cP_hasFace 0 = .ok (.iload_n 2, 1) := by decide +kernel
theorem dP_hasFace_1 : decode cP_hasFace 1 = .ok (.ifCond .lt 17, 3) := by decide +kernel
theorem dP_hasFace_4 : decode cP_hasFace 4 = .ok (.iload_n 2, 1) := by decide +kernel
theorem dP_hasFace_5 : decode cP_hasFace 5 = .ok (.aload_n 0, 1) := by decide +kernel
theorem dP_hasFace_6 : decode cP_hasFace 6 = .ok (.getfield 18, 3) := by decide +kernel
theorem dP_hasFace_9 : decode cP_hasFace 9 = .ok (.iload_n 1, 1) := by decide +kernel
theorem dP_hasFace_10 : decode cP_hasFace 10 = .ok (.iaload, 1) := by decide +kernel
theorem dP_hasFace_11 : decode cP_hasFace 11 = .ok (.if_icmp .ge 7, 3) := by decide +kernel
theorem dP_hasFace_14 : decode cP_hasFace 14 = .ok (.iconst 1, 1) := by decide +kernel
theorem dP_hasFace_15 : decode cP_hasFace 15 = .ok (.goto 4, 3) := by decide +kernel
theorem dP_hasFace_18 : decode cP_hasFace 18 = .ok (.iconst 0, 1) := by decide +kernel
theorem dP_hasFace_19 : decode cP_hasFace 19 = .ok (.ireturn, 1) := by decide +kernel
theorem dP_addBox_0 : decode cP_addBox 0 = .ok (.aload_n 0, 1) := by decide +kernel
theorem dP_addBox_1 : decode cP_addBox 1 = .ok (.bipush 6, 2) := by decide +kernel
theorem dP_addBox_3 : decode cP_addBox 3 = .ok (.iload_n 1, 1) := by decide +kernel
theorem dP_addBox_4 : decode cP_addBox 4 = .ok (.i2l, 1) := by decide +kernel
theorem dP_addBox_5 : decode cP_addBox 5 = .ok (.iload_n 2, 1) := by decide +kernel
theorem dP_addBox_6 : decode cP_addBox 6 = .ok (.i2l, 1) := by decide +kernel
theorem dP_addBox_7 : decode cP_addBox 7 = .ok (.lmul, 1) := by decide +kernel
theorem dP_addBox_8 : decode cP_addBox 8 = .ok (.iload_n 3, 1) := by decide +kernel
theorem dP_addBox_9 : decode cP_addBox 9 = .ok (.i2l, 1) := by decide +kernel
theorem dP_addBox_10 : decode cP_addBox 10 = .ok (.lmul, 1) := by decide +kernel
theorem dP_addBox_11 : decode cP_addBox 11 = .ok (.invokevirtual 39, 3) := by decide +kernel
theorem dP_addBox_14 : decode cP_addBox 14 = .ok (.istore 4, 2) := by decide +kernel
theorem dP_addBox_16 : decode cP_addBox 16 = .ok (.aload_n 0, 1) := by decide +kernel
theorem dP_addBox_17 : decode cP_addBox 17 = .ok (.iload 4, 2) := by decide +kernel
theorem dP_addBox_19 : decode cP_addBox 19 = .ok (.iconst 0, 1) := by decide +kernel
theorem dP_addBox_20 : decode cP_addBox 20 = .ok (.iload_n 2, 1) := by decide +kernel
theorem dP_addBox_21 : decode cP_addBox 21 = .ok (.iload_n 3, 1) := by decide +kernel
theorem dP_addBox_22 : decode cP_addBox 22 = .ok (.imul, 1) := by decide +kernel
theorem dP_addBox_23 : decode cP_addBox 23 = .ok (.invokevirtual 43, 3) := by decide +kernel
theorem dP_addBox_26 : decode cP_addBox 26 = .ok (.aload_n 0, 1) := by decide +kernel
theorem dP_addBox_27 : decode cP_addBox 27 = .ok (.iload 4, 2) := by decide +kernel
theorem dP_addBox_29 : decode cP_addBox 29 = .ok (.iconst 1, 1) := by decide +kernel
theorem dP_addBox_30 : decode cP_addBox 30 = .ok (.iload_n 2, 1) := by decide +kernel
theorem dP_addBox_31 : decode cP_addBox 31 = .ok (.iload_n 3, 1) := by decide +kernel
theorem dP_addBox_32 : decode cP_addBox 32 = .ok (.imul, 1) := by decide +kernel
theorem dP_addBox_33 : decode cP_addBox 33 = .ok (.invokevirtual 43, 3) := by decide +kernel
theorem dP_addBox_36 : decode cP_addBox 36 = .ok (.aload_n 0, 1) := by decide +kernel
theorem dP_addBox_37 : decode cP_addBox 37 = .ok (.iload 4, 2) := by decide +kernel
theorem dP_addBox_39 : decode cP_addBox 39 = .ok (.iconst 2, 1) := by decide +kernel
theorem dP_addBox_40 : decode cP_addBox 40 = .ok (.iload_n 1, 1) := by decide +kernel
theorem dP_addBox_41 : decode cP_addBox 41 = .ok (.iload_n 3, 1) := by decide +kernel
theorem dP_addBox_42 : decode cP_addBox 42 = .ok (.imul, 1) := by decide +kernel
theorem dP_addBox_43 : decode cP_addBox 43 = .ok (.invokevirtual 43, 3) := by decide +kernel
theorem dP_addBox_46 : decode cP_addBox 46 = .ok (.aload_n 0, 1) := by decide +kernel
theorem dP_addBox_47 : decode cP_addBox 47 = .ok (.iload 4, 2) := by decide +kernel
theorem dP_addBox_49 : decode cP_addBox 49 = .ok (.iconst 3, 1) := by decide +kernel
theorem dP_addBox_50 : decode cP_addBox 50 = .ok (.iload_n 1, 1) := by decide +kernel
theorem dP_addBox_51 : decode cP_addBox 51 = .ok (.iload_n 3, 1) := by decide +kernel
theorem dP_addBox_52 : decode cP_addBox 52 = .ok (.imul, 1) := by decide +kernel
theorem dP_addBox_53 : decode cP_addBox 53 = .ok (.invokevirtual 43, 3) := by decide +kernel
theorem dP_addBox_56 : decode cP_addBox 56 = .ok (.aload_n 0, 1) := by decide +kernel
theorem dP_addBox_57 : decode cP_addBox 57 = .ok (.iload 4, 2) := by decide +kernel
theorem dP_addBox_59 : decode cP_addBox 59 = .ok (.iconst 4, 1) := by decide +kernel
theorem dP_addBox_60 : decode cP_addBox 60 = .ok (.iload_n 1, 1) := by decide +kernel
theorem dP_addBox_61 : decode cP_addBox 61 = .ok (.iload_n 2, 1) := by decide +kernel
theorem dP_addBox_62 : decode cP_addBox 62 = .ok (.imul, 1) := by decide +kernel
theorem dP_addBox_63 : decode cP_addBox 63 = .ok (.invokevirtual 43, 3) := by decide +kernel
theorem dP_addBox_66 : decode cP_addBox 66 = .ok (.aload_n 0, 1) := by decide +kernel
theorem dP_addBox_67 : decode cP_addBox 67 = .ok (.iload 4, 2) := by decide +kernel
theorem dP_addBox_69 : decode cP_addBox 69 = .ok (.iconst 5, 1) := by decide +kernel
theorem dP_addBox_70 : decode cP_addBox 70 = .ok (.iload_n 1, 1) := by decide +kernel
theorem dP_addBox_71 : decode cP_addBox 71 = .ok (.iload_n 2, 1) := by decide +kernel
theorem dP_addBox_72 : decode cP_addBox 72 = .ok (.imul, 1) := by decide +kernel
theorem dP_addBox_73 : decode cP_addBox 73 = .ok (.invokevirtual 43, 3) := by decide +kernel
theorem dP_addBox_76 : decode cP_addBox 76 = .ok (.iload 4, 2) := by decide +kernel
theorem dP_addBox_78 : decode cP_addBox 78 = .ok (.ireturn, 1) := by decide +kernel
theorem dP_addCylinder_0 : decode cP_addCylinder 0 = .ok (.aload_n 0, 1) := by decide +kernel
theorem dP_addCylinder_1 : decode cP_addCylinder 1 = .ok (.iconst 3, 1) := by decide +kernel
theorem dP_addCylinder_2 : decode cP_addCylinder 2 = .ok (.iload_n 1, 1) := by decide +kernel
theorem dP_addCylinder_3 : decode cP_addCylinder 3 = .ok (.i2l, 1) := by decide +kernel
theorem dP_addCylinder_4 : decode cP_addCylinder 4 = .ok (.iload_n 2, 1) := by decide +kernel
theorem dP_addCylinder_5 : decode cP_addCylinder 5 = .ok (.i2l, 1) := by decide +kernel
theorem dP_addCylinder_6 : decode cP_addCylinder 6 = .ok (.lmul, 1) := by decide +kernel
theorem dP_addCylinder_7 : decode cP_addCylinder 7 = .ok (.invokevirtual 39, 3) := by decide +kernel
theorem dP_addCylinder_10 : decode cP_addCylinder 10 = .ok (.istore_n 3, 1) := by decide +kernel
theorem dP_addCylinder_11 : decode cP_addCylinder 11 = .ok (.aload_n 0, 1) := by decide +kernel
theorem dP_addCylinder_12 : decode cP_addCylinder 12 = .ok (.iload_n 3, 1) := by decide +kernel
theorem dP_addCylinder_13 : decode cP_addCylinder 13 = .ok (.iconst 0, 1) := by decide +kernel
theorem dP_addCylinder_14 : decode cP_addCylinder 14 = .ok (.iconst 4, 1) := by decide +kernel
theorem dP_addCylinder_15 : decode cP_addCylinder 15 = .ok (.iload_n 2, 1) := by decide +kernel
theorem dP_addCylinder_16 : decode cP_addCylinder 16 = .ok (.imul, 1) := by decide +kernel
theorem dP_addCylinder_17 : decode cP_addCylinder 17 = .ok (.invokevirtual 43, 3) := by decide +kernel
theorem dP_addCylinder_20 : decode cP_addCylinder 20 = .ok (.aload_n 0, 1) := by decide +kernel
theorem dP_addCylinder_21 : decode cP_addCylinder 21 = .ok (.iload_n 3, 1) := by decide +kernel
theorem dP_addCylinder_22 : decode cP_addCylinder 22 = .ok (.iconst 1, 1) := by decide +kernel
theorem dP_addCylinder_23 : decode cP_addCylinder 23 = .ok (.iload_n 1, 1) := by decide +kernel
theorem dP_addCylinder_24 : decode cP_addCylinder 24 = .ok (.invokevirtual 43, 3) := by decide +kernel
theorem dP_addCylinder_27 : decode cP_addCylinder 27 = .ok (.aload_n 0, 1) := by decide +kernel
theorem dP_addCylinder_28 : decode cP_addCylinder 28 = .ok (.iload_n 3, 1) := by decide +kernel
theorem dP_addCylinder_29 : decode cP_addCylinder 29 = .ok (.iconst 2, 1) := by decide +kernel
theorem dP_addCylinder_30 : decode cP_addCylinder 30 = .ok (.iload_n 1, 1) := by decide +kernel
theorem dP_addCylinder_31 : decode cP_addCylinder 31 = .ok (.invokevirtual 43, 3) := by decide +kernel
theorem dP_addCylinder_34 : decode cP_addCylinder 34 = .ok (.iload_n 3, 1) := by decide +kernel
theorem dP_addCylinder_35 : decode cP_addCylinder 35 = .ok (.ireturn, 1) := by decide +kernel
theorem dP_open_0 : decode cP_open 0 = .ok (.aload_n 0, 1) := by decide +kernel
theorem dP_open_1 : decode cP_open 1 = .ok (.getfield 35, 3) := by decide +kernel
theorem dP_open_4 : decode cP_open 4 = .ok (.istore 4, 2) := by decide +kernel
theorem dP_open_6 : decode cP_open 6 = .ok (.aload_n 0, 1) := by decide +kernel
theorem dP_open_7 : decode cP_open 7 = .ok (.dup, 1) := by decide +kernel
theorem dP_open_8 : decode cP_open 8 = .ok (.getfield 35, 3) := by decide +kernel
theorem dP_open_11 : decode cP_open 11 = .ok (.iconst 1, 1) := by decide +kernel
theorem dP_open_12 : decode cP_open 12 = .ok (.iadd, 1) := by decide +kernel
theorem dP_open_13 : decode cP_open 13 = .ok (.putfield 35, 3) := by decide +kernel
theorem dP_open_16 : decode cP_open 16 = .ok (.aload_n 0, 1) := by decide +kernel
theorem dP_open_17 : decode cP_open 17 = .ok (.getfield 18, 3) := by decide +kernel
theorem dP_open_20 : decode cP_open 20 = .ok (.iload 4, 2) := by decide +kernel
theorem dP_open_22 : decode cP_open 22 = .ok (.iload_n 1, 1) := by decide +kernel
theorem dP_open_23 : decode cP_open 23 = .ok (.iastore, 1) := by decide +kernel
theorem dP_open_24 : decode cP_open 24 = .ok (.aload_n 0, 1) := by decide +kernel
theorem dP_open_25 : decode cP_open 25 = .ok (.getfield 9, 3) := by decide +kernel
theorem dP_open_28 : decode cP_open 28 = .ok (.iload 4, 2) := by decide +kernel
theorem dP_open_30 : decode cP_open 30 = .ok (.lload_n 2, 1) := by decide +kernel
theorem dP_open_31 : decode cP_open 31 = .ok (.lastore, 1) := by decide +kernel
theorem dP_open_32 : decode cP_open 32 = .ok (.aload_n 0, 1) := by decide +kernel
theorem dP_open_33 : decode cP_open 33 = .ok (.getfield 28, 3) := by decide +kernel
theorem dP_open_36 : decode cP_open 36 = .ok (.iload 4, 2) := by decide +kernel
theorem dP_open_38 : decode cP_open 38 = .ok (.iconst (-1), 1) := by decide +kernel
theorem dP_open_39 : decode cP_open 39 = .ok (.iastore, 1) := by decide +kernel
theorem dP_open_40 : decode cP_open 40 = .ok (.iload 4, 2) := by decide +kernel
theorem dP_open_42 : decode cP_open 42 = .ok (.ireturn, 1) := by decide +kernel
theorem dP_addFace_0 : decode cP_addFace 0 = .ok (.aload_n 0, 1) := by decide +kernel
theorem dP_addFace_1 : decode cP_addFace 1 = .ok (.getfield 22, 3) := by decide +kernel
theorem dP_addFace_4 : decode cP_addFace 4 = .ok (.iload_n 1, 1) := by decide +kernel
theorem dP_addFace_5 : decode cP_addFace 5 = .ok (.bipush 6, 2) := by decide +kernel
theorem dP_addFace_7 : decode cP_addFace 7 = .ok (.imul, 1) := by decide +kernel
theorem dP_addFace_8 : decode cP_addFace 8 = .ok (.iload_n 2, 1) := by decide +kernel
theorem dP_addFace_9 : decode cP_addFace 9 = .ok (.iadd, 1) := by decide +kernel
theorem dP_addFace_10 : decode cP_addFace 10 = .ok (.iload_n 3, 1) := by decide +kernel
theorem dP_addFace_11 : decode cP_addFace 11 = .ok (.iastore, 1) := by decide +kernel
theorem dP_addFace_12 : decode cP_addFace 12 = .ok (.aload_n 0, 1) := by decide +kernel
theorem dP_addFace_13 : decode cP_addFace 13 = .ok (.iload_n 1, 1) := by decide +kernel
theorem dP_addFace_14 : decode cP_addFace 14 = .ok (.iload_n 2, 1) := by decide +kernel
theorem dP_addFace_15 : decode cP_addFace 15 = .ok (.iconst 1, 1) := by decide +kernel
theorem dP_addFace_16 : decode cP_addFace 16 = .ok (.invokevirtual 47, 3) := by decide +kernel
theorem dP_addFace_19 : decode cP_addFace 19 = .ok (.return_, 1) := by decide +kernel
theorem dP_setTimes_0 : decode cP_setTimes 0 = .ok (.iload_n 1, 1) := by decide +kernel
theorem dP_setTimes_1 : decode cP_setTimes 1 = .ok (.bipush 6, 2) := by decide +kernel
theorem dP_setTimes_3 : decode cP_setTimes 3 = .ok (.imul, 1) := by decide +kernel
theorem dP_setTimes_4 : decode cP_setTimes 4 = .ok (.iload_n 2, 1) := by decide +kernel
theorem dP_setTimes_5 : decode cP_setTimes 5 = .ok (.iadd, 1) := by decide +kernel
theorem dP_setTimes_6 : decode cP_setTimes 6 = .ok (.istore 4, 2) := by decide +kernel
theorem dP_setTimes_8 : decode cP_setTimes 8 = .ok (.aload_n 0, 1) := by decide +kernel
theorem dP_setTimes_9 : decode cP_setTimes 9 = .ok (.getfield 15, 3) := by decide +kernel
theorem dP_setTimes_12 : decode cP_setTimes 12 = .ok (.iload_n 1, 1) := by decide +kernel
theorem dP_setTimes_13 : decode cP_setTimes 13 = .ok (.dup2, 1) := by decide +kernel
theorem dP_setTimes_14 : decode cP_setTimes 14 = .ok (.laload, 1) := by decide +kernel
theorem dP_setTimes_15 : decode cP_setTimes 15 = .ok (.aload_n 0, 1) := by decide +kernel
theorem dP_setTimes_16 : decode cP_setTimes 16 = .ok (.getfield 22, 3) := by decide +kernel
theorem dP_setTimes_19 : decode cP_setTimes 19 = .ok (.iload 4, 2) := by decide +kernel
theorem dP_setTimes_21 : decode cP_setTimes 21 = .ok (.iaload, 1) := by decide +kernel
theorem dP_setTimes_22 : decode cP_setTimes 22 = .ok (.i2l, 1) := by decide +kernel
theorem dP_setTimes_23 : decode cP_setTimes 23 = .ok (.iload_n 3, 1) := by decide +kernel
theorem dP_setTimes_24 : decode cP_setTimes 24 = .ok (.aload_n 0, 1) := by decide +kernel
theorem dP_setTimes_25 : decode cP_setTimes 25 = .ok (.getfield 25, 3) := by decide +kernel
theorem dP_setTimes_28 : decode cP_setTimes 28 = .ok (.iload 4, 2) := by decide +kernel
theorem dP_setTimes_30 : decode cP_setTimes 30 = .ok (.iaload, 1) := by decide +kernel
theorem dP_setTimes_31 : decode cP_setTimes 31 = .ok (.isub, 1) := by decide +kernel
theorem dP_setTimes_32 : decode cP_setTimes 32 = .ok (.i2l, 1) := by decide +kernel
theorem dP_setTimes_33 : decode cP_setTimes 33 = .ok (.lmul, 1) := by decide +kernel
theorem dP_setTimes_34 : decode cP_setTimes 34 = .ok (.ladd, 1) := by decide +kernel
theorem dP_setTimes_35 : decode cP_setTimes 35 = .ok (.lastore, 1) := by decide +kernel
theorem dP_setTimes_36 : decode cP_setTimes 36 = .ok (.aload_n 0, 1) := by decide +kernel
theorem dP_setTimes_37 : decode cP_setTimes 37 = .ok (.getfield 25, 3) := by decide +kernel
theorem dP_setTimes_40 : decode cP_setTimes 40 = .ok (.iload 4, 2) := by decide +kernel
theorem dP_setTimes_42 : decode cP_setTimes 42 = .ok (.iload_n 3, 1) := by decide +kernel
theorem dP_setTimes_43 : decode cP_setTimes 43 = .ok (.iastore, 1) := by decide +kernel
theorem dP_setTimes_44 : decode cP_setTimes 44 = .ok (.return_, 1) := by decide +kernel
theorem dP_upper_0 : decode cP_upper 0 = .ok (.aload_n 0, 1) := by decide +kernel
theorem dP_upper_1 : decode cP_upper 1 = .ok (.getfield 9, 3) := by decide +kernel
theorem dP_upper_4 : decode cP_upper 4 = .ok (.iload_n 1, 1) := by decide +kernel
theorem dP_upper_5 : decode cP_upper 5 = .ok (.laload, 1) := by decide +kernel
theorem dP_upper_6 : decode cP_upper 6 = .ok (.lreturn, 1) := by decide +kernel
theorem dP_lower_0 : decode cP_lower 0 = .ok (.aload_n 0, 1) := by decide +kernel
theorem dP_lower_1 : decode cP_lower 1 = .ok (.getfield 15, 3) := by decide +kernel
theorem dP_lower_4 : decode cP_lower 4 = .ok (.iload_n 1, 1) := by decide +kernel
theorem dP_lower_5 : decode cP_lower 5 = .ok (.laload, 1) := by decide +kernel
theorem dP_lower_6 : decode cP_lower 6 = .ok (.lreturn, 1) := by decide +kernel
theorem dP_isTold_0 : decode cP_isTold 0 = .ok (.aload_n 0, 1) := by decide +kernel
theorem dP_isTold_1 : decode cP_isTold 1 = .ok (.getfield 15, 3) := by decide +kernel
theorem dP_isTold_4 : decode cP_isTold 4 = .ok (.iload_n 1, 1) := by decide +kernel
theorem dP_isTold_5 : decode cP_isTold 5 = .ok (.laload, 1) := by decide +kernel
theorem dP_isTold_6 : decode cP_isTold 6 = .ok (.lconst 0, 1) := by decide +kernel
theorem dP_isTold_7 : decode cP_isTold 7 = .ok (.lcmp, 1) := by decide +kernel
theorem dP_isTold_8 : decode cP_isTold 8 = .ok (.ifCond .le 7, 3) := by decide +kernel
theorem dP_isTold_11 : decode cP_isTold 11 = .ok (.iconst 1, 1) := by decide +kernel
theorem dP_isTold_12 : decode cP_isTold 12 = .ok (.goto 4, 3) := by decide +kernel
theorem dP_isTold_15 : decode cP_isTold 15 = .ok (.iconst 0, 1) := by decide +kernel
theorem dP_isTold_16 : decode cP_isTold 16 = .ok (.ireturn, 1) := by decide +kernel
theorem dP_areJoined_0 : decode cP_areJoined 0 = .ok (.aload_n 0, 1) := by decide +kernel
theorem dP_areJoined_1 : decode cP_areJoined 1 = .ok (.getfield 31, 3) := by decide +kernel
theorem dP_areJoined_4 : decode cP_areJoined 4 = .ok (.iload_n 1, 1) := by decide +kernel
theorem dP_areJoined_5 : decode cP_areJoined 5 = .ok (.bipush 12, 2) := by decide +kernel
theorem dP_areJoined_7 : decode cP_areJoined 7 = .ok (.imul, 1) := by decide +kernel
theorem dP_areJoined_8 : decode cP_areJoined 8 = .ok (.iload_n 2, 1) := by decide +kernel
theorem dP_areJoined_9 : decode cP_areJoined 9 = .ok (.iadd, 1) := by decide +kernel
theorem dP_areJoined_10 : decode cP_areJoined 10 = .ok (.baload, 1) := by decide +kernel
theorem dP_areJoined_11 : decode cP_areJoined 11 = .ok (.ireturn, 1) := by decide +kernel
theorem dP_setJoined_0 : decode cP_setJoined 0 = .ok (.aload_n 0, 1) := by decide +kernel
theorem dP_setJoined_1 : decode cP_setJoined 1 = .ok (.getfield 31, 3) := by decide +kernel
theorem dP_setJoined_4 : decode cP_setJoined 4 = .ok (.iload_n 1, 1) := by decide +kernel
theorem dP_setJoined_5 : decode cP_setJoined 5 = .ok (.bipush 12, 2) := by decide +kernel
theorem dP_setJoined_7 : decode cP_setJoined 7 = .ok (.imul, 1) := by decide +kernel
theorem dP_setJoined_8 : decode cP_setJoined 8 = .ok (.iload_n 2, 1) := by decide +kernel
theorem dP_setJoined_9 : decode cP_setJoined 9 = .ok (.iadd, 1) := by decide +kernel
theorem dP_setJoined_10 : decode cP_setJoined 10 = .ok (.iload_n 3, 1) := by decide +kernel
theorem dP_setJoined_11 : decode cP_setJoined 11 = .ok (.bastore, 1) := by decide +kernel
theorem dP_setJoined_12 : decode cP_setJoined 12 = .ok (.aload_n 0, 1) := by decide +kernel
theorem dP_setJoined_13 : decode cP_setJoined 13 = .ok (.getfield 31, 3) := by decide +kernel
theorem dP_setJoined_16 : decode cP_setJoined 16 = .ok (.iload_n 2, 1) := by decide +kernel
theorem dP_setJoined_17 : decode cP_setJoined 17 = .ok (.bipush 12, 2) := by decide +kernel
theorem dP_setJoined_19 : decode cP_setJoined 19 = .ok (.imul, 1) := by decide +kernel
theorem dP_setJoined_20 : decode cP_setJoined 20 = .ok (.iload_n 1, 1) := by decide +kernel
theorem dP_setJoined_21 : decode cP_setJoined 21 = .ok (.iadd, 1) := by decide +kernel
theorem dP_setJoined_22 : decode cP_setJoined 22 = .ok (.iload_n 3, 1) := by decide +kernel
theorem dP_setJoined_23 : decode cP_setJoined 23 = .ok (.bastore, 1) := by decide +kernel
theorem dP_setJoined_24 : decode cP_setJoined 24 = .ok (.return_, 1) := by decide +kernel
theorem dP_riserOf_0 : decode cP_riserOf 0 = .ok (.aload_n 0, 1) := by decide +kernel
theorem dP_riserOf_1 : decode cP_riserOf 1 = .ok (.getfield 28, 3) := by decide +kernel
theorem dP_riserOf_4 : decode cP_riserOf 4 = .ok (.iload_n 1, 1) := by decide +kernel
theorem dP_riserOf_5 : decode cP_riserOf 5 = .ok (.iaload, 1) := by decide +kernel
theorem dP_riserOf_6 : decode cP_riserOf 6 = .ok (.ireturn, 1) := by decide +kernel
theorem dP_setRiser_0 : decode cP_setRiser 0 = .ok (.aload_n 0, 1) := by decide +kernel
theorem dP_setRiser_1 : decode cP_setRiser 1 = .ok (.getfield 28, 3) := by decide +kernel
theorem dP_setRiser_4 : decode cP_setRiser 4 = .ok (.iload_n 1, 1) := by decide +kernel
theorem dP_setRiser_5 : decode cP_setRiser 5 = .ok (.iload_n 2, 1) := by decide +kernel
theorem dP_setRiser_6 : decode cP_setRiser 6 = .ok (.iastore, 1) := by decide +kernel
theorem dP_setRiser_7 : decode cP_setRiser 7 = .ok (.return_, 1) := by decide +kernel
theorem dP_compare_0 : decode cP_compare 0 = .ok (.aload_n 0, 1) := by decide +kernel
theorem dP_compare_1 : decode cP_compare 1 = .ok (.getfield 9, 3) := by decide +kernel
theorem dP_compare_4 : decode cP_compare 4 = .ok (.iload_n 1, 1) := by decide +kernel
theorem dP_compare_5 : decode cP_compare 5 = .ok (.laload, 1) := by decide +kernel
theorem dP_compare_6 : decode cP_compare 6 = .ok (.aload_n 0, 1) := by decide +kernel
theorem dP_compare_7 : decode cP_compare 7 = .ok (.getfield 15, 3) := by decide +kernel
theorem dP_compare_10 : decode cP_compare 10 = .ok (.iload_n 2, 1) := by decide +kernel
theorem dP_compare_11 : decode cP_compare 11 = .ok (.laload, 1) := by decide +kernel
theorem dP_compare_12 : decode cP_compare 12 = .ok (.lmul, 1) := by decide +kernel
theorem dP_compare_13 : decode cP_compare 13 = .ok (.aload_n 0, 1) := by decide +kernel
theorem dP_compare_14 : decode cP_compare 14 = .ok (.getfield 9, 3) := by decide +kernel
theorem dP_compare_17 : decode cP_compare 17 = .ok (.iload_n 2, 1) := by decide +kernel
theorem dP_compare_18 : decode cP_compare 18 = .ok (.laload, 1) := by decide +kernel
theorem dP_compare_19 : decode cP_compare 19 = .ok (.aload_n 0, 1) := by decide +kernel
theorem dP_compare_20 : decode cP_compare 20 = .ok (.getfield 15, 3) := by decide +kernel
theorem dP_compare_23 : decode cP_compare 23 = .ok (.iload_n 1, 1) := by decide +kernel
theorem dP_compare_24 : decode cP_compare 24 = .ok (.laload, 1) := by decide +kernel
theorem dP_compare_25 : decode cP_compare 25 = .ok (.lmul, 1) := by decide +kernel
theorem dP_compare_26 : decode cP_compare 26 = .ok (.invokestatic 50, 3) := by decide +kernel
theorem dP_compare_29 : decode cP_compare 29 = .ok (.ireturn, 1) := by decide +kernel
theorem dP_solidBefore_0 : decode cP_solidBefore 0 = .ok (.iconst 0, 1) := by decide +kernel
theorem dP_solidBefore_1 : decode cP_solidBefore 1 = .ok (.istore_n 2, 1) := by decide +kernel
theorem dP_solidBefore_2 : decode cP_solidBefore 2 = .ok (.iconst 0, 1) := by decide +kernel
theorem dP_solidBefore_3 : decode cP_solidBefore 3 = .ok (.istore_n 3, 1) := by decide +kernel
theorem dP_solidBefore_4 : decode cP_solidBefore 4 = .ok (.iload_n 3, 1) := by decide +kernel
theorem dP_solidBefore_5 : decode cP_solidBefore 5 = .ok (.aload_n 0, 1) := by decide +kernel
theorem dP_solidBefore_6 : decode cP_solidBefore 6 = .ok (.getfield 35, 3) := by decide +kernel
theorem dP_solidBefore_9 : decode cP_solidBefore 9 = .ok (.if_icmp .ge 29, 3) := by decide +kernel
theorem dP_solidBefore_12 : decode cP_solidBefore 12 = .ok (.aload_n 0, 1) := by decide +kernel
theorem dP_solidBefore_13 : decode cP_solidBefore 13 = .ok (.iload_n 3, 1) := by decide +kernel
theorem dP_solidBefore_14 : decode cP_solidBefore 14 = .ok (.invokevirtual 56, 3) := by decide +kernel
theorem dP_solidBefore_17 : decode cP_solidBefore 17 = .ok (.ifCond .eq 15, 3) := by decide +kernel
theorem dP_solidBefore_20 : decode cP_solidBefore 20 = .ok (.aload_n 0, 1) := by decide +kernel
theorem dP_solidBefore_21 : decode cP_solidBefore 21 = .ok (.iload_n 3, 1) := by decide +kernel
theorem dP_solidBefore_22 : decode cP_solidBefore 22 = .ok (.iload_n 1, 1) := by decide +kernel
theorem dP_solidBefore_23 : decode cP_solidBefore 23 = .ok (.invokevirtual 60, 3) := by decide +kernel
theorem dP_solidBefore_26 : decode cP_solidBefore 26 = .ok (.ifCond .eq 6, 3) := by decide +kernel
theorem dP_solidBefore_29 : decode cP_solidBefore 29 = .ok (.iinc 2 1, 3) := by decide +kernel
theorem dP_solidBefore_32 : decode cP_solidBefore 32 = .ok (.iinc 3 1, 3) := by decide +kernel
theorem dP_solidBefore_35 : decode cP_solidBefore 35 = .ok (.goto (-31), 3) := by decide +kernel
theorem dP_solidBefore_38 : decode cP_solidBefore 38 = .ok (.iload_n 2, 1) := by decide +kernel
theorem dP_solidBefore_39 : decode cP_solidBefore 39 = .ok (.ireturn, 1) := by decide +kernel
theorem dP_isEarlier_0 : decode cP_isEarlier 0 = .ok (.aload_n 0, 1) := by decide +kernel
theorem dP_isEarlier_1 : decode cP_isEarlier 1 = .ok (.iload_n 1, 1) := by decide +kernel
theorem dP_isEarlier_2 : decode cP_isEarlier 2 = .ok (.iload_n 2, 1) := by decide +kernel
theorem dP_isEarlier_3 : decode cP_isEarlier 3 = .ok (.invokevirtual 64, 3) := by decide +kernel
theorem dP_isEarlier_6 : decode cP_isEarlier 6 = .ok (.istore_n 3, 1) := by decide +kernel
theorem dP_isEarlier_7 : decode cP_isEarlier 7 = .ok (.iload_n 3, 1) := by decide +kernel
theorem dP_isEarlier_8 : decode cP_isEarlier 8 = .ok (.ifCond .lt 12, 3) := by decide +kernel
theorem dP_isEarlier_11 : decode cP_isEarlier 11 = .ok (.iload_n 3, 1) := by decide +kernel
theorem dP_isEarlier_12 : decode cP_isEarlier 12 = .ok (.ifCond .ne 12, 3) := by decide +kernel
theorem dP_isEarlier_15 : decode cP_isEarlier 15 = .ok (.iload_n 1, 1) := by decide +kernel
theorem dP_isEarlier_16 : decode cP_isEarlier 16 = .ok (.iload_n 2, 1) := by decide +kernel
theorem dP_isEarlier_17 : decode cP_isEarlier 17 = .ok (.if_icmp .ge 7, 3) := by decide +kernel
theorem dP_isEarlier_20 : decode cP_isEarlier 20 = .ok (.iconst 1, 1) := by decide +kernel
theorem dP_isEarlier_21 : decode cP_isEarlier 21 = .ok (.goto 4, 3) := by decide +kernel
theorem dP_isEarlier_24 : decode cP_isEarlier 24 = .ok (.iconst 0, 1) := by decide +kernel
theorem dP_isEarlier_25 : decode cP_isEarlier 25 = .ok (.ireturn, 1) := by decide +kernel
theorem dP_greatestNeighbour_0 : decode cP_greatestNeighbour 0 = .ok (.iload_n 1, 1) := by decide +kernel
theorem dP_greatestNeighbour_1 : decode cP_greatestNeighbour 1 = .ok (.istore_n 2, 1) := by decide +kernel
theorem dP_greatestNeighbour_2 : decode cP_greatestNeighbour 2 = .ok (.iconst 0, 1) := by decide +kernel
theorem dP_greatestNeighbour_3 : decode cP_greatestNeighbour 3 = .ok (.istore_n 3, 1) := by decide +kernel
theorem dP_greatestNeighbour_4 : decode cP_greatestNeighbour 4 = .ok (.iload_n 3, 1) := by decide +kernel
theorem dP_greatestNeighbour_5 : decode cP_greatestNeighbour 5 = .ok (.aload_n 0, 1) := by decide +kernel
theorem dP_greatestNeighbour_6 : decode cP_greatestNeighbour 6 = .ok (.getfield 35, 3) := by decide +kernel
theorem dP_greatestNeighbour_9 : decode cP_greatestNeighbour 9 = .ok (.if_icmp .ge 37, 3) := by decide +kernel
theorem dP_greatestNeighbour_12 : decode cP_greatestNeighbour 12 = .ok (.aload_n 0, 1) := by decide +kernel
theorem dP_greatestNeighbour_13 : decode cP_greatestNeighbour 13 = .ok (.iload_n 1, 1) := by decide +kernel
theorem dP_greatestNeighbour_14 : decode cP_greatestNeighbour 14 = .ok (.iload_n 3, 1) := by decide +kernel
theorem dP_greatestNeighbour_15 : decode cP_greatestNeighbour 15 = .ok (.invokevirtual 67, 3) := by decide +kernel
theorem dP_greatestNeighbour_18 : decode cP_greatestNeighbour 18 = .ok (.ifCond .eq 22, 3) := by decide +kernel
theorem dP_greatestNeighbour_21 : decode cP_greatestNeighbour 21 = .ok (.aload_n 0, 1) := by decide +kernel
theorem dP_greatestNeighbour_22 : decode cP_greatestNeighbour 22 = .ok (.iload_n 3, 1) := by decide +kernel
theorem dP_greatestNeighbour_23 : decode cP_greatestNeighbour 23 = .ok (.invokevirtual 56, 3) := by decide +kernel
theorem dP_greatestNeighbour_26 : decode cP_greatestNeighbour 26 = .ok (.ifCond .eq 14, 3) := by decide +kernel
theorem dP_greatestNeighbour_29 : decode cP_greatestNeighbour 29 = .ok (.aload_n 0, 1) := by decide +kernel
theorem dP_greatestNeighbour_30 : decode cP_greatestNeighbour 30 = .ok (.iload_n 3, 1) := by decide +kernel
theorem dP_greatestNeighbour_31 : decode cP_greatestNeighbour 31 = .ok (.iload_n 2, 1) := by decide +kernel
theorem dP_greatestNeighbour_32 : decode cP_greatestNeighbour 32 = .ok (.invokevirtual 64, 3) := by decide +kernel
theorem dP_greatestNeighbour_35 : decode cP_greatestNeighbour 35 = .ok (.ifCond .le 5, 3) := by decide +kernel
theorem dP_greatestNeighbour_38 : decode cP_greatestNeighbour 38 = .ok (.iload_n 3, 1) := by decide +kernel
theorem dP_greatestNeighbour_39 : decode cP_greatestNeighbour 39 = .ok (.istore_n 2, 1) := by decide +kernel
theorem dP_greatestNeighbour_40 : decode cP_greatestNeighbour 40 = .ok (.iinc 3 1, 3) := by decide +kernel
theorem dP_greatestNeighbour_43 : decode cP_greatestNeighbour 43 = .ok (.goto (-39), 3) := by decide +kernel
theorem dP_greatestNeighbour_46 : decode cP_greatestNeighbour 46 = .ok (.iload_n 2, 1) := by decide +kernel
theorem dP_greatestNeighbour_47 : decode cP_greatestNeighbour 47 = .ok (.iload_n 1, 1) := by decide +kernel
theorem dP_greatestNeighbour_48 : decode cP_greatestNeighbour 48 = .ok (.if_icmp .ne 7, 3) := by decide +kernel
theorem dP_greatestNeighbour_51 : decode cP_greatestNeighbour 51 = .ok (.iconst (-1), 1) := by decide +kernel
theorem dP_greatestNeighbour_52 : decode cP_greatestNeighbour 52 = .ok (.goto 4, 3) := by decide +kernel
theorem dP_greatestNeighbour_55 : decode cP_greatestNeighbour 55 = .ok (.iload_n 2, 1) := by decide +kernel
theorem dP_greatestNeighbour_56 : decode cP_greatestNeighbour 56 = .ok (.ireturn, 1) := by decide +kernel
theorem dR_init_0 : decode cR_init 0 = .ok (.aload_n 0, 1) := by decide +kernel
theorem dR_init_1 : decode cR_init 1 = .ok (.invokespecial 3, 3) := by decide +kernel
theorem dR_init_4 : decode cR_init 4 = .ok (.aload_n 0, 1) := by decide +kernel
theorem dR_init_5 : decode cR_init 5 = .ok (.bipush 8, 2) := by decide +kernel
theorem dR_init_7 : decode cR_init 7 = .ok (.newarray .long, 2) := by decide +kernel
theorem dR_init_9 : decode cR_init 9 = .ok (.putfield 9, 3) := by decide +kernel
theorem dR_init_12 : decode cR_init 12 = .ok (.aload_n 0, 1) := by decide +kernel
theorem dR_init_13 : decode cR_init 13 = .ok (.bipush 8, 2) := by decide +kernel
theorem dR_init_15 : decode cR_init 15 = .ok (.newarray .long, 2) := by decide +kernel
theorem dR_init_17 : decode cR_init 17 = .ok (.putfield 15, 3) := by decide +kernel
theorem dR_init_20 : decode cR_init 20 = .ok (.return_, 1) := by decide +kernel
theorem dR_isFull_0 : decode cR_isFull 0 = .ok (.aload_n 0, 1) := by decide +kernel
theorem dR_isFull_1 : decode cR_isFull 1 = .ok (.getfield 18, 3) := by decide +kernel
theorem dR_isFull_4 : decode cR_isFull 4 = .ok (.bipush 8, 2) := by decide +kernel
theorem dR_isFull_6 : decode cR_isFull 6 = .ok (.if_icmp .lt 7, 3) := by decide +kernel
theorem dR_isFull_9 : decode cR_isFull 9 = .ok (.iconst 1, 1) := by decide +kernel
theorem dR_isFull_10 : decode cR_isFull 10 = .ok (.goto 4, 3) := by decide +kernel
theorem dR_isFull_13 : decode cR_isFull 13 = .ok (.iconst 0, 1) := by decide +kernel
theorem dR_isFull_14 : decode cR_isFull 14 = .ok (.ireturn, 1) := by decide +kernel
theorem dR_addRow_0 : decode cR_addRow 0 = .ok (.aload_n 0, 1) := by decide +kernel
theorem dR_addRow_1 : decode cR_addRow 1 = .ok (.getfield 9, 3) := by decide +kernel
theorem dR_addRow_4 : decode cR_addRow 4 = .ok (.aload_n 0, 1) := by decide +kernel
theorem dR_addRow_5 : decode cR_addRow 5 = .ok (.getfield 18, 3) := by decide +kernel
theorem dR_addRow_8 : decode cR_addRow 8 = .ok (.iload_n 1, 1) := by decide +kernel
theorem dR_addRow_9 : decode cR_addRow 9 = .ok (.i2l, 1) := by decide +kernel
theorem dR_addRow_10 : decode cR_addRow 10 = .ok (.iload_n 2, 1) := by decide +kernel
theorem dR_addRow_11 : decode cR_addRow 11 = .ok (.i2l, 1) := by decide +kernel
theorem dR_addRow_12 : decode cR_addRow 12 = .ok (.lmul, 1) := by decide +kernel
theorem dR_addRow_13 : decode cR_addRow 13 = .ok (.lastore, 1) := by decide +kernel
theorem dR_addRow_14 : decode cR_addRow 14 = .ok (.aload_n 0, 1) := by decide +kernel
theorem dR_addRow_15 : decode cR_addRow 15 = .ok (.getfield 15, 3) := by decide +kernel
theorem dR_addRow_18 : decode cR_addRow 18 = .ok (.aload_n 0, 1) := by decide +kernel
theorem dR_addRow_19 : decode cR_addRow 19 = .ok (.getfield 18, 3) := by decide +kernel
theorem dR_addRow_22 : decode cR_addRow 22 = .ok (.ldc2_w 22, 3) := by decide +kernel
theorem dR_addRow_25 : decode cR_addRow 25 = .ok (.iload_n 2, 1) := by decide +kernel
theorem dR_addRow_26 : decode cR_addRow 26 = .ok (.i2l, 1) := by decide +kernel
theorem dR_addRow_27 : decode cR_addRow 27 = .ok (.lmul, 1) := by decide +kernel
theorem dR_addRow_28 : decode cR_addRow 28 = .ok (.iload_n 1, 1) := by decide +kernel
theorem dR_addRow_29 : decode cR_addRow 29 = .ok (.i2l, 1) := by decide +kernel
theorem dR_addRow_30 : decode cR_addRow 30 = .ok (.ladd, 1) := by decide +kernel
theorem dR_addRow_31 : decode cR_addRow 31 = .ok (.lastore, 1) := by decide +kernel
theorem dR_addRow_32 : decode cR_addRow 32 = .ok (.aload_n 0, 1) := by decide +kernel
theorem dR_addRow_33 : decode cR_addRow 33 = .ok (.dup, 1) := by decide +kernel
theorem dR_addRow_34 : decode cR_addRow 34 = .ok (.getfield 18, 3) := by decide +kernel
theorem dR_addRow_37 : decode cR_addRow 37 = .ok (.iconst 1, 1) := by decide +kernel
theorem dR_addRow_38 : decode cR_addRow 38 = .ok (.iadd, 1) := by decide +kernel
theorem dR_addRow_39 : decode cR_addRow 39 = .ok (.putfield 18, 3) := by decide +kernel
theorem dR_addRow_42 : decode cR_addRow 42 = .ok (.aload_n 0, 1) := by decide +kernel
theorem dR_addRow_43 : decode cR_addRow 43 = .ok (.getfield 18, 3) := by decide +kernel
theorem dR_addRow_46 : decode cR_addRow 46 = .ok (.ireturn, 1) := by decide +kernel
theorem dR_firstFor_0 : decode cR_firstFor 0 = .ok (.iconst 0, 1) := by decide +kernel
theorem dR_firstFor_1 : decode cR_firstFor 1 = .ok (.istore 5, 2) := by decide +kernel
theorem dR_firstFor_3 : decode cR_firstFor 3 = .ok (.iload 5, 2) := by decide +kernel
theorem dR_firstFor_5 : decode cR_firstFor 5 = .ok (.aload_n 0, 1) := by decide +kernel
theorem dR_firstFor_6 : decode cR_firstFor 6 = .ok (.getfield 18, 3) := by decide +kernel
theorem dR_firstFor_9 : decode cR_firstFor 9 = .ok (.if_icmp .ge 42, 3) := by decide +kernel
theorem dR_firstFor_12 : decode cR_firstFor 12 = .ok (.ldc2_w 24, 3) := by decide +kernel
theorem dR_firstFor_15 : decode cR_firstFor 15 = .ok (.aload_n 0, 1) := by decide +kernel
theorem dR_firstFor_16 : decode cR_firstFor 16 = .ok (.getfield 9, 3) := by decide +kernel
theorem dR_firstFor_19 : decode cR_firstFor 19 = .ok (.iload 5, 2) := by decide +kernel
theorem dR_firstFor_21 : decode cR_firstFor 21 = .ok (.laload, 1) := by decide +kernel
theorem dR_firstFor_22 : decode cR_firstFor 22 = .ok (.lmul, 1) := by decide +kernel
theorem dR_firstFor_23 : decode cR_firstFor 23 = .ok (.lload_n 3, 1) := by decide +kernel
theorem dR_firstFor_24 : decode cR_firstFor 24 = .ok (.lmul, 1) := by decide +kernel
theorem dR_firstFor_25 : decode cR_firstFor 25 = .ok (.ldc2_w 26, 3) := by decide +kernel
theorem dR_firstFor_28 : decode cR_firstFor 28 = .ok (.lload_n 1, 1) := by decide +kernel
theorem dR_firstFor_29 : decode cR_firstFor 29 = .ok (.lmul, 1) := by decide +kernel
theorem dR_firstFor_30 : decode cR_firstFor 30 = .ok (.aload_n 0, 1) := by decide +kernel
theorem dR_firstFor_31 : decode cR_firstFor 31 = .ok (.getfield 15, 3) := by decide +kernel
theorem dR_firstFor_34 : decode cR_firstFor 34 = .ok (.iload 5, 2) := by decide +kernel
theorem dR_firstFor_36 : decode cR_firstFor 36 = .ok (.laload, 1) := by decide +kernel
theorem dR_firstFor_37 : decode cR_firstFor 37 = .ok (.lmul, 1) := by decide +kernel
theorem dR_firstFor_38 : decode cR_firstFor 38 = .ok (.lcmp, 1) := by decide +kernel
theorem dR_firstFor_39 : decode cR_firstFor 39 = .ok (.ifCond .lt 6, 3) := by decide +kernel
theorem dR_firstFor_42 : decode cR_firstFor 42 = .ok (.iload 5, 2) := by decide +kernel
theorem dR_firstFor_44 : decode cR_firstFor 44 = .ok (.ireturn, 1) := by decide +kernel
theorem dR_firstFor_45 : decode cR_firstFor 45 = .ok (.iinc 5 1, 3) := by decide +kernel
theorem dR_firstFor_48 : decode cR_firstFor 48 = .ok (.goto (-45), 3) := by decide +kernel
theorem dR_firstFor_51 : decode cR_firstFor 51 = .ok (.iconst (-1), 1) := by decide +kernel
theorem dR_firstFor_52 : decode cR_firstFor 52 = .ok (.ireturn, 1) := by decide +kernel
theorem dF_init_0 : decode cF_init 0 = .ok (.aload_n 0, 1) := by decide +kernel
theorem dF_init_1 : decode cF_init 1 = .ok (.invokespecial 3, 3) := by decide +kernel
theorem dF_init_4 : decode cF_init 4 = .ok (.aload_n 0, 1) := by decide +kernel
theorem dF_init_5 : decode cF_init 5 = .ok (.bipush 8, 2) := by decide +kernel
theorem dF_init_7 : decode cF_init 7 = .ok (.newarray .int, 2) := by decide +kernel
theorem dF_init_9 : decode cF_init 9 = .ok (.putfield 9, 3) := by decide +kernel
theorem dF_init_12 : decode cF_init 12 = .ok (.aload_n 0, 1) := by decide +kernel
theorem dF_init_13 : decode cF_init 13 = .ok (.bipush 8, 2) := by decide +kernel
theorem dF_init_15 : decode cF_init 15 = .ok (.newarray .int, 2) := by decide +kernel
theorem dF_init_17 : decode cF_init 17 = .ok (.putfield 15, 3) := by decide +kernel
theorem dF_init_20 : decode cF_init 20 = .ok (.return_, 1) := by decide +kernel
theorem dF_isFull_0 : decode cF_isFull 0 = .ok (.aload_n 0, 1) := by decide +kernel
theorem dF_isFull_1 : decode cF_isFull 1 = .ok (.getfield 18, 3) := by decide +kernel
theorem dF_isFull_4 : decode cF_isFull 4 = .ok (.bipush 8, 2) := by decide +kernel
theorem dF_isFull_6 : decode cF_isFull 6 = .ok (.if_icmp .lt 7, 3) := by decide +kernel
theorem dF_isFull_9 : decode cF_isFull 9 = .ok (.iconst 1, 1) := by decide +kernel
theorem dF_isFull_10 : decode cF_isFull 10 = .ok (.goto 4, 3) := by decide +kernel
theorem dF_isFull_13 : decode cF_isFull 13 = .ok (.iconst 0, 1) := by decide +kernel
theorem dF_isFull_14 : decode cF_isFull 14 = .ok (.ireturn, 1) := by decide +kernel
theorem dF_isEmpty_0 : decode cF_isEmpty 0 = .ok (.aload_n 0, 1) := by decide +kernel
theorem dF_isEmpty_1 : decode cF_isEmpty 1 = .ok (.getfield 18, 3) := by decide +kernel
theorem dF_isEmpty_4 : decode cF_isEmpty 4 = .ok (.ifCond .ne 7, 3) := by decide +kernel
theorem dF_isEmpty_7 : decode cF_isEmpty 7 = .ok (.iconst 1, 1) := by decide +kernel
theorem dF_isEmpty_8 : decode cF_isEmpty 8 = .ok (.goto 4, 3) := by decide +kernel
theorem dF_isEmpty_11 : decode cF_isEmpty 11 = .ok (.iconst 0, 1) := by decide +kernel
theorem dF_isEmpty_12 : decode cF_isEmpty 12 = .ok (.ireturn, 1) := by decide +kernel
theorem dF_mayFollow_0 : decode cF_mayFollow 0 = .ok (.aload_n 0, 1) := by decide +kernel
theorem dF_mayFollow_1 : decode cF_mayFollow 1 = .ok (.getfield 18, 3) := by decide +kernel
theorem dF_mayFollow_4 : decode cF_mayFollow 4 = .ok (.ifCond .eq 33, 3) := by decide +kernel
theorem dF_mayFollow_7 : decode cF_mayFollow 7 = .ok (.iload_n 1, 1) := by decide +kernel
theorem dF_mayFollow_8 : decode cF_mayFollow 8 = .ok (.aload_n 0, 1) := by decide +kernel
theorem dF_mayFollow_9 : decode cF_mayFollow 9 = .ok (.getfield 9, 3) := by decide +kernel
theorem dF_mayFollow_12 : decode cF_mayFollow 12 = .ok (.aload_n 0, 1) := by decide +kernel
theorem dF_mayFollow_13 : decode cF_mayFollow 13 = .ok (.getfield 18, 3) := by decide +kernel
theorem dF_mayFollow_16 : decode cF_mayFollow 16 = .ok (.iconst 1, 1) := by decide +kernel
theorem dF_mayFollow_17 : decode cF_mayFollow 17 = .ok (.isub, 1) := by decide +kernel
theorem dF_mayFollow_18 : decode cF_mayFollow 18 = .ok (.iaload, 1) := by decide +kernel
theorem dF_mayFollow_19 : decode cF_mayFollow 19 = .ok (.if_icmp .le 22, 3) := by decide +kernel
theorem dF_mayFollow_22 : decode cF_mayFollow 22 = .ok (.iload_n 2, 1) := by decide +kernel
theorem dF_mayFollow_23 : decode cF_mayFollow 23 = .ok (.aload_n 0, 1) := by decide +kernel
theorem dF_mayFollow_24 : decode cF_mayFollow 24 = .ok (.getfield 15, 3) := by decide +kernel
theorem dF_mayFollow_27 : decode cF_mayFollow 27 = .ok (.aload_n 0, 1) := by decide +kernel
theorem dF_mayFollow_28 : decode cF_mayFollow 28 = .ok (.getfield 18, 3) := by decide +kernel
theorem dF_mayFollow_31 : decode cF_mayFollow 31 = .ok (.iconst 1, 1) := by decide +kernel
theorem dF_mayFollow_32 : decode cF_mayFollow 32 = .ok (.isub, 1) := by decide +kernel
theorem dF_mayFollow_33 : decode cF_mayFollow 33 = .ok (.iaload, 1) := by decide +kernel
theorem dF_mayFollow_34 : decode cF_mayFollow 34 = .ok (.if_icmp .lt 7, 3) := by decide +kernel
theorem dF_mayFollow_37 : decode cF_mayFollow 37 = .ok (.iconst 1, 1) := by decide +kernel
theorem dF_mayFollow_38 : decode cF_mayFollow 38 = .ok (.goto 4, 3) := by decide +kernel
theorem dF_mayFollow_41 : decode cF_mayFollow 41 = .ok (.iconst 0, 1) := by decide +kernel
theorem dF_mayFollow_42 : decode cF_mayFollow 42 = .ok (.ireturn, 1) := by decide +kernel
theorem dF_addRow_0 : decode cF_addRow 0 = .ok (.aload_n 0, 1) := by decide +kernel
theorem dF_addRow_1 : decode cF_addRow 1 = .ok (.getfield 9, 3) := by decide +kernel
theorem dF_addRow_4 : decode cF_addRow 4 = .ok (.aload_n 0, 1) := by decide +kernel
theorem dF_addRow_5 : decode cF_addRow 5 = .ok (.getfield 18, 3) := by decide +kernel
theorem dF_addRow_8 : decode cF_addRow 8 = .ok (.iload_n 1, 1) := by decide +kernel
theorem dF_addRow_9 : decode cF_addRow 9 = .ok (.iastore, 1) := by decide +kernel
theorem dF_addRow_10 : decode cF_addRow 10 = .ok (.aload_n 0, 1) := by decide +kernel
theorem dF_addRow_11 : decode cF_addRow 11 = .ok (.getfield 15, 3) := by decide +kernel
theorem dF_addRow_14 : decode cF_addRow 14 = .ok (.aload_n 0, 1) := by decide +kernel
theorem dF_addRow_15 : decode cF_addRow 15 = .ok (.getfield 18, 3) := by decide +kernel
theorem dF_addRow_18 : decode cF_addRow 18 = .ok (.iload_n 2, 1) := by decide +kernel
theorem dF_addRow_19 : decode cF_addRow 19 = .ok (.iastore, 1) := by decide +kernel
theorem dF_addRow_20 : decode cF_addRow 20 = .ok (.aload_n 0, 1) := by decide +kernel
theorem dF_addRow_21 : decode cF_addRow 21 = .ok (.dup, 1) := by decide +kernel
theorem dF_addRow_22 : decode cF_addRow 22 = .ok (.getfield 18, 3) := by decide +kernel
theorem dF_addRow_25 : decode cF_addRow 25 = .ok (.iconst 1, 1) := by decide +kernel
theorem dF_addRow_26 : decode cF_addRow 26 = .ok (.iadd, 1) := by decide +kernel
theorem dF_addRow_27 : decode cF_addRow 27 = .ok (.putfield 18, 3) := by decide +kernel
theorem dF_addRow_30 : decode cF_addRow 30 = .ok (.aload_n 0, 1) := by decide +kernel
theorem dF_addRow_31 : decode cF_addRow 31 = .ok (.getfield 18, 3) := by decide +kernel
theorem dF_addRow_34 : decode cF_addRow 34 = .ok (.ireturn, 1) := by decide +kernel
theorem dF_flowAt_0 : decode cF_flowAt 0 = .ok (.aload_n 0, 1) := by decide +kernel
theorem dF_flowAt_1 : decode cF_flowAt 1 = .ok (.getfield 15, 3) := by decide +kernel
theorem dF_flowAt_4 : decode cF_flowAt 4 = .ok (.iconst 0, 1) := by decide +kernel
theorem dF_flowAt_5 : decode cF_flowAt 5 = .ok (.iaload, 1) := by decide +kernel
theorem dF_flowAt_6 : decode cF_flowAt 6 = .ok (.istore_n 2, 1) := by decide +kernel
theorem dF_flowAt_7 : decode cF_flowAt 7 = .ok (.iload_n 1, 1) := by decide +kernel
theorem dF_flowAt_8 : decode cF_flowAt 8 = .ok (.aload_n 0, 1) := by decide +kernel
theorem dF_flowAt_9 : decode cF_flowAt 9 = .ok (.getfield 9, 3) := by decide +kernel
theorem dF_flowAt_12 : decode cF_flowAt 12 = .ok (.iconst 0, 1) := by decide +kernel
theorem dF_flowAt_13 : decode cF_flowAt 13 = .ok (.iaload, 1) := by decide +kernel
theorem dF_flowAt_14 : decode cF_flowAt 14 = .ok (.if_icmp .gt 5, 3) := by decide +kernel
theorem dF_flowAt_17 : decode cF_flowAt 17 = .ok (.iload_n 2, 1) := by decide +kernel
theorem dF_flowAt_18 : decode cF_flowAt 18 = .ok (.ireturn, 1) := by decide +kernel
theorem dF_flowAt_19 : decode cF_flowAt 19 = .ok (.iconst 1, 1) := by decide +kernel
theorem dF_flowAt_20 : decode cF_flowAt 20 = .ok (.istore_n 3, 1) := by decide +kernel
theorem dF_flowAt_21 : decode cF_flowAt 21 = .ok (.iload_n 3, 1) := by decide +kernel
theorem dF_flowAt_22 : decode cF_flowAt 22 = .ok (.aload_n 0, 1) := by decide +kernel
theorem dF_flowAt_23 : decode cF_flowAt 23 = .ok (.getfield 18, 3) := by decide +kernel
theorem dF_flowAt_26 : decode cF_flowAt 26 = .ok (.if_icmp .ge 36, 3) := by decide +kernel
theorem dF_flowAt_29 : decode cF_flowAt 29 = .ok (.iload_n 1, 1) := by decide +kernel
theorem dF_flowAt_30 : decode cF_flowAt 30 = .ok (.aload_n 0, 1) := by decide +kernel
theorem dF_flowAt_31 : decode cF_flowAt 31 = .ok (.getfield 9, 3) := by decide +kernel
theorem dF_flowAt_34 : decode cF_flowAt 34 = .ok (.iload_n 3, 1) := by decide +kernel
theorem dF_flowAt_35 : decode cF_flowAt 35 = .ok (.iaload, 1) := by decide +kernel
theorem dF_flowAt_36 : decode cF_flowAt 36 = .ok (.if_icmp .ge 13, 3) := by decide +kernel
theorem dF_flowAt_39 : decode cF_flowAt 39 = .ok (.aload_n 0, 1) := by decide +kernel
theorem dF_flowAt_40 : decode cF_flowAt 40 = .ok (.iload_n 3, 1) := by decide +kernel
theorem dF_flowAt_41 : decode cF_flowAt 41 = .ok (.iconst 1, 1) := by decide +kernel
theorem dF_flowAt_42 : decode cF_flowAt 42 = .ok (.isub, 1) := by decide +kernel
theorem dF_flowAt_43 : decode cF_flowAt 43 = .ok (.iload_n 3, 1) := by decide +kernel
theorem dF_flowAt_44 : decode cF_flowAt 44 = .ok (.iload_n 1, 1) := by decide +kernel
theorem dF_flowAt_45 : decode cF_flowAt 45 = .ok (.invokevirtual 22, 3) := by decide +kernel
theorem dF_flowAt_48 : decode cF_flowAt 48 = .ok (.ireturn, 1) := by decide +kernel
theorem dF_flowAt_49 : decode cF_flowAt 49 = .ok (.aload_n 0, 1) := by decide +kernel
theorem dF_flowAt_50 : decode cF_flowAt 50 = .ok (.getfield 15, 3) := by decide +kernel
theorem dF_flowAt_53 : decode cF_flowAt 53 = .ok (.iload_n 3, 1) := by decide +kernel
theorem dF_flowAt_54 : decode cF_flowAt 54 = .ok (.iaload, 1) := by decide +kernel
theorem dF_flowAt_55 : decode cF_flowAt 55 = .ok (.istore_n 2, 1) := by decide +kernel
theorem dF_flowAt_56 : decode cF_flowAt 56 = .ok (.iinc 3 1, 3) := by decide +kernel
theorem dF_flowAt_59 : decode cF_flowAt 59 = .ok (.goto (-38), 3) := by decide +kernel
theorem dF_flowAt_62 : decode cF_flowAt 62 = .ok (.iload_n 2, 1) := by decide +kernel
theorem dF_flowAt_63 : decode cF_flowAt 63 = .ok (.ireturn, 1) := by decide +kernel
theorem dF_flowBetween_0 : decode cF_flowBetween 0 = .ok (.aload_n 0, 1) := by decide +kernel
theorem dF_flowBetween_1 : decode cF_flowBetween 1 = .ok (.getfield 9, 3) := by decide +kernel
theorem dF_flowBetween_4 : decode cF_flowBetween 4 = .ok (.iload_n 2, 1) := by decide +kernel
theorem dF_flowBetween_5 : decode cF_flowBetween 5 = .ok (.iaload, 1) := by decide +kernel
theorem dF_flowBetween_6 : decode cF_flowBetween 6 = .ok (.aload_n 0, 1) := by decide +kernel
theorem dF_flowBetween_7 : decode cF_flowBetween 7 = .ok (.getfield 9, 3) := by decide +kernel
theorem dF_flowBetween_10 : decode cF_flowBetween 10 = .ok (.iload_n 1, 1) := by decide +kernel
theorem dF_flowBetween_11 : decode cF_flowBetween 11 = .ok (.iaload, 1) := by decide +kernel
theorem dF_flowBetween_12 : decode cF_flowBetween 12 = .ok (.isub, 1) := by decide +kernel
theorem dF_flowBetween_13 : decode cF_flowBetween 13 = .ok (.istore 4, 2) := by decide +kernel
theorem dF_flowBetween_15 : decode cF_flowBetween 15 = .ok (.iload 4, 2) := by decide +kernel
theorem dF_flowBetween_17 : decode cF_flowBetween 17 = .ok (.ifCond .gt 10, 3) := by decide +kernel
theorem dF_flowBetween_20 : decode cF_flowBetween 20 = .ok (.aload_n 0, 1) := by decide +kernel
theorem dF_flowBetween_21 : decode cF_flowBetween 21 = .ok (.getfield 15, 3) := by decide +kernel
theorem dF_flowBetween_24 : decode cF_flowBetween 24 = .ok (.iload_n 1, 1) := by decide +kernel
theorem dF_flowBetween_25 : decode cF_flowBetween 25 = .ok (.iaload, 1) := by decide +kernel
theorem dF_flowBetween_26 : decode cF_flowBetween 26 = .ok (.ireturn, 1) := by decide +kernel
theorem dF_flowBetween_27 : decode cF_flowBetween 27 = .ok (.aload_n 0, 1) := by decide +kernel
theorem dF_flowBetween_28 : decode cF_flowBetween 28 = .ok (.getfield 15, 3) := by decide +kernel
theorem dF_flowBetween_31 : decode cF_flowBetween 31 = .ok (.iload_n 2, 1) := by decide +kernel
theorem dF_flowBetween_32 : decode cF_flowBetween 32 = .ok (.iaload, 1) := by decide +kernel
theorem dF_flowBetween_33 : decode cF_flowBetween 33 = .ok (.aload_n 0, 1) := by decide +kernel
theorem dF_flowBetween_34 : decode cF_flowBetween 34 = .ok (.getfield 15, 3) := by decide +kernel
theorem dF_flowBetween_37 : decode cF_flowBetween 37 = .ok (.iload_n 1, 1) := by decide +kernel
theorem dF_flowBetween_38 : decode cF_flowBetween 38 = .ok (.iaload, 1) := by decide +kernel
theorem dF_flowBetween_39 : decode cF_flowBetween 39 = .ok (.isub, 1) := by decide +kernel
theorem dF_flowBetween_40 : decode cF_flowBetween 40 = .ok (.i2l, 1) := by decide +kernel
theorem dF_flowBetween_41 : decode cF_flowBetween 41 = .ok (.lstore 5, 2) := by decide +kernel
theorem dF_flowBetween_43 : decode cF_flowBetween 43 = .ok (.aload_n 0, 1) := by decide +kernel
theorem dF_flowBetween_44 : decode cF_flowBetween 44 = .ok (.getfield 15, 3) := by decide +kernel
theorem dF_flowBetween_47 : decode cF_flowBetween 47 = .ok (.iload_n 1, 1) := by decide +kernel
theorem dF_flowBetween_48 : decode cF_flowBetween 48 = .ok (.iaload, 1) := by decide +kernel
theorem dF_flowBetween_49 : decode cF_flowBetween 49 = .ok (.lload 5, 2) := by decide +kernel
theorem dF_flowBetween_51 : decode cF_flowBetween 51 = .ok (.iload_n 3, 1) := by decide +kernel
theorem dF_flowBetween_52 : decode cF_flowBetween 52 = .ok (.aload_n 0, 1) := by decide +kernel
theorem dF_flowBetween_53 : decode cF_flowBetween 53 = .ok (.getfield 9, 3) := by decide +kernel
theorem dF_flowBetween_56 : decode cF_flowBetween 56 = .ok (.iload_n 1, 1) := by decide +kernel
theorem dF_flowBetween_57 : decode cF_flowBetween 57 = .ok (.iaload, 1) := by decide +kernel
theorem dF_flowBetween_58 : decode cF_flowBetween 58 = .ok (.isub, 1) := by decide +kernel
theorem dF_flowBetween_59 : decode cF_flowBetween 59 = .ok (.i2l, 1) := by decide +kernel
theorem dF_flowBetween_60 : decode cF_flowBetween 60 = .ok (.lmul, 1) := by decide +kernel
theorem dF_flowBetween_61 : decode cF_flowBetween 61 = .ok (.iload 4, 2) := by decide +kernel
theorem dF_flowBetween_63 : decode cF_flowBetween 63 = .ok (.i2l, 1) := by decide +kernel
theorem dF_flowBetween_64 : decode cF_flowBetween 64 = .ok (.ldiv, 1) := by decide +kernel
theorem dF_flowBetween_65 : decode cF_flowBetween 65 = .ok (.l2i, 1) := by decide +kernel
theorem dF_flowBetween_66 : decode cF_flowBetween 66 = .ok (.iadd, 1) := by decide +kernel
theorem dF_flowBetween_67 : decode cF_flowBetween 67 = .ok (.ireturn, 1) := by decide +kernel
theorem dF_leastOpeningFor_0 : decode cF_leastOpeningFor 0 = .ok (.iconst 0, 1) := by decide +kernel
theorem dF_leastOpeningFor_1 : decode cF_leastOpeningFor 1 = .ok (.istore_n 2, 1) := by decide +kernel
theorem dF_leastOpeningFor_2 : decode cF_leastOpeningFor 2 = .ok (.sipush 10000, 3) := by decide +kernel
theorem dF_leastOpeningFor_5 : decode cF_leastOpeningFor 5 = .ok (.istore_n 3, 1) := by decide +kernel
theorem dF_leastOpeningFor_6 : decode cF_leastOpeningFor 6 = .ok (.iconst 0, 1) := by decide +kernel
theorem dF_leastOpeningFor_7 : decode cF_leastOpeningFor 7 = .ok (.istore 4, 2) := by decide +kernel
theorem dF_leastOpeningFor_9 : decode cF_leastOpeningFor 9 = .ok (.iload 4, 2) := by decide +kernel
theorem dF_leastOpeningFor_11 : decode cF_leastOpeningFor 11 = .ok (.bipush 100, 2) := by decide +kernel
theorem dF_leastOpeningFor_13 : decode cF_leastOpeningFor 13 = .ok (.if_icmp .ge 42, 3) := by decide +kernel
theorem dF_leastOpeningFor_16 : decode cF_leastOpeningFor 16 = .ok (.iload_n 2, 1) := by decide +kernel
theorem dF_leastOpeningFor_17 : decode cF_leastOpeningFor 17 = .ok (.iload_n 3, 1) := by decide +kernel
theorem dF_leastOpeningFor_18 : decode cF_leastOpeningFor 18 = .ok (.if_icmp .ge 37, 3) := by decide +kernel
theorem dF_leastOpeningFor_21 : decode cF_leastOpeningFor 21 = .ok (.iload_n 2, 1) := by decide +kernel
theorem dF_leastOpeningFor_22 : decode cF_leastOpeningFor 22 = .ok (.iload_n 3, 1) := by decide +kernel
theorem dF_leastOpeningFor_23 : decode cF_leastOpeningFor 23 = .ok (.iadd, 1) := by decide +kernel
theorem dF_leastOpeningFor_24 : decode cF_leastOpeningFor 24 = .ok (.iconst 2, 1) := by decide +kernel
theorem dF_leastOpeningFor_25 : decode cF_leastOpeningFor 25 = .ok (.idiv, 1) := by decide +kernel
theorem dF_leastOpeningFor_26 : decode cF_leastOpeningFor 26 = .ok (.istore 5, 2) := by decide +kernel
theorem dF_leastOpeningFor_28 : decode cF_leastOpeningFor 28 = .ok (.aload_n 0, 1) := by decide +kernel
theorem dF_leastOpeningFor_29 : decode cF_leastOpeningFor 29 = .ok (.iload 5, 2) := by decide +kernel
theorem dF_leastOpeningFor_31 : decode cF_leastOpeningFor 31 = .ok (.invokevirtual 26, 3) := by decide +kernel
theorem dF_leastOpeningFor_34 : decode cF_leastOpeningFor 34 = .ok (.iload_n 1, 1) := by decide +kernel
theorem dF_leastOpeningFor_35 : decode cF_leastOpeningFor 35 = .ok (.if_icmp .lt 9, 3) := by decide +kernel
theorem dF_leastOpeningFor_38 : decode cF_leastOpeningFor 38 = .ok (.iload 5, 2) := by decide +kernel
theorem dF_leastOpeningFor_40 : decode cF_leastOpeningFor 40 = .ok (.istore_n 3, 1) := by decide +kernel
theorem dF_leastOpeningFor_41 : decode cF_leastOpeningFor 41 = .ok (.goto 8, 3) := by decide +kernel
theorem dF_leastOpeningFor_44 : decode cF_leastOpeningFor 44 = .ok (.iload 5, 2) := by decide +kernel
theorem dF_leastOpeningFor_46 : decode cF_leastOpeningFor 46 = .ok (.iconst 1, 1) := by decide +kernel
theorem dF_leastOpeningFor_47 : decode cF_leastOpeningFor 47 = .ok (.iadd, 1) := by decide +kernel
theorem dF_leastOpeningFor_48 : decode cF_leastOpeningFor 48 = .ok (.istore_n 2, 1) := by decide +kernel
theorem dF_leastOpeningFor_49 : decode cF_leastOpeningFor 49 = .ok (.iinc 4 1, 3) := by decide +kernel
theorem dF_leastOpeningFor_52 : decode cF_leastOpeningFor 52 = .ok (.goto (-43), 3) := by decide +kernel
theorem dF_leastOpeningFor_55 : decode cF_leastOpeningFor 55 = .ok (.iload_n 2, 1) := by decide +kernel
theorem dF_leastOpeningFor_56 : decode cF_leastOpeningFor 56 = .ok (.ireturn, 1) := by decide +kernel
theorem dM_init_0 : decode cM_init 0 = .ok (.aload_n 0, 1) := by decide +kernel
theorem dM_init_1 : decode cM_init 1 = .ok (.invokespecial 3, 3) := by decide +kernel
theorem dM_init_4 : decode cM_init 4 = .ok (.aload_n 0, 1) := by decide +kernel
theorem dM_init_5 : decode cM_init 5 = .ok (.bipush 40, 2) := by decide +kernel
theorem dM_init_7 : decode cM_init 7 = .ok (.newarray .int, 2) := by decide +kernel
theorem dM_init_9 : decode cM_init 9 = .ok (.putfield 9, 3) := by decide +kernel
theorem dM_init_12 : decode cM_init 12 = .ok (.aload_n 0, 1) := by decide +kernel
theorem dM_init_13 : decode cM_init 13 = .ok (.bipush 40, 2) := by decide +kernel
theorem dM_init_15 : decode cM_init 15 = .ok (.newarray .int, 2) := by decide +kernel
theorem dM_init_17 : decode cM_init 17 = .ok (.putfield 15, 3) := by decide +kernel
theorem dM_init_20 : decode cM_init 20 = .ok (.aload_n 0, 1) := by decide +kernel
theorem dM_init_21 : decode cM_init 21 = .ok (.bipush 40, 2) := by decide +kernel
theorem dM_init_23 : decode cM_init 23 = .ok (.newarray .int, 2) := by decide +kernel
theorem dM_init_25 : decode cM_init 25 = .ok (.putfield 18, 3) := by decide +kernel
theorem dM_init_28 : decode cM_init 28 = .ok (.aload_n 0, 1) := by decide +kernel
theorem dM_init_29 : decode cM_init 29 = .ok (.bipush 40, 2) := by decide +kernel
theorem dM_init_31 : decode cM_init 31 = .ok (.newarray .int, 2) := by decide +kernel
theorem dM_init_33 : decode cM_init 33 = .ok (.putfield 21, 3) := by decide +kernel
theorem dM_init_36 : decode cM_init 36 = .ok (.aload_n 0, 1) := by decide +kernel
theorem dM_init_37 : decode cM_init 37 = .ok (.bipush 40, 2) := by decide +kernel
theorem dM_init_39 : decode cM_init 39 = .ok (.newarray .int, 2) := by decide +kernel
theorem dM_init_41 : decode cM_init 41 = .ok (.putfield 24, 3) := by decide +kernel
theorem dM_init_44 : decode cM_init 44 = .ok (.aload_n 0, 1) := by decide +kernel
theorem dM_init_45 : decode cM_init 45 = .ok (.sipush 1000, 3) := by decide +kernel
theorem dM_init_48 : decode cM_init 48 = .ok (.putfield 27, 3) := by decide +kernel
theorem dM_init_51 : decode cM_init 51 = .ok (.aload_n 0, 1) := by decide +kernel
theorem dM_init_52 : decode cM_init 52 = .ok (.sipush 1000, 3) := by decide +kernel
theorem dM_init_55 : decode cM_init 55 = .ok (.putfield 31, 3) := by decide +kernel
theorem dM_init_58 : decode cM_init 58 = .ok (.return_, 1) := by decide +kernel
theorem dM_clearTo_0 : decode cM_clearTo 0 = .ok (.aload_n 0, 1) := by decide +kernel
theorem dM_clearTo_1 : decode cM_clearTo 1 = .ok (.iload_n 1, 1) := by decide +kernel
theorem dM_clearTo_2 : decode cM_clearTo 2 = .ok (.putfield 27, 3) := by decide +kernel
theorem dM_clearTo_5 : decode cM_clearTo 5 = .ok (.aload_n 0, 1) := by decide +kernel
theorem dM_clearTo_6 : decode cM_clearTo 6 = .ok (.iload_n 2, 1) := by decide +kernel
theorem dM_clearTo_7 : decode cM_clearTo 7 = .ok (.putfield 31, 3) := by decide +kernel
theorem dM_clearTo_10 : decode cM_clearTo 10 = .ok (.aload_n 0, 1) := by decide +kernel
theorem dM_clearTo_11 : decode cM_clearTo 11 = .ok (.iconst 0, 1) := by decide +kernel
theorem dM_clearTo_12 : decode cM_clearTo 12 = .ok (.putfield 34, 3) := by decide +kernel
theorem dM_clearTo_15 : decode cM_clearTo 15 = .ok (.aload_n 0, 1) := by decide +kernel
theorem dM_clearTo_16 : decode cM_clearTo 16 = .ok (.iconst 0, 1) := by decide +kernel
theorem dM_clearTo_17 : decode cM_clearTo 17 = .ok (.putfield 37, 3) := by decide +kernel
theorem dM_clearTo_20 : decode cM_clearTo 20 = .ok (.aload_n 0, 1) := by decide +kernel
theorem dM_clearTo_21 : decode cM_clearTo 21 = .ok (.iconst 0, 1) := by decide +kernel
theorem dM_clearTo_22 : decode cM_clearTo 22 = .ok (.putfield 40, 3) := by decide +kernel
theorem dM_clearTo_25 : decode cM_clearTo 25 = .ok (.return_, 1) := by decide +kernel
theorem dM_isFull_0 : decode cM_isFull 0 = .ok (.aload_n 0, 1) := by decide +kernel
theorem dM_isFull_1 : decode cM_isFull 1 = .ok (.getfield 37, 3) := by decide +kernel
theorem dM_isFull_4 : decode cM_isFull 4 = .ok (.bipush 40, 2) := by decide +kernel
theorem dM_isFull_6 : decode cM_isFull 6 = .ok (.if_icmp .lt 7, 3) := by decide +kernel
theorem dM_isFull_9 : decode cM_isFull 9 = .ok (.iconst 1, 1) := by decide +kernel
theorem dM_isFull_10 : decode cM_isFull 10 = .ok (.goto 4, 3) := by decide +kernel
theorem dM_isFull_13 : decode cM_isFull 13 = .ok (.iconst 0, 1) := by decide +kernel
theorem dM_isFull_14 : decode cM_isFull 14 = .ok (.ireturn, 1) := by decide +kernel
theorem dM_hasThing_0 : decode cM_hasThing 0 = .ok (.iload_n 1, 1) := by decide +kernel
theorem dM_hasThing_1 : decode cM_hasThing 1 = .ok (.ifCond .lt 15, 3) := by decide +kernel
theorem dM_hasThing_4 : decode cM_hasThing 4 = .ok (.iload_n 1, 1) := by decide +kernel
theorem dM_hasThing_5 : decode cM_hasThing 5 = .ok (.aload_n 0, 1) := by decide +kernel
theorem dM_hasThing_6 : decode cM_hasThing 6 = .ok (.getfield 37, 3) := by decide +kernel
theorem dM_hasThing_9 : decode cM_hasThing 9 = .ok (.if_icmp .ge 7, 3) := by decide +kernel
theorem dM_hasThing_12 : decode cM_hasThing 12 = .ok (.iconst 1, 1) := by decide +kernel
theorem dM_hasThing_13 : decode cM_hasThing 13 = .ok (.goto 4, 3) := by decide +kernel
theorem dM_hasThing_16 : decode cM_hasThing 16 = .ok (.iconst 0, 1) := by decide +kernel
theorem dM_hasThing_17 : decode cM_hasThing 17 = .ok (.ireturn, 1) := by decide +kernel
theorem dM_shelfFor_0 : decode cM_shelfFor 0 = .ok (.iconst 0, 1) := by decide +kernel
theorem dM_shelfFor_1 : decode cM_shelfFor 1 = .ok (.istore_n 3, 1) := by decide +kernel
theorem dM_shelfFor_2 : decode cM_shelfFor 2 = .ok (.iload_n 3, 1) := by decide +kernel
theorem dM_shelfFor_3 : decode cM_shelfFor 3 = .ok (.aload_n 0, 1) := by decide +kernel
theorem dM_shelfFor_4 : decode cM_shelfFor 4 = .ok (.getfield 40, 3) := by decide +kernel
theorem dM_shelfFor_7 : decode cM_shelfFor 7 = .ok (.if_icmp .ge 36, 3) := by decide +kernel
theorem dM_shelfFor_10 : decode cM_shelfFor 10 = .ok (.iload_n 2, 1) := by decide +kernel
theorem dM_shelfFor_11 : decode cM_shelfFor 11 = .ok (.aload_n 0, 1) := by decide +kernel
theorem dM_shelfFor_12 : decode cM_shelfFor 12 = .ok (.getfield 21, 3) := by decide +kernel
theorem dM_shelfFor_15 : decode cM_shelfFor 15 = .ok (.iload_n 3, 1) := by decide +kernel
theorem dM_shelfFor_16 : decode cM_shelfFor 16 = .ok (.iaload, 1) := by decide +kernel
theorem dM_shelfFor_17 : decode cM_shelfFor 17 = .ok (.if_icmp .gt 20, 3) := by decide +kernel
theorem dM_shelfFor_20 : decode cM_shelfFor 20 = .ok (.iload_n 1, 1) := by decide +kernel
theorem dM_shelfFor_21 : decode cM_shelfFor 21 = .ok (.aload_n 0, 1) := by decide +kernel
theorem dM_shelfFor_22 : decode cM_shelfFor 22 = .ok (.getfield 27, 3) := by decide +kernel
theorem dM_shelfFor_25 : decode cM_shelfFor 25 = .ok (.aload_n 0, 1) := by decide +kernel
theorem dM_shelfFor_26 : decode cM_shelfFor 26 = .ok (.getfield 24, 3) := by decide +kernel
theorem dM_shelfFor_29 : decode cM_shelfFor 29 = .ok (.iload_n 3, 1) := by decide +kernel
theorem dM_shelfFor_30 : decode cM_shelfFor 30 = .ok (.iaload, 1) := by decide +kernel
theorem dM_shelfFor_31 : decode cM_shelfFor 31 = .ok (.isub, 1) := by decide +kernel
theorem dM_shelfFor_32 : decode cM_shelfFor 32 = .ok (.if_icmp .gt 5, 3) := by decide +kernel
theorem dM_shelfFor_35 : decode cM_shelfFor 35 = .ok (.iload_n 3, 1) := by decide +kernel
theorem dM_shelfFor_36 : decode cM_shelfFor 36 = .ok (.ireturn, 1) := by decide +kernel
theorem dM_shelfFor_37 : decode cM_shelfFor 37 = .ok (.iinc 3 1, 3) := by decide +kernel
theorem dM_shelfFor_40 : decode cM_shelfFor 40 = .ok (.goto (-38), 3) := by decide +kernel
theorem dM_shelfFor_43 : decode cM_shelfFor 43 = .ok (.iload_n 1, 1) := by decide +kernel
theorem dM_shelfFor_44 : decode cM_shelfFor 44 = .ok (.aload_n 0, 1) := by decide +kernel
theorem dM_shelfFor_45 : decode cM_shelfFor 45 = .ok (.getfield 27, 3) := by decide +kernel
theorem dM_shelfFor_48 : decode cM_shelfFor 48 = .ok (.if_icmp .gt 23, 3) := by decide +kernel
theorem dM_shelfFor_51 : decode cM_shelfFor 51 = .ok (.iload_n 2, 1) := by decide +kernel
theorem dM_shelfFor_52 : decode cM_shelfFor 52 = .ok (.aload_n 0, 1) := by decide +kernel
theorem dM_shelfFor_53 : decode cM_shelfFor 53 = .ok (.getfield 31, 3) := by decide +kernel
theorem dM_shelfFor_56 : decode cM_shelfFor 56 = .ok (.aload_n 0, 1) := by decide +kernel
theorem dM_shelfFor_57 : decode cM_shelfFor 57 = .ok (.getfield 34, 3) := by decide +kernel
theorem dM_shelfFor_60 : decode cM_shelfFor 60 = .ok (.isub, 1) := by decide +kernel
theorem dM_shelfFor_61 : decode cM_shelfFor 61 = .ok (.if_icmp .gt 10, 3) := by decide +kernel
theorem dM_shelfFor_64 : decode cM_shelfFor 64 = .ok (.aload_n 0, 1) := by decide +kernel
theorem dM_shelfFor_65 : decode cM_shelfFor 65 = .ok (.getfield 40, 3) := by decide +kernel
theorem dM_shelfFor_68 : decode cM_shelfFor 68 = .ok (.goto 4, 3) := by decide +kernel
theorem dM_shelfFor_71 : decode cM_shelfFor 71 = .ok (.iconst (-1), 1) := by decide +kernel
theorem dM_shelfFor_72 : decode cM_shelfFor 72 = .ok (.ireturn, 1) := by decide +kernel
theorem dM_putOn_0 : decode cM_putOn 0 = .ok (.iload_n 1, 1) := by decide +kernel
theorem dM_putOn_1 : decode cM_putOn 1 = .ok (.aload_n 0, 1) := by decide +kernel
theorem dM_putOn_2 : decode cM_putOn 2 = .ok (.getfield 40, 3) := by decide +kernel
theorem dM_putOn_5 : decode cM_putOn 5 = .ok (.if_icmp .ne 8, 3) := by decide +kernel
theorem dM_putOn_8 : decode cM_putOn 8 = .ok (.aload_n 0, 1) := by decide +kernel
theorem dM_putOn_9 : decode cM_putOn 9 = .ok (.iload_n 3, 1) := by decide +kernel
theorem dM_putOn_10 : decode cM_putOn 10 = .ok (.invokevirtual 43, 3) := by decide +kernel
theorem dM_putOn_13 : decode cM_putOn 13 = .ok (.aload_n 0, 1) := by decide +kernel
theorem dM_putOn_14 : decode cM_putOn 14 = .ok (.getfield 37, 3) := by decide +kernel
theorem dM_putOn_17 : decode cM_putOn 17 = .ok (.istore 4, 2) := by decide +kernel
theorem dM_putOn_19 : decode cM_putOn 19 = .ok (.aload_n 0, 1) := by decide +kernel
theorem dM_putOn_20 : decode cM_putOn 20 = .ok (.dup, 1) := by decide +kernel
theorem dM_putOn_21 : decode cM_putOn 21 = .ok (.getfield 37, 3) := by decide +kernel
theorem dM_putOn_24 : decode cM_putOn 24 = .ok (.iconst 1, 1) := by decide +kernel
theorem dM_putOn_25 : decode cM_putOn 25 = .ok (.iadd, 1) := by decide +kernel
theorem dM_putOn_26 : decode cM_putOn 26 = .ok (.putfield 37, 3) := by decide +kernel
theorem dM_putOn_29 : decode cM_putOn 29 = .ok (.aload_n 0, 1) := by decide +kernel
theorem dM_putOn_30 : decode cM_putOn 30 = .ok (.getfield 9, 3) := by decide +kernel
theorem dM_putOn_33 : decode cM_putOn 33 = .ok (.iload 4, 2) := by decide +kernel
theorem dM_putOn_35 : decode cM_putOn 35 = .ok (.aload_n 0, 1) := by decide +kernel
theorem dM_putOn_36 : decode cM_putOn 36 = .ok (.getfield 24, 3) := by decide +kernel
theorem dM_putOn_39 : decode cM_putOn 39 = .ok (.iload_n 1, 1) := by decide +kernel
theorem dM_putOn_40 : decode cM_putOn 40 = .ok (.iaload, 1) := by decide +kernel
theorem dM_putOn_41 : decode cM_putOn 41 = .ok (.iastore, 1) := by decide +kernel
theorem dM_putOn_42 : decode cM_putOn 42 = .ok (.aload_n 0, 1) := by decide +kernel
theorem dM_putOn_43 : decode cM_putOn 43 = .ok (.getfield 15, 3) := by decide +kernel
theorem dM_putOn_46 : decode cM_putOn 46 = .ok (.iload 4, 2) := by decide +kernel
theorem dM_putOn_48 : decode cM_putOn 48 = .ok (.aload_n 0, 1) := by decide +kernel
theorem dM_putOn_49 : decode cM_putOn 49 = .ok (.getfield 18, 3) := by decide +kernel
theorem dM_putOn_52 : decode cM_putOn 52 = .ok (.iload_n 1, 1) := by decide +kernel
theorem dM_putOn_53 : decode cM_putOn 53 = .ok (.iaload, 1) := by decide +kernel
theorem dM_putOn_54 : decode cM_putOn 54 = .ok (.iastore, 1) := by decide +kernel
theorem dM_putOn_55 : decode cM_putOn 55 = .ok (.aload_n 0, 1) := by decide +kernel
theorem dM_putOn_56 : decode cM_putOn 56 = .ok (.getfield 24, 3) := by decide +kernel
theorem dM_putOn_59 : decode cM_putOn 59 = .ok (.iload_n 1, 1) := by decide +kernel
theorem dM_putOn_60 : decode cM_putOn 60 = .ok (.dup2, 1) := by decide +kernel
theorem dM_putOn_61 : decode cM_putOn 61 = .ok (.iaload, 1) := by decide +kernel
theorem dM_putOn_62 : decode cM_putOn 62 = .ok (.iload_n 2, 1) := by decide +kernel
theorem dM_putOn_63 : decode cM_putOn 63 = .ok (.iadd, 1) := by decide +kernel
theorem dM_putOn_64 : decode cM_putOn 64 = .ok (.iastore, 1) := by decide +kernel
theorem dM_putOn_65 : decode cM_putOn 65 = .ok (.iload 4, 2) := by decide +kernel
theorem dM_putOn_67 : decode cM_putOn 67 = .ok (.ireturn, 1) := by decide +kernel
theorem dM_openShelf_0 : decode cM_openShelf 0 = .ok (.aload_n 0, 1) := by decide +kernel
theorem dM_openShelf_1 : decode cM_openShelf 1 = .ok (.getfield 18, 3) := by decide +kernel
theorem dM_openShelf_4 : decode cM_openShelf 4 = .ok (.aload_n 0, 1) := by decide +kernel
theorem dM_openShelf_5 : decode cM_openShelf 5 = .ok (.getfield 40, 3) := by decide +kernel
theorem dM_openShelf_8 : decode cM_openShelf 8 = .ok (.aload_n 0, 1) := by decide +kernel
theorem dM_openShelf_9 : decode cM_openShelf 9 = .ok (.getfield 34, 3) := by decide +kernel
theorem dM_openShelf_12 : decode cM_openShelf 12 = .ok (.iastore, 1) := by decide +kernel
theorem dM_openShelf_13 : decode cM_openShelf 13 = .ok (.aload_n 0, 1) := by decide +kernel
theorem dM_openShelf_14 : decode cM_openShelf 14 = .ok (.getfield 21, 3) := by decide +kernel
theorem dM_openShelf_17 : decode cM_openShelf 17 = .ok (.aload_n 0, 1) := by decide +kernel
theorem dM_openShelf_18 : decode cM_openShelf 18 = .ok (.getfield 40, 3) := by decide +kernel
theorem dM_openShelf_21 : decode cM_openShelf 21 = .ok (.iload_n 1, 1) := by decide +kernel
theorem dM_openShelf_22 : decode cM_openShelf 22 = .ok (.iastore, 1) := by decide +kernel
theorem dM_openShelf_23 : decode cM_openShelf 23 = .ok (.aload_n 0, 1) := by decide +kernel
theorem dM_openShelf_24 : decode cM_openShelf 24 = .ok (.getfield 24, 3) := by decide +kernel
theorem dM_openShelf_27 : decode cM_openShelf 27 = .ok (.aload_n 0, 1) := by decide +kernel
theorem dM_openShelf_28 : decode cM_openShelf 28 = .ok (.getfield 40, 3) := by decide +kernel
theorem dM_openShelf_31 : decode cM_openShelf 31 = .ok (.iconst 0, 1) := by decide +kernel
theorem dM_openShelf_32 : decode cM_openShelf 32 = .ok (.iastore, 1) := by decide +kernel
theorem dM_openShelf_33 : decode cM_openShelf 33 = .ok (.aload_n 0, 1) := by decide +kernel
theorem dM_openShelf_34 : decode cM_openShelf 34 = .ok (.dup, 1) := by decide +kernel
theorem dM_openShelf_35 : decode cM_openShelf 35 = .ok (.getfield 34, 3) := by decide +kernel
theorem dM_openShelf_38 : decode cM_openShelf 38 = .ok (.iload_n 1, 1) := by decide +kernel
theorem dM_openShelf_39 : decode cM_openShelf 39 = .ok (.iadd, 1) := by decide +kernel
theorem dM_openShelf_40 : decode cM_openShelf 40 = .ok (.putfield 34, 3) := by decide +kernel
theorem dM_openShelf_43 : decode cM_openShelf 43 = .ok (.aload_n 0, 1) := by decide +kernel
theorem dM_openShelf_44 : decode cM_openShelf 44 = .ok (.dup, 1) := by decide +kernel
theorem dM_openShelf_45 : decode cM_openShelf 45 = .ok (.getfield 40, 3) := by decide +kernel
theorem dM_openShelf_48 : decode cM_openShelf 48 = .ok (.iconst 1, 1) := by decide +kernel
theorem dM_openShelf_49 : decode cM_openShelf 49 = .ok (.iadd, 1) := by decide +kernel
theorem dM_openShelf_50 : decode cM_openShelf 50 = .ok (.putfield 40, 3) := by decide +kernel
theorem dM_openShelf_53 : decode cM_openShelf 53 = .ok (.return_, 1) := by decide +kernel
theorem dM_alongWidth_0 : decode cM_alongWidth 0 = .ok (.aload_n 0, 1) := by decide +kernel
theorem dM_alongWidth_1 : decode cM_alongWidth 1 = .ok (.getfield 9, 3) := by decide +kernel
theorem dM_alongWidth_4 : decode cM_alongWidth 4 = .ok (.iload_n 1, 1) := by decide +kernel
theorem dM_alongWidth_5 : decode cM_alongWidth 5 = .ok (.iaload, 1) := by decide +kernel
theorem dM_alongWidth_6 : decode cM_alongWidth 6 = .ok (.ireturn, 1) := by decide +kernel
theorem dM_alongDepth_0 : decode cM_alongDepth 0 = .ok (.aload_n 0, 1) := by decide +kernel
theorem dM_alongDepth_1 : decode cM_alongDepth 1 = .ok (.getfield 15, 3) := by decide +kernel
theorem dM_alongDepth_4 : decode cM_alongDepth 4 = .ok (.iload_n 1, 1) := by decide +kernel
theorem dM_alongDepth_5 : decode cM_alongDepth 5 = .ok (.iaload, 1) := by decide +kernel
theorem dM_alongDepth_6 : decode cM_alongDepth 6 = .ok (.ireturn, 1) := by decide +kernel
theorem dJ_compare_0 : decode cJ_compare 0 = .ok (.lload_n 0, 1) := by decide +kernel
theorem dJ_compare_1 : decode cJ_compare 1 = .ok (.lload_n 2, 1) := by decide +kernel
theorem dJ_compare_2 : decode cJ_compare 2 = .ok (.lcmp, 1) := by decide +kernel
theorem dJ_compare_3 : decode cJ_compare 3 = .ok (.ifCond .ge 7, 3) := by decide +kernel
theorem dJ_compare_6 : decode cJ_compare 6 = .ok (.iconst (-1), 1) := by decide +kernel
theorem dJ_compare_7 : decode cJ_compare 7 = .ok (.goto 14, 3) := by decide +kernel
theorem dJ_compare_10 : decode cJ_compare 10 = .ok (.lload_n 0, 1) := by decide +kernel
theorem dJ_compare_11 : decode cJ_compare 11 = .ok (.lload_n 2, 1) := by decide +kernel
theorem dJ_compare_12 : decode cJ_compare 12 = .ok (.lcmp, 1) := by decide +kernel
theorem dJ_compare_13 : decode cJ_compare 13 = .ok (.ifCond .ne 7, 3) := by decide +kernel
theorem dJ_compare_16 : decode cJ_compare 16 = .ok (.iconst 0, 1) := by decide +kernel
theorem dJ_compare_17 : decode cJ_compare 17 = .ok (.goto 4, 3) := by decide +kernel
theorem dJ_compare_20 : decode cJ_compare 20 = .ok (.iconst 1, 1) := by decide +kernel
theorem dJ_compare_21 : decode cJ_compare 21 = .ok (.ireturn, 1) := by decide +kernel
