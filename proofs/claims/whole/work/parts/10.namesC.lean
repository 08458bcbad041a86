def R_BF : String := "BranchForge"
def F_BF : u_T := fun k => match k with
  | 0 => ("BranchForge", "features", "[I", true)
  | 1 => ("BranchForge", "forest", "LBranchForge$Forest;", true)
  | 2 => ("BranchForge", "checker", "LBranchForge$Checker;", true)
  | 3 => ("BranchForge", "cutter", "LBranchForge$Cutter;", true)
  | 4 => ("BranchForge", "tables", "LBranchForge$Tables;", true)
  | 5 => ("BranchForge", "code", "LBranchForge$Code;", true)
  | _ => ("BranchForge", "machine", "LBranchForge$Machine;", true)
def t_BF : Nat → FieldType := fun k => match k with
  | 0 => .array .int
  | 1 => .object "BranchForge$Forest"
  | 2 => .object "BranchForge$Checker"
  | 3 => .object "BranchForge$Cutter"
  | 4 => .object "BranchForge$Tables"
  | 5 => .object "BranchForge$Code"
  | _ => .object "BranchForge$Machine"
theorem n_BF : ∀ a, a < 7 → ∀ b, b < 7 → a ≠ b → (F_BF a).2.1 ≠ (F_BF b).2.1 := by decide +kernel
theorem t_BF_ok : ∀ k, k < 7 → parseFieldDescriptor (F_BF k).2.2.1 = some (t_BF k) := by decide +kernel
def R_Fo : String := "BranchForge$Forest"
def F_Fo : u_T := fun k => match k with
  | 0 => ("BranchForge$Forest", "ruleOf", "[I", true)
  | 1 => ("BranchForge$Forest", "featureOf", "[I", true)
  | 2 => ("BranchForge$Forest", "bitsOf", "[I", true)
  | 3 => ("BranchForge$Forest", "yesOf", "[I", true)
  | 4 => ("BranchForge$Forest", "noOf", "[I", true)
  | 5 => ("BranchForge$Forest", "rootOf", "[I", true)
  | 6 => ("BranchForge$Forest", "nodeCount", "I", false)
  | _ => ("BranchForge$Forest", "treeCount", "I", false)
def t_Fo : Nat → FieldType := fun k => match k with
  | 0 => .array .int
  | 1 => .array .int
  | 2 => .array .int
  | 3 => .array .int
  | 4 => .array .int
  | 5 => .array .int
  | 6 => .int
  | _ => .int
theorem n_Fo : ∀ a, a < 8 → ∀ b, b < 8 → a ≠ b → (F_Fo a).2.1 ≠ (F_Fo b).2.1 := by decide +kernel
theorem t_Fo_ok : ∀ k, k < 8 → parseFieldDescriptor (F_Fo k).2.2.1 = some (t_Fo k) := by decide +kernel
def R_Ch : String := "BranchForge$Checker"
def F_Ch : u_T := fun k => match k with
  | 0 => ("BranchForge$Checker", "forest", "LBranchForge$Forest;", true)
  | _ => ("BranchForge$Checker", "cameTo", "[Z", true)
def t_Ch : Nat → FieldType := fun k => match k with
  | 0 => .object "BranchForge$Forest"
  | _ => .array .boolean
theorem n_Ch : ∀ a, a < 2 → ∀ b, b < 2 → a ≠ b → (F_Ch a).2.1 ≠ (F_Ch b).2.1 := by decide +kernel
theorem t_Ch_ok : ∀ k, k < 2 → parseFieldDescriptor (F_Ch k).2.2.1 = some (t_Ch k) := by decide +kernel
def R_Cu : String := "BranchForge$Cutter"
def F_Cu : u_T := fun k => match k with
  | 0 => ("BranchForge$Cutter", "forest", "LBranchForge$Forest;", true)
  | 1 => ("BranchForge$Cutter", "codeLengthOf", "[I", true)
  | 2 => ("BranchForge$Cutter", "methodOf", "[I", true)
  | 3 => ("BranchForge$Cutter", "nodeOf", "[I", true)
  | _ => ("BranchForge$Cutter", "methodCount", "I", false)
def t_Cu : Nat → FieldType := fun k => match k with
  | 0 => .object "BranchForge$Forest"
  | 1 => .array .int
  | 2 => .array .int
  | 3 => .array .int
  | _ => .int
theorem n_Cu : ∀ a, a < 5 → ∀ b, b < 5 → a ≠ b → (F_Cu a).2.1 ≠ (F_Cu b).2.1 := by decide +kernel
theorem t_Cu_ok : ∀ k, k < 5 → parseFieldDescriptor (F_Cu k).2.2.1 = some (t_Cu k) := by decide +kernel
def R_Ta : String := "BranchForge$Tables"
def F_Ta : u_T := fun k => match k with
  | 0 => ("BranchForge$Tables", "kindAt", "[I", true)
  | 1 => ("BranchForge$Tables", "bitsAt", "[I", true)
  | 2 => ("BranchForge$Tables", "startOf", "[I", true)
  | _ => ("BranchForge$Tables", "classCount", "I", false)
def t_Ta : Nat → FieldType := fun k => match k with
  | 0 => .array .int
  | 1 => .array .int
  | 2 => .array .int
  | _ => .int
theorem n_Ta : ∀ a, a < 4 → ∀ b, b < 4 → a ≠ b → (F_Ta a).2.1 ≠ (F_Ta b).2.1 := by decide +kernel
theorem t_Ta_ok : ∀ k, k < 4 → parseFieldDescriptor (F_Ta k).2.2.1 = some (t_Ta k) := by decide +kernel
def R_Co : String := "BranchForge$Code"
def F_Co : u_T := fun k => match k with
  | 0 => ("BranchForge$Code", "forest", "LBranchForge$Forest;", true)
  | 1 => ("BranchForge$Code", "cutter", "LBranchForge$Cutter;", true)
  | 2 => ("BranchForge$Code", "tables", "LBranchForge$Tables;", true)
  | 3 => ("BranchForge$Code", "bytes", "[I", true)
  | 4 => ("BranchForge$Code", "startOf", "[I", true)
  | 5 => ("BranchForge$Code", "homeOf", "[I", true)
  | 6 => ("BranchForge$Code", "rootMethodOf", "[I", true)
  | 7 => ("BranchForge$Code", "used", "I", false)
  | 8 => ("BranchForge$Code", "methodCount", "I", false)
  | _ => ("BranchForge$Code", "treeCount", "I", false)
def t_Co : Nat → FieldType := fun k => match k with
  | 0 => .object "BranchForge$Forest"
  | 1 => .object "BranchForge$Cutter"
  | 2 => .object "BranchForge$Tables"
  | 3 => .array .int
  | 4 => .array .int
  | 5 => .array .int
  | 6 => .array .int
  | 7 => .int
  | 8 => .int
  | _ => .int
theorem n_Co : ∀ a, a < 10 → ∀ b, b < 10 → a ≠ b → (F_Co a).2.1 ≠ (F_Co b).2.1 := by decide +kernel
theorem t_Co_ok : ∀ k, k < 10 → parseFieldDescriptor (F_Co k).2.2.1 = some (t_Co k) := by decide +kernel
def R_Ma : String := "BranchForge$Machine"
def F_Ma : u_T := fun k => match k with
  | 0 => ("BranchForge$Machine", "code", "LBranchForge$Code;", true)
  | 1 => ("BranchForge$Machine", "tables", "LBranchForge$Tables;", true)
  | 2 => ("BranchForge$Machine", "features", "[I", true)
  | 3 => ("BranchForge$Machine", "stepCount", "I", false)
  | _ => ("BranchForge$Machine", "callCount", "I", false)
def t_Ma : Nat → FieldType := fun k => match k with
  | 0 => .object "BranchForge$Code"
  | 1 => .object "BranchForge$Tables"
  | 2 => .array .int
  | 3 => .int
  | _ => .int
theorem n_Ma : ∀ a, a < 5 → ∀ b, b < 5 → a ≠ b → (F_Ma a).2.1 ≠ (F_Ma b).2.1 := by decide +kernel
theorem t_Ma_ok : ∀ k, k < 5 → parseFieldDescriptor (F_Ma k).2.2.1 = some (t_Ma k) := by decide +kernel
def R_Ru : String := "BranchForge$Rules"
abbrev clC : List vw_C := [(R_BF, F_BF, 7), (R_Fo, F_Fo, 8), (R_Ch, F_Ch, 2), (R_Cu, F_Cu, 5), (R_Ta, F_Ta, 4), (R_Co, F_Co, 10), (R_Ma, F_Ma, 5)]
def gwC (cI cZ : ClassId) (ad : Nat → Nat) (g : St) : va_W :=
  [(ad 0, .inr (0, [.ref (ad 1), .ref (ad 2), .ref (ad 9), .ref (ad 11), .ref (ad 15), .ref (ad 19), .ref (ad 24)])),
   (ad 1, .inl (cI, 8, .inl (g 1))),
   (ad 2, .inr (1, [.ref (ad 3), .ref (ad 4), .ref (ad 5), .ref (ad 6), .ref (ad 7), .ref (ad 8), .int (g 100 0), .int (g 101 0)])),
   (ad 3, .inl (cI, 60, .inl (g 3))),
   (ad 4, .inl (cI, 60, .inl (g 4))),
   (ad 5, .inl (cI, 60, .inl (g 5))),
   (ad 6, .inl (cI, 60, .inl (g 6))),
   (ad 7, .inl (cI, 60, .inl (g 7))),
   (ad 8, .inl (cI, 8, .inl (g 8))),
   (ad 9, .inr (2, [.ref (ad 2), .ref (ad 10)])),
   (ad 10, .inl (cZ, 60, .inl (g 10))),
   (ad 11, .inr (3, [.ref (ad 2), .ref (ad 12), .ref (ad 13), .ref (ad 14), .int (g 102 0)])),
   (ad 12, .inl (cI, 60, .inl (g 12))),
   (ad 13, .inl (cI, 60, .inl (g 13))),
   (ad 14, .inl (cI, 60, .inl (g 14))),
   (ad 15, .inr (4, [.ref (ad 16), .ref (ad 17), .ref (ad 18), .int (g 103 0)])),
   (ad 16, .inl (cI, 120, .inl (g 16))),
   (ad 17, .inl (cI, 120, .inl (g 17))),
   (ad 18, .inl (cI, 61, .inl (g 18))),
   (ad 19, .inr (5, [.ref (ad 2), .ref (ad 11), .ref (ad 15), .ref (ad 20), .ref (ad 21), .ref (ad 22), .ref (ad 23), .int (g 104 0), .int (g 105 0), .int (g 106 0)])),
   (ad 20, .inl (cI, 600, .inl (g 20))),
   (ad 21, .inl (cI, 61, .inl (g 21))),
   (ad 22, .inl (cI, 60, .inl (g 22))),
   (ad 23, .inl (cI, 8, .inl (g 23))),
   (ad 24, .inr (6, [.ref (ad 19), .ref (ad 15), .ref (ad 1), .int (g 107 0), .int (g 108 0)]))]
abbrev b_BF_leaf : ByteArray := prog_1_method_2_code
def y_BF_leaf : MethodName := ⟨R_BF, "leaf", "(I)I"⟩
abbrev b_BF_split : ByteArray := prog_1_method_3_code
def y_BF_split : MethodName := ⟨R_BF, "split", "(IIIII)I"⟩
abbrev b_BF_tree : ByteArray := prog_1_method_4_code
def y_BF_tree : MethodName := ⟨R_BF, "tree", "(I)I"⟩
abbrev b_BF_compile : ByteArray := prog_1_method_5_code
def y_BF_compile : MethodName := ⟨R_BF, "compile", "(II)I"⟩
abbrev b_BF_methods : ByteArray := prog_1_method_6_code
def y_BF_methods : MethodName := ⟨R_BF, "methods", "()I"⟩
abbrev b_BF_length : ByteArray := prog_1_method_7_code
def y_BF_length : MethodName := ⟨R_BF, "length", "(I)I"⟩
abbrev b_BF_byteAt : ByteArray := prog_1_method_8_code
def y_BF_byteAt : MethodName := ⟨R_BF, "byteAt", "(II)I"⟩
abbrev b_BF_classOf : ByteArray := prog_1_method_9_code
def y_BF_classOf : MethodName := ⟨R_BF, "classOf", "(I)I"⟩
abbrev b_BF_classes : ByteArray := prog_1_method_10_code
def y_BF_classes : MethodName := ⟨R_BF, "classes", "()I"⟩
abbrev b_BF_entries : ByteArray := prog_1_method_11_code
def y_BF_entries : MethodName := ⟨R_BF, "entries", "(I)I"⟩
abbrev b_BF_entry : ByteArray := prog_1_method_12_code
def y_BF_entry : MethodName := ⟨R_BF, "entry", "(II)J"⟩
abbrev b_BF_set : ByteArray := prog_1_method_13_code
def y_BF_set : MethodName := ⟨R_BF, "set", "(II)Z"⟩
abbrev b_BF_predict : ByteArray := prog_1_method_14_code
def y_BF_predict : MethodName := ⟨R_BF, "predict", "()J"⟩
abbrev b_BF_steps : ByteArray := prog_1_method_15_code
def y_BF_steps : MethodName := ⟨R_BF, "steps", "()I"⟩
abbrev b_BF_calls : ByteArray := prog_1_method_16_code
def y_BF_calls : MethodName := ⟨R_BF, "calls", "()I"⟩
abbrev b_BF_reach : ByteArray := prog_1_method_17_code
def y_BF_reach : MethodName := ⟨R_BF, "reach", "(I)I"⟩
abbrev b_BF_isFeature : ByteArray := prog_1_method_18_code
def y_BF_isFeature : MethodName := ⟨R_BF, "isFeature", "(I)Z"⟩
abbrev b_BF_isNodeNumber : ByteArray := prog_1_method_19_code
def y_BF_isNodeNumber : MethodName := ⟨R_BF, "isNodeNumber", "(I)Z"⟩
abbrev b_BF_isTableSize : ByteArray := prog_1_method_20_code
def y_BF_isTableSize : MethodName := ⟨R_BF, "isTableSize", "(II)Z"⟩
abbrev b_Fo_addNode : ByteArray := prog_5_method_2_code
def y_Fo_addNode : MethodName := ⟨R_Fo, "addNode", "(IIIII)I"⟩
abbrev b_Fo_addTree : ByteArray := prog_5_method_3_code
def y_Fo_addTree : MethodName := ⟨R_Fo, "addTree", "(I)I"⟩
abbrev b_Fo_isNode : ByteArray := prog_5_method_4_code
def y_Fo_isNode : MethodName := ⟨R_Fo, "isNode", "(I)Z"⟩
abbrev b_Fo_isLeaf : ByteArray := prog_5_method_5_code
def y_Fo_isLeaf : MethodName := ⟨R_Fo, "isLeaf", "(I)Z"⟩
abbrev b_Fo_kindOfEntry : ByteArray := prog_5_method_6_code
def y_Fo_kindOfEntry : MethodName := ⟨R_Fo, "kindOfEntry", "(I)I"⟩
abbrev b_Fo_leafFor : ByteArray := prog_5_method_7_code
def y_Fo_leafFor : MethodName := ⟨R_Fo, "leafFor", "(I[I)I"⟩
abbrev b_Ch_firstFault : ByteArray := prog_2_method_2_code
def y_Ch_firstFault : MethodName := ⟨R_Ch, "firstFault", "()I"⟩
abbrev b_Ch_faultFrom : ByteArray := prog_2_method_3_code
def y_Ch_faultFrom : MethodName := ⟨R_Ch, "faultFrom", "(II)I"⟩
abbrev b_Ch_faultAt : ByteArray := prog_2_method_4_code
def y_Ch_faultAt : MethodName := ⟨R_Ch, "faultAt", "(II)I"⟩
abbrev b_Ch_isDangling : ByteArray := prog_2_method_5_code
def y_Ch_isDangling : MethodName := ⟨R_Ch, "isDangling", "(I)Z"⟩
abbrev b_Cu_cutTrees : ByteArray := prog_4_method_2_code
def y_Cu_cutTrees : MethodName := ⟨R_Cu, "cutTrees", "(I)V"⟩
abbrev b_Cu_cutFrom : ByteArray := prog_4_method_3_code
def y_Cu_cutFrom : MethodName := ⟨R_Cu, "cutFrom", "(III)V"⟩
abbrev b_Cu_cutChildren : ByteArray := prog_4_method_4_code
def y_Cu_cutChildren : MethodName := ⟨R_Cu, "cutChildren", "(II)V"⟩
abbrev b_Cu_cutOut : ByteArray := prog_4_method_5_code
def y_Cu_cutOut : MethodName := ⟨R_Cu, "cutOut", "(I)V"⟩
abbrev b_Cu_splitLength : ByteArray := prog_4_method_6_code
def y_Cu_splitLength : MethodName := ⟨R_Cu, "splitLength", "(I)I"⟩
abbrev b_Cu_partLength : ByteArray := prog_4_method_7_code
def y_Cu_partLength : MethodName := ⟨R_Cu, "partLength", "(I)I"⟩
abbrev b_Cu_testLength : ByteArray := prog_4_method_8_code
def y_Cu_testLength : MethodName := ⟨R_Cu, "testLength", "(I)I"⟩
abbrev b_Ta_forgetAll : ByteArray := prog_8_method_2_code
def y_Ta_forgetAll : MethodName := ⟨R_Ta, "forgetAll", "()V"⟩
abbrev b_Ta_openClass : ByteArray := prog_8_method_3_code
def y_Ta_openClass : MethodName := ⟨R_Ta, "openClass", "()V"⟩
abbrev b_Ta_isClass : ByteArray := prog_8_method_4_code
def y_Ta_isClass : MethodName := ⟨R_Ta, "isClass", "(I)Z"⟩
abbrev b_Ta_sizeOf : ByteArray := prog_8_method_5_code
def y_Ta_sizeOf : MethodName := ⟨R_Ta, "sizeOf", "(I)I"⟩
abbrev b_Ta_holds : ByteArray := prog_8_method_6_code
def y_Ta_holds : MethodName := ⟨R_Ta, "holds", "(II)Z"⟩
abbrev b_Ta_latestSize : ByteArray := prog_8_method_7_code
def y_Ta_latestSize : MethodName := ⟨R_Ta, "latestSize", "()I"⟩
abbrev b_Ta_shrinkLatest : ByteArray := prog_8_method_8_code
def y_Ta_shrinkLatest : MethodName := ⟨R_Ta, "shrinkLatest", "(I)V"⟩
abbrev b_Ta_numberFor : ByteArray := prog_8_method_9_code
def y_Ta_numberFor : MethodName := ⟨R_Ta, "numberFor", "(II)I"⟩
abbrev b_Co_isMethod : ByteArray := prog_3_method_2_code
def y_Co_isMethod : MethodName := ⟨R_Co, "isMethod", "(I)Z"⟩
abbrev b_Co_writeMethods : ByteArray := prog_3_method_3_code
def y_Co_writeMethods : MethodName := ⟨R_Co, "writeMethods", "(I)V"⟩
abbrev b_Co_writeMethod : ByteArray := prog_3_method_4_code
def y_Co_writeMethod : MethodName := ⟨R_Co, "writeMethod", "(II)V"⟩
abbrev b_Co_writeCode : ByteArray := prog_3_method_5_code
def y_Co_writeCode : MethodName := ⟨R_Co, "writeCode", "(II)V"⟩
abbrev b_Co_writePart : ByteArray := prog_3_method_6_code
def y_Co_writePart : MethodName := ⟨R_Co, "writePart", "(II)V"⟩
abbrev b_Co_writeTest : ByteArray := prog_3_method_7_code
def y_Co_writeTest : MethodName := ⟨R_Co, "writeTest", "(II)V"⟩
abbrev b_Co_writePair : ByteArray := prog_3_method_8_code
def y_Co_writePair : MethodName := ⟨R_Co, "writePair", "(II)V"⟩
abbrev b_Co_writeByte : ByteArray := prog_3_method_9_code
def y_Co_writeByte : MethodName := ⟨R_Co, "writeByte", "(I)V"⟩
abbrev b_Co_byteOfAll : ByteArray := prog_3_method_10_code
def y_Co_byteOfAll : MethodName := ⟨R_Co, "byteOfAll", "(I)I"⟩
abbrev b_Ma_runTrees : ByteArray := prog_6_method_2_code
def y_Ma_runTrees : MethodName := ⟨R_Ma, "runTrees", "()J"⟩
abbrev b_Ma_runMethod : ByteArray := prog_6_method_3_code
def y_Ma_runMethod : MethodName := ⟨R_Ma, "runMethod", "(II)I"⟩
abbrev b_Ma_operand : ByteArray := prog_6_method_4_code
def y_Ma_operand : MethodName := ⟨R_Ma, "operand", "(III)I"⟩
abbrev b_Ma_testMove : ByteArray := prog_6_method_5_code
def y_Ma_testMove : MethodName := ⟨R_Ma, "testMove", "(III)I"⟩
abbrev b_Ru_takesMark : ByteArray := prog_7_method_2_code
def y_Ru_takesMark : MethodName := ⟨R_Ru, "takesMark", "(II)Z"⟩
abbrev b_Ru_isBitRule : ByteArray := prog_7_method_3_code
def y_Ru_isBitRule : MethodName := ⟨R_Ru, "isBitRule", "(I)Z"⟩
abbrev b_Ru_goesToYes : ByteArray := prog_7_method_4_code
def y_Ru_goesToYes : MethodName := ⟨R_Ru, "goesToYes", "(III)Z"⟩
abbrev b_Ru_orderOf : ByteArray := prog_7_method_5_code
def y_Ru_orderOf : MethodName := ⟨R_Ru, "orderOf", "(I)I"⟩
abbrev b_Ru_wholeOf : ByteArray := prog_7_method_6_code
def y_Ru_wholeOf : MethodName := ⟨R_Ru, "wholeOf", "(I)I"⟩
abbrev b_Fo_init : ByteArray := prog_5_method_1_code
def y_Fo_init : MethodName := ⟨R_Fo, "<init>", "()V"⟩
abbrev b_Ch_init : ByteArray := prog_2_method_1_code
def y_Ch_init : MethodName := ⟨R_Ch, "<init>", "(LBranchForge$Forest;)V"⟩
abbrev b_Cu_init : ByteArray := prog_4_method_1_code
def y_Cu_init : MethodName := ⟨R_Cu, "<init>", "(LBranchForge$Forest;)V"⟩
abbrev b_Ta_init : ByteArray := prog_8_method_1_code
def y_Ta_init : MethodName := ⟨R_Ta, "<init>", "()V"⟩
abbrev b_Co_init : ByteArray := prog_3_method_1_code
def y_Co_init : MethodName := ⟨R_Co, "<init>", "(LBranchForge$Forest;LBranchForge$Cutter;LBranchForge$Tables;)V"⟩
abbrev b_Ma_init : ByteArray := prog_6_method_1_code
def y_Ma_init : MethodName := ⟨R_Ma, "<init>", "(LBranchForge$Code;LBranchForge$Tables;[I)V"⟩
abbrev b_BF_init : ByteArray := prog_1_method_1_code
def y_BF_init : MethodName := ⟨R_BF, "<init>", "()V"⟩
