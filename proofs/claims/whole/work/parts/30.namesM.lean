def R_Mo : String := "BranchForgeModel"
def F_Mo : u_T := fun k => match k with
  | 0 => ("BranchForgeModel", "nodes", "I", false)
  | 1 => ("BranchForgeModel", "rule", "[I", true)
  | 2 => ("BranchForgeModel", "feature", "[I", true)
  | 3 => ("BranchForgeModel", "bits", "[I", true)
  | 4 => ("BranchForgeModel", "yes", "[I", true)
  | 5 => ("BranchForgeModel", "no", "[I", true)
  | 6 => ("BranchForgeModel", "trees", "I", false)
  | 7 => ("BranchForgeModel", "root", "[I", true)
  | 8 => ("BranchForgeModel", "row", "[I", true)
  | 9 => ("BranchForgeModel", "seen", "[Z", true)
  | 10 => ("BranchForgeModel", "waiting", "[I", true)
  | 11 => ("BranchForgeModel", "depth", "[I", true)
  | 12 => ("BranchForgeModel", "order", "[I", true)
  | 13 => ("BranchForgeModel", "coded", "I", false)
  | 14 => ("BranchForgeModel", "size", "[I", true)
  | 15 => ("BranchForgeModel", "cutAt", "[I", true)
  | 16 => ("BranchForgeModel", "methods", "I", false)
  | 17 => ("BranchForgeModel", "start", "[I", true)
  | 18 => ("BranchForgeModel", "classAt", "[I", true)
  | 19 => ("BranchForgeModel", "own", "[I", true)
  | 20 => ("BranchForgeModel", "code", "[I", true)
  | 21 => ("BranchForgeModel", "written", "I", false)
  | 22 => ("BranchForgeModel", "classes", "I", false)
  | 23 => ("BranchForgeModel", "table", "[I", true)
  | 24 => ("BranchForgeModel", "entryKind", "[I", true)
  | 25 => ("BranchForgeModel", "entryBits", "[I", true)
  | 26 => ("BranchForgeModel", "entries", "I", false)
  | 27 => ("BranchForgeModel", "steps", "I", false)
  | _ => ("BranchForgeModel", "calls", "I", false)
def t_Mo : Nat → FieldType := fun k => match k with
  | 0 => .int
  | 1 => .array .int
  | 2 => .array .int
  | 3 => .array .int
  | 4 => .array .int
  | 5 => .array .int
  | 6 => .int
  | 7 => .array .int
  | 8 => .array .int
  | 9 => .array .boolean
  | 10 => .array .int
  | 11 => .array .int
  | 12 => .array .int
  | 13 => .int
  | 14 => .array .int
  | 15 => .array .int
  | 16 => .int
  | 17 => .array .int
  | 18 => .array .int
  | 19 => .array .int
  | 20 => .array .int
  | 21 => .int
  | 22 => .int
  | 23 => .array .int
  | 24 => .array .int
  | 25 => .array .int
  | 26 => .int
  | 27 => .int
  | _ => .int
theorem n_Mo : ∀ a, a < 29 → ∀ b, b < 29 → a ≠ b → (F_Mo a).2.1 ≠ (F_Mo b).2.1 := by decide +kernel
theorem t_Mo_ok : ∀ k, k < 29 → parseFieldDescriptor (F_Mo k).2.2.1 = some (t_Mo k) := by decide +kernel
abbrev clM : List vw_C := [(R_Mo, F_Mo, 29)]
def gwM (cI cZ : ClassId) (ad : Nat → Nat) (g : St) : va_W :=
  [(ad 0, .inr (0, [.int (g 100 0), .ref (ad 1), .ref (ad 2), .ref (ad 3), .ref (ad 4), .ref (ad 5), .int (g 101 0), .ref (ad 6), .ref (ad 7), .ref (ad 8), .ref (ad 9), .ref (ad 10), .ref (ad 11), .int (g 102 0), .ref (ad 12), .ref (ad 13), .int (g 103 0), .ref (ad 14), .ref (ad 15), .ref (ad 16), .ref (ad 17), .int (g 104 0), .int (g 105 0), .ref (ad 18), .ref (ad 19), .ref (ad 20), .int (g 106 0), .int (g 107 0), .int (g 108 0)])),
   (ad 1, .inl (cI, 60, .inl (g 1))),
   (ad 2, .inl (cI, 60, .inl (g 2))),
   (ad 3, .inl (cI, 60, .inl (g 3))),
   (ad 4, .inl (cI, 60, .inl (g 4))),
   (ad 5, .inl (cI, 60, .inl (g 5))),
   (ad 6, .inl (cI, 8, .inl (g 6))),
   (ad 7, .inl (cI, 8, .inl (g 7))),
   (ad 8, .inl (cZ, 60, .inl (g 8))),
   (ad 9, .inl (cI, 64, .inl (g 9))),
   (ad 10, .inl (cI, 64, .inl (g 10))),
   (ad 11, .inl (cI, 64, .inl (g 11))),
   (ad 12, .inl (cI, 60, .inl (g 12))),
   (ad 13, .inl (cI, 60, .inl (g 13))),
   (ad 14, .inl (cI, 62, .inl (g 14))),
   (ad 15, .inl (cI, 62, .inl (g 15))),
   (ad 16, .inl (cI, 62, .inl (g 16))),
   (ad 17, .inl (cI, 700, .inl (g 17))),
   (ad 18, .inl (cI, 62, .inl (g 18))),
   (ad 19, .inl (cI, 200, .inl (g 19))),
   (ad 20, .inl (cI, 200, .inl (g 20)))]
abbrev b_Mo_leaf : ByteArray := prog_10_method_2_code
def y_Mo_leaf : MethodName := ⟨R_Mo, "leaf", "(I)I"⟩
abbrev b_Mo_outside : ByteArray := prog_10_method_3_code
def y_Mo_outside : MethodName := ⟨R_Mo, "outside", "(III)Z"⟩
abbrev b_Mo_split : ByteArray := prog_10_method_4_code
def y_Mo_split : MethodName := ⟨R_Mo, "split", "(IIIII)I"⟩
abbrev b_Mo_tree : ByteArray := prog_10_method_5_code
def y_Mo_tree : MethodName := ⟨R_Mo, "tree", "(I)I"⟩
abbrev b_Mo_wrong : ByteArray := prog_10_method_6_code
def y_Mo_wrong : MethodName := ⟨R_Mo, "wrong", "(II)I"⟩
abbrev b_Mo_fault : ByteArray := prog_10_method_7_code
def y_Mo_fault : MethodName := ⟨R_Mo, "fault", "()I"⟩
abbrev b_Mo_part : ByteArray := prog_10_method_8_code
def y_Mo_part : MethodName := ⟨R_Mo, "part", "(I)I"⟩
abbrev b_Mo_far : ByteArray := prog_10_method_9_code
def y_Mo_far : MethodName := ⟨R_Mo, "far", "(I)I"⟩
abbrev b_Mo_bytesOf : ByteArray := prog_10_method_10_code
def y_Mo_bytesOf : MethodName := ⟨R_Mo, "bytesOf", "(I)I"⟩
abbrev b_Mo_newMethod : ByteArray := prog_10_method_11_code
def y_Mo_newMethod : MethodName := ⟨R_Mo, "newMethod", "(I)V"⟩
abbrev b_Mo_cutOut : ByteArray := prog_10_method_12_code
def y_Mo_cutOut : MethodName := ⟨R_Mo, "cutOut", "(I)V"⟩
abbrev b_Mo_measure : ByteArray := prog_10_method_13_code
def y_Mo_measure : MethodName := ⟨R_Mo, "measure", "(II)V"⟩
abbrev b_Mo_cutTree : ByteArray := prog_10_method_14_code
def y_Mo_cutTree : MethodName := ⟨R_Mo, "cutTree", "(II)V"⟩
abbrev b_Mo_put : ByteArray := prog_10_method_15_code
def y_Mo_put : MethodName := ⟨R_Mo, "put", "(I)V"⟩
abbrev b_Mo_entryFor : ByteArray := prog_10_method_16_code
def y_Mo_entryFor : MethodName := ⟨R_Mo, "entryFor", "(III)I"⟩
abbrev b_Mo_with : ByteArray := prog_10_method_17_code
def y_Mo_with : MethodName := ⟨R_Mo, "with", "(IIII)V"⟩
abbrev b_Mo_write : ByteArray := prog_10_method_18_code
def y_Mo_write : MethodName := ⟨R_Mo, "write", "(II)V"⟩
abbrev b_Mo_writeAll : ByteArray := prog_10_method_19_code
def y_Mo_writeAll : MethodName := ⟨R_Mo, "writeAll", "(I)V"⟩
abbrev b_Mo_compile : ByteArray := prog_10_method_20_code
def y_Mo_compile : MethodName := ⟨R_Mo, "compile", "(II)I"⟩
abbrev b_Mo_isMethod : ByteArray := prog_10_method_21_code
def y_Mo_isMethod : MethodName := ⟨R_Mo, "isMethod", "(I)Z"⟩
abbrev b_Mo_methods : ByteArray := prog_10_method_22_code
def y_Mo_methods : MethodName := ⟨R_Mo, "methods", "()I"⟩
abbrev b_Mo_length : ByteArray := prog_10_method_23_code
def y_Mo_length : MethodName := ⟨R_Mo, "length", "(I)I"⟩
abbrev b_Mo_byteAt : ByteArray := prog_10_method_24_code
def y_Mo_byteAt : MethodName := ⟨R_Mo, "byteAt", "(II)I"⟩
abbrev b_Mo_classOf : ByteArray := prog_10_method_25_code
def y_Mo_classOf : MethodName := ⟨R_Mo, "classOf", "(I)I"⟩
abbrev b_Mo_classes : ByteArray := prog_10_method_26_code
def y_Mo_classes : MethodName := ⟨R_Mo, "classes", "()I"⟩
abbrev b_Mo_entries : ByteArray := prog_10_method_27_code
def y_Mo_entries : MethodName := ⟨R_Mo, "entries", "(I)I"⟩
abbrev b_Mo_entry : ByteArray := prog_10_method_28_code
def y_Mo_entry : MethodName := ⟨R_Mo, "entry", "(II)J"⟩
abbrev b_Mo_set : ByteArray := prog_10_method_29_code
def y_Mo_set : MethodName := ⟨R_Mo, "set", "(II)Z"⟩
abbrev b_Mo_ordered : ByteArray := prog_10_method_30_code
def y_Mo_ordered : MethodName := ⟨R_Mo, "ordered", "(I)I"⟩
abbrev b_Mo_whole : ByteArray := prog_10_method_31_code
def y_Mo_whole : MethodName := ⟨R_Mo, "whole", "(I)I"⟩
abbrev b_Mo_goesToYes : ByteArray := prog_10_method_32_code
def y_Mo_goesToYes : MethodName := ⟨R_Mo, "goesToYes", "(I)Z"⟩
abbrev b_Mo_reach : ByteArray := prog_10_method_33_code
def y_Mo_reach : MethodName := ⟨R_Mo, "reach", "(I)I"⟩
abbrev b_Mo_predict : ByteArray := prog_10_method_34_code
def y_Mo_predict : MethodName := ⟨R_Mo, "predict", "()J"⟩
abbrev b_Mo_steps : ByteArray := prog_10_method_35_code
def y_Mo_steps : MethodName := ⟨R_Mo, "steps", "()I"⟩
abbrev b_Mo_calls : ByteArray := prog_10_method_36_code
def y_Mo_calls : MethodName := ⟨R_Mo, "calls", "()I"⟩
abbrev b_Mo_init : ByteArray := prog_10_method_1_code
def y_Mo_init : MethodName := ⟨R_Mo, "<init>", "()V"⟩
