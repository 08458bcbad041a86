def nfM : List (String × Nat × String × String × String × String) := []
def nmM : List (String × Nat × MethodName × String) := []
def w0M : List Cond := [.constant R_Mo 79 2147483647,
  .constant R_Mo 80 2139095040,
  .constantLong R_Mo 152 (-1),
  .constantLong R_Mo 154 4294967296,
  .constantLong R_Mo 156 4294967295,
  .constant R_Mo 158 8388608,
  .methodLink R_Mo 1 objectInit,
  .instanceMethod objectInit,
  .code objectInit ⟨#[0xb1]⟩ 1 none,
  .arrayClass .int,
  .fieldLink R_Mo 7 "BranchForgeModel" "rule" "[I",
  .fieldLink R_Mo 13 "BranchForgeModel" "feature" "[I",
  .fieldLink R_Mo 16 "BranchForgeModel" "bits" "[I",
  .fieldLink R_Mo 19 "BranchForgeModel" "yes" "[I",
  .fieldLink R_Mo 22 "BranchForgeModel" "no" "[I",
  .fieldLink R_Mo 25 "BranchForgeModel" "root" "[I",
  .fieldLink R_Mo 28 "BranchForgeModel" "row" "[I",
  .arrayClass .boolean,
  .fieldLink R_Mo 31 "BranchForgeModel" "seen" "[Z",
  .fieldLink R_Mo 35 "BranchForgeModel" "waiting" "[I",
  .fieldLink R_Mo 38 "BranchForgeModel" "depth" "[I",
  .fieldLink R_Mo 41 "BranchForgeModel" "order" "[I",
  .fieldLink R_Mo 44 "BranchForgeModel" "size" "[I",
  .fieldLink R_Mo 47 "BranchForgeModel" "cutAt" "[I",
  .fieldLink R_Mo 50 "BranchForgeModel" "start" "[I",
  .fieldLink R_Mo 53 "BranchForgeModel" "classAt" "[I",
  .fieldLink R_Mo 56 "BranchForgeModel" "own" "[I",
  .fieldLink R_Mo 59 "BranchForgeModel" "code" "[I",
  .fieldLink R_Mo 62 "BranchForgeModel" "table" "[I",
  .fieldLink R_Mo 65 "BranchForgeModel" "entryKind" "[I",
  .fieldLink R_Mo 68 "BranchForgeModel" "entryBits" "[I",
  .code y_Mo_init b_Mo_init 1 none,
  .fieldLink R_Mo 71 "BranchForgeModel" "nodes" "I",
  .fieldLink R_Mo 81 "BranchForgeModel" "trees" "I",
  .fieldLink R_Mo 95 "BranchForgeModel" "methods" "I",
  .fieldLink R_Mo 112 "BranchForgeModel" "written" "I",
  .fieldLink R_Mo 115 "BranchForgeModel" "entries" "I",
  .fieldLink R_Mo 129 "BranchForgeModel" "classes" "I",
  .fieldLink R_Mo 142 "BranchForgeModel" "coded" "I",
  .fieldLink R_Mo 171 "BranchForgeModel" "calls" "I",
  .fieldLink R_Mo 168 "BranchForgeModel" "steps" "I",
  .methodLink R_Mo 75 y_Mo_outside,
  .static y_Mo_outside,
  .initialized R_Mo,
  .methodLink R_Mo 84 y_Mo_wrong,
  .instanceMethod y_Mo_wrong,
  .selects R_Mo y_Mo_wrong y_Mo_wrong,
  .methodLink R_Mo 88 y_Mo_part,
  .instanceMethod y_Mo_part,
  .selects R_Mo y_Mo_part y_Mo_part,
  .methodLink R_Mo 92 y_Mo_far,
  .instanceMethod y_Mo_far,
  .selects R_Mo y_Mo_far y_Mo_far,
  .methodLink R_Mo 98 y_Mo_newMethod,
  .instanceMethod y_Mo_newMethod,
  .selects R_Mo y_Mo_newMethod y_Mo_newMethod,
  .methodLink R_Mo 102 y_Mo_bytesOf,
  .instanceMethod y_Mo_bytesOf,
  .selects R_Mo y_Mo_bytesOf y_Mo_bytesOf,
  .methodLink R_Mo 105 y_Mo_cutOut,
  .instanceMethod y_Mo_cutOut,
  .selects R_Mo y_Mo_cutOut y_Mo_cutOut,
  .methodLink R_Mo 108 y_Mo_measure,
  .instanceMethod y_Mo_measure,
  .selects R_Mo y_Mo_measure y_Mo_measure,
  .methodLink R_Mo 118 y_Mo_put,
  .instanceMethod y_Mo_put,
  .selects R_Mo y_Mo_put y_Mo_put,
  .methodLink R_Mo 121 y_Mo_entryFor,
  .instanceMethod y_Mo_entryFor,
  .selects R_Mo y_Mo_entryFor y_Mo_entryFor,
  .methodLink R_Mo 125 y_Mo_with,
  .instanceMethod y_Mo_with,
  .selects R_Mo y_Mo_with y_Mo_with,
  .methodLink R_Mo 132 y_Mo_write,
  .instanceMethod y_Mo_write,
  .selects R_Mo y_Mo_write y_Mo_write,
  .methodLink R_Mo 145 y_Mo_writeAll,
  .instanceMethod y_Mo_writeAll,
  .selects R_Mo y_Mo_writeAll y_Mo_writeAll,
  .methodLink R_Mo 139 y_Mo_cutTree,
  .instanceMethod y_Mo_cutTree,
  .selects R_Mo y_Mo_cutTree y_Mo_cutTree,
  .methodLink R_Mo 135 y_Mo_fault,
  .instanceMethod y_Mo_fault,
  .selects R_Mo y_Mo_fault y_Mo_fault,
  .methodLink R_Mo 148 y_Mo_isMethod,
  .instanceMethod y_Mo_isMethod,
  .selects R_Mo y_Mo_isMethod y_Mo_isMethod,
  .methodLink R_Mo 162 y_Mo_whole,
  .static y_Mo_whole,
  .methodLink R_Mo 159 y_Mo_ordered,
  .static y_Mo_ordered,
  .methodLink R_Mo 165 y_Mo_goesToYes,
  .instanceMethod y_Mo_goesToYes,
  .selects R_Mo y_Mo_goesToYes y_Mo_goesToYes,
  .code y_Mo_leaf b_Mo_leaf 2 (some .int),
  .code y_Mo_outside b_Mo_outside 3 (some .boolean),
  .code y_Mo_split b_Mo_split 7 (some .int),
  .code y_Mo_tree b_Mo_tree 2 (some .int),
  .code y_Mo_wrong b_Mo_wrong 3 (some .int),
  .code y_Mo_fault b_Mo_fault 6 (some .int),
  .code y_Mo_part b_Mo_part 2 (some .int),
  .code y_Mo_far b_Mo_far 3 (some .int),
  .code y_Mo_bytesOf b_Mo_bytesOf 2 (some .int),
  .code y_Mo_newMethod b_Mo_newMethod 2 none,
  .code y_Mo_cutOut b_Mo_cutOut 2 none,
  .code y_Mo_measure b_Mo_measure 4 none,
  .code y_Mo_cutTree b_Mo_cutTree 6 none,
  .code y_Mo_put b_Mo_put 2 none,
  .code y_Mo_entryFor b_Mo_entryFor 5 (some .int),
  .code y_Mo_with b_Mo_with 6 none,
  .code y_Mo_write b_Mo_write 7 none,
  .code y_Mo_writeAll b_Mo_writeAll 5 none,
  .code y_Mo_compile b_Mo_compile 5 (some .int),
  .code y_Mo_isMethod b_Mo_isMethod 2 (some .boolean),
  .code y_Mo_methods b_Mo_methods 1 (some .int),
  .code y_Mo_length b_Mo_length 2 (some .int),
  .code y_Mo_byteAt b_Mo_byteAt 3 (some .int),
  .code y_Mo_classOf b_Mo_classOf 2 (some .int),
  .code y_Mo_classes b_Mo_classes 1 (some .int),
  .code y_Mo_entries b_Mo_entries 2 (some .int),
  .code y_Mo_entry b_Mo_entry 3 (some .long),
  .code y_Mo_set b_Mo_set 3 (some .boolean),
  .code y_Mo_ordered b_Mo_ordered 1 (some .int),
  .code y_Mo_whole b_Mo_whole 2 (some .int),
  .code y_Mo_goesToYes b_Mo_goesToYes 6 (some .boolean),
  .code y_Mo_reach b_Mo_reach 3 (some .int),
  .code y_Mo_predict b_Mo_predict 5 (some .long),
  .code y_Mo_steps b_Mo_steps 1 (some .int),
  .code y_Mo_calls b_Mo_calls 1 (some .int)]
def wGM : List Cond := w0M ++ (u_ws R_Mo F_Mo 29)
theorem goodwM : ∀ w ∈ wGM, goodWord w = true := by decide +kernel
theorem kM_0 : Cond.constant R_Mo 79 2147483647 ∈ wGM := List.mem_append_left _ (List.mem_of_getElem? (i := 0) rfl)
theorem kM_1 : Cond.constant R_Mo 80 2139095040 ∈ wGM := List.mem_append_left _ (List.mem_of_getElem? (i := 1) rfl)
theorem kM_2 : Cond.constantLong R_Mo 152 (-1) ∈ wGM := List.mem_append_left _ (List.mem_of_getElem? (i := 2) rfl)
theorem kM_3 : Cond.constantLong R_Mo 154 4294967296 ∈ wGM := List.mem_append_left _ (List.mem_of_getElem? (i := 3) rfl)
theorem kM_4 : Cond.constantLong R_Mo 156 4294967295 ∈ wGM := List.mem_append_left _ (List.mem_of_getElem? (i := 4) rfl)
theorem kM_5 : Cond.constant R_Mo 158 8388608 ∈ wGM := List.mem_append_left _ (List.mem_of_getElem? (i := 5) rfl)
theorem kM_6 : Cond.methodLink R_Mo 1 objectInit ∈ wGM := List.mem_append_left _ (List.mem_of_getElem? (i := 6) rfl)
theorem kM_7 : Cond.instanceMethod objectInit ∈ wGM := List.mem_append_left _ (List.mem_of_getElem? (i := 7) rfl)
theorem kM_8 : Cond.code objectInit ⟨#[0xb1]⟩ 1 none ∈ wGM := List.mem_append_left _ (List.mem_of_getElem? (i := 8) rfl)
theorem kM_9 : Cond.arrayClass .int ∈ wGM := List.mem_append_left _ (List.mem_of_getElem? (i := 9) rfl)
theorem kM_10 : Cond.fieldLink R_Mo 7 "BranchForgeModel" "rule" "[I" ∈ wGM := List.mem_append_left _ (List.mem_of_getElem? (i := 10) rfl)
theorem kM_11 : Cond.fieldLink R_Mo 13 "BranchForgeModel" "feature" "[I" ∈ wGM := List.mem_append_left _ (List.mem_of_getElem? (i := 11) rfl)
theorem kM_12 : Cond.fieldLink R_Mo 16 "BranchForgeModel" "bits" "[I" ∈ wGM := List.mem_append_left _ (List.mem_of_getElem? (i := 12) rfl)
theorem kM_13 : Cond.fieldLink R_Mo 19 "BranchForgeModel" "yes" "[I" ∈ wGM := List.mem_append_left _ (List.mem_of_getElem? (i := 13) rfl)
theorem kM_14 : Cond.fieldLink R_Mo 22 "BranchForgeModel" "no" "[I" ∈ wGM := List.mem_append_left _ (List.mem_of_getElem? (i := 14) rfl)
theorem kM_15 : Cond.fieldLink R_Mo 25 "BranchForgeModel" "root" "[I" ∈ wGM := List.mem_append_left _ (List.mem_of_getElem? (i := 15) rfl)
theorem kM_16 : Cond.fieldLink R_Mo 28 "BranchForgeModel" "row" "[I" ∈ wGM := List.mem_append_left _ (List.mem_of_getElem? (i := 16) rfl)
theorem kM_17 : Cond.arrayClass .boolean ∈ wGM := List.mem_append_left _ (List.mem_of_getElem? (i := 17) rfl)
theorem kM_18 : Cond.fieldLink R_Mo 31 "BranchForgeModel" "seen" "[Z" ∈ wGM := List.mem_append_left _ (List.mem_of_getElem? (i := 18) rfl)
theorem kM_19 : Cond.fieldLink R_Mo 35 "BranchForgeModel" "waiting" "[I" ∈ wGM := List.mem_append_left _ (List.mem_of_getElem? (i := 19) rfl)
theorem kM_20 : Cond.fieldLink R_Mo 38 "BranchForgeModel" "depth" "[I" ∈ wGM := List.mem_append_left _ (List.mem_of_getElem? (i := 20) rfl)
theorem kM_21 : Cond.fieldLink R_Mo 41 "BranchForgeModel" "order" "[I" ∈ wGM := List.mem_append_left _ (List.mem_of_getElem? (i := 21) rfl)
theorem kM_22 : Cond.fieldLink R_Mo 44 "BranchForgeModel" "size" "[I" ∈ wGM := List.mem_append_left _ (List.mem_of_getElem? (i := 22) rfl)
theorem kM_23 : Cond.fieldLink R_Mo 47 "BranchForgeModel" "cutAt" "[I" ∈ wGM := List.mem_append_left _ (List.mem_of_getElem? (i := 23) rfl)
theorem kM_24 : Cond.fieldLink R_Mo 50 "BranchForgeModel" "start" "[I" ∈ wGM := List.mem_append_left _ (List.mem_of_getElem? (i := 24) rfl)
theorem kM_25 : Cond.fieldLink R_Mo 53 "BranchForgeModel" "classAt" "[I" ∈ wGM := List.mem_append_left _ (List.mem_of_getElem? (i := 25) rfl)
theorem kM_26 : Cond.fieldLink R_Mo 56 "BranchForgeModel" "own" "[I" ∈ wGM := List.mem_append_left _ (List.mem_of_getElem? (i := 26) rfl)
theorem kM_27 : Cond.fieldLink R_Mo 59 "BranchForgeModel" "code" "[I" ∈ wGM := List.mem_append_left _ (List.mem_of_getElem? (i := 27) rfl)
theorem kM_28 : Cond.fieldLink R_Mo 62 "BranchForgeModel" "table" "[I" ∈ wGM := List.mem_append_left _ (List.mem_of_getElem? (i := 28) rfl)
theorem kM_29 : Cond.fieldLink R_Mo 65 "BranchForgeModel" "entryKind" "[I" ∈ wGM := List.mem_append_left _ (List.mem_of_getElem? (i := 29) rfl)
theorem kM_30 : Cond.fieldLink R_Mo 68 "BranchForgeModel" "entryBits" "[I" ∈ wGM := List.mem_append_left _ (List.mem_of_getElem? (i := 30) rfl)
theorem kM_31 : Cond.code y_Mo_init b_Mo_init 1 none ∈ wGM := List.mem_append_left _ (List.mem_of_getElem? (i := 31) rfl)
theorem kM_32 : Cond.fieldLink R_Mo 71 "BranchForgeModel" "nodes" "I" ∈ wGM := List.mem_append_left _ (List.mem_of_getElem? (i := 32) rfl)
theorem kM_33 : Cond.fieldLink R_Mo 81 "BranchForgeModel" "trees" "I" ∈ wGM := List.mem_append_left _ (List.mem_of_getElem? (i := 33) rfl)
theorem kM_34 : Cond.fieldLink R_Mo 95 "BranchForgeModel" "methods" "I" ∈ wGM := List.mem_append_left _ (List.mem_of_getElem? (i := 34) rfl)
theorem kM_35 : Cond.fieldLink R_Mo 112 "BranchForgeModel" "written" "I" ∈ wGM := List.mem_append_left _ (List.mem_of_getElem? (i := 35) rfl)
theorem kM_36 : Cond.fieldLink R_Mo 115 "BranchForgeModel" "entries" "I" ∈ wGM := List.mem_append_left _ (List.mem_of_getElem? (i := 36) rfl)
theorem kM_37 : Cond.fieldLink R_Mo 129 "BranchForgeModel" "classes" "I" ∈ wGM := List.mem_append_left _ (List.mem_of_getElem? (i := 37) rfl)
theorem kM_38 : Cond.fieldLink R_Mo 142 "BranchForgeModel" "coded" "I" ∈ wGM := List.mem_append_left _ (List.mem_of_getElem? (i := 38) rfl)
theorem kM_39 : Cond.fieldLink R_Mo 171 "BranchForgeModel" "calls" "I" ∈ wGM := List.mem_append_left _ (List.mem_of_getElem? (i := 39) rfl)
theorem kM_40 : Cond.fieldLink R_Mo 168 "BranchForgeModel" "steps" "I" ∈ wGM := List.mem_append_left _ (List.mem_of_getElem? (i := 40) rfl)
theorem kM_41 : Cond.methodLink R_Mo 75 y_Mo_outside ∈ wGM := List.mem_append_left _ (List.mem_of_getElem? (i := 41) rfl)
theorem kM_42 : Cond.static y_Mo_outside ∈ wGM := List.mem_append_left _ (List.mem_of_getElem? (i := 42) rfl)
theorem kM_43 : Cond.initialized R_Mo ∈ wGM := List.mem_append_left _ (List.mem_of_getElem? (i := 43) rfl)
theorem kM_44 : Cond.methodLink R_Mo 84 y_Mo_wrong ∈ wGM := List.mem_append_left _ (List.mem_of_getElem? (i := 44) rfl)
theorem kM_45 : Cond.instanceMethod y_Mo_wrong ∈ wGM := List.mem_append_left _ (List.mem_of_getElem? (i := 45) rfl)
theorem kM_46 : Cond.selects R_Mo y_Mo_wrong y_Mo_wrong ∈ wGM := List.mem_append_left _ (List.mem_of_getElem? (i := 46) rfl)
theorem kM_47 : Cond.methodLink R_Mo 88 y_Mo_part ∈ wGM := List.mem_append_left _ (List.mem_of_getElem? (i := 47) rfl)
theorem kM_48 : Cond.instanceMethod y_Mo_part ∈ wGM := List.mem_append_left _ (List.mem_of_getElem? (i := 48) rfl)
theorem kM_49 : Cond.selects R_Mo y_Mo_part y_Mo_part ∈ wGM := List.mem_append_left _ (List.mem_of_getElem? (i := 49) rfl)
theorem kM_50 : Cond.methodLink R_Mo 92 y_Mo_far ∈ wGM := List.mem_append_left _ (List.mem_of_getElem? (i := 50) rfl)
theorem kM_51 : Cond.instanceMethod y_Mo_far ∈ wGM := List.mem_append_left _ (List.mem_of_getElem? (i := 51) rfl)
theorem kM_52 : Cond.selects R_Mo y_Mo_far y_Mo_far ∈ wGM := List.mem_append_left _ (List.mem_of_getElem? (i := 52) rfl)
theorem kM_53 : Cond.methodLink R_Mo 98 y_Mo_newMethod ∈ wGM := List.mem_append_left _ (List.mem_of_getElem? (i := 53) rfl)
theorem kM_54 : Cond.instanceMethod y_Mo_newMethod ∈ wGM := List.mem_append_left _ (List.mem_of_getElem? (i := 54) rfl)
theorem kM_55 : Cond.selects R_Mo y_Mo_newMethod y_Mo_newMethod ∈ wGM := List.mem_append_left _ (List.mem_of_getElem? (i := 55) rfl)
theorem kM_56 : Cond.methodLink R_Mo 102 y_Mo_bytesOf ∈ wGM := List.mem_append_left _ (List.mem_of_getElem? (i := 56) rfl)
theorem kM_57 : Cond.instanceMethod y_Mo_bytesOf ∈ wGM := List.mem_append_left _ (List.mem_of_getElem? (i := 57) rfl)
theorem kM_58 : Cond.selects R_Mo y_Mo_bytesOf y_Mo_bytesOf ∈ wGM := List.mem_append_left _ (List.mem_of_getElem? (i := 58) rfl)
theorem kM_59 : Cond.methodLink R_Mo 105 y_Mo_cutOut ∈ wGM := List.mem_append_left _ (List.mem_of_getElem? (i := 59) rfl)
theorem kM_60 : Cond.instanceMethod y_Mo_cutOut ∈ wGM := List.mem_append_left _ (List.mem_of_getElem? (i := 60) rfl)
theorem kM_61 : Cond.selects R_Mo y_Mo_cutOut y_Mo_cutOut ∈ wGM := List.mem_append_left _ (List.mem_of_getElem? (i := 61) rfl)
theorem kM_62 : Cond.methodLink R_Mo 108 y_Mo_measure ∈ wGM := List.mem_append_left _ (List.mem_of_getElem? (i := 62) rfl)
theorem kM_63 : Cond.instanceMethod y_Mo_measure ∈ wGM := List.mem_append_left _ (List.mem_of_getElem? (i := 63) rfl)
theorem kM_64 : Cond.selects R_Mo y_Mo_measure y_Mo_measure ∈ wGM := List.mem_append_left _ (List.mem_of_getElem? (i := 64) rfl)
theorem kM_65 : Cond.methodLink R_Mo 118 y_Mo_put ∈ wGM := List.mem_append_left _ (List.mem_of_getElem? (i := 65) rfl)
theorem kM_66 : Cond.instanceMethod y_Mo_put ∈ wGM := List.mem_append_left _ (List.mem_of_getElem? (i := 66) rfl)
theorem kM_67 : Cond.selects R_Mo y_Mo_put y_Mo_put ∈ wGM := List.mem_append_left _ (List.mem_of_getElem? (i := 67) rfl)
theorem kM_68 : Cond.methodLink R_Mo 121 y_Mo_entryFor ∈ wGM := List.mem_append_left _ (List.mem_of_getElem? (i := 68) rfl)
theorem kM_69 : Cond.instanceMethod y_Mo_entryFor ∈ wGM := List.mem_append_left _ (List.mem_of_getElem? (i := 69) rfl)
theorem kM_70 : Cond.selects R_Mo y_Mo_entryFor y_Mo_entryFor ∈ wGM := List.mem_append_left _ (List.mem_of_getElem? (i := 70) rfl)
theorem kM_71 : Cond.methodLink R_Mo 125 y_Mo_with ∈ wGM := List.mem_append_left _ (List.mem_of_getElem? (i := 71) rfl)
theorem kM_72 : Cond.instanceMethod y_Mo_with ∈ wGM := List.mem_append_left _ (List.mem_of_getElem? (i := 72) rfl)
theorem kM_73 : Cond.selects R_Mo y_Mo_with y_Mo_with ∈ wGM := List.mem_append_left _ (List.mem_of_getElem? (i := 73) rfl)
theorem kM_74 : Cond.methodLink R_Mo 132 y_Mo_write ∈ wGM := List.mem_append_left _ (List.mem_of_getElem? (i := 74) rfl)
theorem kM_75 : Cond.instanceMethod y_Mo_write ∈ wGM := List.mem_append_left _ (List.mem_of_getElem? (i := 75) rfl)
theorem kM_76 : Cond.selects R_Mo y_Mo_write y_Mo_write ∈ wGM := List.mem_append_left _ (List.mem_of_getElem? (i := 76) rfl)
theorem kM_77 : Cond.methodLink R_Mo 145 y_Mo_writeAll ∈ wGM := List.mem_append_left _ (List.mem_of_getElem? (i := 77) rfl)
theorem kM_78 : Cond.instanceMethod y_Mo_writeAll ∈ wGM := List.mem_append_left _ (List.mem_of_getElem? (i := 78) rfl)
theorem kM_79 : Cond.selects R_Mo y_Mo_writeAll y_Mo_writeAll ∈ wGM := List.mem_append_left _ (List.mem_of_getElem? (i := 79) rfl)
theorem kM_80 : Cond.methodLink R_Mo 139 y_Mo_cutTree ∈ wGM := List.mem_append_left _ (List.mem_of_getElem? (i := 80) rfl)
theorem kM_81 : Cond.instanceMethod y_Mo_cutTree ∈ wGM := List.mem_append_left _ (List.mem_of_getElem? (i := 81) rfl)
theorem kM_82 : Cond.selects R_Mo y_Mo_cutTree y_Mo_cutTree ∈ wGM := List.mem_append_left _ (List.mem_of_getElem? (i := 82) rfl)
theorem kM_83 : Cond.methodLink R_Mo 135 y_Mo_fault ∈ wGM := List.mem_append_left _ (List.mem_of_getElem? (i := 83) rfl)
theorem kM_84 : Cond.instanceMethod y_Mo_fault ∈ wGM := List.mem_append_left _ (List.mem_of_getElem? (i := 84) rfl)
theorem kM_85 : Cond.selects R_Mo y_Mo_fault y_Mo_fault ∈ wGM := List.mem_append_left _ (List.mem_of_getElem? (i := 85) rfl)
theorem kM_86 : Cond.methodLink R_Mo 148 y_Mo_isMethod ∈ wGM := List.mem_append_left _ (List.mem_of_getElem? (i := 86) rfl)
theorem kM_87 : Cond.instanceMethod y_Mo_isMethod ∈ wGM := List.mem_append_left _ (List.mem_of_getElem? (i := 87) rfl)
theorem kM_88 : Cond.selects R_Mo y_Mo_isMethod y_Mo_isMethod ∈ wGM := List.mem_append_left _ (List.mem_of_getElem? (i := 88) rfl)
theorem kM_89 : Cond.methodLink R_Mo 162 y_Mo_whole ∈ wGM := List.mem_append_left _ (List.mem_of_getElem? (i := 89) rfl)
theorem kM_90 : Cond.static y_Mo_whole ∈ wGM := List.mem_append_left _ (List.mem_of_getElem? (i := 90) rfl)
theorem kM_91 : Cond.methodLink R_Mo 159 y_Mo_ordered ∈ wGM := List.mem_append_left _ (List.mem_of_getElem? (i := 91) rfl)
theorem kM_92 : Cond.static y_Mo_ordered ∈ wGM := List.mem_append_left _ (List.mem_of_getElem? (i := 92) rfl)
theorem kM_93 : Cond.methodLink R_Mo 165 y_Mo_goesToYes ∈ wGM := List.mem_append_left _ (List.mem_of_getElem? (i := 93) rfl)
theorem kM_94 : Cond.instanceMethod y_Mo_goesToYes ∈ wGM := List.mem_append_left _ (List.mem_of_getElem? (i := 94) rfl)
theorem kM_95 : Cond.selects R_Mo y_Mo_goesToYes y_Mo_goesToYes ∈ wGM := List.mem_append_left _ (List.mem_of_getElem? (i := 95) rfl)
theorem kM_96 : Cond.code y_Mo_leaf b_Mo_leaf 2 (some .int) ∈ wGM := List.mem_append_left _ (List.mem_of_getElem? (i := 96) rfl)
theorem kM_97 : Cond.code y_Mo_outside b_Mo_outside 3 (some .boolean) ∈ wGM := List.mem_append_left _ (List.mem_of_getElem? (i := 97) rfl)
theorem kM_98 : Cond.code y_Mo_split b_Mo_split 7 (some .int) ∈ wGM := List.mem_append_left _ (List.mem_of_getElem? (i := 98) rfl)
theorem kM_99 : Cond.code y_Mo_tree b_Mo_tree 2 (some .int) ∈ wGM := List.mem_append_left _ (List.mem_of_getElem? (i := 99) rfl)
theorem kM_100 : Cond.code y_Mo_wrong b_Mo_wrong 3 (some .int) ∈ wGM := List.mem_append_left _ (List.mem_of_getElem? (i := 100) rfl)
theorem kM_101 : Cond.code y_Mo_fault b_Mo_fault 6 (some .int) ∈ wGM := List.mem_append_left _ (List.mem_of_getElem? (i := 101) rfl)
theorem kM_102 : Cond.code y_Mo_part b_Mo_part 2 (some .int) ∈ wGM := List.mem_append_left _ (List.mem_of_getElem? (i := 102) rfl)
theorem kM_103 : Cond.code y_Mo_far b_Mo_far 3 (some .int) ∈ wGM := List.mem_append_left _ (List.mem_of_getElem? (i := 103) rfl)
theorem kM_104 : Cond.code y_Mo_bytesOf b_Mo_bytesOf 2 (some .int) ∈ wGM := List.mem_append_left _ (List.mem_of_getElem? (i := 104) rfl)
theorem kM_105 : Cond.code y_Mo_newMethod b_Mo_newMethod 2 none ∈ wGM := List.mem_append_left _ (List.mem_of_getElem? (i := 105) rfl)
theorem kM_106 : Cond.code y_Mo_cutOut b_Mo_cutOut 2 none ∈ wGM := List.mem_append_left _ (List.mem_of_getElem? (i := 106) rfl)
theorem kM_107 : Cond.code y_Mo_measure b_Mo_measure 4 none ∈ wGM := List.mem_append_left _ (List.mem_of_getElem? (i := 107) rfl)
theorem kM_108 : Cond.code y_Mo_cutTree b_Mo_cutTree 6 none ∈ wGM := List.mem_append_left _ (List.mem_of_getElem? (i := 108) rfl)
theorem kM_109 : Cond.code y_Mo_put b_Mo_put 2 none ∈ wGM := List.mem_append_left _ (List.mem_of_getElem? (i := 109) rfl)
theorem kM_110 : Cond.code y_Mo_entryFor b_Mo_entryFor 5 (some .int) ∈ wGM := List.mem_append_left _ (List.mem_of_getElem? (i := 110) rfl)
theorem kM_111 : Cond.code y_Mo_with b_Mo_with 6 none ∈ wGM := List.mem_append_left _ (List.mem_of_getElem? (i := 111) rfl)
theorem kM_112 : Cond.code y_Mo_write b_Mo_write 7 none ∈ wGM := List.mem_append_left _ (List.mem_of_getElem? (i := 112) rfl)
theorem kM_113 : Cond.code y_Mo_writeAll b_Mo_writeAll 5 none ∈ wGM := List.mem_append_left _ (List.mem_of_getElem? (i := 113) rfl)
theorem kM_114 : Cond.code y_Mo_compile b_Mo_compile 5 (some .int) ∈ wGM := List.mem_append_left _ (List.mem_of_getElem? (i := 114) rfl)
theorem kM_115 : Cond.code y_Mo_isMethod b_Mo_isMethod 2 (some .boolean) ∈ wGM := List.mem_append_left _ (List.mem_of_getElem? (i := 115) rfl)
theorem kM_116 : Cond.code y_Mo_methods b_Mo_methods 1 (some .int) ∈ wGM := List.mem_append_left _ (List.mem_of_getElem? (i := 116) rfl)
theorem kM_117 : Cond.code y_Mo_length b_Mo_length 2 (some .int) ∈ wGM := List.mem_append_left _ (List.mem_of_getElem? (i := 117) rfl)
theorem kM_118 : Cond.code y_Mo_byteAt b_Mo_byteAt 3 (some .int) ∈ wGM := List.mem_append_left _ (List.mem_of_getElem? (i := 118) rfl)
theorem kM_119 : Cond.code y_Mo_classOf b_Mo_classOf 2 (some .int) ∈ wGM := List.mem_append_left _ (List.mem_of_getElem? (i := 119) rfl)
theorem kM_120 : Cond.code y_Mo_classes b_Mo_classes 1 (some .int) ∈ wGM := List.mem_append_left _ (List.mem_of_getElem? (i := 120) rfl)
theorem kM_121 : Cond.code y_Mo_entries b_Mo_entries 2 (some .int) ∈ wGM := List.mem_append_left _ (List.mem_of_getElem? (i := 121) rfl)
theorem kM_122 : Cond.code y_Mo_entry b_Mo_entry 3 (some .long) ∈ wGM := List.mem_append_left _ (List.mem_of_getElem? (i := 122) rfl)
theorem kM_123 : Cond.code y_Mo_set b_Mo_set 3 (some .boolean) ∈ wGM := List.mem_append_left _ (List.mem_of_getElem? (i := 123) rfl)
theorem kM_124 : Cond.code y_Mo_ordered b_Mo_ordered 1 (some .int) ∈ wGM := List.mem_append_left _ (List.mem_of_getElem? (i := 124) rfl)
theorem kM_125 : Cond.code y_Mo_whole b_Mo_whole 2 (some .int) ∈ wGM := List.mem_append_left _ (List.mem_of_getElem? (i := 125) rfl)
theorem kM_126 : Cond.code y_Mo_goesToYes b_Mo_goesToYes 6 (some .boolean) ∈ wGM := List.mem_append_left _ (List.mem_of_getElem? (i := 126) rfl)
theorem kM_127 : Cond.code y_Mo_reach b_Mo_reach 3 (some .int) ∈ wGM := List.mem_append_left _ (List.mem_of_getElem? (i := 127) rfl)
theorem kM_128 : Cond.code y_Mo_predict b_Mo_predict 5 (some .long) ∈ wGM := List.mem_append_left _ (List.mem_of_getElem? (i := 128) rfl)
theorem kM_129 : Cond.code y_Mo_steps b_Mo_steps 1 (some .int) ∈ wGM := List.mem_append_left _ (List.mem_of_getElem? (i := 129) rfl)
theorem kM_130 : Cond.code y_Mo_calls b_Mo_calls 1 (some .int) ∈ wGM := List.mem_append_left _ (List.mem_of_getElem? (i := 130) rfl)
theorem in_Mo : ∀ w ∈ u_ws R_Mo F_Mo 29, w ∈ wGM := fun _ h => List.mem_append_right _ (h)
