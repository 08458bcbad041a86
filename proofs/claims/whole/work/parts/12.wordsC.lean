def nfC : List (String × Nat × String × String × String × String) := [(R_Ch, 40, "BranchForge$Forest", "yesOf", "[I", "BranchForge"), (R_Ch, 43, "BranchForge$Forest", "noOf", "[I", "BranchForge"), (R_Ch, 19, "BranchForge$Forest", "treeCount", "I", "BranchForge"), (R_Ch, 25, "BranchForge$Forest", "rootOf", "[I", "BranchForge"), (R_Cu, 49, "BranchForge$Forest", "yesOf", "[I", "BranchForge"), (R_Cu, 52, "BranchForge$Forest", "noOf", "[I", "BranchForge"), (R_Cu, 29, "BranchForge$Forest", "treeCount", "I", "BranchForge"), (R_Cu, 34, "BranchForge$Forest", "rootOf", "[I", "BranchForge"), (R_Co, 64, "BranchForge$Cutter", "methodOf", "[I", "BranchForge"), (R_Co, 101, "BranchForge$Forest", "bitsOf", "[I", "BranchForge"), (R_Co, 111, "BranchForge$Forest", "ruleOf", "[I", "BranchForge"), (R_Co, 114, "BranchForge$Forest", "yesOf", "[I", "BranchForge"), (R_Co, 126, "BranchForge$Forest", "noOf", "[I", "BranchForge"), (R_Co, 91, "BranchForge$Forest", "featureOf", "[I", "BranchForge"), (R_Co, 84, "BranchForge$Tables", "classCount", "I", "BranchForge"), (R_Co, 74, "BranchForge$Cutter", "nodeOf", "[I", "BranchForge"), (R_Co, 67, "BranchForge$Forest", "rootOf", "[I", "BranchForge"), (R_Co, 58, "BranchForge$Forest", "treeCount", "I", "BranchForge"), (R_Co, 51, "BranchForge$Cutter", "methodCount", "I", "BranchForge"), (R_BF, 85, "BranchForge$Forest", "treeCount", "I", "BranchForge"), (R_BF, 100, "BranchForge$Code", "methodCount", "I", "BranchForge"), (R_BF, 106, "BranchForge$Code", "startOf", "[I", "BranchForge"), (R_BF, 112, "BranchForge$Code", "bytes", "[I", "BranchForge"), (R_BF, 115, "BranchForge$Code", "homeOf", "[I", "BranchForge"), (R_BF, 118, "BranchForge$Tables", "classCount", "I", "BranchForge"), (R_BF, 132, "BranchForge$Tables", "startOf", "[I", "BranchForge"), (R_BF, 133, "BranchForge$Tables", "kindAt", "[I", "BranchForge"), (R_BF, 136, "BranchForge$Tables", "bitsAt", "[I", "BranchForge"), (R_Ma, 72, "BranchForge$Tables", "bitsAt", "[I", "BranchForge"), (R_Ma, 75, "BranchForge$Tables", "startOf", "[I", "BranchForge"), (R_Ma, 57, "BranchForge$Code", "homeOf", "[I", "BranchForge"), (R_Ma, 46, "BranchForge$Code", "startOf", "[I", "BranchForge"), (R_Ma, 30, "BranchForge$Code", "treeCount", "I", "BranchForge"), (R_Ma, 35, "BranchForge$Code", "rootMethodOf", "[I", "BranchForge"), (R_BF, 145, "BranchForge$Machine", "stepCount", "I", "BranchForge"), (R_BF, 148, "BranchForge$Machine", "callCount", "I", "BranchForge"), (R_BF, 151, "BranchForge$Code", "treeCount", "I", "BranchForge"), (R_BF, 152, "BranchForge$Forest", "rootOf", "[I", "BranchForge")]
def nmC : List (String × Nat × MethodName × String) := [(R_BF, 15, y_Fo_init, "BranchForge"), (R_BF, 38, y_Ta_init, "BranchForge"), (R_Ma, 63, y_BF_isFeature, "BranchForge")]
theorem nkC_0 : (R_Ch, 40, "BranchForge$Forest", "yesOf", "[I", "BranchForge") ∈ nfC := List.mem_of_getElem? (i := 0) rfl
theorem nkC_1 : (R_Ch, 43, "BranchForge$Forest", "noOf", "[I", "BranchForge") ∈ nfC := List.mem_of_getElem? (i := 1) rfl
theorem nkC_2 : (R_Ch, 19, "BranchForge$Forest", "treeCount", "I", "BranchForge") ∈ nfC := List.mem_of_getElem? (i := 2) rfl
theorem nkC_3 : (R_Ch, 25, "BranchForge$Forest", "rootOf", "[I", "BranchForge") ∈ nfC := List.mem_of_getElem? (i := 3) rfl
theorem nkC_4 : (R_Cu, 49, "BranchForge$Forest", "yesOf", "[I", "BranchForge") ∈ nfC := List.mem_of_getElem? (i := 4) rfl
theorem nkC_5 : (R_Cu, 52, "BranchForge$Forest", "noOf", "[I", "BranchForge") ∈ nfC := List.mem_of_getElem? (i := 5) rfl
theorem nkC_6 : (R_Cu, 29, "BranchForge$Forest", "treeCount", "I", "BranchForge") ∈ nfC := List.mem_of_getElem? (i := 6) rfl
theorem nkC_7 : (R_Cu, 34, "BranchForge$Forest", "rootOf", "[I", "BranchForge") ∈ nfC := List.mem_of_getElem? (i := 7) rfl
theorem nkC_8 : (R_Co, 64, "BranchForge$Cutter", "methodOf", "[I", "BranchForge") ∈ nfC := List.mem_of_getElem? (i := 8) rfl
theorem nkC_9 : (R_Co, 101, "BranchForge$Forest", "bitsOf", "[I", "BranchForge") ∈ nfC := List.mem_of_getElem? (i := 9) rfl
theorem nkC_10 : (R_Co, 111, "BranchForge$Forest", "ruleOf", "[I", "BranchForge") ∈ nfC := List.mem_of_getElem? (i := 10) rfl
theorem nkC_11 : (R_Co, 114, "BranchForge$Forest", "yesOf", "[I", "BranchForge") ∈ nfC := List.mem_of_getElem? (i := 11) rfl
theorem nkC_12 : (R_Co, 126, "BranchForge$Forest", "noOf", "[I", "BranchForge") ∈ nfC := List.mem_of_getElem? (i := 12) rfl
theorem nkC_13 : (R_Co, 91, "BranchForge$Forest", "featureOf", "[I", "BranchForge") ∈ nfC := List.mem_of_getElem? (i := 13) rfl
theorem nkC_14 : (R_Co, 84, "BranchForge$Tables", "classCount", "I", "BranchForge") ∈ nfC := List.mem_of_getElem? (i := 14) rfl
theorem nkC_15 : (R_Co, 74, "BranchForge$Cutter", "nodeOf", "[I", "BranchForge") ∈ nfC := List.mem_of_getElem? (i := 15) rfl
theorem nkC_16 : (R_Co, 67, "BranchForge$Forest", "rootOf", "[I", "BranchForge") ∈ nfC := List.mem_of_getElem? (i := 16) rfl
theorem nkC_17 : (R_Co, 58, "BranchForge$Forest", "treeCount", "I", "BranchForge") ∈ nfC := List.mem_of_getElem? (i := 17) rfl
theorem nkC_18 : (R_Co, 51, "BranchForge$Cutter", "methodCount", "I", "BranchForge") ∈ nfC := List.mem_of_getElem? (i := 18) rfl
theorem nkC_19 : (R_BF, 85, "BranchForge$Forest", "treeCount", "I", "BranchForge") ∈ nfC := List.mem_of_getElem? (i := 19) rfl
theorem nkC_20 : (R_BF, 100, "BranchForge$Code", "methodCount", "I", "BranchForge") ∈ nfC := List.mem_of_getElem? (i := 20) rfl
theorem nkC_21 : (R_BF, 106, "BranchForge$Code", "startOf", "[I", "BranchForge") ∈ nfC := List.mem_of_getElem? (i := 21) rfl
theorem nkC_22 : (R_BF, 112, "BranchForge$Code", "bytes", "[I", "BranchForge") ∈ nfC := List.mem_of_getElem? (i := 22) rfl
theorem nkC_23 : (R_BF, 115, "BranchForge$Code", "homeOf", "[I", "BranchForge") ∈ nfC := List.mem_of_getElem? (i := 23) rfl
theorem nkC_24 : (R_BF, 118, "BranchForge$Tables", "classCount", "I", "BranchForge") ∈ nfC := List.mem_of_getElem? (i := 24) rfl
theorem nkC_25 : (R_BF, 132, "BranchForge$Tables", "startOf", "[I", "BranchForge") ∈ nfC := List.mem_of_getElem? (i := 25) rfl
theorem nkC_26 : (R_BF, 133, "BranchForge$Tables", "kindAt", "[I", "BranchForge") ∈ nfC := List.mem_of_getElem? (i := 26) rfl
theorem nkC_27 : (R_BF, 136, "BranchForge$Tables", "bitsAt", "[I", "BranchForge") ∈ nfC := List.mem_of_getElem? (i := 27) rfl
theorem nkC_28 : (R_Ma, 72, "BranchForge$Tables", "bitsAt", "[I", "BranchForge") ∈ nfC := List.mem_of_getElem? (i := 28) rfl
theorem nkC_29 : (R_Ma, 75, "BranchForge$Tables", "startOf", "[I", "BranchForge") ∈ nfC := List.mem_of_getElem? (i := 29) rfl
theorem nkC_30 : (R_Ma, 57, "BranchForge$Code", "homeOf", "[I", "BranchForge") ∈ nfC := List.mem_of_getElem? (i := 30) rfl
theorem nkC_31 : (R_Ma, 46, "BranchForge$Code", "startOf", "[I", "BranchForge") ∈ nfC := List.mem_of_getElem? (i := 31) rfl
theorem nkC_32 : (R_Ma, 30, "BranchForge$Code", "treeCount", "I", "BranchForge") ∈ nfC := List.mem_of_getElem? (i := 32) rfl
theorem nkC_33 : (R_Ma, 35, "BranchForge$Code", "rootMethodOf", "[I", "BranchForge") ∈ nfC := List.mem_of_getElem? (i := 33) rfl
theorem nkC_34 : (R_BF, 145, "BranchForge$Machine", "stepCount", "I", "BranchForge") ∈ nfC := List.mem_of_getElem? (i := 34) rfl
theorem nkC_35 : (R_BF, 148, "BranchForge$Machine", "callCount", "I", "BranchForge") ∈ nfC := List.mem_of_getElem? (i := 35) rfl
theorem nkC_36 : (R_BF, 151, "BranchForge$Code", "treeCount", "I", "BranchForge") ∈ nfC := List.mem_of_getElem? (i := 36) rfl
theorem nkC_37 : (R_BF, 152, "BranchForge$Forest", "rootOf", "[I", "BranchForge") ∈ nfC := List.mem_of_getElem? (i := 37) rfl
theorem nyC_0 : (R_BF, 15, y_Fo_init, "BranchForge") ∈ nmC := List.mem_of_getElem? (i := 0) rfl
theorem nyC_1 : (R_BF, 38, y_Ta_init, "BranchForge") ∈ nmC := List.mem_of_getElem? (i := 1) rfl
theorem nyC_2 : (R_Ma, 63, y_BF_isFeature, "BranchForge") ∈ nmC := List.mem_of_getElem? (i := 2) rfl
def w0C : List Cond := [.constant R_Ru 15 2147483647,
  .constant R_Ru 16 2139095040,
  .constantLong R_BF 139 4294967295,
  .constantLong R_BF 130 (-1),
  .constant R_Ru 24 8388607,
  .constant R_Ru 25 8388608,
  .methodLink R_Fo 3 objectInit,
  .instanceMethod objectInit,
  .code objectInit ⟨#[0xb1]⟩ 1 none,
  .arrayClass .int,
  .fieldLink R_Fo 9 "BranchForge$Forest" "ruleOf" "[I",
  .fieldLink R_Fo 15 "BranchForge$Forest" "featureOf" "[I",
  .fieldLink R_Fo 18 "BranchForge$Forest" "bitsOf" "[I",
  .fieldLink R_Fo 21 "BranchForge$Forest" "yesOf" "[I",
  .fieldLink R_Fo 24 "BranchForge$Forest" "noOf" "[I",
  .fieldLink R_Fo 27 "BranchForge$Forest" "rootOf" "[I",
  .code y_Fo_init b_Fo_init 1 none,
  .methodLink R_Ch 3 objectInit,
  .arrayClass .boolean,
  .fieldLink R_Ch 9 "BranchForge$Checker" "cameTo" "[Z",
  .fieldLink R_Ch 15 "BranchForge$Checker" "forest" "LBranchForge$Forest;",
  .code y_Ch_init b_Ch_init 2 none,
  .methodLink R_Cu 3 objectInit,
  .fieldLink R_Cu 9 "BranchForge$Cutter" "codeLengthOf" "[I",
  .fieldLink R_Cu 15 "BranchForge$Cutter" "methodOf" "[I",
  .fieldLink R_Cu 18 "BranchForge$Cutter" "nodeOf" "[I",
  .fieldLink R_Cu 21 "BranchForge$Cutter" "forest" "LBranchForge$Forest;",
  .code y_Cu_init b_Cu_init 2 none,
  .methodLink R_Ta 3 objectInit,
  .fieldLink R_Ta 9 "BranchForge$Tables" "kindAt" "[I",
  .fieldLink R_Ta 15 "BranchForge$Tables" "bitsAt" "[I",
  .fieldLink R_Ta 18 "BranchForge$Tables" "startOf" "[I",
  .code y_Ta_init b_Ta_init 1 none,
  .methodLink R_Co 3 objectInit,
  .fieldLink R_Co 9 "BranchForge$Code" "bytes" "[I",
  .fieldLink R_Co 15 "BranchForge$Code" "startOf" "[I",
  .fieldLink R_Co 18 "BranchForge$Code" "homeOf" "[I",
  .fieldLink R_Co 21 "BranchForge$Code" "rootMethodOf" "[I",
  .fieldLink R_Co 24 "BranchForge$Code" "forest" "LBranchForge$Forest;",
  .fieldLink R_Co 28 "BranchForge$Code" "cutter" "LBranchForge$Cutter;",
  .fieldLink R_Co 32 "BranchForge$Code" "tables" "LBranchForge$Tables;",
  .code y_Co_init b_Co_init 4 none,
  .methodLink R_Ma 3 objectInit,
  .fieldLink R_Ma 9 "BranchForge$Machine" "code" "LBranchForge$Code;",
  .fieldLink R_Ma 15 "BranchForge$Machine" "tables" "LBranchForge$Tables;",
  .fieldLink R_Ma 19 "BranchForge$Machine" "features" "[I",
  .code y_Ma_init b_Ma_init 4 none,
  .methodLink R_BF 3 objectInit,
  .fieldLink R_BF 9 "BranchForge" "features" "[I",
  .classLink R_BF 13 R_Fo,
  .instantiable R_Fo 8,
  .initialized R_Fo,
  .instanceMethod y_Fo_init,
  .fieldLink R_BF 16 "BranchForge" "forest" "LBranchForge$Forest;",
  .classLink R_BF 20 R_Ch,
  .instantiable R_Ch 2,
  .initialized R_Ch,
  .methodLink R_BF 22 y_Ch_init,
  .instanceMethod y_Ch_init,
  .fieldLink R_BF 25 "BranchForge" "checker" "LBranchForge$Checker;",
  .classLink R_BF 29 R_Cu,
  .instantiable R_Cu 5,
  .initialized R_Cu,
  .methodLink R_BF 31 y_Cu_init,
  .instanceMethod y_Cu_init,
  .fieldLink R_BF 32 "BranchForge" "cutter" "LBranchForge$Cutter;",
  .classLink R_BF 36 R_Ta,
  .instantiable R_Ta 4,
  .initialized R_Ta,
  .instanceMethod y_Ta_init,
  .fieldLink R_BF 39 "BranchForge" "tables" "LBranchForge$Tables;",
  .classLink R_BF 43 R_Co,
  .instantiable R_Co 10,
  .initialized R_Co,
  .methodLink R_BF 45 y_Co_init,
  .instanceMethod y_Co_init,
  .fieldLink R_BF 48 "BranchForge" "code" "LBranchForge$Code;",
  .classLink R_BF 52 R_Ma,
  .instantiable R_Ma 5,
  .initialized R_Ma,
  .methodLink R_BF 54 y_Ma_init,
  .instanceMethod y_Ma_init,
  .fieldLink R_BF 57 "BranchForge" "machine" "LBranchForge$Machine;",
  .code y_BF_init b_BF_init 1 none,
  .fieldLink R_Fo 30 "BranchForge$Forest" "nodeCount" "I",
  .fieldLink R_Fo 34 "BranchForge$Forest" "treeCount" "I",
  .fieldLink R_Cu 25 "BranchForge$Cutter" "methodCount" "I",
  .fieldLink R_Ta 21 "BranchForge$Tables" "classCount" "I",
  .fieldLink R_Co 40 "BranchForge$Code" "used" "I",
  .fieldLink R_Co 63 "BranchForge$Code" "treeCount" "I",
  .fieldLink R_Co 36 "BranchForge$Code" "methodCount" "I",
  .fieldLink R_Ma 23 "BranchForge$Machine" "stepCount" "I",
  .fieldLink R_Ma 27 "BranchForge$Machine" "callCount" "I",
  .methodLink R_BF 61 y_Fo_addNode,
  .instanceMethod y_Fo_addNode,
  .selects R_Fo y_Fo_addNode y_Fo_addNode,
  .methodLink R_Ru 9 y_Ru_isBitRule,
  .static y_Ru_isBitRule,
  .initialized R_Ru,
  .methodLink R_BF 65 y_BF_isFeature,
  .static y_BF_isFeature,
  .initialized R_BF,
  .methodLink R_BF 69 y_Ru_takesMark,
  .static y_Ru_takesMark,
  .methodLink R_BF 75 y_BF_isNodeNumber,
  .static y_BF_isNodeNumber,
  .methodLink R_Fo 37 y_Fo_isNode,
  .instanceMethod y_Fo_isNode,
  .selects R_Fo y_Fo_isNode y_Fo_isNode,
  .methodLink R_BF 78 y_Fo_addTree,
  .instanceMethod y_Fo_addTree,
  .selects R_Fo y_Fo_addTree y_Fo_addTree,
  .methodLink R_Ch 36 y_Fo_isLeaf,
  .instanceMethod y_Fo_isLeaf,
  .selects R_Fo y_Fo_isLeaf y_Fo_isLeaf,
  .methodLink R_Ch 49 y_Fo_isNode,
  .methodLink R_Ch 46 y_Ch_isDangling,
  .instanceMethod y_Ch_isDangling,
  .selects R_Ch y_Ch_isDangling y_Ch_isDangling,
  .methodLink R_Ch 33 y_Ch_faultAt,
  .instanceMethod y_Ch_faultAt,
  .selects R_Ch y_Ch_faultAt y_Ch_faultAt,
  .methodLink R_Ch 29 y_Ch_faultFrom,
  .instanceMethod y_Ch_faultFrom,
  .selects R_Ch y_Ch_faultFrom y_Ch_faultFrom,
  .methodLink R_Cu 63 y_Cu_partLength,
  .instanceMethod y_Cu_partLength,
  .selects R_Cu y_Cu_partLength y_Cu_partLength,
  .methodLink R_Cu 66 y_Cu_testLength,
  .static y_Cu_testLength,
  .methodLink R_Cu 41 y_Cu_cutOut,
  .instanceMethod y_Cu_cutOut,
  .selects R_Cu y_Cu_cutOut y_Cu_cutOut,
  .methodLink R_Cu 59 y_Cu_splitLength,
  .instanceMethod y_Cu_splitLength,
  .selects R_Cu y_Cu_splitLength y_Cu_splitLength,
  .methodLink R_Cu 45 y_Fo_isLeaf,
  .methodLink R_Cu 37 y_Cu_cutFrom,
  .instanceMethod y_Cu_cutFrom,
  .selects R_Cu y_Cu_cutFrom y_Cu_cutFrom,
  .methodLink R_Cu 55 y_Cu_cutChildren,
  .instanceMethod y_Cu_cutChildren,
  .selects R_Cu y_Cu_cutChildren y_Cu_cutChildren,
  .methodLink R_Ta 29 y_Ta_sizeOf,
  .instanceMethod y_Ta_sizeOf,
  .selects R_Ta y_Ta_sizeOf y_Ta_sizeOf,
  .methodLink R_Co 108 y_Co_writeByte,
  .instanceMethod y_Co_writeByte,
  .selects R_Co y_Co_writeByte y_Co_writeByte,
  .methodLink R_Fo 41 y_Fo_isLeaf,
  .methodLink R_Fo 44 y_Ru_isBitRule,
  .methodLink R_Co 129 y_Cu_testLength,
  .methodLink R_Co 94 y_Co_writePair,
  .instanceMethod y_Co_writePair,
  .selects R_Co y_Co_writePair y_Co_writePair,
  .methodLink R_Co 104 y_Ta_numberFor,
  .instanceMethod y_Ta_numberFor,
  .selects R_Ta y_Ta_numberFor y_Ta_numberFor,
  .methodLink R_Co 77 y_Co_writeCode,
  .instanceMethod y_Co_writeCode,
  .selects R_Co y_Co_writeCode y_Co_writeCode,
  .methodLink R_Co 97 y_Fo_kindOfEntry,
  .instanceMethod y_Fo_kindOfEntry,
  .selects R_Fo y_Fo_kindOfEntry y_Fo_kindOfEntry,
  .methodLink R_Co 117 y_Cu_partLength,
  .methodLink R_Co 120 y_Co_writeTest,
  .instanceMethod y_Co_writeTest,
  .selects R_Co y_Co_writeTest y_Co_writeTest,
  .methodLink R_Co 123 y_Co_writePart,
  .instanceMethod y_Co_writePart,
  .selects R_Co y_Co_writePart y_Co_writePart,
  .methodLink R_Co 87 y_Fo_isLeaf,
  .methodLink R_Co 70 y_Ta_latestSize,
  .instanceMethod y_Ta_latestSize,
  .selects R_Ta y_Ta_latestSize y_Ta_latestSize,
  .methodLink R_Co 80 y_Ta_shrinkLatest,
  .instanceMethod y_Ta_shrinkLatest,
  .selects R_Ta y_Ta_shrinkLatest y_Ta_shrinkLatest,
  .methodLink R_Co 48 y_Ta_openClass,
  .instanceMethod y_Ta_openClass,
  .selects R_Ta y_Ta_openClass y_Ta_openClass,
  .methodLink R_Co 54 y_Co_writeMethod,
  .instanceMethod y_Co_writeMethod,
  .selects R_Co y_Co_writeMethod y_Co_writeMethod,
  .methodLink R_Co 43 y_Ta_forgetAll,
  .instanceMethod y_Ta_forgetAll,
  .selects R_Ta y_Ta_forgetAll y_Ta_forgetAll,
  .methodLink R_BF 82 y_BF_isTableSize,
  .static y_BF_isTableSize,
  .methodLink R_BF 89 y_Ch_firstFault,
  .instanceMethod y_Ch_firstFault,
  .selects R_Ch y_Ch_firstFault y_Ch_firstFault,
  .methodLink R_BF 93 y_Cu_cutTrees,
  .instanceMethod y_Cu_cutTrees,
  .selects R_Cu y_Cu_cutTrees y_Cu_cutTrees,
  .methodLink R_BF 97 y_Co_writeMethods,
  .instanceMethod y_Co_writeMethods,
  .selects R_Co y_Co_writeMethods y_Co_writeMethods,
  .methodLink R_BF 103 y_Co_isMethod,
  .instanceMethod y_Co_isMethod,
  .selects R_Co y_Co_isMethod y_Co_isMethod,
  .methodLink R_BF 109 y_BF_length,
  .instanceMethod y_BF_length,
  .selects R_BF y_BF_length y_BF_length,
  .methodLink R_BF 121 y_Ta_isClass,
  .instanceMethod y_Ta_isClass,
  .selects R_Ta y_Ta_isClass y_Ta_isClass,
  .methodLink R_BF 124 y_Ta_sizeOf,
  .methodLink R_Ta 25 y_Ta_isClass,
  .methodLink R_BF 127 y_Ta_holds,
  .instanceMethod y_Ta_holds,
  .selects R_Ta y_Ta_holds y_Ta_holds,
  .methodLink R_Ru 21 y_Ru_orderOf,
  .static y_Ru_orderOf,
  .methodLink R_Ru 17 y_Ru_wholeOf,
  .static y_Ru_wholeOf,
  .methodLink R_Ma 76 y_Ru_goesToYes,
  .static y_Ru_goesToYes,
  .methodLink R_Ma 49 y_Co_byteOfAll,
  .instanceMethod y_Co_byteOfAll,
  .selects R_Co y_Co_byteOfAll y_Co_byteOfAll,
  .methodLink R_Ma 66 y_Ta_holds,
  .methodLink R_Ma 60 y_Ma_operand,
  .instanceMethod y_Ma_operand,
  .selects R_Ma y_Ma_operand y_Ma_operand,
  .methodLink R_Ma 38 y_Ma_runMethod,
  .instanceMethod y_Ma_runMethod,
  .selects R_Ma y_Ma_runMethod y_Ma_runMethod,
  .methodLink R_Ma 53 y_Ma_testMove,
  .instanceMethod y_Ma_testMove,
  .selects R_Ma y_Ma_testMove y_Ma_testMove,
  .methodLink R_Ma 42 y_Co_isMethod,
  .methodLink R_BF 141 y_Ma_runTrees,
  .instanceMethod y_Ma_runTrees,
  .selects R_Ma y_Ma_runTrees y_Ma_runTrees,
  .methodLink R_Fo 49 y_Ru_goesToYes,
  .methodLink R_BF 155 y_Fo_leafFor,
  .instanceMethod y_Fo_leafFor,
  .selects R_Fo y_Fo_leafFor y_Fo_leafFor,
  .code y_BF_leaf b_BF_leaf 2 (some .int),
  .code y_BF_split b_BF_split 6 (some .int),
  .code y_BF_tree b_BF_tree 2 (some .int),
  .code y_BF_compile b_BF_compile 4 (some .int),
  .code y_BF_methods b_BF_methods 1 (some .int),
  .code y_BF_length b_BF_length 2 (some .int),
  .code y_BF_byteAt b_BF_byteAt 3 (some .int),
  .code y_BF_classOf b_BF_classOf 2 (some .int),
  .code y_BF_classes b_BF_classes 1 (some .int),
  .code y_BF_entries b_BF_entries 2 (some .int),
  .code y_BF_entry b_BF_entry 4 (some .long),
  .code y_BF_set b_BF_set 3 (some .boolean),
  .code y_BF_predict b_BF_predict 1 (some .long),
  .code y_BF_steps b_BF_steps 1 (some .int),
  .code y_BF_calls b_BF_calls 1 (some .int),
  .code y_BF_reach b_BF_reach 2 (some .int),
  .code y_BF_isFeature b_BF_isFeature 1 (some .boolean),
  .code y_BF_isNodeNumber b_BF_isNodeNumber 1 (some .boolean),
  .code y_BF_isTableSize b_BF_isTableSize 2 (some .boolean),
  .code y_Fo_addNode b_Fo_addNode 6 (some .int),
  .code y_Fo_addTree b_Fo_addTree 2 (some .int),
  .code y_Fo_isNode b_Fo_isNode 2 (some .boolean),
  .code y_Fo_isLeaf b_Fo_isLeaf 2 (some .boolean),
  .code y_Fo_kindOfEntry b_Fo_kindOfEntry 2 (some .int),
  .code y_Fo_leafFor b_Fo_leafFor 6 (some .int),
  .code y_Ch_firstFault b_Ch_firstFault 3 (some .int),
  .code y_Ch_faultFrom b_Ch_faultFrom 4 (some .int),
  .code y_Ch_faultAt b_Ch_faultAt 3 (some .int),
  .code y_Ch_isDangling b_Ch_isDangling 2 (some .boolean),
  .code y_Cu_cutTrees b_Cu_cutTrees 3 none,
  .code y_Cu_cutFrom b_Cu_cutFrom 4 none,
  .code y_Cu_cutChildren b_Cu_cutChildren 6 none,
  .code y_Cu_cutOut b_Cu_cutOut 2 none,
  .code y_Cu_splitLength b_Cu_splitLength 3 (some .int),
  .code y_Cu_partLength b_Cu_partLength 2 (some .int),
  .code y_Cu_testLength b_Cu_testLength 1 (some .int),
  .code y_Ta_forgetAll b_Ta_forgetAll 1 none,
  .code y_Ta_openClass b_Ta_openClass 1 none,
  .code y_Ta_isClass b_Ta_isClass 2 (some .boolean),
  .code y_Ta_sizeOf b_Ta_sizeOf 2 (some .int),
  .code y_Ta_holds b_Ta_holds 3 (some .boolean),
  .code y_Ta_latestSize b_Ta_latestSize 1 (some .int),
  .code y_Ta_shrinkLatest b_Ta_shrinkLatest 2 none,
  .code y_Ta_numberFor b_Ta_numberFor 6 (some .int),
  .code y_Co_isMethod b_Co_isMethod 2 (some .boolean),
  .code y_Co_writeMethods b_Co_writeMethods 3 none,
  .code y_Co_writeMethod b_Co_writeMethod 4 none,
  .code y_Co_writeCode b_Co_writeCode 4 none,
  .code y_Co_writePart b_Co_writePart 4 none,
  .code y_Co_writeTest b_Co_writeTest 5 none,
  .code y_Co_writePair b_Co_writePair 3 none,
  .code y_Co_writeByte b_Co_writeByte 2 none,
  .code y_Co_byteOfAll b_Co_byteOfAll 2 (some .int),
  .code y_Ma_runTrees b_Ma_runTrees 4 (some .long),
  .code y_Ma_runMethod b_Ma_runMethod 8 (some .int),
  .code y_Ma_operand b_Ma_operand 4 (some .int),
  .code y_Ma_testMove b_Ma_testMove 8 (some .int),
  .code y_Ru_takesMark b_Ru_takesMark 2 (some .boolean),
  .code y_Ru_isBitRule b_Ru_isBitRule 1 (some .boolean),
  .code y_Ru_goesToYes b_Ru_goesToYes 4 (some .boolean),
  .code y_Ru_orderOf b_Ru_orderOf 1 (some .int),
  .code y_Ru_wholeOf b_Ru_wholeOf 4 (some .int)]
def wGC : List Cond := w0C ++ (u_ws R_BF F_BF 7 ++ (u_ws R_Fo F_Fo 8 ++ (u_ws R_Ch F_Ch 2 ++ (u_ws R_Cu F_Cu 5 ++ (u_ws R_Ta F_Ta 4 ++ (u_ws R_Co F_Co 10 ++ (u_ws R_Ma F_Ma 5)))))))
theorem goodwC : ∀ w ∈ wGC, goodWord w = true := by decide +kernel
theorem kC_0 : Cond.constant R_Ru 15 2147483647 ∈ wGC := List.mem_append_left _ (List.mem_of_getElem? (i := 0) rfl)
theorem kC_1 : Cond.constant R_Ru 16 2139095040 ∈ wGC := List.mem_append_left _ (List.mem_of_getElem? (i := 1) rfl)
theorem kC_2 : Cond.constantLong R_BF 139 4294967295 ∈ wGC := List.mem_append_left _ (List.mem_of_getElem? (i := 2) rfl)
theorem kC_3 : Cond.constantLong R_BF 130 (-1) ∈ wGC := List.mem_append_left _ (List.mem_of_getElem? (i := 3) rfl)
theorem kC_4 : Cond.constant R_Ru 24 8388607 ∈ wGC := List.mem_append_left _ (List.mem_of_getElem? (i := 4) rfl)
theorem kC_5 : Cond.constant R_Ru 25 8388608 ∈ wGC := List.mem_append_left _ (List.mem_of_getElem? (i := 5) rfl)
theorem kC_6 : Cond.methodLink R_Fo 3 objectInit ∈ wGC := List.mem_append_left _ (List.mem_of_getElem? (i := 6) rfl)
theorem kC_7 : Cond.instanceMethod objectInit ∈ wGC := List.mem_append_left _ (List.mem_of_getElem? (i := 7) rfl)
theorem kC_8 : Cond.code objectInit ⟨#[0xb1]⟩ 1 none ∈ wGC := List.mem_append_left _ (List.mem_of_getElem? (i := 8) rfl)
theorem kC_9 : Cond.arrayClass .int ∈ wGC := List.mem_append_left _ (List.mem_of_getElem? (i := 9) rfl)
theorem kC_10 : Cond.fieldLink R_Fo 9 "BranchForge$Forest" "ruleOf" "[I" ∈ wGC := List.mem_append_left _ (List.mem_of_getElem? (i := 10) rfl)
theorem kC_11 : Cond.fieldLink R_Fo 15 "BranchForge$Forest" "featureOf" "[I" ∈ wGC := List.mem_append_left _ (List.mem_of_getElem? (i := 11) rfl)
theorem kC_12 : Cond.fieldLink R_Fo 18 "BranchForge$Forest" "bitsOf" "[I" ∈ wGC := List.mem_append_left _ (List.mem_of_getElem? (i := 12) rfl)
theorem kC_13 : Cond.fieldLink R_Fo 21 "BranchForge$Forest" "yesOf" "[I" ∈ wGC := List.mem_append_left _ (List.mem_of_getElem? (i := 13) rfl)
theorem kC_14 : Cond.fieldLink R_Fo 24 "BranchForge$Forest" "noOf" "[I" ∈ wGC := List.mem_append_left _ (List.mem_of_getElem? (i := 14) rfl)
theorem kC_15 : Cond.fieldLink R_Fo 27 "BranchForge$Forest" "rootOf" "[I" ∈ wGC := List.mem_append_left _ (List.mem_of_getElem? (i := 15) rfl)
theorem kC_16 : Cond.code y_Fo_init b_Fo_init 1 none ∈ wGC := List.mem_append_left _ (List.mem_of_getElem? (i := 16) rfl)
theorem kC_17 : Cond.methodLink R_Ch 3 objectInit ∈ wGC := List.mem_append_left _ (List.mem_of_getElem? (i := 17) rfl)
theorem kC_18 : Cond.arrayClass .boolean ∈ wGC := List.mem_append_left _ (List.mem_of_getElem? (i := 18) rfl)
theorem kC_19 : Cond.fieldLink R_Ch 9 "BranchForge$Checker" "cameTo" "[Z" ∈ wGC := List.mem_append_left _ (List.mem_of_getElem? (i := 19) rfl)
theorem kC_20 : Cond.fieldLink R_Ch 15 "BranchForge$Checker" "forest" "LBranchForge$Forest;" ∈ wGC := List.mem_append_left _ (List.mem_of_getElem? (i := 20) rfl)
theorem kC_21 : Cond.code y_Ch_init b_Ch_init 2 none ∈ wGC := List.mem_append_left _ (List.mem_of_getElem? (i := 21) rfl)
theorem kC_22 : Cond.methodLink R_Cu 3 objectInit ∈ wGC := List.mem_append_left _ (List.mem_of_getElem? (i := 22) rfl)
theorem kC_23 : Cond.fieldLink R_Cu 9 "BranchForge$Cutter" "codeLengthOf" "[I" ∈ wGC := List.mem_append_left _ (List.mem_of_getElem? (i := 23) rfl)
theorem kC_24 : Cond.fieldLink R_Cu 15 "BranchForge$Cutter" "methodOf" "[I" ∈ wGC := List.mem_append_left _ (List.mem_of_getElem? (i := 24) rfl)
theorem kC_25 : Cond.fieldLink R_Cu 18 "BranchForge$Cutter" "nodeOf" "[I" ∈ wGC := List.mem_append_left _ (List.mem_of_getElem? (i := 25) rfl)
theorem kC_26 : Cond.fieldLink R_Cu 21 "BranchForge$Cutter" "forest" "LBranchForge$Forest;" ∈ wGC := List.mem_append_left _ (List.mem_of_getElem? (i := 26) rfl)
theorem kC_27 : Cond.code y_Cu_init b_Cu_init 2 none ∈ wGC := List.mem_append_left _ (List.mem_of_getElem? (i := 27) rfl)
theorem kC_28 : Cond.methodLink R_Ta 3 objectInit ∈ wGC := List.mem_append_left _ (List.mem_of_getElem? (i := 28) rfl)
theorem kC_29 : Cond.fieldLink R_Ta 9 "BranchForge$Tables" "kindAt" "[I" ∈ wGC := List.mem_append_left _ (List.mem_of_getElem? (i := 29) rfl)
theorem kC_30 : Cond.fieldLink R_Ta 15 "BranchForge$Tables" "bitsAt" "[I" ∈ wGC := List.mem_append_left _ (List.mem_of_getElem? (i := 30) rfl)
theorem kC_31 : Cond.fieldLink R_Ta 18 "BranchForge$Tables" "startOf" "[I" ∈ wGC := List.mem_append_left _ (List.mem_of_getElem? (i := 31) rfl)
theorem kC_32 : Cond.code y_Ta_init b_Ta_init 1 none ∈ wGC := List.mem_append_left _ (List.mem_of_getElem? (i := 32) rfl)
theorem kC_33 : Cond.methodLink R_Co 3 objectInit ∈ wGC := List.mem_append_left _ (List.mem_of_getElem? (i := 33) rfl)
theorem kC_34 : Cond.fieldLink R_Co 9 "BranchForge$Code" "bytes" "[I" ∈ wGC := List.mem_append_left _ (List.mem_of_getElem? (i := 34) rfl)
theorem kC_35 : Cond.fieldLink R_Co 15 "BranchForge$Code" "startOf" "[I" ∈ wGC := List.mem_append_left _ (List.mem_of_getElem? (i := 35) rfl)
theorem kC_36 : Cond.fieldLink R_Co 18 "BranchForge$Code" "homeOf" "[I" ∈ wGC := List.mem_append_left _ (List.mem_of_getElem? (i := 36) rfl)
theorem kC_37 : Cond.fieldLink R_Co 21 "BranchForge$Code" "rootMethodOf" "[I" ∈ wGC := List.mem_append_left _ (List.mem_of_getElem? (i := 37) rfl)
theorem kC_38 : Cond.fieldLink R_Co 24 "BranchForge$Code" "forest" "LBranchForge$Forest;" ∈ wGC := List.mem_append_left _ (List.mem_of_getElem? (i := 38) rfl)
theorem kC_39 : Cond.fieldLink R_Co 28 "BranchForge$Code" "cutter" "LBranchForge$Cutter;" ∈ wGC := List.mem_append_left _ (List.mem_of_getElem? (i := 39) rfl)
theorem kC_40 : Cond.fieldLink R_Co 32 "BranchForge$Code" "tables" "LBranchForge$Tables;" ∈ wGC := List.mem_append_left _ (List.mem_of_getElem? (i := 40) rfl)
theorem kC_41 : Cond.code y_Co_init b_Co_init 4 none ∈ wGC := List.mem_append_left _ (List.mem_of_getElem? (i := 41) rfl)
theorem kC_42 : Cond.methodLink R_Ma 3 objectInit ∈ wGC := List.mem_append_left _ (List.mem_of_getElem? (i := 42) rfl)
theorem kC_43 : Cond.fieldLink R_Ma 9 "BranchForge$Machine" "code" "LBranchForge$Code;" ∈ wGC := List.mem_append_left _ (List.mem_of_getElem? (i := 43) rfl)
theorem kC_44 : Cond.fieldLink R_Ma 15 "BranchForge$Machine" "tables" "LBranchForge$Tables;" ∈ wGC := List.mem_append_left _ (List.mem_of_getElem? (i := 44) rfl)
theorem kC_45 : Cond.fieldLink R_Ma 19 "BranchForge$Machine" "features" "[I" ∈ wGC := List.mem_append_left _ (List.mem_of_getElem? (i := 45) rfl)
theorem kC_46 : Cond.code y_Ma_init b_Ma_init 4 none ∈ wGC := List.mem_append_left _ (List.mem_of_getElem? (i := 46) rfl)
theorem kC_47 : Cond.methodLink R_BF 3 objectInit ∈ wGC := List.mem_append_left _ (List.mem_of_getElem? (i := 47) rfl)
theorem kC_48 : Cond.fieldLink R_BF 9 "BranchForge" "features" "[I" ∈ wGC := List.mem_append_left _ (List.mem_of_getElem? (i := 48) rfl)
theorem kC_49 : Cond.classLink R_BF 13 R_Fo ∈ wGC := List.mem_append_left _ (List.mem_of_getElem? (i := 49) rfl)
theorem kC_50 : Cond.instantiable R_Fo 8 ∈ wGC := List.mem_append_left _ (List.mem_of_getElem? (i := 50) rfl)
theorem kC_51 : Cond.initialized R_Fo ∈ wGC := List.mem_append_left _ (List.mem_of_getElem? (i := 51) rfl)
theorem kC_52 : Cond.instanceMethod y_Fo_init ∈ wGC := List.mem_append_left _ (List.mem_of_getElem? (i := 52) rfl)
theorem kC_53 : Cond.fieldLink R_BF 16 "BranchForge" "forest" "LBranchForge$Forest;" ∈ wGC := List.mem_append_left _ (List.mem_of_getElem? (i := 53) rfl)
theorem kC_54 : Cond.classLink R_BF 20 R_Ch ∈ wGC := List.mem_append_left _ (List.mem_of_getElem? (i := 54) rfl)
theorem kC_55 : Cond.instantiable R_Ch 2 ∈ wGC := List.mem_append_left _ (List.mem_of_getElem? (i := 55) rfl)
theorem kC_56 : Cond.initialized R_Ch ∈ wGC := List.mem_append_left _ (List.mem_of_getElem? (i := 56) rfl)
theorem kC_57 : Cond.methodLink R_BF 22 y_Ch_init ∈ wGC := List.mem_append_left _ (List.mem_of_getElem? (i := 57) rfl)
theorem kC_58 : Cond.instanceMethod y_Ch_init ∈ wGC := List.mem_append_left _ (List.mem_of_getElem? (i := 58) rfl)
theorem kC_59 : Cond.fieldLink R_BF 25 "BranchForge" "checker" "LBranchForge$Checker;" ∈ wGC := List.mem_append_left _ (List.mem_of_getElem? (i := 59) rfl)
theorem kC_60 : Cond.classLink R_BF 29 R_Cu ∈ wGC := List.mem_append_left _ (List.mem_of_getElem? (i := 60) rfl)
theorem kC_61 : Cond.instantiable R_Cu 5 ∈ wGC := List.mem_append_left _ (List.mem_of_getElem? (i := 61) rfl)
theorem kC_62 : Cond.initialized R_Cu ∈ wGC := List.mem_append_left _ (List.mem_of_getElem? (i := 62) rfl)
theorem kC_63 : Cond.methodLink R_BF 31 y_Cu_init ∈ wGC := List.mem_append_left _ (List.mem_of_getElem? (i := 63) rfl)
theorem kC_64 : Cond.instanceMethod y_Cu_init ∈ wGC := List.mem_append_left _ (List.mem_of_getElem? (i := 64) rfl)
theorem kC_65 : Cond.fieldLink R_BF 32 "BranchForge" "cutter" "LBranchForge$Cutter;" ∈ wGC := List.mem_append_left _ (List.mem_of_getElem? (i := 65) rfl)
theorem kC_66 : Cond.classLink R_BF 36 R_Ta ∈ wGC := List.mem_append_left _ (List.mem_of_getElem? (i := 66) rfl)
theorem kC_67 : Cond.instantiable R_Ta 4 ∈ wGC := List.mem_append_left _ (List.mem_of_getElem? (i := 67) rfl)
theorem kC_68 : Cond.initialized R_Ta ∈ wGC := List.mem_append_left _ (List.mem_of_getElem? (i := 68) rfl)
theorem kC_69 : Cond.instanceMethod y_Ta_init ∈ wGC := List.mem_append_left _ (List.mem_of_getElem? (i := 69) rfl)
theorem kC_70 : Cond.fieldLink R_BF 39 "BranchForge" "tables" "LBranchForge$Tables;" ∈ wGC := List.mem_append_left _ (List.mem_of_getElem? (i := 70) rfl)
theorem kC_71 : Cond.classLink R_BF 43 R_Co ∈ wGC := List.mem_append_left _ (List.mem_of_getElem? (i := 71) rfl)
theorem kC_72 : Cond.instantiable R_Co 10 ∈ wGC := List.mem_append_left _ (List.mem_of_getElem? (i := 72) rfl)
theorem kC_73 : Cond.initialized R_Co ∈ wGC := List.mem_append_left _ (List.mem_of_getElem? (i := 73) rfl)
theorem kC_74 : Cond.methodLink R_BF 45 y_Co_init ∈ wGC := List.mem_append_left _ (List.mem_of_getElem? (i := 74) rfl)
theorem kC_75 : Cond.instanceMethod y_Co_init ∈ wGC := List.mem_append_left _ (List.mem_of_getElem? (i := 75) rfl)
theorem kC_76 : Cond.fieldLink R_BF 48 "BranchForge" "code" "LBranchForge$Code;" ∈ wGC := List.mem_append_left _ (List.mem_of_getElem? (i := 76) rfl)
theorem kC_77 : Cond.classLink R_BF 52 R_Ma ∈ wGC := List.mem_append_left _ (List.mem_of_getElem? (i := 77) rfl)
theorem kC_78 : Cond.instantiable R_Ma 5 ∈ wGC := List.mem_append_left _ (List.mem_of_getElem? (i := 78) rfl)
theorem kC_79 : Cond.initialized R_Ma ∈ wGC := List.mem_append_left _ (List.mem_of_getElem? (i := 79) rfl)
theorem kC_80 : Cond.methodLink R_BF 54 y_Ma_init ∈ wGC := List.mem_append_left _ (List.mem_of_getElem? (i := 80) rfl)
theorem kC_81 : Cond.instanceMethod y_Ma_init ∈ wGC := List.mem_append_left _ (List.mem_of_getElem? (i := 81) rfl)
theorem kC_82 : Cond.fieldLink R_BF 57 "BranchForge" "machine" "LBranchForge$Machine;" ∈ wGC := List.mem_append_left _ (List.mem_of_getElem? (i := 82) rfl)
theorem kC_83 : Cond.code y_BF_init b_BF_init 1 none ∈ wGC := List.mem_append_left _ (List.mem_of_getElem? (i := 83) rfl)
theorem kC_84 : Cond.fieldLink R_Fo 30 "BranchForge$Forest" "nodeCount" "I" ∈ wGC := List.mem_append_left _ (List.mem_of_getElem? (i := 84) rfl)
theorem kC_85 : Cond.fieldLink R_Fo 34 "BranchForge$Forest" "treeCount" "I" ∈ wGC := List.mem_append_left _ (List.mem_of_getElem? (i := 85) rfl)
theorem kC_86 : Cond.fieldLink R_Cu 25 "BranchForge$Cutter" "methodCount" "I" ∈ wGC := List.mem_append_left _ (List.mem_of_getElem? (i := 86) rfl)
theorem kC_87 : Cond.fieldLink R_Ta 21 "BranchForge$Tables" "classCount" "I" ∈ wGC := List.mem_append_left _ (List.mem_of_getElem? (i := 87) rfl)
theorem kC_88 : Cond.fieldLink R_Co 40 "BranchForge$Code" "used" "I" ∈ wGC := List.mem_append_left _ (List.mem_of_getElem? (i := 88) rfl)
theorem kC_89 : Cond.fieldLink R_Co 63 "BranchForge$Code" "treeCount" "I" ∈ wGC := List.mem_append_left _ (List.mem_of_getElem? (i := 89) rfl)
theorem kC_90 : Cond.fieldLink R_Co 36 "BranchForge$Code" "methodCount" "I" ∈ wGC := List.mem_append_left _ (List.mem_of_getElem? (i := 90) rfl)
theorem kC_91 : Cond.fieldLink R_Ma 23 "BranchForge$Machine" "stepCount" "I" ∈ wGC := List.mem_append_left _ (List.mem_of_getElem? (i := 91) rfl)
theorem kC_92 : Cond.fieldLink R_Ma 27 "BranchForge$Machine" "callCount" "I" ∈ wGC := List.mem_append_left _ (List.mem_of_getElem? (i := 92) rfl)
theorem kC_93 : Cond.methodLink R_BF 61 y_Fo_addNode ∈ wGC := List.mem_append_left _ (List.mem_of_getElem? (i := 93) rfl)
theorem kC_94 : Cond.instanceMethod y_Fo_addNode ∈ wGC := List.mem_append_left _ (List.mem_of_getElem? (i := 94) rfl)
theorem kC_95 : Cond.selects R_Fo y_Fo_addNode y_Fo_addNode ∈ wGC := List.mem_append_left _ (List.mem_of_getElem? (i := 95) rfl)
theorem kC_96 : Cond.methodLink R_Ru 9 y_Ru_isBitRule ∈ wGC := List.mem_append_left _ (List.mem_of_getElem? (i := 96) rfl)
theorem kC_97 : Cond.static y_Ru_isBitRule ∈ wGC := List.mem_append_left _ (List.mem_of_getElem? (i := 97) rfl)
theorem kC_98 : Cond.initialized R_Ru ∈ wGC := List.mem_append_left _ (List.mem_of_getElem? (i := 98) rfl)
theorem kC_99 : Cond.methodLink R_BF 65 y_BF_isFeature ∈ wGC := List.mem_append_left _ (List.mem_of_getElem? (i := 99) rfl)
theorem kC_100 : Cond.static y_BF_isFeature ∈ wGC := List.mem_append_left _ (List.mem_of_getElem? (i := 100) rfl)
theorem kC_101 : Cond.initialized R_BF ∈ wGC := List.mem_append_left _ (List.mem_of_getElem? (i := 101) rfl)
theorem kC_102 : Cond.methodLink R_BF 69 y_Ru_takesMark ∈ wGC := List.mem_append_left _ (List.mem_of_getElem? (i := 102) rfl)
theorem kC_103 : Cond.static y_Ru_takesMark ∈ wGC := List.mem_append_left _ (List.mem_of_getElem? (i := 103) rfl)
theorem kC_104 : Cond.methodLink R_BF 75 y_BF_isNodeNumber ∈ wGC := List.mem_append_left _ (List.mem_of_getElem? (i := 104) rfl)
theorem kC_105 : Cond.static y_BF_isNodeNumber ∈ wGC := List.mem_append_left _ (List.mem_of_getElem? (i := 105) rfl)
theorem kC_106 : Cond.methodLink R_Fo 37 y_Fo_isNode ∈ wGC := List.mem_append_left _ (List.mem_of_getElem? (i := 106) rfl)
theorem kC_107 : Cond.instanceMethod y_Fo_isNode ∈ wGC := List.mem_append_left _ (List.mem_of_getElem? (i := 107) rfl)
theorem kC_108 : Cond.selects R_Fo y_Fo_isNode y_Fo_isNode ∈ wGC := List.mem_append_left _ (List.mem_of_getElem? (i := 108) rfl)
theorem kC_109 : Cond.methodLink R_BF 78 y_Fo_addTree ∈ wGC := List.mem_append_left _ (List.mem_of_getElem? (i := 109) rfl)
theorem kC_110 : Cond.instanceMethod y_Fo_addTree ∈ wGC := List.mem_append_left _ (List.mem_of_getElem? (i := 110) rfl)
theorem kC_111 : Cond.selects R_Fo y_Fo_addTree y_Fo_addTree ∈ wGC := List.mem_append_left _ (List.mem_of_getElem? (i := 111) rfl)
theorem kC_112 : Cond.methodLink R_Ch 36 y_Fo_isLeaf ∈ wGC := List.mem_append_left _ (List.mem_of_getElem? (i := 112) rfl)
theorem kC_113 : Cond.instanceMethod y_Fo_isLeaf ∈ wGC := List.mem_append_left _ (List.mem_of_getElem? (i := 113) rfl)
theorem kC_114 : Cond.selects R_Fo y_Fo_isLeaf y_Fo_isLeaf ∈ wGC := List.mem_append_left _ (List.mem_of_getElem? (i := 114) rfl)
theorem kC_115 : Cond.methodLink R_Ch 49 y_Fo_isNode ∈ wGC := List.mem_append_left _ (List.mem_of_getElem? (i := 115) rfl)
theorem kC_116 : Cond.methodLink R_Ch 46 y_Ch_isDangling ∈ wGC := List.mem_append_left _ (List.mem_of_getElem? (i := 116) rfl)
theorem kC_117 : Cond.instanceMethod y_Ch_isDangling ∈ wGC := List.mem_append_left _ (List.mem_of_getElem? (i := 117) rfl)
theorem kC_118 : Cond.selects R_Ch y_Ch_isDangling y_Ch_isDangling ∈ wGC := List.mem_append_left _ (List.mem_of_getElem? (i := 118) rfl)
theorem kC_119 : Cond.methodLink R_Ch 33 y_Ch_faultAt ∈ wGC := List.mem_append_left _ (List.mem_of_getElem? (i := 119) rfl)
theorem kC_120 : Cond.instanceMethod y_Ch_faultAt ∈ wGC := List.mem_append_left _ (List.mem_of_getElem? (i := 120) rfl)
theorem kC_121 : Cond.selects R_Ch y_Ch_faultAt y_Ch_faultAt ∈ wGC := List.mem_append_left _ (List.mem_of_getElem? (i := 121) rfl)
theorem kC_122 : Cond.methodLink R_Ch 29 y_Ch_faultFrom ∈ wGC := List.mem_append_left _ (List.mem_of_getElem? (i := 122) rfl)
theorem kC_123 : Cond.instanceMethod y_Ch_faultFrom ∈ wGC := List.mem_append_left _ (List.mem_of_getElem? (i := 123) rfl)
theorem kC_124 : Cond.selects R_Ch y_Ch_faultFrom y_Ch_faultFrom ∈ wGC := List.mem_append_left _ (List.mem_of_getElem? (i := 124) rfl)
theorem kC_125 : Cond.methodLink R_Cu 63 y_Cu_partLength ∈ wGC := List.mem_append_left _ (List.mem_of_getElem? (i := 125) rfl)
theorem kC_126 : Cond.instanceMethod y_Cu_partLength ∈ wGC := List.mem_append_left _ (List.mem_of_getElem? (i := 126) rfl)
theorem kC_127 : Cond.selects R_Cu y_Cu_partLength y_Cu_partLength ∈ wGC := List.mem_append_left _ (List.mem_of_getElem? (i := 127) rfl)
theorem kC_128 : Cond.methodLink R_Cu 66 y_Cu_testLength ∈ wGC := List.mem_append_left _ (List.mem_of_getElem? (i := 128) rfl)
theorem kC_129 : Cond.static y_Cu_testLength ∈ wGC := List.mem_append_left _ (List.mem_of_getElem? (i := 129) rfl)
theorem kC_130 : Cond.methodLink R_Cu 41 y_Cu_cutOut ∈ wGC := List.mem_append_left _ (List.mem_of_getElem? (i := 130) rfl)
theorem kC_131 : Cond.instanceMethod y_Cu_cutOut ∈ wGC := List.mem_append_left _ (List.mem_of_getElem? (i := 131) rfl)
theorem kC_132 : Cond.selects R_Cu y_Cu_cutOut y_Cu_cutOut ∈ wGC := List.mem_append_left _ (List.mem_of_getElem? (i := 132) rfl)
theorem kC_133 : Cond.methodLink R_Cu 59 y_Cu_splitLength ∈ wGC := List.mem_append_left _ (List.mem_of_getElem? (i := 133) rfl)
theorem kC_134 : Cond.instanceMethod y_Cu_splitLength ∈ wGC := List.mem_append_left _ (List.mem_of_getElem? (i := 134) rfl)
theorem kC_135 : Cond.selects R_Cu y_Cu_splitLength y_Cu_splitLength ∈ wGC := List.mem_append_left _ (List.mem_of_getElem? (i := 135) rfl)
theorem kC_136 : Cond.methodLink R_Cu 45 y_Fo_isLeaf ∈ wGC := List.mem_append_left _ (List.mem_of_getElem? (i := 136) rfl)
theorem kC_137 : Cond.methodLink R_Cu 37 y_Cu_cutFrom ∈ wGC := List.mem_append_left _ (List.mem_of_getElem? (i := 137) rfl)
theorem kC_138 : Cond.instanceMethod y_Cu_cutFrom ∈ wGC := List.mem_append_left _ (List.mem_of_getElem? (i := 138) rfl)
theorem kC_139 : Cond.selects R_Cu y_Cu_cutFrom y_Cu_cutFrom ∈ wGC := List.mem_append_left _ (List.mem_of_getElem? (i := 139) rfl)
theorem kC_140 : Cond.methodLink R_Cu 55 y_Cu_cutChildren ∈ wGC := List.mem_append_left _ (List.mem_of_getElem? (i := 140) rfl)
theorem kC_141 : Cond.instanceMethod y_Cu_cutChildren ∈ wGC := List.mem_append_left _ (List.mem_of_getElem? (i := 141) rfl)
theorem kC_142 : Cond.selects R_Cu y_Cu_cutChildren y_Cu_cutChildren ∈ wGC := List.mem_append_left _ (List.mem_of_getElem? (i := 142) rfl)
theorem kC_143 : Cond.methodLink R_Ta 29 y_Ta_sizeOf ∈ wGC := List.mem_append_left _ (List.mem_of_getElem? (i := 143) rfl)
theorem kC_144 : Cond.instanceMethod y_Ta_sizeOf ∈ wGC := List.mem_append_left _ (List.mem_of_getElem? (i := 144) rfl)
theorem kC_145 : Cond.selects R_Ta y_Ta_sizeOf y_Ta_sizeOf ∈ wGC := List.mem_append_left _ (List.mem_of_getElem? (i := 145) rfl)
theorem kC_146 : Cond.methodLink R_Co 108 y_Co_writeByte ∈ wGC := List.mem_append_left _ (List.mem_of_getElem? (i := 146) rfl)
theorem kC_147 : Cond.instanceMethod y_Co_writeByte ∈ wGC := List.mem_append_left _ (List.mem_of_getElem? (i := 147) rfl)
theorem kC_148 : Cond.selects R_Co y_Co_writeByte y_Co_writeByte ∈ wGC := List.mem_append_left _ (List.mem_of_getElem? (i := 148) rfl)
theorem kC_149 : Cond.methodLink R_Fo 41 y_Fo_isLeaf ∈ wGC := List.mem_append_left _ (List.mem_of_getElem? (i := 149) rfl)
theorem kC_150 : Cond.methodLink R_Fo 44 y_Ru_isBitRule ∈ wGC := List.mem_append_left _ (List.mem_of_getElem? (i := 150) rfl)
theorem kC_151 : Cond.methodLink R_Co 129 y_Cu_testLength ∈ wGC := List.mem_append_left _ (List.mem_of_getElem? (i := 151) rfl)
theorem kC_152 : Cond.methodLink R_Co 94 y_Co_writePair ∈ wGC := List.mem_append_left _ (List.mem_of_getElem? (i := 152) rfl)
theorem kC_153 : Cond.instanceMethod y_Co_writePair ∈ wGC := List.mem_append_left _ (List.mem_of_getElem? (i := 153) rfl)
theorem kC_154 : Cond.selects R_Co y_Co_writePair y_Co_writePair ∈ wGC := List.mem_append_left _ (List.mem_of_getElem? (i := 154) rfl)
theorem kC_155 : Cond.methodLink R_Co 104 y_Ta_numberFor ∈ wGC := List.mem_append_left _ (List.mem_of_getElem? (i := 155) rfl)
theorem kC_156 : Cond.instanceMethod y_Ta_numberFor ∈ wGC := List.mem_append_left _ (List.mem_of_getElem? (i := 156) rfl)
theorem kC_157 : Cond.selects R_Ta y_Ta_numberFor y_Ta_numberFor ∈ wGC := List.mem_append_left _ (List.mem_of_getElem? (i := 157) rfl)
theorem kC_158 : Cond.methodLink R_Co 77 y_Co_writeCode ∈ wGC := List.mem_append_left _ (List.mem_of_getElem? (i := 158) rfl)
theorem kC_159 : Cond.instanceMethod y_Co_writeCode ∈ wGC := List.mem_append_left _ (List.mem_of_getElem? (i := 159) rfl)
theorem kC_160 : Cond.selects R_Co y_Co_writeCode y_Co_writeCode ∈ wGC := List.mem_append_left _ (List.mem_of_getElem? (i := 160) rfl)
theorem kC_161 : Cond.methodLink R_Co 97 y_Fo_kindOfEntry ∈ wGC := List.mem_append_left _ (List.mem_of_getElem? (i := 161) rfl)
theorem kC_162 : Cond.instanceMethod y_Fo_kindOfEntry ∈ wGC := List.mem_append_left _ (List.mem_of_getElem? (i := 162) rfl)
theorem kC_163 : Cond.selects R_Fo y_Fo_kindOfEntry y_Fo_kindOfEntry ∈ wGC := List.mem_append_left _ (List.mem_of_getElem? (i := 163) rfl)
theorem kC_164 : Cond.methodLink R_Co 117 y_Cu_partLength ∈ wGC := List.mem_append_left _ (List.mem_of_getElem? (i := 164) rfl)
theorem kC_165 : Cond.methodLink R_Co 120 y_Co_writeTest ∈ wGC := List.mem_append_left _ (List.mem_of_getElem? (i := 165) rfl)
theorem kC_166 : Cond.instanceMethod y_Co_writeTest ∈ wGC := List.mem_append_left _ (List.mem_of_getElem? (i := 166) rfl)
theorem kC_167 : Cond.selects R_Co y_Co_writeTest y_Co_writeTest ∈ wGC := List.mem_append_left _ (List.mem_of_getElem? (i := 167) rfl)
theorem kC_168 : Cond.methodLink R_Co 123 y_Co_writePart ∈ wGC := List.mem_append_left _ (List.mem_of_getElem? (i := 168) rfl)
theorem kC_169 : Cond.instanceMethod y_Co_writePart ∈ wGC := List.mem_append_left _ (List.mem_of_getElem? (i := 169) rfl)
theorem kC_170 : Cond.selects R_Co y_Co_writePart y_Co_writePart ∈ wGC := List.mem_append_left _ (List.mem_of_getElem? (i := 170) rfl)
theorem kC_171 : Cond.methodLink R_Co 87 y_Fo_isLeaf ∈ wGC := List.mem_append_left _ (List.mem_of_getElem? (i := 171) rfl)
theorem kC_172 : Cond.methodLink R_Co 70 y_Ta_latestSize ∈ wGC := List.mem_append_left _ (List.mem_of_getElem? (i := 172) rfl)
theorem kC_173 : Cond.instanceMethod y_Ta_latestSize ∈ wGC := List.mem_append_left _ (List.mem_of_getElem? (i := 173) rfl)
theorem kC_174 : Cond.selects R_Ta y_Ta_latestSize y_Ta_latestSize ∈ wGC := List.mem_append_left _ (List.mem_of_getElem? (i := 174) rfl)
theorem kC_175 : Cond.methodLink R_Co 80 y_Ta_shrinkLatest ∈ wGC := List.mem_append_left _ (List.mem_of_getElem? (i := 175) rfl)
theorem kC_176 : Cond.instanceMethod y_Ta_shrinkLatest ∈ wGC := List.mem_append_left _ (List.mem_of_getElem? (i := 176) rfl)
theorem kC_177 : Cond.selects R_Ta y_Ta_shrinkLatest y_Ta_shrinkLatest ∈ wGC := List.mem_append_left _ (List.mem_of_getElem? (i := 177) rfl)
theorem kC_178 : Cond.methodLink R_Co 48 y_Ta_openClass ∈ wGC := List.mem_append_left _ (List.mem_of_getElem? (i := 178) rfl)
theorem kC_179 : Cond.instanceMethod y_Ta_openClass ∈ wGC := List.mem_append_left _ (List.mem_of_getElem? (i := 179) rfl)
theorem kC_180 : Cond.selects R_Ta y_Ta_openClass y_Ta_openClass ∈ wGC := List.mem_append_left _ (List.mem_of_getElem? (i := 180) rfl)
theorem kC_181 : Cond.methodLink R_Co 54 y_Co_writeMethod ∈ wGC := List.mem_append_left _ (List.mem_of_getElem? (i := 181) rfl)
theorem kC_182 : Cond.instanceMethod y_Co_writeMethod ∈ wGC := List.mem_append_left _ (List.mem_of_getElem? (i := 182) rfl)
theorem kC_183 : Cond.selects R_Co y_Co_writeMethod y_Co_writeMethod ∈ wGC := List.mem_append_left _ (List.mem_of_getElem? (i := 183) rfl)
theorem kC_184 : Cond.methodLink R_Co 43 y_Ta_forgetAll ∈ wGC := List.mem_append_left _ (List.mem_of_getElem? (i := 184) rfl)
theorem kC_185 : Cond.instanceMethod y_Ta_forgetAll ∈ wGC := List.mem_append_left _ (List.mem_of_getElem? (i := 185) rfl)
theorem kC_186 : Cond.selects R_Ta y_Ta_forgetAll y_Ta_forgetAll ∈ wGC := List.mem_append_left _ (List.mem_of_getElem? (i := 186) rfl)
theorem kC_187 : Cond.methodLink R_BF 82 y_BF_isTableSize ∈ wGC := List.mem_append_left _ (List.mem_of_getElem? (i := 187) rfl)
theorem kC_188 : Cond.static y_BF_isTableSize ∈ wGC := List.mem_append_left _ (List.mem_of_getElem? (i := 188) rfl)
theorem kC_189 : Cond.methodLink R_BF 89 y_Ch_firstFault ∈ wGC := List.mem_append_left _ (List.mem_of_getElem? (i := 189) rfl)
theorem kC_190 : Cond.instanceMethod y_Ch_firstFault ∈ wGC := List.mem_append_left _ (List.mem_of_getElem? (i := 190) rfl)
theorem kC_191 : Cond.selects R_Ch y_Ch_firstFault y_Ch_firstFault ∈ wGC := List.mem_append_left _ (List.mem_of_getElem? (i := 191) rfl)
theorem kC_192 : Cond.methodLink R_BF 93 y_Cu_cutTrees ∈ wGC := List.mem_append_left _ (List.mem_of_getElem? (i := 192) rfl)
theorem kC_193 : Cond.instanceMethod y_Cu_cutTrees ∈ wGC := List.mem_append_left _ (List.mem_of_getElem? (i := 193) rfl)
theorem kC_194 : Cond.selects R_Cu y_Cu_cutTrees y_Cu_cutTrees ∈ wGC := List.mem_append_left _ (List.mem_of_getElem? (i := 194) rfl)
theorem kC_195 : Cond.methodLink R_BF 97 y_Co_writeMethods ∈ wGC := List.mem_append_left _ (List.mem_of_getElem? (i := 195) rfl)
theorem kC_196 : Cond.instanceMethod y_Co_writeMethods ∈ wGC := List.mem_append_left _ (List.mem_of_getElem? (i := 196) rfl)
theorem kC_197 : Cond.selects R_Co y_Co_writeMethods y_Co_writeMethods ∈ wGC := List.mem_append_left _ (List.mem_of_getElem? (i := 197) rfl)
theorem kC_198 : Cond.methodLink R_BF 103 y_Co_isMethod ∈ wGC := List.mem_append_left _ (List.mem_of_getElem? (i := 198) rfl)
theorem kC_199 : Cond.instanceMethod y_Co_isMethod ∈ wGC := List.mem_append_left _ (List.mem_of_getElem? (i := 199) rfl)
theorem kC_200 : Cond.selects R_Co y_Co_isMethod y_Co_isMethod ∈ wGC := List.mem_append_left _ (List.mem_of_getElem? (i := 200) rfl)
theorem kC_201 : Cond.methodLink R_BF 109 y_BF_length ∈ wGC := List.mem_append_left _ (List.mem_of_getElem? (i := 201) rfl)
theorem kC_202 : Cond.instanceMethod y_BF_length ∈ wGC := List.mem_append_left _ (List.mem_of_getElem? (i := 202) rfl)
theorem kC_203 : Cond.selects R_BF y_BF_length y_BF_length ∈ wGC := List.mem_append_left _ (List.mem_of_getElem? (i := 203) rfl)
theorem kC_204 : Cond.methodLink R_BF 121 y_Ta_isClass ∈ wGC := List.mem_append_left _ (List.mem_of_getElem? (i := 204) rfl)
theorem kC_205 : Cond.instanceMethod y_Ta_isClass ∈ wGC := List.mem_append_left _ (List.mem_of_getElem? (i := 205) rfl)
theorem kC_206 : Cond.selects R_Ta y_Ta_isClass y_Ta_isClass ∈ wGC := List.mem_append_left _ (List.mem_of_getElem? (i := 206) rfl)
theorem kC_207 : Cond.methodLink R_BF 124 y_Ta_sizeOf ∈ wGC := List.mem_append_left _ (List.mem_of_getElem? (i := 207) rfl)
theorem kC_208 : Cond.methodLink R_Ta 25 y_Ta_isClass ∈ wGC := List.mem_append_left _ (List.mem_of_getElem? (i := 208) rfl)
theorem kC_209 : Cond.methodLink R_BF 127 y_Ta_holds ∈ wGC := List.mem_append_left _ (List.mem_of_getElem? (i := 209) rfl)
theorem kC_210 : Cond.instanceMethod y_Ta_holds ∈ wGC := List.mem_append_left _ (List.mem_of_getElem? (i := 210) rfl)
theorem kC_211 : Cond.selects R_Ta y_Ta_holds y_Ta_holds ∈ wGC := List.mem_append_left _ (List.mem_of_getElem? (i := 211) rfl)
theorem kC_212 : Cond.methodLink R_Ru 21 y_Ru_orderOf ∈ wGC := List.mem_append_left _ (List.mem_of_getElem? (i := 212) rfl)
theorem kC_213 : Cond.static y_Ru_orderOf ∈ wGC := List.mem_append_left _ (List.mem_of_getElem? (i := 213) rfl)
theorem kC_214 : Cond.methodLink R_Ru 17 y_Ru_wholeOf ∈ wGC := List.mem_append_left _ (List.mem_of_getElem? (i := 214) rfl)
theorem kC_215 : Cond.static y_Ru_wholeOf ∈ wGC := List.mem_append_left _ (List.mem_of_getElem? (i := 215) rfl)
theorem kC_216 : Cond.methodLink R_Ma 76 y_Ru_goesToYes ∈ wGC := List.mem_append_left _ (List.mem_of_getElem? (i := 216) rfl)
theorem kC_217 : Cond.static y_Ru_goesToYes ∈ wGC := List.mem_append_left _ (List.mem_of_getElem? (i := 217) rfl)
theorem kC_218 : Cond.methodLink R_Ma 49 y_Co_byteOfAll ∈ wGC := List.mem_append_left _ (List.mem_of_getElem? (i := 218) rfl)
theorem kC_219 : Cond.instanceMethod y_Co_byteOfAll ∈ wGC := List.mem_append_left _ (List.mem_of_getElem? (i := 219) rfl)
theorem kC_220 : Cond.selects R_Co y_Co_byteOfAll y_Co_byteOfAll ∈ wGC := List.mem_append_left _ (List.mem_of_getElem? (i := 220) rfl)
theorem kC_221 : Cond.methodLink R_Ma 66 y_Ta_holds ∈ wGC := List.mem_append_left _ (List.mem_of_getElem? (i := 221) rfl)
theorem kC_222 : Cond.methodLink R_Ma 60 y_Ma_operand ∈ wGC := List.mem_append_left _ (List.mem_of_getElem? (i := 222) rfl)
theorem kC_223 : Cond.instanceMethod y_Ma_operand ∈ wGC := List.mem_append_left _ (List.mem_of_getElem? (i := 223) rfl)
theorem kC_224 : Cond.selects R_Ma y_Ma_operand y_Ma_operand ∈ wGC := List.mem_append_left _ (List.mem_of_getElem? (i := 224) rfl)
theorem kC_225 : Cond.methodLink R_Ma 38 y_Ma_runMethod ∈ wGC := List.mem_append_left _ (List.mem_of_getElem? (i := 225) rfl)
theorem kC_226 : Cond.instanceMethod y_Ma_runMethod ∈ wGC := List.mem_append_left _ (List.mem_of_getElem? (i := 226) rfl)
theorem kC_227 : Cond.selects R_Ma y_Ma_runMethod y_Ma_runMethod ∈ wGC := List.mem_append_left _ (List.mem_of_getElem? (i := 227) rfl)
theorem kC_228 : Cond.methodLink R_Ma 53 y_Ma_testMove ∈ wGC := List.mem_append_left _ (List.mem_of_getElem? (i := 228) rfl)
theorem kC_229 : Cond.instanceMethod y_Ma_testMove ∈ wGC := List.mem_append_left _ (List.mem_of_getElem? (i := 229) rfl)
theorem kC_230 : Cond.selects R_Ma y_Ma_testMove y_Ma_testMove ∈ wGC := List.mem_append_left _ (List.mem_of_getElem? (i := 230) rfl)
theorem kC_231 : Cond.methodLink R_Ma 42 y_Co_isMethod ∈ wGC := List.mem_append_left _ (List.mem_of_getElem? (i := 231) rfl)
theorem kC_232 : Cond.methodLink R_BF 141 y_Ma_runTrees ∈ wGC := List.mem_append_left _ (List.mem_of_getElem? (i := 232) rfl)
theorem kC_233 : Cond.instanceMethod y_Ma_runTrees ∈ wGC := List.mem_append_left _ (List.mem_of_getElem? (i := 233) rfl)
theorem kC_234 : Cond.selects R_Ma y_Ma_runTrees y_Ma_runTrees ∈ wGC := List.mem_append_left _ (List.mem_of_getElem? (i := 234) rfl)
theorem kC_235 : Cond.methodLink R_Fo 49 y_Ru_goesToYes ∈ wGC := List.mem_append_left _ (List.mem_of_getElem? (i := 235) rfl)
theorem kC_236 : Cond.methodLink R_BF 155 y_Fo_leafFor ∈ wGC := List.mem_append_left _ (List.mem_of_getElem? (i := 236) rfl)
theorem kC_237 : Cond.instanceMethod y_Fo_leafFor ∈ wGC := List.mem_append_left _ (List.mem_of_getElem? (i := 237) rfl)
theorem kC_238 : Cond.selects R_Fo y_Fo_leafFor y_Fo_leafFor ∈ wGC := List.mem_append_left _ (List.mem_of_getElem? (i := 238) rfl)
theorem kC_239 : Cond.code y_BF_leaf b_BF_leaf 2 (some .int) ∈ wGC := List.mem_append_left _ (List.mem_of_getElem? (i := 239) rfl)
theorem kC_240 : Cond.code y_BF_split b_BF_split 6 (some .int) ∈ wGC := List.mem_append_left _ (List.mem_of_getElem? (i := 240) rfl)
theorem kC_241 : Cond.code y_BF_tree b_BF_tree 2 (some .int) ∈ wGC := List.mem_append_left _ (List.mem_of_getElem? (i := 241) rfl)
theorem kC_242 : Cond.code y_BF_compile b_BF_compile 4 (some .int) ∈ wGC := List.mem_append_left _ (List.mem_of_getElem? (i := 242) rfl)
theorem kC_243 : Cond.code y_BF_methods b_BF_methods 1 (some .int) ∈ wGC := List.mem_append_left _ (List.mem_of_getElem? (i := 243) rfl)
theorem kC_244 : Cond.code y_BF_length b_BF_length 2 (some .int) ∈ wGC := List.mem_append_left _ (List.mem_of_getElem? (i := 244) rfl)
theorem kC_245 : Cond.code y_BF_byteAt b_BF_byteAt 3 (some .int) ∈ wGC := List.mem_append_left _ (List.mem_of_getElem? (i := 245) rfl)
theorem kC_246 : Cond.code y_BF_classOf b_BF_classOf 2 (some .int) ∈ wGC := List.mem_append_left _ (List.mem_of_getElem? (i := 246) rfl)
theorem kC_247 : Cond.code y_BF_classes b_BF_classes 1 (some .int) ∈ wGC := List.mem_append_left _ (List.mem_of_getElem? (i := 247) rfl)
theorem kC_248 : Cond.code y_BF_entries b_BF_entries 2 (some .int) ∈ wGC := List.mem_append_left _ (List.mem_of_getElem? (i := 248) rfl)
theorem kC_249 : Cond.code y_BF_entry b_BF_entry 4 (some .long) ∈ wGC := List.mem_append_left _ (List.mem_of_getElem? (i := 249) rfl)
theorem kC_250 : Cond.code y_BF_set b_BF_set 3 (some .boolean) ∈ wGC := List.mem_append_left _ (List.mem_of_getElem? (i := 250) rfl)
theorem kC_251 : Cond.code y_BF_predict b_BF_predict 1 (some .long) ∈ wGC := List.mem_append_left _ (List.mem_of_getElem? (i := 251) rfl)
theorem kC_252 : Cond.code y_BF_steps b_BF_steps 1 (some .int) ∈ wGC := List.mem_append_left _ (List.mem_of_getElem? (i := 252) rfl)
theorem kC_253 : Cond.code y_BF_calls b_BF_calls 1 (some .int) ∈ wGC := List.mem_append_left _ (List.mem_of_getElem? (i := 253) rfl)
theorem kC_254 : Cond.code y_BF_reach b_BF_reach 2 (some .int) ∈ wGC := List.mem_append_left _ (List.mem_of_getElem? (i := 254) rfl)
theorem kC_255 : Cond.code y_BF_isFeature b_BF_isFeature 1 (some .boolean) ∈ wGC := List.mem_append_left _ (List.mem_of_getElem? (i := 255) rfl)
theorem kC_256 : Cond.code y_BF_isNodeNumber b_BF_isNodeNumber 1 (some .boolean) ∈ wGC := List.mem_append_left _ (List.mem_of_getElem? (i := 256) rfl)
theorem kC_257 : Cond.code y_BF_isTableSize b_BF_isTableSize 2 (some .boolean) ∈ wGC := List.mem_append_left _ (List.mem_of_getElem? (i := 257) rfl)
theorem kC_258 : Cond.code y_Fo_addNode b_Fo_addNode 6 (some .int) ∈ wGC := List.mem_append_left _ (List.mem_of_getElem? (i := 258) rfl)
theorem kC_259 : Cond.code y_Fo_addTree b_Fo_addTree 2 (some .int) ∈ wGC := List.mem_append_left _ (List.mem_of_getElem? (i := 259) rfl)
theorem kC_260 : Cond.code y_Fo_isNode b_Fo_isNode 2 (some .boolean) ∈ wGC := List.mem_append_left _ (List.mem_of_getElem? (i := 260) rfl)
theorem kC_261 : Cond.code y_Fo_isLeaf b_Fo_isLeaf 2 (some .boolean) ∈ wGC := List.mem_append_left _ (List.mem_of_getElem? (i := 261) rfl)
theorem kC_262 : Cond.code y_Fo_kindOfEntry b_Fo_kindOfEntry 2 (some .int) ∈ wGC := List.mem_append_left _ (List.mem_of_getElem? (i := 262) rfl)
theorem kC_263 : Cond.code y_Fo_leafFor b_Fo_leafFor 6 (some .int) ∈ wGC := List.mem_append_left _ (List.mem_of_getElem? (i := 263) rfl)
theorem kC_264 : Cond.code y_Ch_firstFault b_Ch_firstFault 3 (some .int) ∈ wGC := List.mem_append_left _ (List.mem_of_getElem? (i := 264) rfl)
theorem kC_265 : Cond.code y_Ch_faultFrom b_Ch_faultFrom 4 (some .int) ∈ wGC := List.mem_append_left _ (List.mem_of_getElem? (i := 265) rfl)
theorem kC_266 : Cond.code y_Ch_faultAt b_Ch_faultAt 3 (some .int) ∈ wGC := List.mem_append_left _ (List.mem_of_getElem? (i := 266) rfl)
theorem kC_267 : Cond.code y_Ch_isDangling b_Ch_isDangling 2 (some .boolean) ∈ wGC := List.mem_append_left _ (List.mem_of_getElem? (i := 267) rfl)
theorem kC_268 : Cond.code y_Cu_cutTrees b_Cu_cutTrees 3 none ∈ wGC := List.mem_append_left _ (List.mem_of_getElem? (i := 268) rfl)
theorem kC_269 : Cond.code y_Cu_cutFrom b_Cu_cutFrom 4 none ∈ wGC := List.mem_append_left _ (List.mem_of_getElem? (i := 269) rfl)
theorem kC_270 : Cond.code y_Cu_cutChildren b_Cu_cutChildren 6 none ∈ wGC := List.mem_append_left _ (List.mem_of_getElem? (i := 270) rfl)
theorem kC_271 : Cond.code y_Cu_cutOut b_Cu_cutOut 2 none ∈ wGC := List.mem_append_left _ (List.mem_of_getElem? (i := 271) rfl)
theorem kC_272 : Cond.code y_Cu_splitLength b_Cu_splitLength 3 (some .int) ∈ wGC := List.mem_append_left _ (List.mem_of_getElem? (i := 272) rfl)
theorem kC_273 : Cond.code y_Cu_partLength b_Cu_partLength 2 (some .int) ∈ wGC := List.mem_append_left _ (List.mem_of_getElem? (i := 273) rfl)
theorem kC_274 : Cond.code y_Cu_testLength b_Cu_testLength 1 (some .int) ∈ wGC := List.mem_append_left _ (List.mem_of_getElem? (i := 274) rfl)
theorem kC_275 : Cond.code y_Ta_forgetAll b_Ta_forgetAll 1 none ∈ wGC := List.mem_append_left _ (List.mem_of_getElem? (i := 275) rfl)
theorem kC_276 : Cond.code y_Ta_openClass b_Ta_openClass 1 none ∈ wGC := List.mem_append_left _ (List.mem_of_getElem? (i := 276) rfl)
theorem kC_277 : Cond.code y_Ta_isClass b_Ta_isClass 2 (some .boolean) ∈ wGC := List.mem_append_left _ (List.mem_of_getElem? (i := 277) rfl)
theorem kC_278 : Cond.code y_Ta_sizeOf b_Ta_sizeOf 2 (some .int) ∈ wGC := List.mem_append_left _ (List.mem_of_getElem? (i := 278) rfl)
theorem kC_279 : Cond.code y_Ta_holds b_Ta_holds 3 (some .boolean) ∈ wGC := List.mem_append_left _ (List.mem_of_getElem? (i := 279) rfl)
theorem kC_280 : Cond.code y_Ta_latestSize b_Ta_latestSize 1 (some .int) ∈ wGC := List.mem_append_left _ (List.mem_of_getElem? (i := 280) rfl)
theorem kC_281 : Cond.code y_Ta_shrinkLatest b_Ta_shrinkLatest 2 none ∈ wGC := List.mem_append_left _ (List.mem_of_getElem? (i := 281) rfl)
theorem kC_282 : Cond.code y_Ta_numberFor b_Ta_numberFor 6 (some .int) ∈ wGC := List.mem_append_left _ (List.mem_of_getElem? (i := 282) rfl)
theorem kC_283 : Cond.code y_Co_isMethod b_Co_isMethod 2 (some .boolean) ∈ wGC := List.mem_append_left _ (List.mem_of_getElem? (i := 283) rfl)
theorem kC_284 : Cond.code y_Co_writeMethods b_Co_writeMethods 3 none ∈ wGC := List.mem_append_left _ (List.mem_of_getElem? (i := 284) rfl)
theorem kC_285 : Cond.code y_Co_writeMethod b_Co_writeMethod 4 none ∈ wGC := List.mem_append_left _ (List.mem_of_getElem? (i := 285) rfl)
theorem kC_286 : Cond.code y_Co_writeCode b_Co_writeCode 4 none ∈ wGC := List.mem_append_left _ (List.mem_of_getElem? (i := 286) rfl)
theorem kC_287 : Cond.code y_Co_writePart b_Co_writePart 4 none ∈ wGC := List.mem_append_left _ (List.mem_of_getElem? (i := 287) rfl)
theorem kC_288 : Cond.code y_Co_writeTest b_Co_writeTest 5 none ∈ wGC := List.mem_append_left _ (List.mem_of_getElem? (i := 288) rfl)
theorem kC_289 : Cond.code y_Co_writePair b_Co_writePair 3 none ∈ wGC := List.mem_append_left _ (List.mem_of_getElem? (i := 289) rfl)
theorem kC_290 : Cond.code y_Co_writeByte b_Co_writeByte 2 none ∈ wGC := List.mem_append_left _ (List.mem_of_getElem? (i := 290) rfl)
theorem kC_291 : Cond.code y_Co_byteOfAll b_Co_byteOfAll 2 (some .int) ∈ wGC := List.mem_append_left _ (List.mem_of_getElem? (i := 291) rfl)
theorem kC_292 : Cond.code y_Ma_runTrees b_Ma_runTrees 4 (some .long) ∈ wGC := List.mem_append_left _ (List.mem_of_getElem? (i := 292) rfl)
theorem kC_293 : Cond.code y_Ma_runMethod b_Ma_runMethod 8 (some .int) ∈ wGC := List.mem_append_left _ (List.mem_of_getElem? (i := 293) rfl)
theorem kC_294 : Cond.code y_Ma_operand b_Ma_operand 4 (some .int) ∈ wGC := List.mem_append_left _ (List.mem_of_getElem? (i := 294) rfl)
theorem kC_295 : Cond.code y_Ma_testMove b_Ma_testMove 8 (some .int) ∈ wGC := List.mem_append_left _ (List.mem_of_getElem? (i := 295) rfl)
theorem kC_296 : Cond.code y_Ru_takesMark b_Ru_takesMark 2 (some .boolean) ∈ wGC := List.mem_append_left _ (List.mem_of_getElem? (i := 296) rfl)
theorem kC_297 : Cond.code y_Ru_isBitRule b_Ru_isBitRule 1 (some .boolean) ∈ wGC := List.mem_append_left _ (List.mem_of_getElem? (i := 297) rfl)
theorem kC_298 : Cond.code y_Ru_goesToYes b_Ru_goesToYes 4 (some .boolean) ∈ wGC := List.mem_append_left _ (List.mem_of_getElem? (i := 298) rfl)
theorem kC_299 : Cond.code y_Ru_orderOf b_Ru_orderOf 1 (some .int) ∈ wGC := List.mem_append_left _ (List.mem_of_getElem? (i := 299) rfl)
theorem kC_300 : Cond.code y_Ru_wholeOf b_Ru_wholeOf 4 (some .int) ∈ wGC := List.mem_append_left _ (List.mem_of_getElem? (i := 300) rfl)
theorem in_BF : ∀ w ∈ u_ws R_BF F_BF 7, w ∈ wGC := fun _ h => List.mem_append_right _ (List.mem_append_left _ h)
theorem in_Fo : ∀ w ∈ u_ws R_Fo F_Fo 8, w ∈ wGC := fun _ h => List.mem_append_right _ (List.mem_append_right _ (List.mem_append_left _ h))
theorem in_Ch : ∀ w ∈ u_ws R_Ch F_Ch 2, w ∈ wGC := fun _ h => List.mem_append_right _ (List.mem_append_right _ (List.mem_append_right _ (List.mem_append_left _ h)))
theorem in_Cu : ∀ w ∈ u_ws R_Cu F_Cu 5, w ∈ wGC := fun _ h => List.mem_append_right _ (List.mem_append_right _ (List.mem_append_right _ (List.mem_append_right _ (List.mem_append_left _ h))))
theorem in_Ta : ∀ w ∈ u_ws R_Ta F_Ta 4, w ∈ wGC := fun _ h => List.mem_append_right _ (List.mem_append_right _ (List.mem_append_right _ (List.mem_append_right _ (List.mem_append_right _ (List.mem_append_left _ h)))))
theorem in_Co : ∀ w ∈ u_ws R_Co F_Co 10, w ∈ wGC := fun _ h => List.mem_append_right _ (List.mem_append_right _ (List.mem_append_right _ (List.mem_append_right _ (List.mem_append_right _ (List.mem_append_right _ (List.mem_append_left _ h))))))
theorem in_Ma : ∀ w ∈ u_ws R_Ma F_Ma 5, w ∈ wGC := fun _ h => List.mem_append_right _ (List.mem_append_right _ (List.mem_append_right _ (List.mem_append_right _ (List.mem_append_right _ (List.mem_append_right _ (List.mem_append_right _ (h)))))))
