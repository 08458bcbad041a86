section
-- ===== PART A: goes FIRST, ahead of the names: the tables' words, and 'selects' of the private methods out of them =====
/-- a private method of a class that the tables say can be made, by its rows of tables_1 -/
def lw_okq (q : MethodName × Nat) : Prop := (q.1.cls ≠ "java/lang/invoke/MethodHandle" ∧ q.1.cls ≠ "java/lang/invoke/VarHandle") ∧ Cond.instantiable q.1.cls q.2 ∈ tables_1 ∧ Cond.privateMethod q.1 ∈ tables_1 ∧ Cond.instanceMethod q.1 ∈ tables_1
theorem lw_p0 : lw_okq (⟨"BranchForge$Checker", "faultFrom", "(II)I"⟩, 2) := ⟨⟨by decide +kernel, by decide +kernel⟩, List.mem_of_getElem? (i := 68) (by decide +kernel), List.mem_of_getElem? (i := 274) (by decide +kernel), List.mem_of_getElem? (i := 275) (by decide +kernel)⟩
theorem lw_p1 : lw_okq (⟨"BranchForge$Checker", "faultAt", "(II)I"⟩, 2) := ⟨⟨by decide +kernel, by decide +kernel⟩, List.mem_of_getElem? (i := 68) (by decide +kernel), List.mem_of_getElem? (i := 278) (by decide +kernel), List.mem_of_getElem? (i := 279) (by decide +kernel)⟩
theorem lw_p2 : lw_okq (⟨"BranchForge$Checker", "isDangling", "(I)Z"⟩, 2) := ⟨⟨by decide +kernel, by decide +kernel⟩, List.mem_of_getElem? (i := 68) (by decide +kernel), List.mem_of_getElem? (i := 282) (by decide +kernel), List.mem_of_getElem? (i := 283) (by decide +kernel)⟩
theorem lw_p3 : lw_okq (⟨"BranchForge$Cutter", "cutFrom", "(III)V"⟩, 5) := ⟨⟨by decide +kernel, by decide +kernel⟩, List.mem_of_getElem? (i := 82) (by decide +kernel), List.mem_of_getElem? (i := 295) (by decide +kernel), List.mem_of_getElem? (i := 296) (by decide +kernel)⟩
theorem lw_p4 : lw_okq (⟨"BranchForge$Cutter", "cutChildren", "(II)V"⟩, 5) := ⟨⟨by decide +kernel, by decide +kernel⟩, List.mem_of_getElem? (i := 82) (by decide +kernel), List.mem_of_getElem? (i := 300) (by decide +kernel), List.mem_of_getElem? (i := 301) (by decide +kernel)⟩
theorem lw_p5 : lw_okq (⟨"BranchForge$Cutter", "splitLength", "(I)I"⟩, 5) := ⟨⟨by decide +kernel, by decide +kernel⟩, List.mem_of_getElem? (i := 82) (by decide +kernel), List.mem_of_getElem? (i := 304) (by decide +kernel), List.mem_of_getElem? (i := 305) (by decide +kernel)⟩
theorem lw_p6 : lw_okq (⟨"BranchForge$Cutter", "cutOut", "(I)V"⟩, 5) := ⟨⟨by decide +kernel, by decide +kernel⟩, List.mem_of_getElem? (i := 82) (by decide +kernel), List.mem_of_getElem? (i := 315) (by decide +kernel), List.mem_of_getElem? (i := 316) (by decide +kernel)⟩
theorem lw_p7 : lw_okq (⟨"BranchForge$Code", "writeMethod", "(II)V"⟩, 10) := ⟨⟨by decide +kernel, by decide +kernel⟩, List.mem_of_getElem? (i := 133) (by decide +kernel), List.mem_of_getElem? (i := 331) (by decide +kernel), List.mem_of_getElem? (i := 332) (by decide +kernel)⟩
theorem lw_p8 : lw_okq (⟨"BranchForge$Code", "writeCode", "(II)V"⟩, 10) := ⟨⟨by decide +kernel, by decide +kernel⟩, List.mem_of_getElem? (i := 133) (by decide +kernel), List.mem_of_getElem? (i := 343) (by decide +kernel), List.mem_of_getElem? (i := 344) (by decide +kernel)⟩
theorem lw_p9 : lw_okq (⟨"BranchForge$Code", "writePair", "(II)V"⟩, 10) := ⟨⟨by decide +kernel, by decide +kernel⟩, List.mem_of_getElem? (i := 133) (by decide +kernel), List.mem_of_getElem? (i := 348) (by decide +kernel), List.mem_of_getElem? (i := 349) (by decide +kernel)⟩
theorem lw_p10 : lw_okq (⟨"BranchForge$Code", "writeByte", "(I)V"⟩, 10) := ⟨⟨by decide +kernel, by decide +kernel⟩, List.mem_of_getElem? (i := 133) (by decide +kernel), List.mem_of_getElem? (i := 352) (by decide +kernel), List.mem_of_getElem? (i := 353) (by decide +kernel)⟩
theorem lw_p11 : lw_okq (⟨"BranchForge$Code", "writeTest", "(II)V"⟩, 10) := ⟨⟨by decide +kernel, by decide +kernel⟩, List.mem_of_getElem? (i := 133) (by decide +kernel), List.mem_of_getElem? (i := 367) (by decide +kernel), List.mem_of_getElem? (i := 368) (by decide +kernel)⟩
theorem lw_p12 : lw_okq (⟨"BranchForge$Code", "writePart", "(II)V"⟩, 10) := ⟨⟨by decide +kernel, by decide +kernel⟩, List.mem_of_getElem? (i := 133) (by decide +kernel), List.mem_of_getElem? (i := 372) (by decide +kernel), List.mem_of_getElem? (i := 373) (by decide +kernel)⟩
theorem lw_p13 : lw_okq (⟨"BranchForge$Machine", "runMethod", "(II)I"⟩, 5) := ⟨⟨by decide +kernel, by decide +kernel⟩, List.mem_of_getElem? (i := 179) (by decide +kernel), List.mem_of_getElem? (i := 437) (by decide +kernel), List.mem_of_getElem? (i := 438) (by decide +kernel)⟩
theorem lw_p14 : lw_okq (⟨"BranchForge$Machine", "testMove", "(III)I"⟩, 5) := ⟨⟨by decide +kernel, by decide +kernel⟩, List.mem_of_getElem? (i := 179) (by decide +kernel), List.mem_of_getElem? (i := 446) (by decide +kernel), List.mem_of_getElem? (i := 447) (by decide +kernel)⟩
theorem lw_p15 : lw_okq (⟨"BranchForge$Machine", "operand", "(III)I"⟩, 5) := ⟨⟨by decide +kernel, by decide +kernel⟩, List.mem_of_getElem? (i := 179) (by decide +kernel), List.mem_of_getElem? (i := 461) (by decide +kernel), List.mem_of_getElem? (i := 462) (by decide +kernel)⟩
def lw_privs_1 : List (MethodName × Nat) := [(⟨"BranchForge$Checker", "faultFrom", "(II)I"⟩, 2), (⟨"BranchForge$Checker", "faultAt", "(II)I"⟩, 2), (⟨"BranchForge$Checker", "isDangling", "(I)Z"⟩, 2), (⟨"BranchForge$Cutter", "cutFrom", "(III)V"⟩, 5), (⟨"BranchForge$Cutter", "cutChildren", "(II)V"⟩, 5), (⟨"BranchForge$Cutter", "splitLength", "(I)I"⟩, 5), (⟨"BranchForge$Cutter", "cutOut", "(I)V"⟩, 5), (⟨"BranchForge$Code", "writeMethod", "(II)V"⟩, 10), (⟨"BranchForge$Code", "writeCode", "(II)V"⟩, 10), (⟨"BranchForge$Code", "writePair", "(II)V"⟩, 10), (⟨"BranchForge$Code", "writeByte", "(I)V"⟩, 10), (⟨"BranchForge$Code", "writeTest", "(II)V"⟩, 10), (⟨"BranchForge$Code", "writePart", "(II)V"⟩, 10), (⟨"BranchForge$Machine", "runMethod", "(II)I"⟩, 5), (⟨"BranchForge$Machine", "testMove", "(III)I"⟩, 5), (⟨"BranchForge$Machine", "operand", "(III)I"⟩, 5)]
theorem lw_r1 : ∀ q ∈ lw_privs_1, lw_okq q := List.forall_mem_cons.mpr ⟨lw_p0, List.forall_mem_cons.mpr ⟨lw_p1, List.forall_mem_cons.mpr ⟨lw_p2, List.forall_mem_cons.mpr ⟨lw_p3, List.forall_mem_cons.mpr ⟨lw_p4, List.forall_mem_cons.mpr ⟨lw_p5, List.forall_mem_cons.mpr ⟨lw_p6, List.forall_mem_cons.mpr ⟨lw_p7, List.forall_mem_cons.mpr ⟨lw_p8, List.forall_mem_cons.mpr ⟨lw_p9, List.forall_mem_cons.mpr ⟨lw_p10, List.forall_mem_cons.mpr ⟨lw_p11, List.forall_mem_cons.mpr ⟨lw_p12, List.forall_mem_cons.mpr ⟨lw_p13, List.forall_mem_cons.mpr ⟨lw_p14, List.forall_mem_cons.mpr ⟨lw_p15, fun _ h => absurd h List.not_mem_nil⟩⟩⟩⟩⟩⟩⟩⟩⟩⟩⟩⟩⟩⟩⟩⟩
theorem lw_p16 : lw_okq (⟨"BranchForgeModel", "fault", "()I"⟩, 29) := ⟨⟨by decide +kernel, by decide +kernel⟩, List.mem_of_getElem? (i := 484) (by decide +kernel), List.mem_of_getElem? (i := 599) (by decide +kernel), List.mem_of_getElem? (i := 600) (by decide +kernel)⟩
theorem lw_p17 : lw_okq (⟨"BranchForgeModel", "wrong", "(II)I"⟩, 29) := ⟨⟨by decide +kernel, by decide +kernel⟩, List.mem_of_getElem? (i := 484) (by decide +kernel), List.mem_of_getElem? (i := 603) (by decide +kernel), List.mem_of_getElem? (i := 604) (by decide +kernel)⟩
theorem lw_p18 : lw_okq (⟨"BranchForgeModel", "cutTree", "(II)V"⟩, 29) := ⟨⟨by decide +kernel, by decide +kernel⟩, List.mem_of_getElem? (i := 484) (by decide +kernel), List.mem_of_getElem? (i := 607) (by decide +kernel), List.mem_of_getElem? (i := 608) (by decide +kernel)⟩
theorem lw_p19 : lw_okq (⟨"BranchForgeModel", "measure", "(II)V"⟩, 29) := ⟨⟨by decide +kernel, by decide +kernel⟩, List.mem_of_getElem? (i := 484) (by decide +kernel), List.mem_of_getElem? (i := 611) (by decide +kernel), List.mem_of_getElem? (i := 612) (by decide +kernel)⟩
theorem lw_p20 : lw_okq (⟨"BranchForgeModel", "bytesOf", "(I)I"⟩, 29) := ⟨⟨by decide +kernel, by decide +kernel⟩, List.mem_of_getElem? (i := 484) (by decide +kernel), List.mem_of_getElem? (i := 615) (by decide +kernel), List.mem_of_getElem? (i := 616) (by decide +kernel)⟩
theorem lw_p21 : lw_okq (⟨"BranchForgeModel", "far", "(I)I"⟩, 29) := ⟨⟨by decide +kernel, by decide +kernel⟩, List.mem_of_getElem? (i := 484) (by decide +kernel), List.mem_of_getElem? (i := 619) (by decide +kernel), List.mem_of_getElem? (i := 620) (by decide +kernel)⟩
theorem lw_p22 : lw_okq (⟨"BranchForgeModel", "part", "(I)I"⟩, 29) := ⟨⟨by decide +kernel, by decide +kernel⟩, List.mem_of_getElem? (i := 484) (by decide +kernel), List.mem_of_getElem? (i := 623) (by decide +kernel), List.mem_of_getElem? (i := 624) (by decide +kernel)⟩
theorem lw_p23 : lw_okq (⟨"BranchForgeModel", "cutOut", "(I)V"⟩, 29) := ⟨⟨by decide +kernel, by decide +kernel⟩, List.mem_of_getElem? (i := 484) (by decide +kernel), List.mem_of_getElem? (i := 627) (by decide +kernel), List.mem_of_getElem? (i := 628) (by decide +kernel)⟩
theorem lw_p24 : lw_okq (⟨"BranchForgeModel", "newMethod", "(I)V"⟩, 29) := ⟨⟨by decide +kernel, by decide +kernel⟩, List.mem_of_getElem? (i := 484) (by decide +kernel), List.mem_of_getElem? (i := 631) (by decide +kernel), List.mem_of_getElem? (i := 632) (by decide +kernel)⟩
theorem lw_p25 : lw_okq (⟨"BranchForgeModel", "writeAll", "(I)V"⟩, 29) := ⟨⟨by decide +kernel, by decide +kernel⟩, List.mem_of_getElem? (i := 484) (by decide +kernel), List.mem_of_getElem? (i := 635) (by decide +kernel), List.mem_of_getElem? (i := 636) (by decide +kernel)⟩
theorem lw_p26 : lw_okq (⟨"BranchForgeModel", "write", "(II)V"⟩, 29) := ⟨⟨by decide +kernel, by decide +kernel⟩, List.mem_of_getElem? (i := 484) (by decide +kernel), List.mem_of_getElem? (i := 639) (by decide +kernel), List.mem_of_getElem? (i := 640) (by decide +kernel)⟩
theorem lw_p27 : lw_okq (⟨"BranchForgeModel", "with", "(IIII)V"⟩, 29) := ⟨⟨by decide +kernel, by decide +kernel⟩, List.mem_of_getElem? (i := 484) (by decide +kernel), List.mem_of_getElem? (i := 643) (by decide +kernel), List.mem_of_getElem? (i := 644) (by decide +kernel)⟩
theorem lw_p28 : lw_okq (⟨"BranchForgeModel", "put", "(I)V"⟩, 29) := ⟨⟨by decide +kernel, by decide +kernel⟩, List.mem_of_getElem? (i := 484) (by decide +kernel), List.mem_of_getElem? (i := 647) (by decide +kernel), List.mem_of_getElem? (i := 648) (by decide +kernel)⟩
theorem lw_p29 : lw_okq (⟨"BranchForgeModel", "entryFor", "(III)I"⟩, 29) := ⟨⟨by decide +kernel, by decide +kernel⟩, List.mem_of_getElem? (i := 484) (by decide +kernel), List.mem_of_getElem? (i := 651) (by decide +kernel), List.mem_of_getElem? (i := 652) (by decide +kernel)⟩
theorem lw_p30 : lw_okq (⟨"BranchForgeModel", "isMethod", "(I)Z"⟩, 29) := ⟨⟨by decide +kernel, by decide +kernel⟩, List.mem_of_getElem? (i := 484) (by decide +kernel), List.mem_of_getElem? (i := 663) (by decide +kernel), List.mem_of_getElem? (i := 664) (by decide +kernel)⟩
theorem lw_p31 : lw_okq (⟨"BranchForgeModel", "goesToYes", "(I)Z"⟩, 29) := ⟨⟨by decide +kernel, by decide +kernel⟩, List.mem_of_getElem? (i := 484) (by decide +kernel), List.mem_of_getElem? (i := 698) (by decide +kernel), List.mem_of_getElem? (i := 699) (by decide +kernel)⟩
def lw_privs_2 : List (MethodName × Nat) := [(⟨"BranchForgeModel", "fault", "()I"⟩, 29), (⟨"BranchForgeModel", "wrong", "(II)I"⟩, 29), (⟨"BranchForgeModel", "cutTree", "(II)V"⟩, 29), (⟨"BranchForgeModel", "measure", "(II)V"⟩, 29), (⟨"BranchForgeModel", "bytesOf", "(I)I"⟩, 29), (⟨"BranchForgeModel", "far", "(I)I"⟩, 29), (⟨"BranchForgeModel", "part", "(I)I"⟩, 29), (⟨"BranchForgeModel", "cutOut", "(I)V"⟩, 29), (⟨"BranchForgeModel", "newMethod", "(I)V"⟩, 29), (⟨"BranchForgeModel", "writeAll", "(I)V"⟩, 29), (⟨"BranchForgeModel", "write", "(II)V"⟩, 29), (⟨"BranchForgeModel", "with", "(IIII)V"⟩, 29), (⟨"BranchForgeModel", "put", "(I)V"⟩, 29), (⟨"BranchForgeModel", "entryFor", "(III)I"⟩, 29), (⟨"BranchForgeModel", "isMethod", "(I)Z"⟩, 29), (⟨"BranchForgeModel", "goesToYes", "(I)Z"⟩, 29)]
theorem lw_r2 : ∀ q ∈ lw_privs_2, lw_okq q := List.forall_mem_cons.mpr ⟨lw_p16, List.forall_mem_cons.mpr ⟨lw_p17, List.forall_mem_cons.mpr ⟨lw_p18, List.forall_mem_cons.mpr ⟨lw_p19, List.forall_mem_cons.mpr ⟨lw_p20, List.forall_mem_cons.mpr ⟨lw_p21, List.forall_mem_cons.mpr ⟨lw_p22, List.forall_mem_cons.mpr ⟨lw_p23, List.forall_mem_cons.mpr ⟨lw_p24, List.forall_mem_cons.mpr ⟨lw_p25, List.forall_mem_cons.mpr ⟨lw_p26, List.forall_mem_cons.mpr ⟨lw_p27, List.forall_mem_cons.mpr ⟨lw_p28, List.forall_mem_cons.mpr ⟨lw_p29, List.forall_mem_cons.mpr ⟨lw_p30, List.forall_mem_cons.mpr ⟨lw_p31, fun _ h => absurd h List.not_mem_nil⟩⟩⟩⟩⟩⟩⟩⟩⟩⟩⟩⟩⟩⟩⟩⟩
def lw_privs : List (MethodName × Nat) := lw_privs_1 ++ (lw_privs_2)
def lw_tbl : List Cond := k2_sels lw_privs ++ tables_1
theorem lw_privs_ok : ∀ q ∈ lw_privs, lw_okq q := by
  show ∀ q ∈ lw_privs_1 ++ (lw_privs_2), lw_okq q
  exact List.forall_mem_append.mpr ⟨lw_r1, lw_r2⟩
end
section
/-- the numbers that a world's arrays and fields hold: by cell (fields: from 100 on), by place -/
abbrev St : Type := Nat → Nat → Int32
def ups (g : St) (k : Nat) (f : Nat → Int32) : St := fun j => bif Nat.beq j k then f else g j
def sc (g : St) (k : Nat) (v : Int32) : St := ups g k (fun _ => v)
def ar (g : St) (k : Nat) (i v : Int32) : St := ups g k (upd (g k) i.toNatClampNeg v)
theorem ups_s (g : St) (k : Nat) (f : Nat → Int32) : ups g k f k = f := by
  show (bif Nat.beq k k then f else g k) = f
  rw [Nat.beq_refl]; rfl
theorem ups_n (g : St) (k j : Nat) (f : Nat → Int32) (h : j ≠ k) : ups g k f j = g j := by
  show (bif Nat.beq j k then f else g j) = g j
  have : Nat.beq j k = false := by
    cases hb : Nat.beq j k with
    | false => rfl
    | true => exact absurd (Nat.eq_of_beq_eq_true hb) h
  rw [this]; rfl
theorem sc_s (g : St) (k : Nat) (v : Int32) (i : Nat) : sc g k v k i = v := by unfold sc; rw [ups_s]
theorem sc_n (g : St) (k j : Nat) (v : Int32) (h : j ≠ k) : sc g k v j = g j := ups_n _ _ _ _ h
theorem ar_s (g : St) (k : Nat) (i v : Int32) : ar g k i v k = upd (g k) i.toNatClampNeg v := ups_s _ _ _
theorem ar_n (g : St) (k j : Nat) (i v : Int32) (h : j ≠ k) : ar g k i v j = g j := ups_n _ _ _ _ h
-- world C
def pb_Fo_addNode_0 (K : Int32 → St → Prop) (x1 : Int32) (x2 : Int32) (x3 : Int32) (x4 : Int32) (x5 : Int32) (g : St) : Prop :=
  (((g 100 0) < (60 : Int32) → vp_in (g 100 0) 60 ∧ ∀ g1 : St, g1 = ar g 3 (g 100 0) x1 → vp_in (g1 100 0) 60 ∧ ∀ g2 : St, g2 = ar g1 4 (g1 100 0) x2 → vp_in (g2 100 0) 60 ∧ ∀ g3 : St, g3 = ar g2 5 (g2 100 0) x3 → vp_in (g3 100 0) 60 ∧ ∀ g4 : St, g4 = ar g3 6 (g3 100 0) x4 → vp_in (g4 100 0) 60 ∧ ∀ g5 : St, g5 = ar g4 7 (g4 100 0) x5 → ∀ g6 : St, g6 = sc g5 100 ((g5 100 0) + (1 : Int32)) → K ((g6 100 0) - (1 : Int32)) g6) ∧ (¬ (g 100 0) < (60 : Int32) → K (-1 : Int32) g))
def pc_Fo_addNode (x1 : Int32) (x2 : Int32) (x3 : Int32) (x4 : Int32) (x5 : Int32) (g : St) (K : Int32 → St → Prop) : Prop := pb_Fo_addNode_0 K x1 x2 x3 x4 x5 g
def pb_BF_leaf_0 (K : Int32 → St → Prop) (x1 : Int32) (g : St) : Prop :=
  pc_Fo_addNode (-1 : Int32) (0 : Int32) x1 (-1 : Int32) (-1 : Int32) g (fun v2 g1 => K v2 g1)
def pc_BF_leaf (x1 : Int32) (g : St) (K : Int32 → St → Prop) : Prop := pb_BF_leaf_0 K x1 g
def pb_BF_isFeature_0 (K : Int32 → St → Prop) (x0 : Int32) (g : St) : Prop :=
  ((x0 < 0 → K (0 : Int32) g) ∧ (¬ x0 < 0 → (((8 : Int32) ≤ x0 → K (0 : Int32) g) ∧ (¬ (8 : Int32) ≤ x0 → K (1 : Int32) g))))
def pc_BF_isFeature (x0 : Int32) (g : St) (K : Int32 → St → Prop) : Prop := pb_BF_isFeature_0 K x0 g
def pb_Ru_isBitRule_0 (K : Int32 → St → Prop) (x0 : Int32) (g : St) : Prop :=
  ((x0 < (4 : Int32) → K (0 : Int32) g) ∧ (¬ x0 < (4 : Int32) → K (1 : Int32) g))
def pc_Ru_isBitRule (x0 : Int32) (g : St) (K : Int32 → St → Prop) : Prop := pb_Ru_isBitRule_0 K x0 g
def pb_Ru_takesMark_0 (K : Int32 → St → Prop) (x0 : Int32) (x1 : Int32) (g : St) : Prop :=
  pc_Ru_isBitRule x0 g (fun v2 g1 => ((¬ v2 = 0 → K (1 : Int32) g1) ∧ (v2 = 0 → (((2139095040 : Int32) ≤ (x1 &&& (2147483647 : Int32)) → K (0 : Int32) g1) ∧ (¬ (2139095040 : Int32) ≤ (x1 &&& (2147483647 : Int32)) → K (1 : Int32) g1)))))
def pc_Ru_takesMark (x0 : Int32) (x1 : Int32) (g : St) (K : Int32 → St → Prop) : Prop := pb_Ru_takesMark_0 K x0 x1 g
def pb_BF_isNodeNumber_0 (K : Int32 → St → Prop) (x0 : Int32) (g : St) : Prop :=
  ((x0 < 0 → K (0 : Int32) g) ∧ (¬ x0 < 0 → (((60 : Int32) ≤ x0 → K (0 : Int32) g) ∧ (¬ (60 : Int32) ≤ x0 → K (1 : Int32) g))))
def pc_BF_isNodeNumber (x0 : Int32) (g : St) (K : Int32 → St → Prop) : Prop := pb_BF_isNodeNumber_0 K x0 g
def pb_BF_split_0 (K : Int32 → St → Prop) (x1 : Int32) (x2 : Int32) (x3 : Int32) (x4 : Int32) (x5 : Int32) (g : St) : Prop :=
  ((x1 < 0 → K (-1 : Int32) g) ∧ (¬ x1 < 0 → (((6 : Int32) ≤ x1 → K (-1 : Int32) g) ∧ (¬ (6 : Int32) ≤ x1 → pc_BF_isFeature x2 g (fun v2 g1 => ((v2 = 0 → K (-1 : Int32) g1) ∧ (¬ v2 = 0 → pc_Ru_takesMark x1 x3 g1 (fun v4 g3 => ((¬ v4 = 0 → pc_BF_isNodeNumber x4 g3 (fun v6 g5 => ((v6 = 0 → K (-1 : Int32) g5) ∧ (¬ v6 = 0 → pc_BF_isNodeNumber x5 g5 (fun v8 g7 => ((¬ v8 = 0 → pc_Fo_addNode x1 x2 x3 x4 x5 g7 (fun v10 g9 => K v10 g9)) ∧ (v8 = 0 → K (-1 : Int32) g7))))))) ∧ (v4 = 0 → K (-1 : Int32) g3))))))))))
def pc_BF_split (x1 : Int32) (x2 : Int32) (x3 : Int32) (x4 : Int32) (x5 : Int32) (g : St) (K : Int32 → St → Prop) : Prop := pb_BF_split_0 K x1 x2 x3 x4 x5 g
def pb_Fo_isNode_0 (K : Int32 → St → Prop) (x1 : Int32) (g : St) : Prop :=
  ((x1 < 0 → K (0 : Int32) g) ∧ (¬ x1 < 0 → (((g 100 0) ≤ x1 → K (0 : Int32) g) ∧ (¬ (g 100 0) ≤ x1 → K (1 : Int32) g))))
def pc_Fo_isNode (x1 : Int32) (g : St) (K : Int32 → St → Prop) : Prop := pb_Fo_isNode_0 K x1 g
def pb_Fo_addTree_0 (K : Int32 → St → Prop) (x1 : Int32) (g : St) : Prop :=
  (((8 : Int32) ≤ (g 101 0) → K (-1 : Int32) g) ∧ (¬ (8 : Int32) ≤ (g 101 0) → pc_Fo_isNode x1 g (fun v2 g1 => ((¬ v2 = 0 → vp_in (g1 101 0) 8 ∧ ∀ g3 : St, g3 = ar g1 8 (g1 101 0) x1 → ∀ g4 : St, g4 = sc g3 101 ((g3 101 0) + (1 : Int32)) → K ((g4 101 0) - (1 : Int32)) g4) ∧ (v2 = 0 → K (-1 : Int32) g1)))))
def pc_Fo_addTree (x1 : Int32) (g : St) (K : Int32 → St → Prop) : Prop := pb_Fo_addTree_0 K x1 g
def pb_BF_tree_0 (K : Int32 → St → Prop) (x1 : Int32) (g : St) : Prop :=
  pc_Fo_addTree x1 g (fun v2 g1 => K v2 g1)
def pc_BF_tree (x1 : Int32) (g : St) (K : Int32 → St → Prop) : Prop := pb_BF_tree_0 K x1 g
def pb_BF_isTableSize_0 (K : Int32 → St → Prop) (x0 : Int32) (x1 : Int32) (g : St) : Prop :=
  ((x0 = (60 : Int32) → K (1 : Int32) g) ∧ (¬ x0 = (60 : Int32) → (((60 : Int32) ≤ x0 → K (0 : Int32) g) ∧ (¬ (60 : Int32) ≤ x0 → ¬ (4 : Int32) = 0 ∧ ((x0 < (x1 / (4 : Int32)) → K (0 : Int32) g) ∧ (¬ x0 < (x1 / (4 : Int32)) → K (1 : Int32) g))))))
def pc_BF_isTableSize (x0 : Int32) (x1 : Int32) (g : St) (K : Int32 → St → Prop) : Prop := pb_BF_isTableSize_0 K x0 x1 g
def pb_Fo_isLeaf_0 (K : Int32 → St → Prop) (x1 : Int32) (g : St) : Prop :=
  vp_in x1 60 ∧ ((¬ (g 3 (x1).toNatClampNeg) = (-1 : Int32) → K (0 : Int32) g) ∧ ((g 3 (x1).toNatClampNeg) = (-1 : Int32) → K (1 : Int32) g))
def pc_Fo_isLeaf (x1 : Int32) (g : St) (K : Int32 → St → Prop) : Prop := pb_Fo_isLeaf_0 K x1 g
def pb_Ch_isDangling_0 (K : Int32 → St → Prop) (x1 : Int32) (g : St) : Prop :=
  pc_Fo_isLeaf x1 g (fun v2 g1 => ((¬ v2 = 0 → K (0 : Int32) g1) ∧ (v2 = 0 → vp_in x1 60 ∧ pc_Fo_isNode (g1 6 (x1).toNatClampNeg) g1 (fun v4 g3 => ((v4 = 0 → K (1 : Int32) g3) ∧ (¬ v4 = 0 → vp_in x1 60 ∧ pc_Fo_isNode (g3 7 (x1).toNatClampNeg) g3 (fun v6 g5 => ((¬ v6 = 0 → K (0 : Int32) g5) ∧ (v6 = 0 → K (1 : Int32) g5)))))))))
def pc_Ch_isDangling (x1 : Int32) (g : St) (K : Int32 → St → Prop) : Prop := pb_Ch_isDangling_0 K x1 g
def pb_Ch_faultAt_0 (K : Int32 → St → Prop) (x1 : Int32) (x2 : Int32) (g : St) : Prop :=
  vp_in x1 60 ∧ (((g 10 (x1).toNatClampNeg) = 0 → vp_in x1 60 ∧ ∀ g1 : St, g1 = ar g 10 x1 (1 : Int32) → ((x2 ≤ (12 : Int32) → pc_Ch_isDangling x1 g1 (fun v3 g2 => ((v3 = 0 → K (0 : Int32) g2) ∧ (¬ v3 = 0 → K ((100 : Int32) + x1) g2)))) ∧ (¬ x2 ≤ (12 : Int32) → K ((300 : Int32) + x1) g1))) ∧ (¬ (g 10 (x1).toNatClampNeg) = 0 → K ((200 : Int32) + x1) g))
def pc_Ch_faultAt (x1 : Int32) (x2 : Int32) (g : St) (K : Int32 → St → Prop) : Prop := pb_Ch_faultAt_0 K x1 x2 g
def pb_Ch_faultFrom_0 (rc : Int32 → Int32 → St → (Int32 → St → Prop) → Prop) (K : Int32 → St → Prop) (x1 : Int32) (x2 : Int32) (g : St) : Prop :=
  pc_Ch_faultAt x1 x2 g (fun v2 g1 => ∀ v3 : Int32, v3 = v2 → ((¬ v3 = 0 → K v3 g1) ∧ (v3 = 0 → pc_Fo_isLeaf x1 g1 (fun v5 g4 => ((v5 = 0 → vp_in x1 60 ∧ rc (g4 6 (x1).toNatClampNeg) (x2 + (1 : Int32)) g4 (fun v7 g6 => ∀ v8 : Int32, v8 = v7 → ((v8 = 0 → vp_in x1 60 ∧ rc (g6 7 (x1).toNatClampNeg) (x2 + (1 : Int32)) g6 (fun v10 g9 => K v10 g9)) ∧ (¬ v8 = 0 → K v8 g6)))) ∧ (¬ v5 = 0 → K v3 g4))))))
def pc_Ch_faultFrom : Nat → Int32 → Int32 → St → (Int32 → St → Prop) → Prop
  | 0 => fun _ _ _ _ => False
  | d + 1 => fun x1 x2 g K => pb_Ch_faultFrom_0 (pc_Ch_faultFrom d) K x1 x2 g
def pb_Ch_firstFault_25 (K : Int32 → St → Prop) (P25 : Int32 → Int32 → St → Prop) (x1 : Int32) (x2 : Int32) (g : St) : Prop :=
  (((g 101 0) ≤ x2 → K x1 g) ∧ (¬ (g 101 0) ≤ x2 → ((¬ x1 = 0 → K x1 g) ∧ (x1 = 0 → vp_in x2 8 ∧ pc_Ch_faultFrom 14 (g 8 (x2).toNatClampNeg) (0 : Int32) g (fun v2 g1 => ∀ v3 : Int32, v3 = v2 → ∀ v4 : Int32, v4 = x2 + (1 : Int32) → P25 v3 v4 g1)))))
def pl_Ch_firstFault_25 (K : Int32 → St → Prop) (x1 : Int32) (x2 : Int32) (g : St) : Prop :=
  ∀ P25 : Int32 → Int32 → St → Prop, (∀ (x1 : Int32) (x2 : Int32) (g : St), pb_Ch_firstFault_25 K P25 x1 x2 g → P25 x1 x2 g) → P25 x1 x2 g
def pb_Ch_firstFault_2 (K : Int32 → St → Prop) (P2 : Int32 → St → Prop) (x1 : Int32) (g : St) : Prop :=
  (((60 : Int32) ≤ x1 → ∀ v1 : Int32, v1 = (0 : Int32) → ∀ v2 : Int32, v2 = (0 : Int32) → pl_Ch_firstFault_25 K v1 v2 g) ∧ (¬ (60 : Int32) ≤ x1 → vp_in x1 60 ∧ ∀ g3 : St, g3 = ar g 10 x1 (0 : Int32) → ∀ v4 : Int32, v4 = x1 + (1 : Int32) → P2 v4 g3))
def pl_Ch_firstFault_2 (K : Int32 → St → Prop) (x1 : Int32) (g : St) : Prop :=
  ∀ P2 : Int32 → St → Prop, (∀ (x1 : Int32) (g : St), pb_Ch_firstFault_2 K P2 x1 g → P2 x1 g) → P2 x1 g
def pb_Ch_firstFault_0 (K : Int32 → St → Prop) (g : St) : Prop :=
  ∀ v1 : Int32, v1 = (0 : Int32) → pl_Ch_firstFault_2 K v1 g
def pc_Ch_firstFault (g : St) (K : Int32 → St → Prop) : Prop := pb_Ch_firstFault_0 K g
def pb_Cu_partLength_0 (K : Int32 → St → Prop) (x1 : Int32) (g : St) : Prop :=
  vp_in x1 60 ∧ ((¬ (g 13 (x1).toNatClampNeg) = (-1 : Int32) → K (3 : Int32) g) ∧ ((g 13 (x1).toNatClampNeg) = (-1 : Int32) → vp_in x1 60 ∧ K (g 12 (x1).toNatClampNeg) g))
def pc_Cu_partLength (x1 : Int32) (g : St) (K : Int32 → St → Prop) : Prop := pb_Cu_partLength_0 K x1 g
def pb_Cu_testLength_0 (K : Int32 → St → Prop) (x0 : Int32) (g : St) : Prop :=
  (((63 : Int32) < ((2 : Int32) + x0) → K (3 : Int32) g) ∧ (¬ (63 : Int32) < ((2 : Int32) + x0) → K (2 : Int32) g))
def pc_Cu_testLength (x0 : Int32) (g : St) (K : Int32 → St → Prop) : Prop := pb_Cu_testLength_0 K x0 g
def pb_Cu_splitLength_0 (K : Int32 → St → Prop) (x1 : Int32) (g : St) : Prop :=
  vp_in x1 60 ∧ pc_Cu_partLength (g 6 (x1).toNatClampNeg) g (fun v2 g1 => ∀ v3 : Int32, v3 = v2 → pc_Cu_testLength v3 g1 (fun v5 g4 => vp_in x1 60 ∧ pc_Cu_partLength (g4 7 (x1).toNatClampNeg) g4 (fun v7 g6 => K ((((4 : Int32) + v5) + v3) + v7) g6)))
def pc_Cu_splitLength (x1 : Int32) (g : St) (K : Int32 → St → Prop) : Prop := pb_Cu_splitLength_0 K x1 g
def pb_Cu_cutOut_0 (K : St → Prop) (x1 : Int32) (g : St) : Prop :=
  (((60 : Int32) ≤ (g 102 0) → K g) ∧ (¬ (60 : Int32) ≤ (g 102 0) → vp_in x1 60 ∧ ∀ g1 : St, g1 = ar g 13 x1 (g 102 0) → vp_in (g1 102 0) 60 ∧ ∀ g2 : St, g2 = ar g1 14 (g1 102 0) x1 → ∀ g3 : St, g3 = sc g2 102 ((g2 102 0) + (1 : Int32)) → K g3))
def pc_Cu_cutOut (x1 : Int32) (g : St) (K : St → Prop) : Prop := pb_Cu_cutOut_0 K x1 g
def pb_Cu_cutChildren_88 (K : St → Prop) (x1 : Int32) (x2 : Int32) (x3 : Int32) (x4 : Int32) (x5 : Int32) (t1 : Int32) (g : St) : Prop :=
  pc_Cu_cutOut t1 g (fun g1 => K g1)
def pb_Cu_cutChildren_64 (K : St → Prop) (x1 : Int32) (x2 : Int32) (x3 : Int32) (x4 : Int32) (x5 : Int32) (t1 : Int32) (g : St) : Prop :=
  pc_Cu_cutOut t1 g (fun g1 => pc_Cu_splitLength x1 g1 (fun v3 g2 => ((v3 ≤ x2 → K g2) ∧ (¬ v3 ≤ x2 → ((x5 = 0 → pb_Cu_cutChildren_88 K x1 x2 x3 x4 x5 x3 g2) ∧ (¬ x5 = 0 → pb_Cu_cutChildren_88 K x1 x2 x3 x4 x5 x4 g2))))))
def pb_Cu_cutChildren_50 (K : St → Prop) (x1 : Int32) (x2 : Int32) (x3 : Int32) (x4 : Int32) (t0 : Int32) (g : St) : Prop :=
  ∀ v1 : Int32, v1 = t0 → ((v1 = 0 → pb_Cu_cutChildren_64 K x1 x2 x3 x4 v1 x4 g) ∧ (¬ v1 = 0 → pb_Cu_cutChildren_64 K x1 x2 x3 x4 v1 x3 g))
def pb_Cu_cutChildren_0 (K : St → Prop) (x1 : Int32) (x2 : Int32) (g : St) : Prop :=
  vp_in x1 60 ∧ ∀ v1 : Int32, v1 = (g 6 (x1).toNatClampNeg) → vp_in x1 60 ∧ ∀ v2 : Int32, v2 = (g 7 (x1).toNatClampNeg) → pc_Cu_splitLength x1 g (fun v4 g3 => ((x2 < v4 → pc_Cu_partLength v1 g3 (fun v6 g5 => pc_Cu_partLength v2 g5 (fun v8 g7 => ((v6 < v8 → pb_Cu_cutChildren_50 K x1 x2 v1 v2 (0 : Int32) g7) ∧ (¬ v6 < v8 → pb_Cu_cutChildren_50 K x1 x2 v1 v2 (1 : Int32) g7))))) ∧ (¬ x2 < v4 → K g3)))
def pc_Cu_cutChildren (x1 : Int32) (x2 : Int32) (g : St) (K : St → Prop) : Prop := pb_Cu_cutChildren_0 K x1 x2 g
def pb_Cu_cutFrom_17 (rc : Int32 → Int32 → Int32 → St → (St → Prop) → Prop) (K : St → Prop) (x1 : Int32) (x2 : Int32) (x3 : Int32) (g : St) : Prop :=
  vp_in x1 60 ∧ ∀ g1 : St, g1 = ar g 12 x1 (3 : Int32) → K g1
def pb_Cu_cutFrom_0 (rc : Int32 → Int32 → Int32 → St → (St → Prop) → Prop) (K : St → Prop) (x1 : Int32) (x2 : Int32) (x3 : Int32) (g : St) : Prop :=
  pc_Fo_isLeaf x1 g (fun v2 g1 => ((¬ v2 = 0 → pb_Cu_cutFrom_17 rc K x1 x2 x3 g1) ∧ (v2 = 0 → ((x3 ≤ (12 : Int32) → vp_in x1 60 ∧ rc (g1 6 (x1).toNatClampNeg) x2 (x3 + (1 : Int32)) g1 (fun g3 => vp_in x1 60 ∧ rc (g3 7 (x1).toNatClampNeg) x2 (x3 + (1 : Int32)) g3 (fun g4 => pc_Cu_cutChildren x1 x2 g4 (fun g5 => pc_Cu_splitLength x1 g5 (fun v7 g6 => vp_in x1 60 ∧ ∀ g8 : St, g8 = ar g6 12 x1 v7 → K g8))))) ∧ (¬ x3 ≤ (12 : Int32) → pb_Cu_cutFrom_17 rc K x1 x2 x3 g1)))))
def pc_Cu_cutFrom : Nat → Int32 → Int32 → Int32 → St → (St → Prop) → Prop
  | 0 => fun _ _ _ _ _ => False
  | d + 1 => fun x1 x2 x3 g K => pb_Cu_cutFrom_0 (pc_Cu_cutFrom d) K x1 x2 x3 g
def pb_Cu_cutTrees_28 (K : St → Prop) (P28 : Int32 → Int32 → St → Prop) (x1 : Int32) (x2 : Int32) (g : St) : Prop :=
  (((g 101 0) ≤ x2 → K g) ∧ (¬ (g 101 0) ≤ x2 → vp_in x2 8 ∧ pc_Cu_cutFrom 14 (g 8 (x2).toNatClampNeg) x1 (0 : Int32) g (fun g1 => vp_in x2 8 ∧ pc_Cu_cutOut (g1 8 (x2).toNatClampNeg) g1 (fun g2 => ∀ v3 : Int32, v3 = x2 + (1 : Int32) → P28 x1 v3 g2))))
def pl_Cu_cutTrees_28 (K : St → Prop) (x1 : Int32) (x2 : Int32) (g : St) : Prop :=
  ∀ P28 : Int32 → Int32 → St → Prop, (∀ (x1 : Int32) (x2 : Int32) (g : St), pb_Cu_cutTrees_28 K P28 x1 x2 g → P28 x1 x2 g) → P28 x1 x2 g
def pb_Cu_cutTrees_7 (K : St → Prop) (P7 : Int32 → Int32 → St → Prop) (x1 : Int32) (x2 : Int32) (g : St) : Prop :=
  (((60 : Int32) ≤ x2 → ∀ v1 : Int32, v1 = (0 : Int32) → pl_Cu_cutTrees_28 K x1 v1 g) ∧ (¬ (60 : Int32) ≤ x2 → vp_in x2 60 ∧ ∀ g2 : St, g2 = ar g 13 x2 (-1 : Int32) → ∀ v3 : Int32, v3 = x2 + (1 : Int32) → P7 x1 v3 g2))
def pl_Cu_cutTrees_7 (K : St → Prop) (x1 : Int32) (x2 : Int32) (g : St) : Prop :=
  ∀ P7 : Int32 → Int32 → St → Prop, (∀ (x1 : Int32) (x2 : Int32) (g : St), pb_Cu_cutTrees_7 K P7 x1 x2 g → P7 x1 x2 g) → P7 x1 x2 g
def pb_Cu_cutTrees_0 (K : St → Prop) (x1 : Int32) (g : St) : Prop :=
  ∀ g1 : St, g1 = sc g 102 (0 : Int32) → ∀ v2 : Int32, v2 = (0 : Int32) → pl_Cu_cutTrees_7 K x1 v2 g1
def pc_Cu_cutTrees (x1 : Int32) (g : St) (K : St → Prop) : Prop := pb_Cu_cutTrees_0 K x1 g
def pb_Ta_forgetAll_0 (K : St → Prop) (g : St) : Prop :=
  ∀ g1 : St, g1 = sc g 103 (0 : Int32) → vp_in (0 : Int32) 61 ∧ ∀ g2 : St, g2 = ar g1 18 (0 : Int32) (0 : Int32) → K g2
def pc_Ta_forgetAll (g : St) (K : St → Prop) : Prop := pb_Ta_forgetAll_0 K g
def pb_Ta_openClass_0 (K : St → Prop) (g : St) : Prop :=
  (((60 : Int32) ≤ (g 103 0) → K g) ∧ (¬ (60 : Int32) ≤ (g 103 0) → vp_in (g 103 0) 61 ∧ vp_in ((g 103 0) + (1 : Int32)) 61 ∧ ∀ g1 : St, g1 = ar g 18 ((g 103 0) + (1 : Int32)) (g 18 ((g 103 0)).toNatClampNeg) → ∀ g2 : St, g2 = sc g1 103 ((g1 103 0) + (1 : Int32)) → K g2))
def pc_Ta_openClass (g : St) (K : St → Prop) : Prop := pb_Ta_openClass_0 K g
def pb_Ta_sizeOf_0 (K : Int32 → St → Prop) (x1 : Int32) (g : St) : Prop :=
  vp_in (x1 + (1 : Int32)) 61 ∧ vp_in x1 61 ∧ K ((g 18 ((x1 + (1 : Int32))).toNatClampNeg) - (g 18 (x1).toNatClampNeg)) g
def pc_Ta_sizeOf (x1 : Int32) (g : St) (K : Int32 → St → Prop) : Prop := pb_Ta_sizeOf_0 K x1 g
def pb_Ta_latestSize_0 (K : Int32 → St → Prop) (g : St) : Prop :=
  (((g 103 0) ≤ 0 → K (0 : Int32) g) ∧ (¬ (g 103 0) ≤ 0 → pc_Ta_sizeOf ((g 103 0) - (1 : Int32)) g (fun v2 g1 => K v2 g1)))
def pc_Ta_latestSize (g : St) (K : Int32 → St → Prop) : Prop := pb_Ta_latestSize_0 K g
def pb_Co_writeByte_0 (K : St → Prop) (x1 : Int32) (g : St) : Prop :=
  (((600 : Int32) ≤ (g 104 0) → K g) ∧ (¬ (600 : Int32) ≤ (g 104 0) → vp_in (g 104 0) 600 ∧ ∀ g1 : St, g1 = ar g 20 (g 104 0) x1 → ∀ g2 : St, g2 = sc g1 104 ((g1 104 0) + (1 : Int32)) → K g2))
def pc_Co_writeByte (x1 : Int32) (g : St) (K : St → Prop) : Prop := pb_Co_writeByte_0 K x1 g
def pb_Co_writePair_0 (K : St → Prop) (x1 : Int32) (x2 : Int32) (g : St) : Prop :=
  pc_Co_writeByte x1 g (fun g1 => pc_Co_writeByte x2 g1 (fun g2 => K g2))
def pc_Co_writePair (x1 : Int32) (x2 : Int32) (g : St) (K : St → Prop) : Prop := pb_Co_writePair_0 K x1 x2 g
def pb_Fo_kindOfEntry_0 (K : Int32 → St → Prop) (x1 : Int32) (g : St) : Prop :=
  pc_Fo_isLeaf x1 g (fun v2 g1 => ((v2 = 0 → vp_in x1 60 ∧ pc_Ru_isBitRule (g1 3 (x1).toNatClampNeg) g1 (fun v4 g3 => ((v4 = 0 → K (1 : Int32) g3) ∧ (¬ v4 = 0 → K (3 : Int32) g3)))) ∧ (¬ v2 = 0 → K (2 : Int32) g1)))
def pc_Fo_kindOfEntry (x1 : Int32) (g : St) (K : Int32 → St → Prop) : Prop := pb_Fo_kindOfEntry_0 K x1 g
def pb_Ta_numberFor_71 (K : Int32 → St → Prop) (P37 : Int32 → Int32 → Int32 → Int32 → Int32 → St → Prop) (x1 : Int32) (x2 : Int32) (x3 : Int32) (x4 : Int32) (x5 : Int32) (g : St) : Prop :=
  ∀ v1 : Int32, v1 = x5 + (1 : Int32) → P37 x1 x2 x3 x4 v1 g
def pb_Ta_numberFor_113 (K : Int32 → St → Prop) (x1 : Int32) (x2 : Int32) (x3 : Int32) (x4 : Int32) (x5 : Int32) (g : St) : Prop :=
  K (x4 - x3) g
def pb_Ta_numberFor_37 (K : Int32 → St → Prop) (P37 : Int32 → Int32 → Int32 → Int32 → Int32 → St → Prop) (x1 : Int32) (x2 : Int32) (x3 : Int32) (x4 : Int32) (x5 : Int32) (g : St) : Prop :=
  ((x4 ≤ x5 → (((120 : Int32) ≤ x4 → pb_Ta_numberFor_113 K x1 x2 x3 x4 x5 g) ∧ (¬ (120 : Int32) ≤ x4 → vp_in x4 120 ∧ ∀ g1 : St, g1 = ar g 16 x4 x1 → vp_in x4 120 ∧ ∀ g2 : St, g2 = ar g1 17 x4 x2 → vp_in (g2 103 0) 61 ∧ ∀ g3 : St, g3 = ar g2 18 (g2 103 0) (x4 + (1 : Int32)) → pb_Ta_numberFor_113 K x1 x2 x3 x4 x5 g3))) ∧ (¬ x4 ≤ x5 → vp_in x5 120 ∧ ((¬ (g 16 (x5).toNatClampNeg) = x1 → pb_Ta_numberFor_71 K P37 x1 x2 x3 x4 x5 g) ∧ ((g 16 (x5).toNatClampNeg) = x1 → vp_in x5 120 ∧ ((¬ (g 17 (x5).toNatClampNeg) = x2 → pb_Ta_numberFor_71 K P37 x1 x2 x3 x4 x5 g) ∧ ((g 17 (x5).toNatClampNeg) = x2 → K (x5 - x3) g))))))
def pl_Ta_numberFor_37 (K : Int32 → St → Prop) (x1 : Int32) (x2 : Int32) (x3 : Int32) (x4 : Int32) (x5 : Int32) (g : St) : Prop :=
  ∀ P37 : Int32 → Int32 → Int32 → Int32 → Int32 → St → Prop, (∀ (x1 : Int32) (x2 : Int32) (x3 : Int32) (x4 : Int32) (x5 : Int32) (g : St), pb_Ta_numberFor_37 K P37 x1 x2 x3 x4 x5 g → P37 x1 x2 x3 x4 x5 g) → P37 x1 x2 x3 x4 x5 g
def pb_Ta_numberFor_22 (K : Int32 → St → Prop) (x1 : Int32) (x2 : Int32) (t0 : Int32) (g : St) : Prop :=
  ∀ v1 : Int32, v1 = t0 → vp_in (g 103 0) 61 ∧ ∀ v2 : Int32, v2 = (g 18 ((g 103 0)).toNatClampNeg) → ∀ v3 : Int32, v3 = v1 → pl_Ta_numberFor_37 K x1 x2 v1 v2 v3 g
def pb_Ta_numberFor_0 (K : Int32 → St → Prop) (x1 : Int32) (x2 : Int32) (g : St) : Prop :=
  (((g 103 0) ≤ 0 → pb_Ta_numberFor_22 K x1 x2 (0 : Int32) g) ∧ (¬ (g 103 0) ≤ 0 → vp_in ((g 103 0) - (1 : Int32)) 61 ∧ pb_Ta_numberFor_22 K x1 x2 (g 18 (((g 103 0) - (1 : Int32))).toNatClampNeg) g))
def pc_Ta_numberFor (x1 : Int32) (x2 : Int32) (g : St) (K : Int32 → St → Prop) : Prop := pb_Ta_numberFor_0 K x1 x2 g
def pb_Co_writeTest_0 (K : St → Prop) (x1 : Int32) (x2 : Int32) (g : St) : Prop :=
  pc_Cu_testLength x2 g (fun v2 g1 => ∀ v3 : Int32, v3 = v2 → ∀ v4 : Int32, v4 = (v3 + x2) → ((¬ v3 = (2 : Int32) → pc_Co_writePair ((20 : Int32) + x1) (v4 >>> ((8 : Int32) &&& 31)) g1 (fun g5 => pc_Co_writeByte (v4 &&& (255 : Int32)) g5 (fun g6 => K g6))) ∧ (v3 = (2 : Int32) → pc_Co_writePair ((10 : Int32) + x1) v4 g1 (fun g7 => K g7))))
def pc_Co_writeTest (x1 : Int32) (x2 : Int32) (g : St) (K : St → Prop) : Prop := pb_Co_writeTest_0 K x1 x2 g
def pb_Co_writePart_0 (rc : Int32 → Int32 → St → (St → Prop) → Prop) (K : St → Prop) (x1 : Int32) (x2 : Int32) (g : St) : Prop :=
  vp_in x1 60 ∧ ∀ v1 : Int32, v1 = (g 13 (x1).toNatClampNeg) → ((¬ v1 = (-1 : Int32) → pc_Ta_numberFor (4 : Int32) v1 g (fun v3 g2 => pc_Co_writePair (4 : Int32) v3 g2 (fun g4 => pc_Co_writeByte (3 : Int32) g4 (fun g5 => K g5)))) ∧ (v1 = (-1 : Int32) → rc x1 x2 g (fun g6 => K g6)))
def pc_Co_writePart (rc : Int32 → Int32 → St → (St → Prop) → Prop) (x1 : Int32) (x2 : Int32) (g : St) (K : St → Prop) : Prop := pb_Co_writePart_0 rc K x1 x2 g
def pb_Co_writeCode_34 (rc : Int32 → Int32 → St → (St → Prop) → Prop) (K : St → Prop) (x1 : Int32) (x2 : Int32) (x3 : Int32) (g : St) : Prop :=
  pc_Fo_kindOfEntry x1 g (fun v2 g1 => vp_in x1 60 ∧ pc_Ta_numberFor v2 (g1 5 (x1).toNatClampNeg) g1 (fun v4 g3 => pc_Co_writePair (2 : Int32) v4 g3 (fun g5 => ((x3 = 0 → vp_in x1 60 ∧ vp_in x1 60 ∧ pc_Cu_partLength (g5 6 (x1).toNatClampNeg) g5 (fun v7 g6 => pc_Co_writeTest (g5 3 (x1).toNatClampNeg) v7 g6 (fun g8 => vp_in x1 60 ∧ pc_Co_writePart rc (g8 6 (x1).toNatClampNeg) (x2 + (1 : Int32)) g8 (fun g9 => vp_in x1 60 ∧ pc_Co_writePart rc (g9 7 (x1).toNatClampNeg) (x2 + (1 : Int32)) g9 (fun g10 => K g10))))) ∧ (¬ x3 = 0 → pc_Co_writeByte (3 : Int32) g5 (fun g11 => K g11))))))
def pb_Co_writeCode_0 (rc : Int32 → Int32 → St → (St → Prop) → Prop) (K : St → Prop) (x1 : Int32) (x2 : Int32) (g : St) : Prop :=
  ((x2 ≤ (12 : Int32) → pc_Fo_isLeaf x1 g (fun v2 g1 => ∀ v3 : Int32, v3 = v2 → ((¬ v3 = 0 → pb_Co_writeCode_34 rc K x1 x2 v3 g1) ∧ (v3 = 0 → vp_in x1 60 ∧ pc_Co_writePair (1 : Int32) (g1 4 (x1).toNatClampNeg) g1 (fun g4 => pb_Co_writeCode_34 rc K x1 x2 v3 g4))))) ∧ (¬ x2 ≤ (12 : Int32) → K g))
def pc_Co_writeCode : Nat → Int32 → Int32 → St → (St → Prop) → Prop
  | 0 => fun _ _ _ _ => False
  | d + 1 => fun x1 x2 g K => pb_Co_writeCode_0 (pc_Co_writeCode d) K x1 x2 g
def pb_Ta_shrinkLatest_0 (K : St → Prop) (x1 : Int32) (g : St) : Prop :=
  (((g 103 0) ≤ 0 → K g) ∧ (¬ (g 103 0) ≤ 0 → vp_in ((g 103 0) - (1 : Int32)) 61 ∧ vp_in (g 103 0) 61 ∧ ∀ g1 : St, g1 = ar g 18 (g 103 0) ((g 18 (((g 103 0) - (1 : Int32))).toNatClampNeg) + x1) → K g1))
def pc_Ta_shrinkLatest (x1 : Int32) (g : St) (K : St → Prop) : Prop := pb_Ta_shrinkLatest_0 K x1 g
def pb_Co_writeMethod_82 (K : St → Prop) (x1 : Int32) (x2 : Int32) (x3 : Int32) (g : St) : Prop :=
  vp_in (x1 + (1 : Int32)) 61 ∧ ∀ g1 : St, g1 = ar g 21 (x1 + (1 : Int32)) (g 104 0) → vp_in x1 60 ∧ ∀ g2 : St, g2 = ar g1 22 x1 ((g1 103 0) - (1 : Int32)) → K g2
def pb_Co_writeMethod_0 (K : St → Prop) (x1 : Int32) (x2 : Int32) (g : St) : Prop :=
  pc_Ta_latestSize g (fun v2 g1 => ∀ v3 : Int32, v3 = v2 → vp_in x1 61 ∧ ∀ g4 : St, g4 = ar g1 21 x1 (g1 104 0) → vp_in x1 60 ∧ pc_Co_writeCode 14 (g4 14 (x1).toNatClampNeg) (0 : Int32) g4 (fun g5 => pc_Ta_latestSize g5 (fun v7 g6 => ((v7 ≤ x2 → pb_Co_writeMethod_82 K x1 x2 v3 g6) ∧ (¬ v7 ≤ x2 → pc_Ta_shrinkLatest v3 g6 (fun g8 => pc_Ta_openClass g8 (fun g9 => vp_in x1 61 ∧ ∀ g10 : St, g10 = sc g9 104 (g9 21 (x1).toNatClampNeg) → vp_in x1 60 ∧ pc_Co_writeCode 14 (g10 14 (x1).toNatClampNeg) (0 : Int32) g10 (fun g11 => pb_Co_writeMethod_82 K x1 x2 v3 g11))))))))
def pc_Co_writeMethod (x1 : Int32) (x2 : Int32) (g : St) (K : St → Prop) : Prop := pb_Co_writeMethod_0 K x1 x2 g
def pb_Co_writeMethods_65 (K : St → Prop) (P65 : Int32 → Int32 → St → Prop) (x1 : Int32) (x2 : Int32) (g : St) : Prop :=
  (((g 106 0) ≤ x2 → K g) ∧ (¬ (g 106 0) ≤ x2 → vp_in x2 8 ∧ vp_in (g 8 (x2).toNatClampNeg) 60 ∧ vp_in x2 8 ∧ ∀ g1 : St, g1 = ar g 23 x2 (g 13 ((g 8 (x2).toNatClampNeg)).toNatClampNeg) → ∀ v2 : Int32, v2 = x2 + (1 : Int32) → P65 x1 v2 g1))
def pl_Co_writeMethods_65 (K : St → Prop) (x1 : Int32) (x2 : Int32) (g : St) : Prop :=
  ∀ P65 : Int32 → Int32 → St → Prop, (∀ (x1 : Int32) (x2 : Int32) (g : St), pb_Co_writeMethods_65 K P65 x1 x2 g → P65 x1 x2 g) → P65 x1 x2 g
def pb_Co_writeMethods_32 (K : St → Prop) (P32 : Int32 → Int32 → St → Prop) (x1 : Int32) (x2 : Int32) (g : St) : Prop :=
  (((g 105 0) ≤ x2 → ∀ g1 : St, g1 = sc g 106 (g 101 0) → ∀ v2 : Int32, v2 = (0 : Int32) → pl_Co_writeMethods_65 K x1 v2 g1) ∧ (¬ (g 105 0) ≤ x2 → pc_Co_writeMethod x2 x1 g (fun g3 => ∀ v4 : Int32, v4 = x2 + (1 : Int32) → P32 x1 v4 g3)))
def pl_Co_writeMethods_32 (K : St → Prop) (x1 : Int32) (x2 : Int32) (g : St) : Prop :=
  ∀ P32 : Int32 → Int32 → St → Prop, (∀ (x1 : Int32) (x2 : Int32) (g : St), pb_Co_writeMethods_32 K P32 x1 x2 g → P32 x1 x2 g) → P32 x1 x2 g
def pb_Co_writeMethods_0 (K : St → Prop) (x1 : Int32) (g : St) : Prop :=
  ∀ g1 : St, g1 = sc g 104 (0 : Int32) → pc_Ta_forgetAll g1 (fun g2 => pc_Ta_openClass g2 (fun g3 => ∀ g4 : St, g4 = sc g3 105 (g3 102 0) → ∀ v5 : Int32, v5 = (0 : Int32) → pl_Co_writeMethods_32 K x1 v5 g4))
def pc_Co_writeMethods (x1 : Int32) (g : St) (K : St → Prop) : Prop := pb_Co_writeMethods_0 K x1 g
def pb_BF_compile_0 (K : Int32 → St → Prop) (x1 : Int32) (x2 : Int32) (g : St) : Prop :=
  ((x1 < (20 : Int32) → K (-1 : Int32) g) ∧ (¬ x1 < (20 : Int32) → (((400 : Int32) < x1 → K (-1 : Int32) g) ∧ (¬ (400 : Int32) < x1 → pc_BF_isTableSize x2 x1 g (fun v2 g1 => ((v2 = 0 → K (-1 : Int32) g1) ∧ (¬ v2 = 0 → ((¬ (g1 101 0) = 0 → pc_Ch_firstFault g1 (fun v4 g3 => ∀ v5 : Int32, v5 = v4 → ((v5 = 0 → pc_Cu_cutTrees x1 g3 (fun g6 => pc_Co_writeMethods x2 g6 (fun g7 => K (g7 105 0) g7))) ∧ (¬ v5 = 0 → K (- v5) g3)))) ∧ ((g1 101 0) = 0 → K (-1 : Int32) g1)))))))))
def pc_BF_compile (x1 : Int32) (x2 : Int32) (g : St) (K : Int32 → St → Prop) : Prop := pb_BF_compile_0 K x1 x2 g
def pb_BF_methods_0 (K : Int32 → St → Prop) (g : St) : Prop :=
  K (g 105 0) g
def pc_BF_methods (g : St) (K : Int32 → St → Prop) : Prop := pb_BF_methods_0 K g
def pb_Co_isMethod_0 (K : Int32 → St → Prop) (x1 : Int32) (g : St) : Prop :=
  ((x1 < 0 → K (0 : Int32) g) ∧ (¬ x1 < 0 → (((g 105 0) ≤ x1 → K (0 : Int32) g) ∧ (¬ (g 105 0) ≤ x1 → K (1 : Int32) g))))
def pc_Co_isMethod (x1 : Int32) (g : St) (K : Int32 → St → Prop) : Prop := pb_Co_isMethod_0 K x1 g
def pb_BF_length_0 (K : Int32 → St → Prop) (x1 : Int32) (g : St) : Prop :=
  pc_Co_isMethod x1 g (fun v2 g1 => ((v2 = 0 → K (-1 : Int32) g1) ∧ (¬ v2 = 0 → vp_in (x1 + (1 : Int32)) 61 ∧ vp_in x1 61 ∧ K ((g1 21 ((x1 + (1 : Int32))).toNatClampNeg) - (g1 21 (x1).toNatClampNeg)) g1)))
def pc_BF_length (x1 : Int32) (g : St) (K : Int32 → St → Prop) : Prop := pb_BF_length_0 K x1 g
def pb_BF_byteAt_0 (K : Int32 → St → Prop) (x1 : Int32) (x2 : Int32) (g : St) : Prop :=
  ((x2 < 0 → K (-1 : Int32) g) ∧ (¬ x2 < 0 → pc_BF_length x1 g (fun v2 g1 => ((v2 ≤ x2 → K (-1 : Int32) g1) ∧ (¬ v2 ≤ x2 → vp_in x1 61 ∧ vp_in ((g1 21 (x1).toNatClampNeg) + x2) 600 ∧ K (g1 20 (((g1 21 (x1).toNatClampNeg) + x2)).toNatClampNeg) g1)))))
def pc_BF_byteAt (x1 : Int32) (x2 : Int32) (g : St) (K : Int32 → St → Prop) : Prop := pb_BF_byteAt_0 K x1 x2 g
def pb_BF_classOf_0 (K : Int32 → St → Prop) (x1 : Int32) (g : St) : Prop :=
  pc_Co_isMethod x1 g (fun v2 g1 => ((v2 = 0 → K (-1 : Int32) g1) ∧ (¬ v2 = 0 → vp_in x1 60 ∧ K (g1 22 (x1).toNatClampNeg) g1)))
def pc_BF_classOf (x1 : Int32) (g : St) (K : Int32 → St → Prop) : Prop := pb_BF_classOf_0 K x1 g
def pb_BF_classes_0 (K : Int32 → St → Prop) (g : St) : Prop :=
  K (g 103 0) g
def pc_BF_classes (g : St) (K : Int32 → St → Prop) : Prop := pb_BF_classes_0 K g
def pb_Ta_isClass_0 (K : Int32 → St → Prop) (x1 : Int32) (g : St) : Prop :=
  ((x1 < 0 → K (0 : Int32) g) ∧ (¬ x1 < 0 → (((g 103 0) ≤ x1 → K (0 : Int32) g) ∧ (¬ (g 103 0) ≤ x1 → K (1 : Int32) g))))
def pc_Ta_isClass (x1 : Int32) (g : St) (K : Int32 → St → Prop) : Prop := pb_Ta_isClass_0 K x1 g
def pb_BF_entries_0 (K : Int32 → St → Prop) (x1 : Int32) (g : St) : Prop :=
  pc_Ta_isClass x1 g (fun v2 g1 => ((v2 = 0 → K (-1 : Int32) g1) ∧ (¬ v2 = 0 → pc_Ta_sizeOf x1 g1 (fun v4 g3 => K v4 g3))))
def pc_BF_entries (x1 : Int32) (g : St) (K : Int32 → St → Prop) : Prop := pb_BF_entries_0 K x1 g
def pb_Ta_holds_0 (K : Int32 → St → Prop) (x1 : Int32) (x2 : Int32) (g : St) : Prop :=
  pc_Ta_isClass x1 g (fun v2 g1 => ((v2 = 0 → K (0 : Int32) g1) ∧ (¬ v2 = 0 → ((x2 < 0 → K (0 : Int32) g1) ∧ (¬ x2 < 0 → pc_Ta_sizeOf x1 g1 (fun v4 g3 => ((v4 ≤ x2 → K (0 : Int32) g3) ∧ (¬ v4 ≤ x2 → K (1 : Int32) g3))))))))
def pc_Ta_holds (x1 : Int32) (x2 : Int32) (g : St) (K : Int32 → St → Prop) : Prop := pb_Ta_holds_0 K x1 x2 g
def pb_BF_entry_0 (K : Int64 → St → Prop) (x1 : Int32) (x2 : Int32) (g : St) : Prop :=
  pc_Ta_holds x1 x2 g (fun v2 g1 => ((¬ v2 = 0 → vp_in x1 61 ∧ ∀ v3 : Int32, v3 = ((g1 18 (x1).toNatClampNeg) + x2) → vp_in v3 120 ∧ vp_in v3 120 ∧ K ((((g1 16 (v3).toNatClampNeg)).toInt64 <<< (((32 : Int32)).toInt64 &&& 63)) + (((g1 17 (v3).toNatClampNeg)).toInt64 &&& (4294967295 : Int64))) g1) ∧ (v2 = 0 → K (-1 : Int64) g1)))
def pc_BF_entry (x1 : Int32) (x2 : Int32) (g : St) (K : Int64 → St → Prop) : Prop := pb_BF_entry_0 K x1 x2 g
def pb_BF_set_0 (K : Int32 → St → Prop) (x1 : Int32) (x2 : Int32) (g : St) : Prop :=
  pc_BF_isFeature x1 g (fun v2 g1 => ((¬ v2 = 0 → vp_in x1 8 ∧ ∀ g3 : St, g3 = ar g1 1 x1 x2 → K (1 : Int32) g3) ∧ (v2 = 0 → K (0 : Int32) g1)))
def pc_BF_set (x1 : Int32) (x2 : Int32) (g : St) (K : Int32 → St → Prop) : Prop := pb_BF_set_0 K x1 x2 g
def pb_Co_byteOfAll_21 (K : Int32 → St → Prop) (x1 : Int32) (g : St) : Prop :=
  K (3 : Int32) g
def pb_Co_byteOfAll_0 (K : Int32 → St → Prop) (x1 : Int32) (g : St) : Prop :=
  ((x1 < 0 → pb_Co_byteOfAll_21 K x1 g) ∧ (¬ x1 < 0 → (((g 104 0) ≤ x1 → pb_Co_byteOfAll_21 K x1 g) ∧ (¬ (g 104 0) ≤ x1 → vp_in x1 600 ∧ K (g 20 (x1).toNatClampNeg) g))))
def pc_Co_byteOfAll (x1 : Int32) (g : St) (K : Int32 → St → Prop) : Prop := pb_Co_byteOfAll_0 K x1 g
def pb_Ru_wholeOf_0 (K : Int32 → St → Prop) (x0 : Int32) (g : St) : Prop :=
  ((¬ (x0 &&& (2147483647 : Int32)) = 0 → ∀ v1 : Int32, v1 = (((x0).toUInt32 >>> (((23 : Int32)).toUInt32 &&& Int32.toUInt32 31)).toInt32 - (127 : Int32)) → ((v1 < 0 → K (-1 : Int32) g) ∧ (¬ v1 < 0 → ((v1 ≤ (4 : Int32) → ∀ v2 : Int32, v2 = ((x0 &&& (8388607 : Int32)) ||| (8388608 : Int32)) → ∀ v3 : Int32, v3 = (v2 >>> (((23 : Int32) - v1) &&& 31)) → ((¬ (v3 <<< (((23 : Int32) - v1) &&& 31)) = v2 → K (-1 : Int32) g) ∧ ((v3 <<< (((23 : Int32) - v1) &&& 31)) = v2 → K v3 g))) ∧ (¬ v1 ≤ (4 : Int32) → K (-1 : Int32) g))))) ∧ ((x0 &&& (2147483647 : Int32)) = 0 → K (0 : Int32) g))
def pc_Ru_wholeOf (x0 : Int32) (g : St) (K : Int32 → St → Prop) : Prop := pb_Ru_wholeOf_0 K x0 g
def pb_Ru_orderOf_0 (K : Int32 → St → Prop) (x0 : Int32) (g : St) : Prop :=
  ((x0 < 0 → K (- (x0 &&& (2147483647 : Int32))) g) ∧ (¬ x0 < 0 → K x0 g))
def pc_Ru_orderOf (x0 : Int32) (g : St) (K : Int32 → St → Prop) : Prop := pb_Ru_orderOf_0 K x0 g
def pb_Ru_goesToYes_0 (K : Int32 → St → Prop) (x0 : Int32) (x1 : Int32) (x2 : Int32) (g : St) : Prop :=
  (((x1 &&& (2147483647 : Int32)) ≤ (2139095040 : Int32) → pc_Ru_isBitRule x0 g (fun v2 g1 => ((v2 = 0 → (((2 : Int32) ≤ x0 → pc_Ru_orderOf x1 g1 (fun v4 g3 => pc_Ru_orderOf x2 g3 (fun v6 g5 => ((v6 < v4 → K (0 : Int32) g5) ∧ (¬ v6 < v4 → K (1 : Int32) g5))))) ∧ (¬ (2 : Int32) ≤ x0 → pc_Ru_orderOf x1 g1 (fun v8 g7 => pc_Ru_orderOf x2 g7 (fun v10 g9 => ((v10 ≤ v8 → K (0 : Int32) g9) ∧ (¬ v10 ≤ v8 → K (1 : Int32) g9))))))) ∧ (¬ v2 = 0 → pc_Ru_wholeOf x1 g1 (fun v12 g11 => ∀ v13 : Int32, v13 = v12 → ((v13 = (-1 : Int32) → K (0 : Int32) g11) ∧ (¬ v13 = (-1 : Int32) → ((¬ (((x2).toUInt32 >>> ((v13).toUInt32 &&& Int32.toUInt32 31)).toInt32 &&& (1 : Int32)) = (1 : Int32) → K (0 : Int32) g11) ∧ ((((x2).toUInt32 >>> ((v13).toUInt32 &&& Int32.toUInt32 31)).toInt32 &&& (1 : Int32)) = (1 : Int32) → K (1 : Int32) g11))))))))) ∧ (¬ (x1 &&& (2147483647 : Int32)) ≤ (2139095040 : Int32) → ((¬ (x0 &&& (1 : Int32)) = (1 : Int32) → K (0 : Int32) g) ∧ ((x0 &&& (1 : Int32)) = (1 : Int32) → K (1 : Int32) g))))
def pc_Ru_goesToYes (x0 : Int32) (x1 : Int32) (x2 : Int32) (g : St) (K : Int32 → St → Prop) : Prop := pb_Ru_goesToYes_0 K x0 x1 x2 g
def pb_Ma_testMove_38 (K : Int32 → St → Prop) (x1 : Int32) (x2 : Int32) (x3 : Int32) (x4 : Int32) (x5 : Int32) (t0 : Int32) (t1 : Int32) (g : St) : Prop :=
  ∀ v1 : Int32, v1 = (t0 - t1) → pc_Ru_goesToYes v1 x2 x3 g (fun v3 g2 => ((v3 = 0 → pc_Co_byteOfAll (x1 + (1 : Int32)) g2 (fun v5 g4 => ∀ v6 : Int32, v6 = v5 → ((x5 = 0 → K v6 g4) ∧ (¬ x5 = 0 → pc_Co_byteOfAll (x1 + (2 : Int32)) g4 (fun v8 g7 => K (((256 : Int32) * v6) + v8) g7))))) ∧ (¬ v3 = 0 → ((x5 = 0 → K (2 : Int32) g2) ∧ (¬ x5 = 0 → K (3 : Int32) g2)))))
def pb_Ma_testMove_22 (K : Int32 → St → Prop) (x1 : Int32) (x2 : Int32) (x3 : Int32) (x4 : Int32) (t0 : Int32) (g : St) : Prop :=
  ∀ v1 : Int32, v1 = t0 → ((v1 = 0 → pb_Ma_testMove_38 K x1 x2 x3 x4 v1 x4 (10 : Int32) g) ∧ (¬ v1 = 0 → pb_Ma_testMove_38 K x1 x2 x3 x4 v1 x4 (20 : Int32) g))
def pb_Ma_testMove_0 (K : Int32 → St → Prop) (x1 : Int32) (x2 : Int32) (x3 : Int32) (g : St) : Prop :=
  pc_Co_byteOfAll x1 g (fun v2 g1 => ∀ v3 : Int32, v3 = v2 → ((v3 < (20 : Int32) → pb_Ma_testMove_22 K x1 x2 x3 v3 (0 : Int32) g1) ∧ (¬ v3 < (20 : Int32) → pb_Ma_testMove_22 K x1 x2 x3 v3 (1 : Int32) g1)))
def pc_Ma_testMove (x1 : Int32) (x2 : Int32) (x3 : Int32) (g : St) (K : Int32 → St → Prop) : Prop := pb_Ma_testMove_0 K x1 x2 x3 g
def pb_Ma_operand_0 (K : Int32 → St → Prop) (x1 : Int32) (x2 : Int32) (x3 : Int32) (g : St) : Prop :=
  ((¬ x1 = (1 : Int32) → pc_Ta_holds x2 x3 g (fun v2 g1 => ((v2 = 0 → K (0 : Int32) g1) ∧ (¬ v2 = 0 → vp_in x2 61 ∧ vp_in ((g1 18 (x2).toNatClampNeg) + x3) 120 ∧ K (g1 17 (((g1 18 (x2).toNatClampNeg) + x3)).toNatClampNeg) g1)))) ∧ (x1 = (1 : Int32) → pc_BF_isFeature x3 g (fun v4 g3 => ((v4 = 0 → K (0 : Int32) g3) ∧ (¬ v4 = 0 → vp_in x3 8 ∧ K (g3 1 (x3).toNatClampNeg) g3)))))
def pc_Ma_operand (x1 : Int32) (x2 : Int32) (x3 : Int32) (g : St) (K : Int32 → St → Prop) : Prop := pb_Ma_operand_0 K x1 x2 x3 g
def pb_Ma_runMethod_157 (rc : Int32 → Int32 → St → (Int32 → St → Prop) → Prop) (K : Int32 → St → Prop) (P38 : Int32 → Int32 → Int32 → Int32 → Int32 → Int32 → St → Prop) (x1 : Int32) (x2 : Int32) (x3 : Int32) (x4 : Int32) (x5 : Int32) (x6 : Int32) (x7 : Int32) (g : St) : Prop :=
  ∀ v1 : Int32, v1 = x6 + (1 : Int32) → P38 x1 x2 x3 x4 x5 v1 g
def pb_Ma_runMethod_154 (rc : Int32 → Int32 → St → (Int32 → St → Prop) → Prop) (K : Int32 → St → Prop) (P38 : Int32 → Int32 → Int32 → Int32 → Int32 → Int32 → St → Prop) (x1 : Int32) (x2 : Int32) (x3 : Int32) (x4 : Int32) (x5 : Int32) (x6 : Int32) (x7 : Int32) (g : St) : Prop :=
  ∀ v1 : Int32, v1 = x5 + (2 : Int32) → pb_Ma_runMethod_157 rc K P38 x1 x2 x3 x4 v1 x6 x7 g
def pb_Ma_runMethod_38 (rc : Int32 → Int32 → St → (Int32 → St → Prop) → Prop) (K : Int32 → St → Prop) (P38 : Int32 → Int32 → Int32 → Int32 → Int32 → Int32 → St → Prop) (x1 : Int32) (x2 : Int32) (x3 : Int32) (x4 : Int32) (x5 : Int32) (x6 : Int32) (g : St) : Prop :=
  (((600 : Int32) ≤ x6 → K x3 g) ∧ (¬ (600 : Int32) ≤ x6 → pc_Co_byteOfAll x5 g (fun v2 g1 => ∀ v3 : Int32, v3 = v2 → ∀ g4 : St, g4 = sc g1 107 ((g1 107 0) + (1 : Int32)) → ((¬ v3 = (3 : Int32) → ((v3 < (10 : Int32) → ∀ v5 : Int32, v5 = x3 → vp_in x1 60 ∧ pc_Co_byteOfAll (x5 + (1 : Int32)) g4 (fun v7 g6 => pc_Ma_operand v3 (g4 22 (x1).toNatClampNeg) v7 g6 (fun v9 g8 => ∀ v10 : Int32, v10 = v9 → ((¬ v3 = (4 : Int32) → pb_Ma_runMethod_154 rc K P38 x1 x2 v10 v5 x5 x6 v3 g8) ∧ (v3 = (4 : Int32) → ∀ g11 : St, g11 = sc g8 108 ((g8 108 0) + (1 : Int32)) → rc v10 (x2 + (1 : Int32)) g11 (fun v13 g12 => ∀ v14 : Int32, v14 = v13 → pb_Ma_runMethod_154 rc K P38 x1 x2 v14 v5 x5 x6 v3 g12)))))) ∧ (¬ v3 < (10 : Int32) → pc_Ma_testMove x5 x4 x3 g4 (fun v16 g15 => ∀ v17 : Int32, v17 = (x5 + v16) → pb_Ma_runMethod_157 rc K P38 x1 x2 x3 x4 v17 x6 v3 g15)))) ∧ (v3 = (3 : Int32) → K x3 g4)))))
def pl_Ma_runMethod_38 (rc : Int32 → Int32 → St → (Int32 → St → Prop) → Prop) (K : Int32 → St → Prop) (x1 : Int32) (x2 : Int32) (x3 : Int32) (x4 : Int32) (x5 : Int32) (x6 : Int32) (g : St) : Prop :=
  ∀ P38 : Int32 → Int32 → Int32 → Int32 → Int32 → Int32 → St → Prop, (∀ (x1 : Int32) (x2 : Int32) (x3 : Int32) (x4 : Int32) (x5 : Int32) (x6 : Int32) (g : St), pb_Ma_runMethod_38 rc K P38 x1 x2 x3 x4 x5 x6 g → P38 x1 x2 x3 x4 x5 x6 g) → P38 x1 x2 x3 x4 x5 x6 g
def pb_Ma_runMethod_0 (rc : Int32 → Int32 → St → (Int32 → St → Prop) → Prop) (K : Int32 → St → Prop) (x1 : Int32) (x2 : Int32) (g : St) : Prop :=
  (((12 : Int32) < x2 → K (0 : Int32) g) ∧ (¬ (12 : Int32) < x2 → pc_Co_isMethod x1 g (fun v2 g1 => ((¬ v2 = 0 → ∀ v3 : Int32, v3 = (0 : Int32) → ∀ v4 : Int32, v4 = (0 : Int32) → vp_in x1 61 ∧ ∀ v5 : Int32, v5 = (g1 21 (x1).toNatClampNeg) → ∀ v6 : Int32, v6 = (0 : Int32) → pl_Ma_runMethod_38 rc K x1 x2 v3 v4 v5 v6 g1) ∧ (v2 = 0 → K (0 : Int32) g1)))))
def pc_Ma_runMethod : Nat → Int32 → Int32 → St → (Int32 → St → Prop) → Prop
  | 0 => fun _ _ _ _ => False
  | d + 1 => fun x1 x2 g K => pb_Ma_runMethod_0 (pc_Ma_runMethod d) K x1 x2 g
def pb_Ma_runTrees_14 (K : Int64 → St → Prop) (P14 : Int64 → Int32 → St → Prop) (x1 : Int64) (x3 : Int32) (g : St) : Prop :=
  (((g 106 0) ≤ x3 → K x1 g) ∧ (¬ (g 106 0) ≤ x3 → vp_in x3 8 ∧ pc_Ma_runMethod 14 (g 23 (x3).toNatClampNeg) (0 : Int32) g (fun v2 g1 => ∀ v3 : Int64, v3 = (x1 + (v2).toInt64) → ∀ v4 : Int32, v4 = x3 + (1 : Int32) → P14 v3 v4 g1)))
def pl_Ma_runTrees_14 (K : Int64 → St → Prop) (x1 : Int64) (x3 : Int32) (g : St) : Prop :=
  ∀ P14 : Int64 → Int32 → St → Prop, (∀ (x1 : Int64) (x3 : Int32) (g : St), pb_Ma_runTrees_14 K P14 x1 x3 g → P14 x1 x3 g) → P14 x1 x3 g
def pb_Ma_runTrees_0 (K : Int64 → St → Prop) (g : St) : Prop :=
  ∀ g1 : St, g1 = sc g 107 (0 : Int32) → ∀ g2 : St, g2 = sc g1 108 (0 : Int32) → ∀ v3 : Int64, v3 = (0 : Int64) → ∀ v4 : Int32, v4 = (0 : Int32) → pl_Ma_runTrees_14 K v3 v4 g2
def pc_Ma_runTrees (g : St) (K : Int64 → St → Prop) : Prop := pb_Ma_runTrees_0 K g
def pb_BF_predict_0 (K : Int64 → St → Prop) (g : St) : Prop :=
  pc_Ma_runTrees g (fun v2 g1 => K v2 g1)
def pc_BF_predict (g : St) (K : Int64 → St → Prop) : Prop := pb_BF_predict_0 K g
def pb_BF_steps_0 (K : Int32 → St → Prop) (g : St) : Prop :=
  K (g 107 0) g
def pc_BF_steps (g : St) (K : Int32 → St → Prop) : Prop := pb_BF_steps_0 K g
def pb_BF_calls_0 (K : Int32 → St → Prop) (g : St) : Prop :=
  K (g 108 0) g
def pc_BF_calls (g : St) (K : Int32 → St → Prop) : Prop := pb_BF_calls_0 K g
def pb_Fo_leafFor_65 (K : Int32 → St → Prop) (P5 : Int32 → Int32 → Int32 → St → Prop) (x1 : Int32) (x3 : Int32) (x4 : Int32) (x5 : Int32) (t0 : Int32) (g : St) : Prop :=
  ∀ v1 : Int32, v1 = t0 → ∀ v2 : Int32, v2 = x4 + (1 : Int32) → P5 x1 v1 v2 g
def pb_Fo_leafFor_5 (K : Int32 → St → Prop) (P5 : Int32 → Int32 → Int32 → St → Prop) (x1 : Int32) (x3 : Int32) (x4 : Int32) (g : St) : Prop :=
  (((12 : Int32) < x4 → K x3 g) ∧ (¬ (12 : Int32) < x4 → pc_Fo_isLeaf x3 g (fun v2 g1 => ((¬ v2 = 0 → K x3 g1) ∧ (v2 = 0 → vp_in x3 60 ∧ vp_in x3 60 ∧ vp_in (g1 4 (x3).toNatClampNeg) 8 ∧ vp_in x3 60 ∧ pc_Ru_goesToYes (g1 3 (x3).toNatClampNeg) (g1 1 ((g1 4 (x3).toNatClampNeg)).toNatClampNeg) (g1 5 (x3).toNatClampNeg) g1 (fun v4 g3 => ∀ v5 : Int32, v5 = v4 → ((v5 = 0 → vp_in x3 60 ∧ pb_Fo_leafFor_65 K P5 x1 x3 x4 v5 (g3 7 (x3).toNatClampNeg) g3) ∧ (¬ v5 = 0 → vp_in x3 60 ∧ pb_Fo_leafFor_65 K P5 x1 x3 x4 v5 (g3 6 (x3).toNatClampNeg) g3))))))))
def pl_Fo_leafFor_5 (K : Int32 → St → Prop) (x1 : Int32) (x3 : Int32) (x4 : Int32) (g : St) : Prop :=
  ∀ P5 : Int32 → Int32 → Int32 → St → Prop, (∀ (x1 : Int32) (x3 : Int32) (x4 : Int32) (g : St), pb_Fo_leafFor_5 K P5 x1 x3 x4 g → P5 x1 x3 x4 g) → P5 x1 x3 x4 g
def pb_Fo_leafFor_0 (K : Int32 → St → Prop) (x1 : Int32) (g : St) : Prop :=
  ∀ v1 : Int32, v1 = x1 → ∀ v2 : Int32, v2 = (0 : Int32) → pl_Fo_leafFor_5 K x1 v1 v2 g
def pc_Fo_leafFor (x1 : Int32) (g : St) (K : Int32 → St → Prop) : Prop := pb_Fo_leafFor_0 K x1 g
def pb_BF_reach_0 (K : Int32 → St → Prop) (x1 : Int32) (g : St) : Prop :=
  ((x1 < 0 → K (-1 : Int32) g) ∧ (¬ x1 < 0 → (((g 106 0) ≤ x1 → K (-1 : Int32) g) ∧ (¬ (g 106 0) ≤ x1 → vp_in x1 8 ∧ pc_Fo_leafFor (g 8 (x1).toNatClampNeg) g (fun v2 g1 => K v2 g1)))))
def pc_BF_reach (x1 : Int32) (g : St) (K : Int32 → St → Prop) : Prop := pb_BF_reach_0 K x1 g
-- world M
def pb_Mo_leaf_0 (K : Int32 → St → Prop) (x1 : Int32) (g : St) : Prop :=
  ((¬ (g 100 0) = (60 : Int32) → vp_in (g 100 0) 60 ∧ ∀ g1 : St, g1 = ar g 1 (g 100 0) (-1 : Int32) → vp_in (g1 100 0) 60 ∧ ∀ g2 : St, g2 = ar g1 3 (g1 100 0) x1 → ∀ g3 : St, g3 = sc g2 100 ((g2 100 0) + (1 : Int32)) → K ((g3 100 0) - (1 : Int32)) g3) ∧ ((g 100 0) = (60 : Int32) → K (-1 : Int32) g))
def pc_Mo_leaf (x1 : Int32) (g : St) (K : Int32 → St → Prop) : Prop := pb_Mo_leaf_0 K x1 g
def pb_Mo_outside_0 (K : Int32 → St → Prop) (x0 : Int32) (x1 : Int32) (x2 : Int32) (g : St) : Prop :=
  ((x0 < x1 → K (1 : Int32) g) ∧ (¬ x0 < x1 → ((x0 ≤ x2 → K (0 : Int32) g) ∧ (¬ x0 ≤ x2 → K (1 : Int32) g))))
def pc_Mo_outside (x0 : Int32) (x1 : Int32) (x2 : Int32) (g : St) (K : Int32 → St → Prop) : Prop := pb_Mo_outside_0 K x0 x1 x2 g
def pb_Mo_split_78 (K : Int32 → St → Prop) (x1 : Int32) (x2 : Int32) (x3 : Int32) (x4 : Int32) (x5 : Int32) (x6 : Int32) (g : St) : Prop :=
  vp_in (g 100 0) 60 ∧ ∀ g1 : St, g1 = ar g 1 (g 100 0) x1 → vp_in (g1 100 0) 60 ∧ ∀ g2 : St, g2 = ar g1 2 (g1 100 0) x2 → vp_in (g2 100 0) 60 ∧ ∀ g3 : St, g3 = ar g2 3 (g2 100 0) x3 → vp_in (g3 100 0) 60 ∧ ∀ g4 : St, g4 = ar g3 4 (g3 100 0) x4 → vp_in (g4 100 0) 60 ∧ ∀ g5 : St, g5 = ar g4 5 (g4 100 0) x5 → ∀ g6 : St, g6 = sc g5 100 ((g5 100 0) + (1 : Int32)) → K ((g6 100 0) - (1 : Int32)) g6
def pb_Mo_split_46 (K : Int32 → St → Prop) (x1 : Int32) (x2 : Int32) (x3 : Int32) (x4 : Int32) (x5 : Int32) (t0 : Int32) (g : St) : Prop :=
  ∀ v1 : Int32, v1 = t0 → (((g 100 0) = (60 : Int32) → K (-1 : Int32) g) ∧ (¬ (g 100 0) = (60 : Int32) → ((¬ v1 = 0 → K (-1 : Int32) g) ∧ (v1 = 0 → (((4 : Int32) ≤ x1 → pb_Mo_split_78 K x1 x2 x3 x4 x5 v1 g) ∧ (¬ (4 : Int32) ≤ x1 → (((x3 &&& (2147483647 : Int32)) < (2139095040 : Int32) → pb_Mo_split_78 K x1 x2 x3 x4 x5 v1 g) ∧ (¬ (x3 &&& (2147483647 : Int32)) < (2139095040 : Int32) → K (-1 : Int32) g))))))))
def pb_Mo_split_41 (K : Int32 → St → Prop) (x1 : Int32) (x2 : Int32) (x3 : Int32) (x4 : Int32) (x5 : Int32) (g : St) : Prop :=
  pb_Mo_split_46 K x1 x2 x3 x4 x5 (1 : Int32) g
def pb_Mo_split_0 (K : Int32 → St → Prop) (x1 : Int32) (x2 : Int32) (x3 : Int32) (x4 : Int32) (x5 : Int32) (g : St) : Prop :=
  pc_Mo_outside x1 (0 : Int32) (5 : Int32) g (fun v2 g1 => ((¬ v2 = 0 → pb_Mo_split_41 K x1 x2 x3 x4 x5 g1) ∧ (v2 = 0 → pc_Mo_outside x2 (0 : Int32) (7 : Int32) g1 (fun v4 g3 => ((¬ v4 = 0 → pb_Mo_split_41 K x1 x2 x3 x4 x5 g3) ∧ (v4 = 0 → pc_Mo_outside x4 (0 : Int32) (59 : Int32) g3 (fun v6 g5 => ((¬ v6 = 0 → pb_Mo_split_41 K x1 x2 x3 x4 x5 g5) ∧ (v6 = 0 → pc_Mo_outside x5 (0 : Int32) (59 : Int32) g5 (fun v8 g7 => ((v8 = 0 → pb_Mo_split_46 K x1 x2 x3 x4 x5 (0 : Int32) g7) ∧ (¬ v8 = 0 → pb_Mo_split_41 K x1 x2 x3 x4 x5 g7))))))))))))
def pc_Mo_split (x1 : Int32) (x2 : Int32) (x3 : Int32) (x4 : Int32) (x5 : Int32) (g : St) (K : Int32 → St → Prop) : Prop := pb_Mo_split_0 K x1 x2 x3 x4 x5 g
def pb_Mo_tree_0 (K : Int32 → St → Prop) (x1 : Int32) (g : St) : Prop :=
  (((g 101 0) = (8 : Int32) → K (-1 : Int32) g) ∧ (¬ (g 101 0) = (8 : Int32) → pc_Mo_outside x1 (0 : Int32) ((g 100 0) - (1 : Int32)) g (fun v2 g1 => ((v2 = 0 → vp_in (g1 101 0) 8 ∧ ∀ g3 : St, g3 = ar g1 6 (g1 101 0) x1 → ∀ g4 : St, g4 = sc g3 101 ((g3 101 0) + (1 : Int32)) → K ((g4 101 0) - (1 : Int32)) g4) ∧ (¬ v2 = 0 → K (-1 : Int32) g1)))))
def pc_Mo_tree (x1 : Int32) (g : St) (K : Int32 → St → Prop) : Prop := pb_Mo_tree_0 K x1 g
def pb_Mo_wrong_63 (K : Int32 → St → Prop) (x1 : Int32) (x2 : Int32) (g : St) : Prop :=
  K ((100 : Int32) + x1) g
def pb_Mo_wrong_0 (K : Int32 → St → Prop) (x1 : Int32) (x2 : Int32) (g : St) : Prop :=
  vp_in x1 60 ∧ (((g 8 (x1).toNatClampNeg) = 0 → ((x2 ≤ (12 : Int32) → vp_in x1 60 ∧ (((g 1 (x1).toNatClampNeg) = (-1 : Int32) → K (0 : Int32) g) ∧ (¬ (g 1 (x1).toNatClampNeg) = (-1 : Int32) → vp_in x1 60 ∧ (((g 100 0) ≤ (g 4 (x1).toNatClampNeg) → pb_Mo_wrong_63 K x1 x2 g) ∧ (¬ (g 100 0) ≤ (g 4 (x1).toNatClampNeg) → vp_in x1 60 ∧ (((g 5 (x1).toNatClampNeg) < (g 100 0) → K (0 : Int32) g) ∧ (¬ (g 5 (x1).toNatClampNeg) < (g 100 0) → pb_Mo_wrong_63 K x1 x2 g))))))) ∧ (¬ x2 ≤ (12 : Int32) → K ((300 : Int32) + x1) g))) ∧ (¬ (g 8 (x1).toNatClampNeg) = 0 → K ((200 : Int32) + x1) g))
def pc_Mo_wrong (x1 : Int32) (x2 : Int32) (g : St) (K : Int32 → St → Prop) : Prop := pb_Mo_wrong_0 K x1 x2 g
def pb_Mo_fault_159 (K : Int32 → St → Prop) (P23 : Int32 → St → Prop) (P52 : Int32 → Int32 → St → Prop) (x1 : Int32) (x2 : Int32) (x3 : Int32) (x4 : Int32) (x5 : Int32) (g : St) : Prop :=
  P52 x1 x2 g
def pb_Mo_fault_52 (K : Int32 → St → Prop) (P23 : Int32 → St → Prop) (P52 : Int32 → Int32 → St → Prop) (x1 : Int32) (x2 : Int32) (g : St) : Prop :=
  ((x2 ≤ 0 → ∀ v1 : Int32, v1 = x1 + (1 : Int32) → P23 v1 g) ∧ (¬ x2 ≤ 0 → ∀ v2 : Int32, v2 = x2 + (-1 : Int32) → vp_in v2 64 ∧ ∀ v3 : Int32, v3 = (g 9 (v2).toNatClampNeg) → vp_in v2 64 ∧ ∀ v4 : Int32, v4 = (g 10 (v2).toNatClampNeg) → pc_Mo_wrong v3 v4 g (fun v6 g5 => ∀ v7 : Int32, v7 = v6 → ((v7 = 0 → vp_in v3 60 ∧ ∀ g8 : St, g8 = ar g5 8 v3 (1 : Int32) → vp_in v3 60 ∧ (((g8 1 (v3).toNatClampNeg) = (-1 : Int32) → pb_Mo_fault_159 K P23 P52 x1 v2 v3 v4 v7 g8) ∧ (¬ (g8 1 (v3).toNatClampNeg) = (-1 : Int32) → vp_in v3 60 ∧ vp_in v2 64 ∧ ∀ g9 : St, g9 = ar g8 9 v2 (g8 5 (v3).toNatClampNeg) → vp_in v2 64 ∧ ∀ g10 : St, g10 = ar g9 10 v2 (v4 + (1 : Int32)) → vp_in v3 60 ∧ vp_in (v2 + (1 : Int32)) 64 ∧ ∀ g11 : St, g11 = ar g10 9 (v2 + (1 : Int32)) (g10 4 (v3).toNatClampNeg) → vp_in (v2 + (1 : Int32)) 64 ∧ ∀ g12 : St, g12 = ar g11 10 (v2 + (1 : Int32)) (v4 + (1 : Int32)) → ∀ v13 : Int32, v13 = v2 + (2 : Int32) → pb_Mo_fault_159 K P23 P52 x1 v13 v3 v4 v7 g12))) ∧ (¬ v7 = 0 → K v7 g5)))))
def pl_Mo_fault_52 (K : Int32 → St → Prop) (P23 : Int32 → St → Prop) (x1 : Int32) (x2 : Int32) (g : St) : Prop :=
  ∀ P52 : Int32 → Int32 → St → Prop, (∀ (x1 : Int32) (x2 : Int32) (g : St), pb_Mo_fault_52 K P23 P52 x1 x2 g → P52 x1 x2 g) → P52 x1 x2 g
def pb_Mo_fault_23 (K : Int32 → St → Prop) (P23 : Int32 → St → Prop) (x1 : Int32) (g : St) : Prop :=
  (((g 101 0) ≤ x1 → K (0 : Int32) g) ∧ (¬ (g 101 0) ≤ x1 → ∀ v1 : Int32, v1 = (1 : Int32) → vp_in x1 8 ∧ vp_in (0 : Int32) 64 ∧ ∀ g2 : St, g2 = ar g 9 (0 : Int32) (g 6 (x1).toNatClampNeg) → vp_in (0 : Int32) 64 ∧ ∀ g3 : St, g3 = ar g2 10 (0 : Int32) (0 : Int32) → pl_Mo_fault_52 K P23 x1 v1 g3))
def pl_Mo_fault_23 (K : Int32 → St → Prop) (x1 : Int32) (g : St) : Prop :=
  ∀ P23 : Int32 → St → Prop, (∀ (x1 : Int32) (g : St), pb_Mo_fault_23 K P23 x1 g → P23 x1 g) → P23 x1 g
def pb_Mo_fault_2 (K : Int32 → St → Prop) (P2 : Int32 → St → Prop) (x1 : Int32) (g : St) : Prop :=
  (((60 : Int32) ≤ x1 → ∀ v1 : Int32, v1 = (0 : Int32) → pl_Mo_fault_23 K v1 g) ∧ (¬ (60 : Int32) ≤ x1 → vp_in x1 60 ∧ ∀ g2 : St, g2 = ar g 8 x1 (0 : Int32) → ∀ v3 : Int32, v3 = x1 + (1 : Int32) → P2 v3 g2))
def pl_Mo_fault_2 (K : Int32 → St → Prop) (x1 : Int32) (g : St) : Prop :=
  ∀ P2 : Int32 → St → Prop, (∀ (x1 : Int32) (g : St), pb_Mo_fault_2 K P2 x1 g → P2 x1 g) → P2 x1 g
def pb_Mo_fault_0 (K : Int32 → St → Prop) (g : St) : Prop :=
  ∀ v1 : Int32, v1 = (0 : Int32) → pl_Mo_fault_2 K v1 g
def pc_Mo_fault (g : St) (K : Int32 → St → Prop) : Prop := pb_Mo_fault_0 K g
def pb_Mo_part_0 (K : Int32 → St → Prop) (x1 : Int32) (g : St) : Prop :=
  vp_in x1 60 ∧ (((g 13 (x1).toNatClampNeg) < 0 → vp_in x1 60 ∧ K (g 12 (x1).toNatClampNeg) g) ∧ (¬ (g 13 (x1).toNatClampNeg) < 0 → K (3 : Int32) g))
def pc_Mo_part (x1 : Int32) (g : St) (K : Int32 → St → Prop) : Prop := pb_Mo_part_0 K x1 g
def pb_Mo_far_0 (K : Int32 → St → Prop) (x1 : Int32) (g : St) : Prop :=
  vp_in x1 60 ∧ pc_Mo_part (g 4 (x1).toNatClampNeg) g (fun v2 g1 => ∀ v3 : Int32, v3 = ((2 : Int32) + v2) → (((63 : Int32) < v3 → K (v3 + (1 : Int32)) g1) ∧ (¬ (63 : Int32) < v3 → K v3 g1)))
def pc_Mo_far (x1 : Int32) (g : St) (K : Int32 → St → Prop) : Prop := pb_Mo_far_0 K x1 g
def pb_Mo_bytesOf_0 (K : Int32 → St → Prop) (x1 : Int32) (g : St) : Prop :=
  pc_Mo_far x1 g (fun v2 g1 => vp_in x1 60 ∧ pc_Mo_part (g1 5 (x1).toNatClampNeg) g1 (fun v4 g3 => K (((4 : Int32) + v2) + v4) g3))
def pc_Mo_bytesOf (x1 : Int32) (g : St) (K : Int32 → St → Prop) : Prop := pb_Mo_bytesOf_0 K x1 g
def pb_Mo_newMethod_0 (K : St → Prop) (x1 : Int32) (g : St) : Prop :=
  vp_in (g 103 0) 62 ∧ ∀ g1 : St, g1 = ar g 16 (g 103 0) x1 → ∀ g2 : St, g2 = sc g1 103 ((g1 103 0) + (1 : Int32)) → K g2
def pc_Mo_newMethod (x1 : Int32) (g : St) (K : St → Prop) : Prop := pb_Mo_newMethod_0 K x1 g
def pb_Mo_cutOut_0 (K : St → Prop) (x1 : Int32) (g : St) : Prop :=
  vp_in x1 60 ∧ ∀ g1 : St, g1 = ar g 13 x1 (g 103 0) → pc_Mo_newMethod x1 g1 (fun g2 => K g2)
def pc_Mo_cutOut (x1 : Int32) (g : St) (K : St → Prop) : Prop := pb_Mo_cutOut_0 K x1 g
def pb_Mo_measure_118 (K : St → Prop) (x1 : Int32) (x2 : Int32) (g : St) : Prop :=
  pc_Mo_bytesOf x1 g (fun v2 g1 => vp_in x1 60 ∧ ∀ g3 : St, g3 = ar g1 12 x1 v2 → K g3)
def pb_Mo_measure_115 (K : St → Prop) (x1 : Int32) (x2 : Int32) (x3 : Int32) (t1 : Int32) (g : St) : Prop :=
  pc_Mo_cutOut t1 g (fun g1 => pb_Mo_measure_118 K x1 x2 g1)
def pb_Mo_measure_83 (K : St → Prop) (x1 : Int32) (x2 : Int32) (x3 : Int32) (t1 : Int32) (g : St) : Prop :=
  pc_Mo_cutOut t1 g (fun g1 => pc_Mo_bytesOf x1 g1 (fun v3 g2 => ((v3 ≤ x2 → pb_Mo_measure_118 K x1 x2 g2) ∧ (¬ v3 ≤ x2 → ((x3 = 0 → vp_in x1 60 ∧ pb_Mo_measure_115 K x1 x2 x3 (g2 4 (x1).toNatClampNeg) g2) ∧ (¬ x3 = 0 → vp_in x1 60 ∧ pb_Mo_measure_115 K x1 x2 x3 (g2 5 (x1).toNatClampNeg) g2))))))
def pb_Mo_measure_62 (K : St → Prop) (x1 : Int32) (x2 : Int32) (t0 : Int32) (g : St) : Prop :=
  ∀ v1 : Int32, v1 = t0 → ((v1 = 0 → vp_in x1 60 ∧ pb_Mo_measure_83 K x1 x2 v1 (g 5 (x1).toNatClampNeg) g) ∧ (¬ v1 = 0 → vp_in x1 60 ∧ pb_Mo_measure_83 K x1 x2 v1 (g 4 (x1).toNatClampNeg) g))
def pb_Mo_measure_0 (K : St → Prop) (x1 : Int32) (x2 : Int32) (g : St) : Prop :=
  vp_in x1 60 ∧ ∀ g1 : St, g1 = ar g 13 x1 (-1 : Int32) → vp_in x1 60 ∧ ((¬ (g1 1 (x1).toNatClampNeg) = (-1 : Int32) → pc_Mo_bytesOf x1 g1 (fun v3 g2 => ((v3 ≤ x2 → pb_Mo_measure_118 K x1 x2 g2) ∧ (¬ v3 ≤ x2 → vp_in x1 60 ∧ pc_Mo_part (g2 4 (x1).toNatClampNeg) g2 (fun v5 g4 => vp_in x1 60 ∧ pc_Mo_part (g4 5 (x1).toNatClampNeg) g4 (fun v7 g6 => ((v5 < v7 → pb_Mo_measure_62 K x1 x2 (0 : Int32) g6) ∧ (¬ v5 < v7 → pb_Mo_measure_62 K x1 x2 (1 : Int32) g6)))))))) ∧ ((g1 1 (x1).toNatClampNeg) = (-1 : Int32) → vp_in x1 60 ∧ ∀ g8 : St, g8 = ar g1 12 x1 (3 : Int32) → K g8))
def pc_Mo_measure (x1 : Int32) (x2 : Int32) (g : St) (K : St → Prop) : Prop := pb_Mo_measure_0 K x1 x2 g
def pb_Mo_cutTree_84 (K : St → Prop) (P12 : Int32 → Int32 → Int32 → Int32 → St → Prop) (x1 : Int32) (x2 : Int32) (x3 : Int32) (x4 : Int32) (x5 : Int32) (g : St) : Prop :=
  P12 x1 x2 x3 x4 g
def pb_Mo_cutTree_92 (K : St → Prop) (P92 : Int32 → Int32 → Int32 → Int32 → Int32 → St → Prop) (x1 : Int32) (x2 : Int32) (x3 : Int32) (x4 : Int32) (x5 : Int32) (g : St) : Prop :=
  ((x5 < 0 → pc_Mo_newMethod x1 g (fun g1 => K g1)) ∧ (¬ x5 < 0 → vp_in x5 64 ∧ pc_Mo_measure (g 11 (x5).toNatClampNeg) x2 g (fun g2 => ∀ v3 : Int32, v3 = x5 + (-1 : Int32) → P92 x1 x2 x3 x4 v3 g2)))
def pl_Mo_cutTree_92 (K : St → Prop) (x1 : Int32) (x2 : Int32) (x3 : Int32) (x4 : Int32) (x5 : Int32) (g : St) : Prop :=
  ∀ P92 : Int32 → Int32 → Int32 → Int32 → Int32 → St → Prop, (∀ (x1 : Int32) (x2 : Int32) (x3 : Int32) (x4 : Int32) (x5 : Int32) (g : St), pb_Mo_cutTree_92 K P92 x1 x2 x3 x4 x5 g → P92 x1 x2 x3 x4 x5 g) → P92 x1 x2 x3 x4 x5 g
def pb_Mo_cutTree_12 (K : St → Prop) (P12 : Int32 → Int32 → Int32 → Int32 → St → Prop) (x1 : Int32) (x2 : Int32) (x3 : Int32) (x4 : Int32) (g : St) : Prop :=
  ((x4 ≤ 0 → ∀ v1 : Int32, v1 = (x3 - (1 : Int32)) → pl_Mo_cutTree_92 K x1 x2 x3 x4 v1 g) ∧ (¬ x4 ≤ 0 → ∀ v2 : Int32, v2 = x4 + (-1 : Int32) → vp_in v2 64 ∧ ∀ v3 : Int32, v3 = (g 9 (v2).toNatClampNeg) → vp_in x3 64 ∧ ∀ g4 : St, g4 = ar g 11 x3 v3 → ∀ v5 : Int32, v5 = x3 + (1 : Int32) → vp_in v3 60 ∧ (((g4 1 (v3).toNatClampNeg) = (-1 : Int32) → pb_Mo_cutTree_84 K P12 x1 x2 v5 v2 v3 g4) ∧ (¬ (g4 1 (v3).toNatClampNeg) = (-1 : Int32) → vp_in v3 60 ∧ vp_in v2 64 ∧ ∀ g6 : St, g6 = ar g4 9 v2 (g4 4 (v3).toNatClampNeg) → vp_in v3 60 ∧ vp_in (v2 + (1 : Int32)) 64 ∧ ∀ g7 : St, g7 = ar g6 9 (v2 + (1 : Int32)) (g6 5 (v3).toNatClampNeg) → ∀ v8 : Int32, v8 = v2 + (2 : Int32) → pb_Mo_cutTree_84 K P12 x1 x2 v5 v8 v3 g7))))
def pl_Mo_cutTree_12 (K : St → Prop) (x1 : Int32) (x2 : Int32) (x3 : Int32) (x4 : Int32) (g : St) : Prop :=
  ∀ P12 : Int32 → Int32 → Int32 → Int32 → St → Prop, (∀ (x1 : Int32) (x2 : Int32) (x3 : Int32) (x4 : Int32) (g : St), pb_Mo_cutTree_12 K P12 x1 x2 x3 x4 g → P12 x1 x2 x3 x4 g) → P12 x1 x2 x3 x4 g
def pb_Mo_cutTree_0 (K : St → Prop) (x1 : Int32) (x2 : Int32) (g : St) : Prop :=
  ∀ v1 : Int32, v1 = (0 : Int32) → ∀ v2 : Int32, v2 = (1 : Int32) → vp_in (0 : Int32) 64 ∧ ∀ g3 : St, g3 = ar g 9 (0 : Int32) x1 → pl_Mo_cutTree_12 K x1 x2 v1 v2 g3
def pc_Mo_cutTree (x1 : Int32) (x2 : Int32) (g : St) (K : St → Prop) : Prop := pb_Mo_cutTree_0 K x1 x2 g
def pb_Mo_put_0 (K : St → Prop) (x1 : Int32) (g : St) : Prop :=
  vp_in (g 104 0) 700 ∧ ∀ g1 : St, g1 = ar g 17 (g 104 0) x1 → ∀ g2 : St, g2 = sc g1 104 ((g1 104 0) + (1 : Int32)) → K g2
def pc_Mo_put (x1 : Int32) (g : St) (K : St → Prop) : Prop := pb_Mo_put_0 K x1 g
def pb_Mo_entryFor_75 (K : Int32 → St → Prop) (x1 : Int32) (x2 : Int32) (x3 : Int32) (x4 : Int32) (g : St) : Prop :=
  K (x4 - x1) g
def pb_Mo_entryFor_40 (K : Int32 → St → Prop) (x1 : Int32) (x2 : Int32) (x3 : Int32) (x4 : Int32) (g : St) : Prop :=
  ((¬ x4 = (g 106 0) → pb_Mo_entryFor_75 K x1 x2 x3 x4 g) ∧ (x4 = (g 106 0) → vp_in x4 200 ∧ ∀ g1 : St, g1 = ar g 19 x4 x2 → vp_in x4 200 ∧ ∀ g2 : St, g2 = ar g1 20 x4 x3 → ∀ g3 : St, g3 = sc g2 106 ((g2 106 0) + (1 : Int32)) → pb_Mo_entryFor_75 K x1 x2 x3 x4 g3))
def pb_Mo_entryFor_34 (K : Int32 → St → Prop) (P3 : Int32 → Int32 → Int32 → Int32 → St → Prop) (x1 : Int32) (x2 : Int32) (x3 : Int32) (x4 : Int32) (g : St) : Prop :=
  ∀ v1 : Int32, v1 = x4 + (1 : Int32) → P3 x1 x2 x3 v1 g
def pb_Mo_entryFor_3 (K : Int32 → St → Prop) (P3 : Int32 → Int32 → Int32 → Int32 → St → Prop) (x1 : Int32) (x2 : Int32) (x3 : Int32) (x4 : Int32) (g : St) : Prop :=
  (((g 106 0) ≤ x4 → pb_Mo_entryFor_40 K x1 x2 x3 x4 g) ∧ (¬ (g 106 0) ≤ x4 → vp_in x4 200 ∧ ((¬ (g 19 (x4).toNatClampNeg) = x2 → pb_Mo_entryFor_34 K P3 x1 x2 x3 x4 g) ∧ ((g 19 (x4).toNatClampNeg) = x2 → vp_in x4 200 ∧ (((g 20 (x4).toNatClampNeg) = x3 → pb_Mo_entryFor_40 K x1 x2 x3 x4 g) ∧ (¬ (g 20 (x4).toNatClampNeg) = x3 → pb_Mo_entryFor_34 K P3 x1 x2 x3 x4 g))))))
def pl_Mo_entryFor_3 (K : Int32 → St → Prop) (x1 : Int32) (x2 : Int32) (x3 : Int32) (x4 : Int32) (g : St) : Prop :=
  ∀ P3 : Int32 → Int32 → Int32 → Int32 → St → Prop, (∀ (x1 : Int32) (x2 : Int32) (x3 : Int32) (x4 : Int32) (g : St), pb_Mo_entryFor_3 K P3 x1 x2 x3 x4 g → P3 x1 x2 x3 x4 g) → P3 x1 x2 x3 x4 g
def pb_Mo_entryFor_0 (K : Int32 → St → Prop) (x1 : Int32) (x2 : Int32) (x3 : Int32) (g : St) : Prop :=
  ∀ v1 : Int32, v1 = x1 → pl_Mo_entryFor_3 K x1 x2 x3 v1 g
def pc_Mo_entryFor (x1 : Int32) (x2 : Int32) (x3 : Int32) (g : St) (K : Int32 → St → Prop) : Prop := pb_Mo_entryFor_0 K x1 x2 x3 g
def pb_Mo_with_0 (K : St → Prop) (x1 : Int32) (x2 : Int32) (x3 : Int32) (x4 : Int32) (g : St) : Prop :=
  pc_Mo_put x1 g (fun g1 => pc_Mo_entryFor x2 x3 x4 g1 (fun v3 g2 => ∀ v4 : Int32, v4 = v3 → pc_Mo_put v4 g2 (fun g5 => K g5)))
def pc_Mo_with (x1 : Int32) (x2 : Int32) (x3 : Int32) (x4 : Int32) (g : St) (K : St → Prop) : Prop := pb_Mo_with_0 K x1 x2 x3 x4 g
def pb_Mo_write_263 (K : St → Prop) (P14 : Int32 → Int32 → Int32 → St → Prop) (x1 : Int32) (x2 : Int32) (x3 : Int32) (x4 : Int32) (g : St) : Prop :=
  P14 x1 x2 x3 g
def pb_Mo_write_222 (K : St → Prop) (P14 : Int32 → Int32 → Int32 → St → Prop) (x1 : Int32) (x2 : Int32) (x3 : Int32) (x4 : Int32) (x5 : Int32) (x6 : Int32) (g : St) : Prop :=
  ¬ (256 : Int32) = 0 ∧ pc_Mo_put (x5 - x5 / (256 : Int32) * (256 : Int32)) g (fun g1 => vp_in x4 60 ∧ vp_in x3 64 ∧ ∀ g2 : St, g2 = ar g1 9 x3 (g1 5 (x4).toNatClampNeg) → vp_in x4 60 ∧ vp_in (x3 + (1 : Int32)) 64 ∧ ∀ g3 : St, g3 = ar g2 9 (x3 + (1 : Int32)) (g2 4 (x4).toNatClampNeg) → ∀ v4 : Int32, v4 = x3 + (2 : Int32) → pb_Mo_write_263 K P14 x1 x2 v4 x4 g3)
def pb_Mo_write_196 (K : St → Prop) (P14 : Int32 → Int32 → Int32 → St → Prop) (x1 : Int32) (x2 : Int32) (x3 : Int32) (x4 : Int32) (x5 : Int32) (x6 : Int32) (t1 : Int32) (g : St) : Prop :=
  vp_in x4 60 ∧ pc_Mo_put (t1 + (g 1 (x4).toNatClampNeg)) g (fun g1 => ((¬ x6 = 0 → pb_Mo_write_222 K P14 x1 x2 x3 x4 x5 x6 g1) ∧ (x6 = 0 → ¬ (256 : Int32) = 0 ∧ pc_Mo_put (x5 / (256 : Int32)) g1 (fun g2 => pb_Mo_write_222 K P14 x1 x2 x3 x4 x5 x6 g2))))
def pb_Mo_write_181 (K : St → Prop) (P14 : Int32 → Int32 → Int32 → St → Prop) (x1 : Int32) (x2 : Int32) (x3 : Int32) (x4 : Int32) (x5 : Int32) (t0 : Int32) (g : St) : Prop :=
  ∀ v1 : Int32, v1 = t0 → ((v1 = 0 → pb_Mo_write_196 K P14 x1 x2 x3 x4 x5 v1 (20 : Int32) g) ∧ (¬ v1 = 0 → pb_Mo_write_196 K P14 x1 x2 x3 x4 x5 v1 (10 : Int32) g))
def pb_Mo_write_140 (K : St → Prop) (P14 : Int32 → Int32 → Int32 → St → Prop) (x1 : Int32) (x2 : Int32) (x3 : Int32) (x4 : Int32) (t1 : Int32) (t2 : Int32) (t3 : Int32) (g : St) : Prop :=
  vp_in x4 60 ∧ pc_Mo_with t1 t2 t3 (g 3 (x4).toNatClampNeg) g (fun g1 => pc_Mo_far x4 g1 (fun v3 g2 => ∀ v4 : Int32, v4 = v3 → vp_in x4 60 ∧ pc_Mo_part (g2 4 (x4).toNatClampNeg) g2 (fun v6 g5 => ((¬ v4 = ((2 : Int32) + v6) → pb_Mo_write_181 K P14 x1 x2 x3 x4 v4 (0 : Int32) g5) ∧ (v4 = ((2 : Int32) + v6) → pb_Mo_write_181 K P14 x1 x2 x3 x4 v4 (1 : Int32) g5)))))
def pb_Mo_write_72 (K : St → Prop) (P14 : Int32 → Int32 → Int32 → St → Prop) (x1 : Int32) (x2 : Int32) (x3 : Int32) (x4 : Int32) (g : St) : Prop :=
  vp_in x4 60 ∧ ((¬ (g 1 (x4).toNatClampNeg) = (-1 : Int32) → pc_Mo_put (1 : Int32) g (fun g1 => vp_in x4 60 ∧ pc_Mo_put (g1 2 (x4).toNatClampNeg) g1 (fun g2 => vp_in x4 60 ∧ (((4 : Int32) ≤ (g2 1 (x4).toNatClampNeg) → pb_Mo_write_140 K P14 x1 x2 x3 x4 (2 : Int32) x2 (3 : Int32) g2) ∧ (¬ (4 : Int32) ≤ (g2 1 (x4).toNatClampNeg) → pb_Mo_write_140 K P14 x1 x2 x3 x4 (2 : Int32) x2 (1 : Int32) g2))))) ∧ ((g 1 (x4).toNatClampNeg) = (-1 : Int32) → vp_in x4 60 ∧ pc_Mo_with (2 : Int32) x2 (2 : Int32) (g 3 (x4).toNatClampNeg) g (fun g3 => pc_Mo_put (3 : Int32) g3 (fun g4 => pb_Mo_write_263 K P14 x1 x2 x3 x4 g4))))
def pb_Mo_write_14 (K : St → Prop) (P14 : Int32 → Int32 → Int32 → St → Prop) (x1 : Int32) (x2 : Int32) (x3 : Int32) (g : St) : Prop :=
  ((x3 ≤ 0 → K g) ∧ (¬ x3 ≤ 0 → ∀ v1 : Int32, v1 = x3 + (-1 : Int32) → vp_in v1 64 ∧ ∀ v2 : Int32, v2 = (g 9 (v1).toNatClampNeg) → vp_in v2 60 ∧ (((g 13 (v2).toNatClampNeg) < 0 → pb_Mo_write_72 K P14 x1 x2 v1 v2 g) ∧ (¬ (g 13 (v2).toNatClampNeg) < 0 → vp_in x1 62 ∧ ((v2 = (g 16 (x1).toNatClampNeg) → pb_Mo_write_72 K P14 x1 x2 v1 v2 g) ∧ (¬ v2 = (g 16 (x1).toNatClampNeg) → vp_in v2 60 ∧ pc_Mo_with (4 : Int32) x2 (4 : Int32) (g 13 (v2).toNatClampNeg) g (fun g3 => pc_Mo_put (3 : Int32) g3 (fun g4 => pb_Mo_write_263 K P14 x1 x2 v1 v2 g4))))))))
def pl_Mo_write_14 (K : St → Prop) (x1 : Int32) (x2 : Int32) (x3 : Int32) (g : St) : Prop :=
  ∀ P14 : Int32 → Int32 → Int32 → St → Prop, (∀ (x1 : Int32) (x2 : Int32) (x3 : Int32) (g : St), pb_Mo_write_14 K P14 x1 x2 x3 g → P14 x1 x2 x3 g) → P14 x1 x2 x3 g
def pb_Mo_write_0 (K : St → Prop) (x1 : Int32) (x2 : Int32) (g : St) : Prop :=
  ∀ v1 : Int32, v1 = (1 : Int32) → vp_in x1 62 ∧ vp_in (0 : Int32) 64 ∧ ∀ g2 : St, g2 = ar g 9 (0 : Int32) (g 16 (x1).toNatClampNeg) → pl_Mo_write_14 K x1 x2 v1 g2
def pc_Mo_write (x1 : Int32) (x2 : Int32) (g : St) (K : St → Prop) : Prop := pb_Mo_write_0 K x1 x2 g
def pb_Mo_writeAll_148 (K : St → Prop) (P17 : Int32 → Int32 → St → Prop) (x1 : Int32) (x2 : Int32) (x3 : Int32) (x4 : Int32) (g : St) : Prop :=
  vp_in x2 62 ∧ ∀ g1 : St, g1 = ar g 15 x2 ((g 105 0) - (1 : Int32)) → ∀ v2 : Int32, v2 = x2 + (1 : Int32) → P17 x1 v2 g1
def pb_Mo_writeAll_102 (K : St → Prop) (P17 : Int32 → Int32 → St → Prop) (x1 : Int32) (x2 : Int32) (x3 : Int32) (x4 : Int32) (g : St) : Prop :=
  ((¬ x4 = 0 → pb_Mo_writeAll_148 K P17 x1 x2 x3 x4 g) ∧ (x4 = 0 → vp_in x2 62 ∧ ∀ g1 : St, g1 = sc g 104 (g 14 (x2).toNatClampNeg) → ∀ g2 : St, g2 = sc g1 106 x3 → vp_in (g2 105 0) 62 ∧ ∀ g3 : St, g3 = ar g2 18 (g2 105 0) x3 → ∀ g4 : St, g4 = sc g3 105 ((g3 105 0) + (1 : Int32)) → pc_Mo_write x2 x3 g4 (fun g5 => pb_Mo_writeAll_148 K P17 x1 x2 x3 x4 g5)))
def pb_Mo_writeAll_100 (K : St → Prop) (P17 : Int32 → Int32 → St → Prop) (x1 : Int32) (x2 : Int32) (x3 : Int32) (x4 : Int32) (t0 : Int32) (g : St) : Prop :=
  ∀ v1 : Int32, v1 = t0 → pb_Mo_writeAll_102 K P17 x1 x2 x3 v1 g
def pb_Mo_writeAll_52 (K : St → Prop) (P17 : Int32 → Int32 → St → Prop) (x1 : Int32) (x2 : Int32) (x3 : Int32) (t0 : Int32) (g : St) : Prop :=
  ∀ v1 : Int32, v1 = t0 → ((v1 = 0 → pb_Mo_writeAll_102 K P17 x1 x2 x3 v1 g) ∧ (¬ v1 = 0 → vp_in ((g 105 0) - (1 : Int32)) 62 ∧ pc_Mo_write x2 (g 18 (((g 105 0) - (1 : Int32))).toNatClampNeg) g (fun g2 => vp_in ((g2 105 0) - (1 : Int32)) 62 ∧ ((x1 < ((g2 106 0) - (g2 18 (((g2 105 0) - (1 : Int32))).toNatClampNeg)) → pb_Mo_writeAll_100 K P17 x1 x2 x3 v1 (0 : Int32) g2) ∧ (¬ x1 < ((g2 106 0) - (g2 18 (((g2 105 0) - (1 : Int32))).toNatClampNeg)) → pb_Mo_writeAll_100 K P17 x1 x2 x3 v1 (1 : Int32) g2)))))
def pb_Mo_writeAll_17 (K : St → Prop) (P17 : Int32 → Int32 → St → Prop) (x1 : Int32) (x2 : Int32) (g : St) : Prop :=
  (((g 103 0) ≤ x2 → vp_in (g 103 0) 62 ∧ ∀ g1 : St, g1 = ar g 14 (g 103 0) (g 104 0) → vp_in (g1 105 0) 62 ∧ ∀ g2 : St, g2 = ar g1 18 (g1 105 0) (g1 106 0) → K g2) ∧ (¬ (g 103 0) ≤ x2 → vp_in x2 62 ∧ ∀ g3 : St, g3 = ar g 14 x2 (g 104 0) → ∀ v4 : Int32, v4 = (g3 106 0) → (((g3 105 0) ≤ 0 → pb_Mo_writeAll_52 K P17 x1 x2 v4 (0 : Int32) g3) ∧ (¬ (g3 105 0) ≤ 0 → pb_Mo_writeAll_52 K P17 x1 x2 v4 (1 : Int32) g3))))
def pl_Mo_writeAll_17 (K : St → Prop) (x1 : Int32) (x2 : Int32) (g : St) : Prop :=
  ∀ P17 : Int32 → Int32 → St → Prop, (∀ (x1 : Int32) (x2 : Int32) (g : St), pb_Mo_writeAll_17 K P17 x1 x2 g → P17 x1 x2 g) → P17 x1 x2 g
def pb_Mo_writeAll_0 (K : St → Prop) (x1 : Int32) (g : St) : Prop :=
  ∀ g1 : St, g1 = sc g 104 (0 : Int32) → ∀ g2 : St, g2 = sc g1 106 (0 : Int32) → ∀ g3 : St, g3 = sc g2 105 (0 : Int32) → ∀ v4 : Int32, v4 = (0 : Int32) → pl_Mo_writeAll_17 K x1 v4 g3
def pc_Mo_writeAll (x1 : Int32) (g : St) (K : St → Prop) : Prop := pb_Mo_writeAll_0 K x1 g
def pb_Mo_compile_60 (K : Int32 → St → Prop) (P60 : Int32 → Int32 → Int32 → Int32 → St → Prop) (x1 : Int32) (x2 : Int32) (x3 : Int32) (x4 : Int32) (g : St) : Prop :=
  (((g 101 0) ≤ x4 → ∀ g1 : St, g1 = sc g 102 (g 101 0) → pc_Mo_writeAll x2 g1 (fun g2 => K (g2 103 0) g2)) ∧ (¬ (g 101 0) ≤ x4 → vp_in x4 8 ∧ pc_Mo_cutTree (g 6 (x4).toNatClampNeg) x1 g (fun g3 => ∀ v4 : Int32, v4 = x4 + (1 : Int32) → P60 x1 x2 x3 v4 g3)))
def pl_Mo_compile_60 (K : Int32 → St → Prop) (x1 : Int32) (x2 : Int32) (x3 : Int32) (x4 : Int32) (g : St) : Prop :=
  ∀ P60 : Int32 → Int32 → Int32 → Int32 → St → Prop, (∀ (x1 : Int32) (x2 : Int32) (x3 : Int32) (x4 : Int32) (g : St), pb_Mo_compile_60 K P60 x1 x2 x3 x4 g → P60 x1 x2 x3 x4 g) → P60 x1 x2 x3 x4 g
def pb_Mo_compile_31 (K : Int32 → St → Prop) (x1 : Int32) (x2 : Int32) (g : St) : Prop :=
  ((¬ (g 101 0) = 0 → pc_Mo_fault g (fun v2 g1 => ∀ v3 : Int32, v3 = v2 → ((v3 = 0 → ∀ g4 : St, g4 = sc g1 103 (0 : Int32) → ∀ v5 : Int32, v5 = (0 : Int32) → pl_Mo_compile_60 K x1 x2 v3 v5 g4) ∧ (¬ v3 = 0 → K (- v3) g1)))) ∧ ((g 101 0) = 0 → K (-1 : Int32) g))
def pb_Mo_compile_0 (K : Int32 → St → Prop) (x1 : Int32) (x2 : Int32) (g : St) : Prop :=
  pc_Mo_outside x1 (20 : Int32) (400 : Int32) g (fun v2 g1 => ((¬ v2 = 0 → K (-1 : Int32) g1) ∧ (v2 = 0 → (((60 : Int32) < x2 → K (-1 : Int32) g1) ∧ (¬ (60 : Int32) < x2 → (((60 : Int32) ≤ x2 → pb_Mo_compile_31 K x1 x2 g1) ∧ (¬ (60 : Int32) ≤ x2 → ¬ (4 : Int32) = 0 ∧ ((x2 < (x1 / (4 : Int32)) → K (-1 : Int32) g1) ∧ (¬ x2 < (x1 / (4 : Int32)) → pb_Mo_compile_31 K x1 x2 g1)))))))))
def pc_Mo_compile (x1 : Int32) (x2 : Int32) (g : St) (K : Int32 → St → Prop) : Prop := pb_Mo_compile_0 K x1 x2 g
def pb_Mo_isMethod_0 (K : Int32 → St → Prop) (x1 : Int32) (g : St) : Prop :=
  ((x1 < 0 → K (0 : Int32) g) ∧ (¬ x1 < 0 → (((g 103 0) ≤ x1 → K (0 : Int32) g) ∧ (¬ (g 103 0) ≤ x1 → K (1 : Int32) g))))
def pc_Mo_isMethod (x1 : Int32) (g : St) (K : Int32 → St → Prop) : Prop := pb_Mo_isMethod_0 K x1 g
def pb_Mo_methods_0 (K : Int32 → St → Prop) (g : St) : Prop :=
  K (g 103 0) g
def pc_Mo_methods (g : St) (K : Int32 → St → Prop) : Prop := pb_Mo_methods_0 K g
def pb_Mo_length_0 (K : Int32 → St → Prop) (x1 : Int32) (g : St) : Prop :=
  pc_Mo_isMethod x1 g (fun v2 g1 => ((v2 = 0 → K (-1 : Int32) g1) ∧ (¬ v2 = 0 → vp_in (x1 + (1 : Int32)) 62 ∧ vp_in x1 62 ∧ K ((g1 14 ((x1 + (1 : Int32))).toNatClampNeg) - (g1 14 (x1).toNatClampNeg)) g1)))
def pc_Mo_length (x1 : Int32) (g : St) (K : Int32 → St → Prop) : Prop := pb_Mo_length_0 K x1 g
def pb_Mo_byteAt_0 (K : Int32 → St → Prop) (x1 : Int32) (x2 : Int32) (g : St) : Prop :=
  pc_Mo_isMethod x1 g (fun v2 g1 => ((v2 = 0 → K (-1 : Int32) g1) ∧ (¬ v2 = 0 → ((x2 < 0 → K (-1 : Int32) g1) ∧ (¬ x2 < 0 → vp_in (x1 + (1 : Int32)) 62 ∧ vp_in x1 62 ∧ ((((g1 14 ((x1 + (1 : Int32))).toNatClampNeg) - (g1 14 (x1).toNatClampNeg)) ≤ x2 → K (-1 : Int32) g1) ∧ (¬ ((g1 14 ((x1 + (1 : Int32))).toNatClampNeg) - (g1 14 (x1).toNatClampNeg)) ≤ x2 → vp_in x1 62 ∧ vp_in ((g1 14 (x1).toNatClampNeg) + x2) 700 ∧ K (g1 17 (((g1 14 (x1).toNatClampNeg) + x2)).toNatClampNeg) g1)))))))
def pc_Mo_byteAt (x1 : Int32) (x2 : Int32) (g : St) (K : Int32 → St → Prop) : Prop := pb_Mo_byteAt_0 K x1 x2 g
def pb_Mo_classOf_0 (K : Int32 → St → Prop) (x1 : Int32) (g : St) : Prop :=
  pc_Mo_isMethod x1 g (fun v2 g1 => ((v2 = 0 → K (-1 : Int32) g1) ∧ (¬ v2 = 0 → vp_in x1 62 ∧ K (g1 15 (x1).toNatClampNeg) g1)))
def pc_Mo_classOf (x1 : Int32) (g : St) (K : Int32 → St → Prop) : Prop := pb_Mo_classOf_0 K x1 g
def pb_Mo_classes_0 (K : Int32 → St → Prop) (g : St) : Prop :=
  K (g 105 0) g
def pc_Mo_classes (g : St) (K : Int32 → St → Prop) : Prop := pb_Mo_classes_0 K g
def pb_Mo_entries_0 (K : Int32 → St → Prop) (x1 : Int32) (g : St) : Prop :=
  ((x1 < 0 → K (-1 : Int32) g) ∧ (¬ x1 < 0 → (((g 105 0) ≤ x1 → K (-1 : Int32) g) ∧ (¬ (g 105 0) ≤ x1 → vp_in (x1 + (1 : Int32)) 62 ∧ vp_in x1 62 ∧ K ((g 18 ((x1 + (1 : Int32))).toNatClampNeg) - (g 18 (x1).toNatClampNeg)) g))))
def pc_Mo_entries (x1 : Int32) (g : St) (K : Int32 → St → Prop) : Prop := pb_Mo_entries_0 K x1 g
def pb_Mo_entry_0 (K : Int64 → St → Prop) (x1 : Int32) (x2 : Int32) (g : St) : Prop :=
  ((x1 < 0 → K (-1 : Int64) g) ∧ (¬ x1 < 0 → (((g 105 0) ≤ x1 → K (-1 : Int64) g) ∧ (¬ (g 105 0) ≤ x1 → ((x2 < 0 → K (-1 : Int64) g) ∧ (¬ x2 < 0 → vp_in (x1 + (1 : Int32)) 62 ∧ vp_in x1 62 ∧ ((x2 < ((g 18 ((x1 + (1 : Int32))).toNatClampNeg) - (g 18 (x1).toNatClampNeg)) → vp_in x1 62 ∧ vp_in ((g 18 (x1).toNatClampNeg) + x2) 200 ∧ vp_in x1 62 ∧ vp_in ((g 18 (x1).toNatClampNeg) + x2) 200 ∧ K ((((g 19 (((g 18 (x1).toNatClampNeg) + x2)).toNatClampNeg)).toInt64 * (4294967296 : Int64)) + (((g 20 (((g 18 (x1).toNatClampNeg) + x2)).toNatClampNeg)).toInt64 &&& (4294967295 : Int64))) g) ∧ (¬ x2 < ((g 18 ((x1 + (1 : Int32))).toNatClampNeg) - (g 18 (x1).toNatClampNeg)) → K (-1 : Int64) g))))))))
def pc_Mo_entry (x1 : Int32) (x2 : Int32) (g : St) (K : Int64 → St → Prop) : Prop := pb_Mo_entry_0 K x1 x2 g
def pb_Mo_set_0 (K : Int32 → St → Prop) (x1 : Int32) (x2 : Int32) (g : St) : Prop :=
  pc_Mo_outside x1 (0 : Int32) (7 : Int32) g (fun v2 g1 => ((v2 = 0 → vp_in x1 8 ∧ ∀ g3 : St, g3 = ar g1 7 x1 x2 → K (1 : Int32) g3) ∧ (¬ v2 = 0 → K (0 : Int32) g1)))
def pc_Mo_set (x1 : Int32) (x2 : Int32) (g : St) (K : Int32 → St → Prop) : Prop := pb_Mo_set_0 K x1 x2 g
def pb_Mo_ordered_0 (K : Int32 → St → Prop) (x0 : Int32) (g : St) : Prop :=
  ((x0 < 0 → K (- (x0 &&& (2147483647 : Int32))) g) ∧ (¬ x0 < 0 → K x0 g))
def pc_Mo_ordered (x0 : Int32) (g : St) (K : Int32 → St → Prop) : Prop := pb_Mo_ordered_0 K x0 g
def pb_Mo_whole_2 (K : Int32 → St → Prop) (P2 : Int32 → Int32 → St → Prop) (x0 : Int32) (x1 : Int32) (g : St) : Prop :=
  ((x0 < ((2 : Int32) <<< (x1 &&& 31)) → K (((((127 : Int32) + x1) * (8388608 : Int32)) + (x0 * ((8388608 : Int32) >>> (x1 &&& 31)))) - (8388608 : Int32)) g) ∧ (¬ x0 < ((2 : Int32) <<< (x1 &&& 31)) → ∀ v1 : Int32, v1 = x1 + (1 : Int32) → P2 x0 v1 g))
def pl_Mo_whole_2 (K : Int32 → St → Prop) (x0 : Int32) (x1 : Int32) (g : St) : Prop :=
  ∀ P2 : Int32 → Int32 → St → Prop, (∀ (x0 : Int32) (x1 : Int32) (g : St), pb_Mo_whole_2 K P2 x0 x1 g → P2 x0 x1 g) → P2 x0 x1 g
def pb_Mo_whole_0 (K : Int32 → St → Prop) (x0 : Int32) (g : St) : Prop :=
  ∀ v1 : Int32, v1 = (0 : Int32) → pl_Mo_whole_2 K x0 v1 g
def pc_Mo_whole (x0 : Int32) (g : St) (K : Int32 → St → Prop) : Prop := pb_Mo_whole_0 K x0 g
def pb_Mo_goesToYes_165 (K : Int32 → St → Prop) (P124 : Int32 → Int32 → Int32 → Int32 → Int32 → St → Prop) (x1 : Int32) (x2 : Int32) (x3 : Int32) (x4 : Int32) (x5 : Int32) (t0 : Int32) (g : St) : Prop :=
  ∀ v1 : Int32, v1 = t0 → ∀ v2 : Int32, v2 = x5 + (1 : Int32) → P124 x1 x2 x3 v1 v2 g
def pb_Mo_goesToYes_160 (K : Int32 → St → Prop) (P124 : Int32 → Int32 → Int32 → Int32 → Int32 → St → Prop) (x1 : Int32) (x2 : Int32) (x3 : Int32) (x4 : Int32) (x5 : Int32) (g : St) : Prop :=
  pb_Mo_goesToYes_165 K P124 x1 x2 x3 x4 x5 (1 : Int32) g
def pb_Mo_goesToYes_164 (K : Int32 → St → Prop) (P124 : Int32 → Int32 → Int32 → Int32 → Int32 → St → Prop) (x1 : Int32) (x2 : Int32) (x3 : Int32) (x4 : Int32) (x5 : Int32) (g : St) : Prop :=
  pb_Mo_goesToYes_165 K P124 x1 x2 x3 x4 x5 (0 : Int32) g
def pb_Mo_goesToYes_124 (K : Int32 → St → Prop) (P124 : Int32 → Int32 → Int32 → Int32 → Int32 → St → Prop) (x1 : Int32) (x2 : Int32) (x3 : Int32) (x4 : Int32) (x5 : Int32) (g : St) : Prop :=
  (((32 : Int32) ≤ x5 → (x4 = 0 ∨ x4 = 1) ∧ K x4 g) ∧ (¬ (32 : Int32) ≤ x5 → ((¬ x4 = 0 → pb_Mo_goesToYes_160 K P124 x1 x2 x3 x4 x5 g) ∧ (x4 = 0 → vp_in x1 60 ∧ ((¬ ((((g 3 (x1).toNatClampNeg)).toUInt32 >>> ((x5).toUInt32 &&& Int32.toUInt32 31)).toInt32 &&& (1 : Int32)) = (1 : Int32) → pb_Mo_goesToYes_164 K P124 x1 x2 x3 x4 x5 g) ∧ (((((g 3 (x1).toNatClampNeg)).toUInt32 >>> ((x5).toUInt32 &&& Int32.toUInt32 31)).toInt32 &&& (1 : Int32)) = (1 : Int32) → pc_Mo_whole x5 g (fun v2 g1 => ((¬ x2 = v2 → pb_Mo_goesToYes_164 K P124 x1 x2 x3 x4 x5 g1) ∧ (x2 = v2 → pb_Mo_goesToYes_160 K P124 x1 x2 x3 x4 x5 g1)))))))))
def pl_Mo_goesToYes_124 (K : Int32 → St → Prop) (x1 : Int32) (x2 : Int32) (x3 : Int32) (x4 : Int32) (x5 : Int32) (g : St) : Prop :=
  ∀ P124 : Int32 → Int32 → Int32 → Int32 → Int32 → St → Prop, (∀ (x1 : Int32) (x2 : Int32) (x3 : Int32) (x4 : Int32) (x5 : Int32) (g : St), pb_Mo_goesToYes_124 K P124 x1 x2 x3 x4 x5 g → P124 x1 x2 x3 x4 x5 g) → P124 x1 x2 x3 x4 x5 g
def pb_Mo_goesToYes_119 (K : Int32 → St → Prop) (x1 : Int32) (x2 : Int32) (x3 : Int32) (t0 : Int32) (g : St) : Prop :=
  ∀ v1 : Int32, v1 = t0 → ∀ v2 : Int32, v2 = (1 : Int32) → pl_Mo_goesToYes_124 K x1 x2 x3 v1 v2 g
def pb_Mo_goesToYes_118 (K : Int32 → St → Prop) (x1 : Int32) (x2 : Int32) (x3 : Int32) (g : St) : Prop :=
  pb_Mo_goesToYes_119 K x1 x2 x3 (0 : Int32) g
def pb_Mo_goesToYes_0 (K : Int32 → St → Prop) (x1 : Int32) (g : St) : Prop :=
  vp_in x1 60 ∧ vp_in (g 2 (x1).toNatClampNeg) 8 ∧ ∀ v1 : Int32, v1 = (g 7 ((g 2 (x1).toNatClampNeg)).toNatClampNeg) → vp_in x1 60 ∧ ∀ v2 : Int32, v2 = (g 1 (x1).toNatClampNeg) → (((v1 &&& (2147483647 : Int32)) ≤ (2139095040 : Int32) → (((2 : Int32) ≤ v2 → (((4 : Int32) ≤ v2 → vp_in x1 60 ∧ ((¬ ((g 3 (x1).toNatClampNeg) &&& (1 : Int32)) = (1 : Int32) → pb_Mo_goesToYes_118 K x1 v1 v2 g) ∧ (((g 3 (x1).toNatClampNeg) &&& (1 : Int32)) = (1 : Int32) → ((¬ (v1 &&& (2147483647 : Int32)) = 0 → pb_Mo_goesToYes_118 K x1 v1 v2 g) ∧ ((v1 &&& (2147483647 : Int32)) = 0 → pb_Mo_goesToYes_119 K x1 v1 v2 (1 : Int32) g))))) ∧ (¬ (4 : Int32) ≤ v2 → pc_Mo_ordered v1 g (fun v4 g3 => vp_in x1 60 ∧ pc_Mo_ordered (g3 3 (x1).toNatClampNeg) g3 (fun v6 g5 => ((v6 < v4 → K (0 : Int32) g5) ∧ (¬ v6 < v4 → K (1 : Int32) g5))))))) ∧ (¬ (2 : Int32) ≤ v2 → pc_Mo_ordered v1 g (fun v8 g7 => vp_in x1 60 ∧ pc_Mo_ordered (g7 3 (x1).toNatClampNeg) g7 (fun v10 g9 => ((v10 ≤ v8 → K (0 : Int32) g9) ∧ (¬ v10 ≤ v8 → K (1 : Int32) g9))))))) ∧ (¬ (v1 &&& (2147483647 : Int32)) ≤ (2139095040 : Int32) → ((¬ (v2 &&& (1 : Int32)) = (1 : Int32) → K (0 : Int32) g) ∧ ((v2 &&& (1 : Int32)) = (1 : Int32) → K (1 : Int32) g))))
def pc_Mo_goesToYes (x1 : Int32) (g : St) (K : Int32 → St → Prop) : Prop := pb_Mo_goesToYes_0 K x1 g
def pb_Mo_reach_54 (K : Int32 → St → Prop) (P21 : Int32 → Int32 → St → Prop) (x1 : Int32) (x2 : Int32) (t0 : Int32) (g : St) : Prop :=
  ∀ v1 : Int32, v1 = t0 → P21 x1 v1 g
def pb_Mo_reach_21 (K : Int32 → St → Prop) (P21 : Int32 → Int32 → St → Prop) (x1 : Int32) (x2 : Int32) (g : St) : Prop :=
  vp_in x2 60 ∧ (((g 1 (x2).toNatClampNeg) = (-1 : Int32) → K x2 g) ∧ (¬ (g 1 (x2).toNatClampNeg) = (-1 : Int32) → pc_Mo_goesToYes x2 g (fun v2 g1 => ((v2 = 0 → vp_in x2 60 ∧ pb_Mo_reach_54 K P21 x1 x2 (g1 5 (x2).toNatClampNeg) g1) ∧ (¬ v2 = 0 → vp_in x2 60 ∧ pb_Mo_reach_54 K P21 x1 x2 (g1 4 (x2).toNatClampNeg) g1)))))
def pl_Mo_reach_21 (K : Int32 → St → Prop) (x1 : Int32) (x2 : Int32) (g : St) : Prop :=
  ∀ P21 : Int32 → Int32 → St → Prop, (∀ (x1 : Int32) (x2 : Int32) (g : St), pb_Mo_reach_21 K P21 x1 x2 g → P21 x1 x2 g) → P21 x1 x2 g
def pb_Mo_reach_0 (K : Int32 → St → Prop) (x1 : Int32) (g : St) : Prop :=
  ((x1 < 0 → K (-1 : Int32) g) ∧ (¬ x1 < 0 → ((x1 < (g 102 0) → vp_in x1 8 ∧ ∀ v1 : Int32, v1 = (g 6 (x1).toNatClampNeg) → pl_Mo_reach_21 K x1 v1 g) ∧ (¬ x1 < (g 102 0) → K (-1 : Int32) g))))
def pc_Mo_reach (x1 : Int32) (g : St) (K : Int32 → St → Prop) : Prop := pb_Mo_reach_0 K x1 g
def pb_Mo_predict_117 (K : Int64 → St → Prop) (P14 : Int64 → Int32 → St → Prop) (P30 : Int64 → Int32 → Int32 → St → Prop) (x1 : Int64) (x3 : Int32) (x4 : Int32) (t1 : Int32) (g : St) : Prop :=
  ∀ g1 : St, g1 = sc g 108 t1 → P30 x1 x3 x4 g1
def pb_Mo_predict_89 (K : Int64 → St → Prop) (P14 : Int64 → Int32 → St → Prop) (P30 : Int64 → Int32 → Int32 → St → Prop) (x1 : Int64) (x3 : Int32) (x4 : Int32) (t1 : Int32) (t2 : Int32) (g : St) : Prop :=
  ∀ g1 : St, g1 = sc g 107 (t1 + t2) → vp_in x4 60 ∧ (((g1 13 (x4).toNatClampNeg) < 0 → pb_Mo_predict_117 K P14 P30 x1 x3 x4 (g1 108 0) g1) ∧ (¬ (g1 13 (x4).toNatClampNeg) < 0 → pb_Mo_predict_117 K P14 P30 x1 x3 x4 ((g1 108 0) + (1 : Int32)) g1))
def pb_Mo_predict_67 (K : Int64 → St → Prop) (P14 : Int64 → Int32 → St → Prop) (P30 : Int64 → Int32 → Int32 → St → Prop) (x1 : Int64) (x3 : Int32) (x4 : Int32) (t0 : Int32) (g : St) : Prop :=
  ∀ v1 : Int32, v1 = t0 → vp_in v1 60 ∧ (((g 13 (v1).toNatClampNeg) < 0 → pb_Mo_predict_89 K P14 P30 x1 x3 v1 (g 107 0) (3 : Int32) g) ∧ (¬ (g 13 (v1).toNatClampNeg) < 0 → pb_Mo_predict_89 K P14 P30 x1 x3 v1 (g 107 0) (5 : Int32) g))
def pb_Mo_predict_30 (K : Int64 → St → Prop) (P14 : Int64 → Int32 → St → Prop) (P30 : Int64 → Int32 → Int32 → St → Prop) (x1 : Int64) (x3 : Int32) (x4 : Int32) (g : St) : Prop :=
  vp_in x4 60 ∧ (((g 1 (x4).toNatClampNeg) = (-1 : Int32) → ∀ g1 : St, g1 = sc g 107 ((g 107 0) + (2 : Int32)) → vp_in x4 60 ∧ ∀ v2 : Int64, v2 = (x1 + ((g1 3 (x4).toNatClampNeg)).toInt64) → ∀ v3 : Int32, v3 = x3 + (1 : Int32) → P14 v2 v3 g1) ∧ (¬ (g 1 (x4).toNatClampNeg) = (-1 : Int32) → pc_Mo_goesToYes x4 g (fun v5 g4 => ((v5 = 0 → vp_in x4 60 ∧ pb_Mo_predict_67 K P14 P30 x1 x3 x4 (g4 5 (x4).toNatClampNeg) g4) ∧ (¬ v5 = 0 → vp_in x4 60 ∧ pb_Mo_predict_67 K P14 P30 x1 x3 x4 (g4 4 (x4).toNatClampNeg) g4)))))
def pl_Mo_predict_30 (K : Int64 → St → Prop) (P14 : Int64 → Int32 → St → Prop) (x1 : Int64) (x3 : Int32) (x4 : Int32) (g : St) : Prop :=
  ∀ P30 : Int64 → Int32 → Int32 → St → Prop, (∀ (x1 : Int64) (x3 : Int32) (x4 : Int32) (g : St), pb_Mo_predict_30 K P14 P30 x1 x3 x4 g → P30 x1 x3 x4 g) → P30 x1 x3 x4 g
def pb_Mo_predict_14 (K : Int64 → St → Prop) (P14 : Int64 → Int32 → St → Prop) (x1 : Int64) (x3 : Int32) (g : St) : Prop :=
  (((g 102 0) ≤ x3 → K x1 g) ∧ (¬ (g 102 0) ≤ x3 → vp_in x3 8 ∧ ∀ v1 : Int32, v1 = (g 6 (x3).toNatClampNeg) → pl_Mo_predict_30 K P14 x1 x3 v1 g))
def pl_Mo_predict_14 (K : Int64 → St → Prop) (x1 : Int64) (x3 : Int32) (g : St) : Prop :=
  ∀ P14 : Int64 → Int32 → St → Prop, (∀ (x1 : Int64) (x3 : Int32) (g : St), pb_Mo_predict_14 K P14 x1 x3 g → P14 x1 x3 g) → P14 x1 x3 g
def pb_Mo_predict_0 (K : Int64 → St → Prop) (g : St) : Prop :=
  ∀ v1 : Int64, v1 = (0 : Int64) → ∀ g2 : St, g2 = sc g 107 (0 : Int32) → ∀ g3 : St, g3 = sc g2 108 (0 : Int32) → ∀ v4 : Int32, v4 = (0 : Int32) → pl_Mo_predict_14 K v1 v4 g3
def pc_Mo_predict (g : St) (K : Int64 → St → Prop) : Prop := pb_Mo_predict_0 K g
def pb_Mo_steps_0 (K : Int32 → St → Prop) (g : St) : Prop :=
  K (g 107 0) g
def pc_Mo_steps (g : St) (K : Int32 → St → Prop) : Prop := pb_Mo_steps_0 K g
def pb_Mo_calls_0 (K : Int32 → St → Prop) (g : St) : Prop :=
  K (g 108 0) g
def pc_Mo_calls (g : St) (K : Int32 → St → Prop) : Prop := pb_Mo_calls_0 K g
end
section
def R_BF : String := "BranchForge"
def F_BF : u_T := fun k => match k with
  | 0 => ("BranchForge", "features", "[I", true)
  | 1 => ("BranchForge", "forest", "LBranchForge$Forest;", true)
  | 2 => ("BranchForge", "checker", "LBranchForge$Checker;", true)
  | 3 => ("BranchForge", "cutter", "LBranchForge$Cutter;", true)
  | 4 => ("BranchForge", "tables", "LBranchForge$Tables;", true)
  | 5 => ("BranchForge", "code", "LBranchForge$Code;", true)
  | _ => ("BranchForge", "machine", "LBranchForge$Machine;", true)
def t_BF : Nat → FieldType := fun k => match k with
  | 0 => .array .int
  | 1 => .object "BranchForge$Forest"
  | 2 => .object "BranchForge$Checker"
  | 3 => .object "BranchForge$Cutter"
  | 4 => .object "BranchForge$Tables"
  | 5 => .object "BranchForge$Code"
  | _ => .object "BranchForge$Machine"
theorem n_BF : ∀ a, a < 7 → ∀ b, b < 7 → a ≠ b → (F_BF a).2.1 ≠ (F_BF b).2.1 := by decide +kernel
theorem t_BF_ok : ∀ k, k < 7 → parseFieldDescriptor (F_BF k).2.2.1 = some (t_BF k) := by decide +kernel
def R_Fo : String := "BranchForge$Forest"
def F_Fo : u_T := fun k => match k with
  | 0 => ("BranchForge$Forest", "ruleOf", "[I", true)
  | 1 => ("BranchForge$Forest", "featureOf", "[I", true)
  | 2 => ("BranchForge$Forest", "bitsOf", "[I", true)
  | 3 => ("BranchForge$Forest", "yesOf", "[I", true)
  | 4 => ("BranchForge$Forest", "noOf", "[I", true)
  | 5 => ("BranchForge$Forest", "rootOf", "[I", true)
  | 6 => ("BranchForge$Forest", "nodeCount", "I", false)
  | _ => ("BranchForge$Forest", "treeCount", "I", false)
def t_Fo : Nat → FieldType := fun k => match k with
  | 0 => .array .int
  | 1 => .array .int
  | 2 => .array .int
  | 3 => .array .int
  | 4 => .array .int
  | 5 => .array .int
  | 6 => .int
  | _ => .int
theorem n_Fo : ∀ a, a < 8 → ∀ b, b < 8 → a ≠ b → (F_Fo a).2.1 ≠ (F_Fo b).2.1 := by decide +kernel
theorem t_Fo_ok : ∀ k, k < 8 → parseFieldDescriptor (F_Fo k).2.2.1 = some (t_Fo k) := by decide +kernel
def R_Ch : String := "BranchForge$Checker"
def F_Ch : u_T := fun k => match k with
  | 0 => ("BranchForge$Checker", "forest", "LBranchForge$Forest;", true)
  | _ => ("BranchForge$Checker", "cameTo", "[Z", true)
def t_Ch : Nat → FieldType := fun k => match k with
  | 0 => .object "BranchForge$Forest"
  | _ => .array .boolean
theorem n_Ch : ∀ a, a < 2 → ∀ b, b < 2 → a ≠ b → (F_Ch a).2.1 ≠ (F_Ch b).2.1 := by decide +kernel
theorem t_Ch_ok : ∀ k, k < 2 → parseFieldDescriptor (F_Ch k).2.2.1 = some (t_Ch k) := by decide +kernel
def R_Cu : String := "BranchForge$Cutter"
def F_Cu : u_T := fun k => match k with
  | 0 => ("BranchForge$Cutter", "forest", "LBranchForge$Forest;", true)
  | 1 => ("BranchForge$Cutter", "codeLengthOf", "[I", true)
  | 2 => ("BranchForge$Cutter", "methodOf", "[I", true)
  | 3 => ("BranchForge$Cutter", "nodeOf", "[I", true)
  | _ => ("BranchForge$Cutter", "methodCount", "I", false)
def t_Cu : Nat → FieldType := fun k => match k with
  | 0 => .object "BranchForge$Forest"
  | 1 => .array .int
  | 2 => .array .int
  | 3 => .array .int
  | _ => .int
theorem n_Cu : ∀ a, a < 5 → ∀ b, b < 5 → a ≠ b → (F_Cu a).2.1 ≠ (F_Cu b).2.1 := by decide +kernel
theorem t_Cu_ok : ∀ k, k < 5 → parseFieldDescriptor (F_Cu k).2.2.1 = some (t_Cu k) := by decide +kernel
def R_Ta : String := "BranchForge$Tables"
def F_Ta : u_T := fun k => match k with
  | 0 => ("BranchForge$Tables", "kindAt", "[I", true)
  | 1 => ("BranchForge$Tables", "bitsAt", "[I", true)
  | 2 => ("BranchForge$Tables", "startOf", "[I", true)
  | _ => ("BranchForge$Tables", "classCount", "I", false)
def t_Ta : Nat → FieldType := fun k => match k with
  | 0 => .array .int
  | 1 => .array .int
  | 2 => .array .int
  | _ => .int
theorem n_Ta : ∀ a, a < 4 → ∀ b, b < 4 → a ≠ b → (F_Ta a).2.1 ≠ (F_Ta b).2.1 := by decide +kernel
theorem t_Ta_ok : ∀ k, k < 4 → parseFieldDescriptor (F_Ta k).2.2.1 = some (t_Ta k) := by decide +kernel
def R_Co : String := "BranchForge$Code"
def F_Co : u_T := fun k => match k with
  | 0 => ("BranchForge$Code", "forest", "LBranchForge$Forest;", true)
  | 1 => ("BranchForge$Code", "cutter", "LBranchForge$Cutter;", true)
  | 2 => ("BranchForge$Code", "tables", "LBranchForge$Tables;", true)
  | 3 => ("BranchForge$Code", "bytes", "[I", true)
  | 4 => ("BranchForge$Code", "startOf", "[I", true)
  | 5 => ("BranchForge$Code", "homeOf", "[I", true)
  | 6 => ("BranchForge$Code", "rootMethodOf", "[I", true)
  | 7 => ("BranchForge$Code", "used", "I", false)
  | 8 => ("BranchForge$Code", "methodCount", "I", false)
  | _ => ("BranchForge$Code", "treeCount", "I", false)
def t_Co : Nat → FieldType := fun k => match k with
  | 0 => .object "BranchForge$Forest"
  | 1 => .object "BranchForge$Cutter"
  | 2 => .object "BranchForge$Tables"
  | 3 => .array .int
  | 4 => .array .int
  | 5 => .array .int
  | 6 => .array .int
  | 7 => .int
  | 8 => .int
  | _ => .int
theorem n_Co : ∀ a, a < 10 → ∀ b, b < 10 → a ≠ b → (F_Co a).2.1 ≠ (F_Co b).2.1 := by decide +kernel
theorem t_Co_ok : ∀ k, k < 10 → parseFieldDescriptor (F_Co k).2.2.1 = some (t_Co k) := by decide +kernel
def R_Ma : String := "BranchForge$Machine"
def F_Ma : u_T := fun k => match k with
  | 0 => ("BranchForge$Machine", "code", "LBranchForge$Code;", true)
  | 1 => ("BranchForge$Machine", "tables", "LBranchForge$Tables;", true)
  | 2 => ("BranchForge$Machine", "features", "[I", true)
  | 3 => ("BranchForge$Machine", "stepCount", "I", false)
  | _ => ("BranchForge$Machine", "callCount", "I", false)
def t_Ma : Nat → FieldType := fun k => match k with
  | 0 => .object "BranchForge$Code"
  | 1 => .object "BranchForge$Tables"
  | 2 => .array .int
  | 3 => .int
  | _ => .int
theorem n_Ma : ∀ a, a < 5 → ∀ b, b < 5 → a ≠ b → (F_Ma a).2.1 ≠ (F_Ma b).2.1 := by decide +kernel
theorem t_Ma_ok : ∀ k, k < 5 → parseFieldDescriptor (F_Ma k).2.2.1 = some (t_Ma k) := by decide +kernel
def R_Ru : String := "BranchForge$Rules"
abbrev clC : List vw_C := [(R_BF, F_BF, 7), (R_Fo, F_Fo, 8), (R_Ch, F_Ch, 2), (R_Cu, F_Cu, 5), (R_Ta, F_Ta, 4), (R_Co, F_Co, 10), (R_Ma, F_Ma, 5)]
def gwC (cI cZ : ClassId) (ad : Nat → Nat) (g : St) : va_W :=
  [(ad 0, .inr (0, [.ref (ad 1), .ref (ad 2), .ref (ad 9), .ref (ad 11), .ref (ad 15), .ref (ad 19), .ref (ad 24)])),
   (ad 1, .inl (cI, 8, .inl (g 1))),
   (ad 2, .inr (1, [.ref (ad 3), .ref (ad 4), .ref (ad 5), .ref (ad 6), .ref (ad 7), .ref (ad 8), .int (g 100 0), .int (g 101 0)])),
   (ad 3, .inl (cI, 60, .inl (g 3))),
   (ad 4, .inl (cI, 60, .inl (g 4))),
   (ad 5, .inl (cI, 60, .inl (g 5))),
   (ad 6, .inl (cI, 60, .inl (g 6))),
   (ad 7, .inl (cI, 60, .inl (g 7))),
   (ad 8, .inl (cI, 8, .inl (g 8))),
   (ad 9, .inr (2, [.ref (ad 2), .ref (ad 10)])),
   (ad 10, .inl (cZ, 60, .inl (g 10))),
   (ad 11, .inr (3, [.ref (ad 2), .ref (ad 12), .ref (ad 13), .ref (ad 14), .int (g 102 0)])),
   (ad 12, .inl (cI, 60, .inl (g 12))),
   (ad 13, .inl (cI, 60, .inl (g 13))),
   (ad 14, .inl (cI, 60, .inl (g 14))),
   (ad 15, .inr (4, [.ref (ad 16), .ref (ad 17), .ref (ad 18), .int (g 103 0)])),
   (ad 16, .inl (cI, 120, .inl (g 16))),
   (ad 17, .inl (cI, 120, .inl (g 17))),
   (ad 18, .inl (cI, 61, .inl (g 18))),
   (ad 19, .inr (5, [.ref (ad 2), .ref (ad 11), .ref (ad 15), .ref (ad 20), .ref (ad 21), .ref (ad 22), .ref (ad 23), .int (g 104 0), .int (g 105 0), .int (g 106 0)])),
   (ad 20, .inl (cI, 600, .inl (g 20))),
   (ad 21, .inl (cI, 61, .inl (g 21))),
   (ad 22, .inl (cI, 60, .inl (g 22))),
   (ad 23, .inl (cI, 8, .inl (g 23))),
   (ad 24, .inr (6, [.ref (ad 19), .ref (ad 15), .ref (ad 1), .int (g 107 0), .int (g 108 0)]))]
abbrev b_BF_leaf : ByteArray := prog_1_method_2_code
def y_BF_leaf : MethodName := ⟨R_BF, "leaf", "(I)I"⟩
abbrev b_BF_split : ByteArray := prog_1_method_3_code
def y_BF_split : MethodName := ⟨R_BF, "split", "(IIIII)I"⟩
abbrev b_BF_tree : ByteArray := prog_1_method_4_code
def y_BF_tree : MethodName := ⟨R_BF, "tree", "(I)I"⟩
abbrev b_BF_compile : ByteArray := prog_1_method_5_code
def y_BF_compile : MethodName := ⟨R_BF, "compile", "(II)I"⟩
abbrev b_BF_methods : ByteArray := prog_1_method_6_code
def y_BF_methods : MethodName := ⟨R_BF, "methods", "()I"⟩
abbrev b_BF_length : ByteArray := prog_1_method_7_code
def y_BF_length : MethodName := ⟨R_BF, "length", "(I)I"⟩
abbrev b_BF_byteAt : ByteArray := prog_1_method_8_code
def y_BF_byteAt : MethodName := ⟨R_BF, "byteAt", "(II)I"⟩
abbrev b_BF_classOf : ByteArray := prog_1_method_9_code
def y_BF_classOf : MethodName := ⟨R_BF, "classOf", "(I)I"⟩
abbrev b_BF_classes : ByteArray := prog_1_method_10_code
def y_BF_classes : MethodName := ⟨R_BF, "classes", "()I"⟩
abbrev b_BF_entries : ByteArray := prog_1_method_11_code
def y_BF_entries : MethodName := ⟨R_BF, "entries", "(I)I"⟩
abbrev b_BF_entry : ByteArray := prog_1_method_12_code
def y_BF_entry : MethodName := ⟨R_BF, "entry", "(II)J"⟩
abbrev b_BF_set : ByteArray := prog_1_method_13_code
def y_BF_set : MethodName := ⟨R_BF, "set", "(II)Z"⟩
abbrev b_BF_predict : ByteArray := prog_1_method_14_code
def y_BF_predict : MethodName := ⟨R_BF, "predict", "()J"⟩
abbrev b_BF_steps : ByteArray := prog_1_method_15_code
def y_BF_steps : MethodName := ⟨R_BF, "steps", "()I"⟩
abbrev b_BF_calls : ByteArray := prog_1_method_16_code
def y_BF_calls : MethodName := ⟨R_BF, "calls", "()I"⟩
abbrev b_BF_reach : ByteArray := prog_1_method_17_code
def y_BF_reach : MethodName := ⟨R_BF, "reach", "(I)I"⟩
abbrev b_BF_isFeature : ByteArray := prog_1_method_18_code
def y_BF_isFeature : MethodName := ⟨R_BF, "isFeature", "(I)Z"⟩
abbrev b_BF_isNodeNumber : ByteArray := prog_1_method_19_code
def y_BF_isNodeNumber : MethodName := ⟨R_BF, "isNodeNumber", "(I)Z"⟩
abbrev b_BF_isTableSize : ByteArray := prog_1_method_20_code
def y_BF_isTableSize : MethodName := ⟨R_BF, "isTableSize", "(II)Z"⟩
abbrev b_Fo_addNode : ByteArray := prog_5_method_2_code
def y_Fo_addNode : MethodName := ⟨R_Fo, "addNode", "(IIIII)I"⟩
abbrev b_Fo_addTree : ByteArray := prog_5_method_3_code
def y_Fo_addTree : MethodName := ⟨R_Fo, "addTree", "(I)I"⟩
abbrev b_Fo_isNode : ByteArray := prog_5_method_4_code
def y_Fo_isNode : MethodName := ⟨R_Fo, "isNode", "(I)Z"⟩
abbrev b_Fo_isLeaf : ByteArray := prog_5_method_5_code
def y_Fo_isLeaf : MethodName := ⟨R_Fo, "isLeaf", "(I)Z"⟩
abbrev b_Fo_kindOfEntry : ByteArray := prog_5_method_6_code
def y_Fo_kindOfEntry : MethodName := ⟨R_Fo, "kindOfEntry", "(I)I"⟩
abbrev b_Fo_leafFor : ByteArray := prog_5_method_7_code
def y_Fo_leafFor : MethodName := ⟨R_Fo, "leafFor", "(I[I)I"⟩
abbrev b_Ch_firstFault : ByteArray := prog_2_method_2_code
def y_Ch_firstFault : MethodName := ⟨R_Ch, "firstFault", "()I"⟩
abbrev b_Ch_faultFrom : ByteArray := prog_2_method_3_code
def y_Ch_faultFrom : MethodName := ⟨R_Ch, "faultFrom", "(II)I"⟩
abbrev b_Ch_faultAt : ByteArray := prog_2_method_4_code
def y_Ch_faultAt : MethodName := ⟨R_Ch, "faultAt", "(II)I"⟩
abbrev b_Ch_isDangling : ByteArray := prog_2_method_5_code
def y_Ch_isDangling : MethodName := ⟨R_Ch, "isDangling", "(I)Z"⟩
abbrev b_Cu_cutTrees : ByteArray := prog_4_method_2_code
def y_Cu_cutTrees : MethodName := ⟨R_Cu, "cutTrees", "(I)V"⟩
abbrev b_Cu_cutFrom : ByteArray := prog_4_method_3_code
def y_Cu_cutFrom : MethodName := ⟨R_Cu, "cutFrom", "(III)V"⟩
abbrev b_Cu_cutChildren : ByteArray := prog_4_method_4_code
def y_Cu_cutChildren : MethodName := ⟨R_Cu, "cutChildren", "(II)V"⟩
abbrev b_Cu_cutOut : ByteArray := prog_4_method_5_code
def y_Cu_cutOut : MethodName := ⟨R_Cu, "cutOut", "(I)V"⟩
abbrev b_Cu_splitLength : ByteArray := prog_4_method_6_code
def y_Cu_splitLength : MethodName := ⟨R_Cu, "splitLength", "(I)I"⟩
abbrev b_Cu_partLength : ByteArray := prog_4_method_7_code
def y_Cu_partLength : MethodName := ⟨R_Cu, "partLength", "(I)I"⟩
abbrev b_Cu_testLength : ByteArray := prog_4_method_8_code
def y_Cu_testLength : MethodName := ⟨R_Cu, "testLength", "(I)I"⟩
abbrev b_Ta_forgetAll : ByteArray := prog_8_method_2_code
def y_Ta_forgetAll : MethodName := ⟨R_Ta, "forgetAll", "()V"⟩
abbrev b_Ta_openClass : ByteArray := prog_8_method_3_code
def y_Ta_openClass : MethodName := ⟨R_Ta, "openClass", "()V"⟩
abbrev b_Ta_isClass : ByteArray := prog_8_method_4_code
def y_Ta_isClass : MethodName := ⟨R_Ta, "isClass", "(I)Z"⟩
abbrev b_Ta_sizeOf : ByteArray := prog_8_method_5_code
def y_Ta_sizeOf : MethodName := ⟨R_Ta, "sizeOf", "(I)I"⟩
abbrev b_Ta_holds : ByteArray := prog_8_method_6_code
def y_Ta_holds : MethodName := ⟨R_Ta, "holds", "(II)Z"⟩
abbrev b_Ta_latestSize : ByteArray := prog_8_method_7_code
def y_Ta_latestSize : MethodName := ⟨R_Ta, "latestSize", "()I"⟩
abbrev b_Ta_shrinkLatest : ByteArray := prog_8_method_8_code
def y_Ta_shrinkLatest : MethodName := ⟨R_Ta, "shrinkLatest", "(I)V"⟩
abbrev b_Ta_numberFor : ByteArray := prog_8_method_9_code
def y_Ta_numberFor : MethodName := ⟨R_Ta, "numberFor", "(II)I"⟩
abbrev b_Co_isMethod : ByteArray := prog_3_method_2_code
def y_Co_isMethod : MethodName := ⟨R_Co, "isMethod", "(I)Z"⟩
abbrev b_Co_writeMethods : ByteArray := prog_3_method_3_code
def y_Co_writeMethods : MethodName := ⟨R_Co, "writeMethods", "(I)V"⟩
abbrev b_Co_writeMethod : ByteArray := prog_3_method_4_code
def y_Co_writeMethod : MethodName := ⟨R_Co, "writeMethod", "(II)V"⟩
abbrev b_Co_writeCode : ByteArray := prog_3_method_5_code
def y_Co_writeCode : MethodName := ⟨R_Co, "writeCode", "(II)V"⟩
abbrev b_Co_writePart : ByteArray := prog_3_method_6_code
def y_Co_writePart : MethodName := ⟨R_Co, "writePart", "(II)V"⟩
abbrev b_Co_writeTest : ByteArray := prog_3_method_7_code
def y_Co_writeTest : MethodName := ⟨R_Co, "writeTest", "(II)V"⟩
abbrev b_Co_writePair : ByteArray := prog_3_method_8_code
def y_Co_writePair : MethodName := ⟨R_Co, "writePair", "(II)V"⟩
abbrev b_Co_writeByte : ByteArray := prog_3_method_9_code
def y_Co_writeByte : MethodName := ⟨R_Co, "writeByte", "(I)V"⟩
abbrev b_Co_byteOfAll : ByteArray := prog_3_method_10_code
def y_Co_byteOfAll : MethodName := ⟨R_Co, "byteOfAll", "(I)I"⟩
abbrev b_Ma_runTrees : ByteArray := prog_6_method_2_code
def y_Ma_runTrees : MethodName := ⟨R_Ma, "runTrees", "()J"⟩
abbrev b_Ma_runMethod : ByteArray := prog_6_method_3_code
def y_Ma_runMethod : MethodName := ⟨R_Ma, "runMethod", "(II)I"⟩
abbrev b_Ma_operand : ByteArray := prog_6_method_4_code
def y_Ma_operand : MethodName := ⟨R_Ma, "operand", "(III)I"⟩
abbrev b_Ma_testMove : ByteArray := prog_6_method_5_code
def y_Ma_testMove : MethodName := ⟨R_Ma, "testMove", "(III)I"⟩
abbrev b_Ru_takesMark : ByteArray := prog_7_method_2_code
def y_Ru_takesMark : MethodName := ⟨R_Ru, "takesMark", "(II)Z"⟩
abbrev b_Ru_isBitRule : ByteArray := prog_7_method_3_code
def y_Ru_isBitRule : MethodName := ⟨R_Ru, "isBitRule", "(I)Z"⟩
abbrev b_Ru_goesToYes : ByteArray := prog_7_method_4_code
def y_Ru_goesToYes : MethodName := ⟨R_Ru, "goesToYes", "(III)Z"⟩
abbrev b_Ru_orderOf : ByteArray := prog_7_method_5_code
def y_Ru_orderOf : MethodName := ⟨R_Ru, "orderOf", "(I)I"⟩
abbrev b_Ru_wholeOf : ByteArray := prog_7_method_6_code
def y_Ru_wholeOf : MethodName := ⟨R_Ru, "wholeOf", "(I)I"⟩
abbrev b_Fo_init : ByteArray := prog_5_method_1_code
def y_Fo_init : MethodName := ⟨R_Fo, "<init>", "()V"⟩
abbrev b_Ch_init : ByteArray := prog_2_method_1_code
def y_Ch_init : MethodName := ⟨R_Ch, "<init>", "(LBranchForge$Forest;)V"⟩
abbrev b_Cu_init : ByteArray := prog_4_method_1_code
def y_Cu_init : MethodName := ⟨R_Cu, "<init>", "(LBranchForge$Forest;)V"⟩
abbrev b_Ta_init : ByteArray := prog_8_method_1_code
def y_Ta_init : MethodName := ⟨R_Ta, "<init>", "()V"⟩
abbrev b_Co_init : ByteArray := prog_3_method_1_code
def y_Co_init : MethodName := ⟨R_Co, "<init>", "(LBranchForge$Forest;LBranchForge$Cutter;LBranchForge$Tables;)V"⟩
abbrev b_Ma_init : ByteArray := prog_6_method_1_code
def y_Ma_init : MethodName := ⟨R_Ma, "<init>", "(LBranchForge$Code;LBranchForge$Tables;[I)V"⟩
abbrev b_BF_init : ByteArray := prog_1_method_1_code
def y_BF_init : MethodName := ⟨R_BF, "<init>", "()V"⟩
end
section
theorem d_BF_leaf_0 : decode b_BF_leaf 0 = .ok (.aload_n 0, 1) := by decide +kernel
theorem d_BF_leaf_1 : decode b_BF_leaf 1 = .ok (.getfield 16, 3) := by decide +kernel
theorem d_BF_leaf_4 : decode b_BF_leaf 4 = .ok (.iconst (-1), 1) := by decide +kernel
theorem d_BF_leaf_5 : decode b_BF_leaf 5 = .ok (.iconst 0, 1) := by decide +kernel
theorem d_BF_leaf_6 : decode b_BF_leaf 6 = .ok (.iload_n 1, 1) := by decide +kernel
theorem d_BF_leaf_7 : decode b_BF_leaf 7 = .ok (.iconst (-1), 1) := by decide +kernel
theorem d_BF_leaf_8 : decode b_BF_leaf 8 = .ok (.iconst (-1), 1) := by decide +kernel
theorem d_BF_leaf_9 : decode b_BF_leaf 9 = .ok (.invokevirtual 61, 3) := by decide +kernel
theorem d_BF_leaf_12 : decode b_BF_leaf 12 = .ok (.ireturn, 1) := by decide +kernel
theorem d_BF_split_0 : decode b_BF_split 0 = .ok (.iload_n 1, 1) := by decide +kernel
theorem d_BF_split_1 : decode b_BF_split 1 = .ok (.ifCond .lt 24, 3) := by decide +kernel
theorem d_BF_split_4 : decode b_BF_split 4 = .ok (.iload_n 1, 1) := by decide +kernel
theorem d_BF_split_5 : decode b_BF_split 5 = .ok (.bipush 6, 2) := by decide +kernel
theorem d_BF_split_7 : decode b_BF_split 7 = .ok (.if_icmp .ge 18, 3) := by decide +kernel
theorem d_BF_split_10 : decode b_BF_split 10 = .ok (.iload_n 2, 1) := by decide +kernel
theorem d_BF_split_11 : decode b_BF_split 11 = .ok (.invokestatic 65, 3) := by decide +kernel
theorem d_BF_split_14 : decode b_BF_split 14 = .ok (.ifCond .eq 11, 3) := by decide +kernel
theorem d_BF_split_17 : decode b_BF_split 17 = .ok (.iload_n 1, 1) := by decide +kernel
theorem d_BF_split_18 : decode b_BF_split 18 = .ok (.iload_n 3, 1) := by decide +kernel
theorem d_BF_split_19 : decode b_BF_split 19 = .ok (.invokestatic 69, 3) := by decide +kernel
theorem d_BF_split_22 : decode b_BF_split 22 = .ok (.ifCond .ne 5, 3) := by decide +kernel
theorem d_BF_split_25 : decode b_BF_split 25 = .ok (.iconst (-1), 1) := by decide +kernel
theorem d_BF_split_26 : decode b_BF_split 26 = .ok (.ireturn, 1) := by decide +kernel
theorem d_BF_split_27 : decode b_BF_split 27 = .ok (.iload 4, 2) := by decide +kernel
theorem d_BF_split_29 : decode b_BF_split 29 = .ok (.invokestatic 75, 3) := by decide +kernel
theorem d_BF_split_32 : decode b_BF_split 32 = .ok (.ifCond .eq 11, 3) := by decide +kernel
theorem d_BF_split_35 : decode b_BF_split 35 = .ok (.iload 5, 2) := by decide +kernel
theorem d_BF_split_37 : decode b_BF_split 37 = .ok (.invokestatic 75, 3) := by decide +kernel
theorem d_BF_split_40 : decode b_BF_split 40 = .ok (.ifCond .ne 5, 3) := by decide +kernel
theorem d_BF_split_43 : decode b_BF_split 43 = .ok (.iconst (-1), 1) := by decide +kernel
theorem d_BF_split_44 : decode b_BF_split 44 = .ok (.ireturn, 1) := by decide +kernel
theorem d_BF_split_45 : decode b_BF_split 45 = .ok (.aload_n 0, 1) := by decide +kernel
theorem d_BF_split_46 : decode b_BF_split 46 = .ok (.getfield 16, 3) := by decide +kernel
theorem d_BF_split_49 : decode b_BF_split 49 = .ok (.iload_n 1, 1) := by decide +kernel
theorem d_BF_split_50 : decode b_BF_split 50 = .ok (.iload_n 2, 1) := by decide +kernel
theorem d_BF_split_51 : decode b_BF_split 51 = .ok (.iload_n 3, 1) := by decide +kernel
theorem d_BF_split_52 : decode b_BF_split 52 = .ok (.iload 4, 2) := by decide +kernel
theorem d_BF_split_54 : decode b_BF_split 54 = .ok (.iload 5, 2) := by decide +kernel
theorem d_BF_split_56 : decode b_BF_split 56 = .ok (.invokevirtual 61, 3) := by decide +kernel
theorem d_BF_split_59 : decode b_BF_split 59 = .ok (.ireturn, 1) := by decide +kernel
theorem d_BF_tree_0 : decode b_BF_tree 0 = .ok (.aload_n 0, 1) := by decide +kernel
theorem d_BF_tree_1 : decode b_BF_tree 1 = .ok (.getfield 16, 3) := by decide +kernel
theorem d_BF_tree_4 : decode b_BF_tree 4 = .ok (.iload_n 1, 1) := by decide +kernel
theorem d_BF_tree_5 : decode b_BF_tree 5 = .ok (.invokevirtual 78, 3) := by decide +kernel
theorem d_BF_tree_8 : decode b_BF_tree 8 = .ok (.ireturn, 1) := by decide +kernel
theorem d_BF_compile_0 : decode b_BF_compile 0 = .ok (.iload_n 1, 1) := by decide +kernel
theorem d_BF_compile_1 : decode b_BF_compile 1 = .ok (.bipush 20, 2) := by decide +kernel
theorem d_BF_compile_3 : decode b_BF_compile 3 = .ok (.if_icmp .lt 28, 3) := by decide +kernel
theorem d_BF_compile_6 : decode b_BF_compile 6 = .ok (.iload_n 1, 1) := by decide +kernel
theorem d_BF_compile_7 : decode b_BF_compile 7 = .ok (.sipush 400, 3) := by decide +kernel
theorem d_BF_compile_10 : decode b_BF_compile 10 = .ok (.if_icmp .gt 21, 3) := by decide +kernel
theorem d_BF_compile_13 : decode b_BF_compile 13 = .ok (.iload_n 2, 1) := by decide +kernel
theorem d_BF_compile_14 : decode b_BF_compile 14 = .ok (.iload_n 1, 1) := by decide +kernel
theorem d_BF_compile_15 : decode b_BF_compile 15 = .ok (.invokestatic 82, 3) := by decide +kernel
theorem d_BF_compile_18 : decode b_BF_compile 18 = .ok (.ifCond .eq 13, 3) := by decide +kernel
theorem d_BF_compile_21 : decode b_BF_compile 21 = .ok (.aload_n 0, 1) := by decide +kernel
theorem d_BF_compile_22 : decode b_BF_compile 22 = .ok (.getfield 16, 3) := by decide +kernel
theorem d_BF_compile_25 : decode b_BF_compile 25 = .ok (.getfield 85, 3) := by decide +kernel
theorem d_BF_compile_28 : decode b_BF_compile 28 = .ok (.ifCond .ne 5, 3) := by decide +kernel
theorem d_BF_compile_31 : decode b_BF_compile 31 = .ok (.iconst (-1), 1) := by decide +kernel
theorem d_BF_compile_32 : decode b_BF_compile 32 = .ok (.ireturn, 1) := by decide +kernel
theorem d_BF_compile_33 : decode b_BF_compile 33 = .ok (.aload_n 0, 1) := by decide +kernel
theorem d_BF_compile_34 : decode b_BF_compile 34 = .ok (.getfield 25, 3) := by decide +kernel
theorem d_BF_compile_37 : decode b_BF_compile 37 = .ok (.invokevirtual 89, 3) := by decide +kernel
theorem d_BF_compile_40 : decode b_BF_compile 40 = .ok (.istore_n 3, 1) := by decide +kernel
theorem d_BF_compile_41 : decode b_BF_compile 41 = .ok (.iload_n 3, 1) := by decide +kernel
theorem d_BF_compile_42 : decode b_BF_compile 42 = .ok (.ifCond .eq 6, 3) := by decide +kernel
theorem d_BF_compile_45 : decode b_BF_compile 45 = .ok (.iload_n 3, 1) := by decide +kernel
theorem d_BF_compile_46 : decode b_BF_compile 46 = .ok (.ineg, 1) := by decide +kernel
theorem d_BF_compile_47 : decode b_BF_compile 47 = .ok (.ireturn, 1) := by decide +kernel
theorem d_BF_compile_48 : decode b_BF_compile 48 = .ok (.aload_n 0, 1) := by decide +kernel
theorem d_BF_compile_49 : decode b_BF_compile 49 = .ok (.getfield 32, 3) := by decide +kernel
theorem d_BF_compile_52 : decode b_BF_compile 52 = .ok (.iload_n 1, 1) := by decide +kernel
theorem d_BF_compile_53 : decode b_BF_compile 53 = .ok (.invokevirtual 93, 3) := by decide +kernel
theorem d_BF_compile_56 : decode b_BF_compile 56 = .ok (.aload_n 0, 1) := by decide +kernel
theorem d_BF_compile_57 : decode b_BF_compile 57 = .ok (.getfield 48, 3) := by decide +kernel
theorem d_BF_compile_60 : decode b_BF_compile 60 = .ok (.iload_n 2, 1) := by decide +kernel
theorem d_BF_compile_61 : decode b_BF_compile 61 = .ok (.invokevirtual 97, 3) := by decide +kernel
theorem d_BF_compile_64 : decode b_BF_compile 64 = .ok (.aload_n 0, 1) := by decide +kernel
theorem d_BF_compile_65 : decode b_BF_compile 65 = .ok (.getfield 48, 3) := by decide +kernel
theorem d_BF_compile_68 : decode b_BF_compile 68 = .ok (.getfield 100, 3) := by decide +kernel
theorem d_BF_compile_71 : decode b_BF_compile 71 = .ok (.ireturn, 1) := by decide +kernel
theorem d_BF_methods_0 : decode b_BF_methods 0 = .ok (.aload_n 0, 1) := by decide +kernel
theorem d_BF_methods_1 : decode b_BF_methods 1 = .ok (.getfield 48, 3) := by decide +kernel
theorem d_BF_methods_4 : decode b_BF_methods 4 = .ok (.getfield 100, 3) := by decide +kernel
theorem d_BF_methods_7 : decode b_BF_methods 7 = .ok (.ireturn, 1) := by decide +kernel
theorem d_BF_length_0 : decode b_BF_length 0 = .ok (.aload_n 0, 1) := by decide +kernel
theorem d_BF_length_1 : decode b_BF_length 1 = .ok (.getfield 48, 3) := by decide +kernel
theorem d_BF_length_4 : decode b_BF_length 4 = .ok (.iload_n 1, 1) := by decide +kernel
theorem d_BF_length_5 : decode b_BF_length 5 = .ok (.invokevirtual 103, 3) := by decide +kernel
theorem d_BF_length_8 : decode b_BF_length 8 = .ok (.ifCond .eq 27, 3) := by decide +kernel
theorem d_BF_length_11 : decode b_BF_length 11 = .ok (.aload_n 0, 1) := by decide +kernel
theorem d_BF_length_12 : decode b_BF_length 12 = .ok (.getfield 48, 3) := by decide +kernel
theorem d_BF_length_15 : decode b_BF_length 15 = .ok (.getfield 106, 3) := by decide +kernel
theorem d_BF_length_18 : decode b_BF_length 18 = .ok (.iload_n 1, 1) := by decide +kernel
theorem d_BF_length_19 : decode b_BF_length 19 = .ok (.iconst 1, 1) := by decide +kernel
theorem d_BF_length_20 : decode b_BF_length 20 = .ok (.iadd, 1) := by decide +kernel
theorem d_BF_length_21 : decode b_BF_length 21 = .ok (.iaload, 1) := by decide +kernel
theorem d_BF_length_22 : decode b_BF_length 22 = .ok (.aload_n 0, 1) := by decide +kernel
theorem d_BF_length_23 : decode b_BF_length 23 = .ok (.getfield 48, 3) := by decide +kernel
theorem d_BF_length_26 : decode b_BF_length 26 = .ok (.getfield 106, 3) := by decide +kernel
theorem d_BF_length_29 : decode b_BF_length 29 = .ok (.iload_n 1, 1) := by decide +kernel
theorem d_BF_length_30 : decode b_BF_length 30 = .ok (.iaload, 1) := by decide +kernel
theorem d_BF_length_31 : decode b_BF_length 31 = .ok (.isub, 1) := by decide +kernel
theorem d_BF_length_32 : decode b_BF_length 32 = .ok (.goto 4, 3) := by decide +kernel
theorem d_BF_length_35 : decode b_BF_length 35 = .ok (.iconst (-1), 1) := by decide +kernel
theorem d_BF_length_36 : decode b_BF_length 36 = .ok (.ireturn, 1) := by decide +kernel
theorem d_BF_byteAt_0 : decode b_BF_byteAt 0 = .ok (.iload_n 2, 1) := by decide +kernel
theorem d_BF_byteAt_1 : decode b_BF_byteAt 1 = .ok (.ifCond .lt 34, 3) := by decide +kernel
theorem d_BF_byteAt_4 : decode b_BF_byteAt 4 = .ok (.iload_n 2, 1) := by decide +kernel
theorem d_BF_byteAt_5 : decode b_BF_byteAt 5 = .ok (.aload_n 0, 1) := by decide +kernel
theorem d_BF_byteAt_6 : decode b_BF_byteAt 6 = .ok (.iload_n 1, 1) := by decide +kernel
theorem d_BF_byteAt_7 : decode b_BF_byteAt 7 = .ok (.invokevirtual 109, 3) := by decide +kernel
theorem d_BF_byteAt_10 : decode b_BF_byteAt 10 = .ok (.if_icmp .ge 25, 3) := by decide +kernel
theorem d_BF_byteAt_13 : decode b_BF_byteAt 13 = .ok (.aload_n 0, 1) := by decide +kernel
theorem d_BF_byteAt_14 : decode b_BF_byteAt 14 = .ok (.getfield 48, 3) := by decide +kernel
theorem d_BF_byteAt_17 : decode b_BF_byteAt 17 = .ok (.getfield 112, 3) := by decide +kernel
theorem d_BF_byteAt_20 : decode b_BF_byteAt 20 = .ok (.aload_n 0, 1) := by decide +kernel
theorem d_BF_byteAt_21 : decode b_BF_byteAt 21 = .ok (.getfield 48, 3) := by decide +kernel
theorem d_BF_byteAt_24 : decode b_BF_byteAt 24 = .ok (.getfield 106, 3) := by decide +kernel
theorem d_BF_byteAt_27 : decode b_BF_byteAt 27 = .ok (.iload_n 1, 1) := by decide +kernel
theorem d_BF_byteAt_28 : decode b_BF_byteAt 28 = .ok (.iaload, 1) := by decide +kernel
theorem d_BF_byteAt_29 : decode b_BF_byteAt 29 = .ok (.iload_n 2, 1) := by decide +kernel
theorem d_BF_byteAt_30 : decode b_BF_byteAt 30 = .ok (.iadd, 1) := by decide +kernel
theorem d_BF_byteAt_31 : decode b_BF_byteAt 31 = .ok (.iaload, 1) := by decide +kernel
theorem d_BF_byteAt_32 : decode b_BF_byteAt 32 = .ok (.goto 4, 3) := by decide +kernel
theorem d_BF_byteAt_35 : decode b_BF_byteAt 35 = .ok (.iconst (-1), 1) := by decide +kernel
theorem d_BF_byteAt_36 : decode b_BF_byteAt 36 = .ok (.ireturn, 1) := by decide +kernel
theorem d_BF_classOf_0 : decode b_BF_classOf 0 = .ok (.aload_n 0, 1) := by decide +kernel
theorem d_BF_classOf_1 : decode b_BF_classOf 1 = .ok (.getfield 48, 3) := by decide +kernel
theorem d_BF_classOf_4 : decode b_BF_classOf 4 = .ok (.iload_n 1, 1) := by decide +kernel
theorem d_BF_classOf_5 : decode b_BF_classOf 5 = .ok (.invokevirtual 103, 3) := by decide +kernel
theorem d_BF_classOf_8 : decode b_BF_classOf 8 = .ok (.ifCond .eq 15, 3) := by decide +kernel
theorem d_BF_classOf_11 : decode b_BF_classOf 11 = .ok (.aload_n 0, 1) := by decide +kernel
theorem d_BF_classOf_12 : decode b_BF_classOf 12 = .ok (.getfield 48, 3) := by decide +kernel
theorem d_BF_classOf_15 : decode b_BF_classOf 15 = .ok (.getfield 115, 3) := by decide +kernel
theorem d_BF_classOf_18 : decode b_BF_classOf 18 = .ok (.iload_n 1, 1) := by decide +kernel
theorem d_BF_classOf_19 : decode b_BF_classOf 19 = .ok (.iaload, 1) := by decide +kernel
theorem d_BF_classOf_20 : decode b_BF_classOf 20 = .ok (.goto 4, 3) := by decide +kernel
theorem d_BF_classOf_23 : decode b_BF_classOf 23 = .ok (.iconst (-1), 1) := by decide +kernel
theorem d_BF_classOf_24 : decode b_BF_classOf 24 = .ok (.ireturn, 1) := by decide +kernel
theorem d_BF_classes_0 : decode b_BF_classes 0 = .ok (.aload_n 0, 1) := by decide +kernel
theorem d_BF_classes_1 : decode b_BF_classes 1 = .ok (.getfield 39, 3) := by decide +kernel
theorem d_BF_classes_4 : decode b_BF_classes 4 = .ok (.getfield 118, 3) := by decide +kernel
theorem d_BF_classes_7 : decode b_BF_classes 7 = .ok (.ireturn, 1) := by decide +kernel
theorem d_BF_entries_0 : decode b_BF_entries 0 = .ok (.aload_n 0, 1) := by decide +kernel
theorem d_BF_entries_1 : decode b_BF_entries 1 = .ok (.getfield 39, 3) := by decide +kernel
theorem d_BF_entries_4 : decode b_BF_entries 4 = .ok (.iload_n 1, 1) := by decide +kernel
theorem d_BF_entries_5 : decode b_BF_entries 5 = .ok (.invokevirtual 121, 3) := by decide +kernel
theorem d_BF_entries_8 : decode b_BF_entries 8 = .ok (.ifCond .eq 14, 3) := by decide +kernel
theorem d_BF_entries_11 : decode b_BF_entries 11 = .ok (.aload_n 0, 1) := by decide +kernel
theorem d_BF_entries_12 : decode b_BF_entries 12 = .ok (.getfield 39, 3) := by decide +kernel
theorem d_BF_entries_15 : decode b_BF_entries 15 = .ok (.iload_n 1, 1) := by decide +kernel
theorem d_BF_entries_16 : decode b_BF_entries 16 = .ok (.invokevirtual 124, 3) := by decide +kernel
theorem d_BF_entries_19 : decode b_BF_entries 19 = .ok (.goto 4, 3) := by decide +kernel
theorem d_BF_entries_22 : decode b_BF_entries 22 = .ok (.iconst (-1), 1) := by decide +kernel
theorem d_BF_entries_23 : decode b_BF_entries 23 = .ok (.ireturn, 1) := by decide +kernel
theorem d_BF_entry_0 : decode b_BF_entry 0 = .ok (.aload_n 0, 1) := by decide +kernel
theorem d_BF_entry_1 : decode b_BF_entry 1 = .ok (.getfield 39, 3) := by decide +kernel
theorem d_BF_entry_4 : decode b_BF_entry 4 = .ok (.iload_n 1, 1) := by decide +kernel
theorem d_BF_entry_5 : decode b_BF_entry 5 = .ok (.iload_n 2, 1) := by decide +kernel
theorem d_BF_entry_6 : decode b_BF_entry 6 = .ok (.invokevirtual 127, 3) := by decide +kernel
theorem d_BF_entry_9 : decode b_BF_entry 9 = .ok (.ifCond .ne 7, 3) := by decide +kernel
theorem d_BF_entry_12 : decode b_BF_entry 12 = .ok (.ldc2_w 130, 3) := by decide +kernel
theorem d_BF_entry_15 : decode b_BF_entry 15 = .ok (.lreturn, 1) := by decide +kernel
theorem d_BF_entry_16 : decode b_BF_entry 16 = .ok (.aload_n 0, 1) := by decide +kernel
theorem d_BF_entry_17 : decode b_BF_entry 17 = .ok (.getfield 39, 3) := by decide +kernel
theorem d_BF_entry_20 : decode b_BF_entry 20 = .ok (.getfield 132, 3) := by decide +kernel
theorem d_BF_entry_23 : decode b_BF_entry 23 = .ok (.iload_n 1, 1) := by decide +kernel
theorem d_BF_entry_24 : decode b_BF_entry 24 = .ok (.iaload, 1) := by decide +kernel
theorem d_BF_entry_25 : decode b_BF_entry 25 = .ok (.iload_n 2, 1) := by decide +kernel
theorem d_BF_entry_26 : decode b_BF_entry 26 = .ok (.iadd, 1) := by decide +kernel
theorem d_BF_entry_27 : decode b_BF_entry 27 = .ok (.istore_n 3, 1) := by decide +kernel
theorem d_BF_entry_28 : decode b_BF_entry 28 = .ok (.aload_n 0, 1) := by decide +kernel
theorem d_BF_entry_29 : decode b_BF_entry 29 = .ok (.getfield 39, 3) := by decide +kernel
theorem d_BF_entry_32 : decode b_BF_entry 32 = .ok (.getfield 133, 3) := by decide +kernel
theorem d_BF_entry_35 : decode b_BF_entry 35 = .ok (.iload_n 3, 1) := by decide +kernel
theorem d_BF_entry_36 : decode b_BF_entry 36 = .ok (.iaload, 1) := by decide +kernel
theorem d_BF_entry_37 : decode b_BF_entry 37 = .ok (.i2l, 1) := by decide +kernel
theorem d_BF_entry_38 : decode b_BF_entry 38 = .ok (.bipush 32, 2) := by decide +kernel
theorem d_BF_entry_40 : decode b_BF_entry 40 = .ok (.lshl, 1) := by decide +kernel
theorem d_BF_entry_41 : decode b_BF_entry 41 = .ok (.aload_n 0, 1) := by decide +kernel
theorem d_BF_entry_42 : decode b_BF_entry 42 = .ok (.getfield 39, 3) := by decide +kernel
theorem d_BF_entry_45 : decode b_BF_entry 45 = .ok (.getfield 136, 3) := by decide +kernel
theorem d_BF_entry_48 : decode b_BF_entry 48 = .ok (.iload_n 3, 1) := by decide +kernel
theorem d_BF_entry_49 : decode b_BF_entry 49 = .ok (.iaload, 1) := by decide +kernel
theorem d_BF_entry_50 : decode b_BF_entry 50 = .ok (.i2l, 1) := by decide +kernel
theorem d_BF_entry_51 : decode b_BF_entry 51 = .ok (.ldc2_w 139, 3) := by decide +kernel
theorem d_BF_entry_54 : decode b_BF_entry 54 = .ok (.land, 1) := by decide +kernel
theorem d_BF_entry_55 : decode b_BF_entry 55 = .ok (.ladd, 1) := by decide +kernel
theorem d_BF_entry_56 : decode b_BF_entry 56 = .ok (.lreturn, 1) := by decide +kernel
theorem d_BF_set_0 : decode b_BF_set 0 = .ok (.iload_n 1, 1) := by decide +kernel
theorem d_BF_set_1 : decode b_BF_set 1 = .ok (.invokestatic 65, 3) := by decide +kernel
theorem d_BF_set_4 : decode b_BF_set 4 = .ok (.ifCond .ne 5, 3) := by decide +kernel
theorem d_BF_set_7 : decode b_BF_set 7 = .ok (.iconst 0, 1) := by decide +kernel
theorem d_BF_set_8 : decode b_BF_set 8 = .ok (.ireturn, 1) := by decide +kernel
theorem d_BF_set_9 : decode b_BF_set 9 = .ok (.aload_n 0, 1) := by decide +kernel
theorem d_BF_set_10 : decode b_BF_set 10 = .ok (.getfield 9, 3) := by decide +kernel
theorem d_BF_set_13 : decode b_BF_set 13 = .ok (.iload_n 1, 1) := by decide +kernel
theorem d_BF_set_14 : decode b_BF_set 14 = .ok (.iload_n 2, 1) := by decide +kernel
theorem d_BF_set_15 : decode b_BF_set 15 = .ok (.iastore, 1) := by decide +kernel
theorem d_BF_set_16 : decode b_BF_set 16 = .ok (.iconst 1, 1) := by decide +kernel
theorem d_BF_set_17 : decode b_BF_set 17 = .ok (.ireturn, 1) := by decide +kernel
theorem d_BF_predict_0 : decode b_BF_predict 0 = .ok (.aload_n 0, 1) := by decide +kernel
theorem d_BF_predict_1 : decode b_BF_predict 1 = .ok (.getfield 57, 3) := by decide +kernel
theorem d_BF_predict_4 : decode b_BF_predict 4 = .ok (.invokevirtual 141, 3) := by decide +kernel
theorem d_BF_predict_7 : decode b_BF_predict 7 = .ok (.lreturn, 1) := by decide +kernel
theorem d_BF_steps_0 : decode b_BF_steps 0 = .ok (.aload_n 0, 1) := by decide +kernel
theorem d_BF_steps_1 : decode b_BF_steps 1 = .ok (.getfield 57, 3) := by decide +kernel
theorem d_BF_steps_4 : decode b_BF_steps 4 = .ok (.getfield 145, 3) := by decide +kernel
theorem d_BF_steps_7 : decode b_BF_steps 7 = .ok (.ireturn, 1) := by decide +kernel
theorem d_BF_calls_0 : decode b_BF_calls 0 = .ok (.aload_n 0, 1) := by decide +kernel
theorem d_BF_calls_1 : decode b_BF_calls 1 = .ok (.getfield 57, 3) := by decide +kernel
theorem d_BF_calls_4 : decode b_BF_calls 4 = .ok (.getfield 148, 3) := by decide +kernel
theorem d_BF_calls_7 : decode b_BF_calls 7 = .ok (.ireturn, 1) := by decide +kernel
theorem d_BF_reach_0 : decode b_BF_reach 0 = .ok (.iload_n 1, 1) := by decide +kernel
theorem d_BF_reach_1 : decode b_BF_reach 1 = .ok (.ifCond .lt 37, 3) := by decide +kernel
theorem d_BF_reach_4 : decode b_BF_reach 4 = .ok (.iload_n 1, 1) := by decide +kernel
theorem d_BF_reach_5 : decode b_BF_reach 5 = .ok (.aload_n 0, 1) := by decide +kernel
theorem d_BF_reach_6 : decode b_BF_reach 6 = .ok (.getfield 48, 3) := by decide +kernel
theorem d_BF_reach_9 : decode b_BF_reach 9 = .ok (.getfield 151, 3) := by decide +kernel
theorem d_BF_reach_12 : decode b_BF_reach 12 = .ok (.if_icmp .ge 26, 3) := by decide +kernel
theorem d_BF_reach_15 : decode b_BF_reach 15 = .ok (.aload_n 0, 1) := by decide +kernel
theorem d_BF_reach_16 : decode b_BF_reach 16 = .ok (.getfield 16, 3) := by decide +kernel
theorem d_BF_reach_19 : decode b_BF_reach 19 = .ok (.aload_n 0, 1) := by decide +kernel
theorem d_BF_reach_20 : decode b_BF_reach 20 = .ok (.getfield 16, 3) := by decide +kernel
theorem d_BF_reach_23 : decode b_BF_reach 23 = .ok (.getfield 152, 3) := by decide +kernel
theorem d_BF_reach_26 : decode b_BF_reach 26 = .ok (.iload_n 1, 1) := by decide +kernel
theorem d_BF_reach_27 : decode b_BF_reach 27 = .ok (.iaload, 1) := by decide +kernel
theorem d_BF_reach_28 : decode b_BF_reach 28 = .ok (.aload_n 0, 1) := by decide +kernel
theorem d_BF_reach_29 : decode b_BF_reach 29 = .ok (.getfield 9, 3) := by decide +kernel
theorem d_BF_reach_32 : decode b_BF_reach 32 = .ok (.invokevirtual 155, 3) := by decide +kernel
theorem d_BF_reach_35 : decode b_BF_reach 35 = .ok (.goto 4, 3) := by decide +kernel
theorem d_BF_reach_38 : decode b_BF_reach 38 = .ok (.iconst (-1), 1) := by decide +kernel
theorem d_BF_reach_39 : decode b_BF_reach 39 = .ok (.ireturn, 1) := by decide +kernel
theorem d_BF_isFeature_0 : decode b_BF_isFeature 0 = .ok (.iload_n 0, 1) := by decide +kernel
theorem d_BF_isFeature_1 : decode b_BF_isFeature 1 = .ok (.ifCond .lt 13, 3) := by decide +kernel
theorem d_BF_isFeature_4 : decode b_BF_isFeature 4 = .ok (.iload_n 0, 1) := by decide +kernel
theorem d_BF_isFeature_5 : decode b_BF_isFeature 5 = .ok (.bipush 8, 2) := by decide +kernel
theorem d_BF_isFeature_7 : decode b_BF_isFeature 7 = .ok (.if_icmp .ge 7, 3) := by decide +kernel
theorem d_BF_isFeature_10 : decode b_BF_isFeature 10 = .ok (.iconst 1, 1) := by decide +kernel
theorem d_BF_isFeature_11 : decode b_BF_isFeature 11 = .ok (.goto 4, 3) := by decide +kernel
theorem d_BF_isFeature_14 : decode b_BF_isFeature 14 = .ok (.iconst 0, 1) := by decide +kernel
theorem d_BF_isFeature_15 : decode b_BF_isFeature 15 = .ok (.ireturn, 1) := by decide +kernel
theorem d_BF_isNodeNumber_0 : decode b_BF_isNodeNumber 0 = .ok (.iload_n 0, 1) := by decide +kernel
theorem d_BF_isNodeNumber_1 : decode b_BF_isNodeNumber 1 = .ok (.ifCond .lt 13, 3) := by decide +kernel
theorem d_BF_isNodeNumber_4 : decode b_BF_isNodeNumber 4 = .ok (.iload_n 0, 1) := by decide +kernel
theorem d_BF_isNodeNumber_5 : decode b_BF_isNodeNumber 5 = .ok (.bipush 60, 2) := by decide +kernel
theorem d_BF_isNodeNumber_7 : decode b_BF_isNodeNumber 7 = .ok (.if_icmp .ge 7, 3) := by decide +kernel
theorem d_BF_isNodeNumber_10 : decode b_BF_isNodeNumber 10 = .ok (.iconst 1, 1) := by decide +kernel
theorem d_BF_isNodeNumber_11 : decode b_BF_isNodeNumber 11 = .ok (.goto 4, 3) := by decide +kernel
theorem d_BF_isNodeNumber_14 : decode b_BF_isNodeNumber 14 = .ok (.iconst 0, 1) := by decide +kernel
theorem d_BF_isNodeNumber_15 : decode b_BF_isNodeNumber 15 = .ok (.ireturn, 1) := by decide +kernel
theorem d_BF_isTableSize_0 : decode b_BF_isTableSize 0 = .ok (.iload_n 0, 1) := by decide +kernel
theorem d_BF_isTableSize_1 : decode b_BF_isTableSize 1 = .ok (.bipush 60, 2) := by decide +kernel
theorem d_BF_isTableSize_3 : decode b_BF_isTableSize 3 = .ok (.if_icmp .eq 16, 3) := by decide +kernel
theorem d_BF_isTableSize_6 : decode b_BF_isTableSize 6 = .ok (.iload_n 0, 1) := by decide +kernel
theorem d_BF_isTableSize_7 : decode b_BF_isTableSize 7 = .ok (.bipush 60, 2) := by decide +kernel
theorem d_BF_isTableSize_9 : decode b_BF_isTableSize 9 = .ok (.if_icmp .ge 14, 3) := by decide +kernel
theorem d_BF_isTableSize_12 : decode b_BF_isTableSize 12 = .ok (.iload_n 0, 1) := by decide +kernel
theorem d_BF_isTableSize_13 : decode b_BF_isTableSize 13 = .ok (.iload_n 1, 1) := by decide +kernel
theorem d_BF_isTableSize_14 : decode b_BF_isTableSize 14 = .ok (.iconst 4, 1) := by decide +kernel
theorem d_BF_isTableSize_15 : decode b_BF_isTableSize 15 = .ok (.idiv, 1) := by decide +kernel
theorem d_BF_isTableSize_16 : decode b_BF_isTableSize 16 = .ok (.if_icmp .lt 7, 3) := by decide +kernel
theorem d_BF_isTableSize_19 : decode b_BF_isTableSize 19 = .ok (.iconst 1, 1) := by decide +kernel
theorem d_BF_isTableSize_20 : decode b_BF_isTableSize 20 = .ok (.goto 4, 3) := by decide +kernel
theorem d_BF_isTableSize_23 : decode b_BF_isTableSize 23 = .ok (.iconst 0, 1) := by decide +kernel
theorem d_BF_isTableSize_24 : decode b_BF_isTableSize 24 = .ok (.ireturn, 1) := by decide +kernel
theorem d_Fo_addNode_0 : decode b_Fo_addNode 0 = .ok (.aload_n 0, 1) := by decide +kernel
theorem d_Fo_addNode_1 : decode b_Fo_addNode 1 = .ok (.getfield 30, 3) := by decide +kernel
theorem d_Fo_addNode_4 : decode b_Fo_addNode 4 = .ok (.bipush 60, 2) := by decide +kernel
theorem d_Fo_addNode_6 : decode b_Fo_addNode 6 = .ok (.if_icmp .lt 5, 3) := by decide +kernel
theorem d_Fo_addNode_9 : decode b_Fo_addNode 9 = .ok (.iconst (-1), 1) := by decide +kernel
theorem d_Fo_addNode_10 : decode b_Fo_addNode 10 = .ok (.ireturn, 1) := by decide +kernel
theorem d_Fo_addNode_11 : decode b_Fo_addNode 11 = .ok (.aload_n 0, 1) := by decide +kernel
theorem d_Fo_addNode_12 : decode b_Fo_addNode 12 = .ok (.getfield 9, 3) := by decide +kernel
theorem d_Fo_addNode_15 : decode b_Fo_addNode 15 = .ok (.aload_n 0, 1) := by decide +kernel
theorem d_Fo_addNode_16 : decode b_Fo_addNode 16 = .ok (.getfield 30, 3) := by decide +kernel
theorem d_Fo_addNode_19 : decode b_Fo_addNode 19 = .ok (.iload_n 1, 1) := by decide +kernel
theorem d_Fo_addNode_20 : decode b_Fo_addNode 20 = .ok (.iastore, 1) := by decide +kernel
theorem d_Fo_addNode_21 : decode b_Fo_addNode 21 = .ok (.aload_n 0, 1) := by decide +kernel
theorem d_Fo_addNode_22 : decode b_Fo_addNode 22 = .ok (.getfield 15, 3) := by decide +kernel
theorem d_Fo_addNode_25 : decode b_Fo_addNode 25 = .ok (.aload_n 0, 1) := by decide +kernel
theorem d_Fo_addNode_26 : decode b_Fo_addNode 26 = .ok (.getfield 30, 3) := by decide +kernel
theorem d_Fo_addNode_29 : decode b_Fo_addNode 29 = .ok (.iload_n 2, 1) := by decide +kernel
theorem d_Fo_addNode_30 : decode b_Fo_addNode 30 = .ok (.iastore, 1) := by decide +kernel
theorem d_Fo_addNode_31 : decode b_Fo_addNode 31 = .ok (.aload_n 0, 1) := by decide +kernel
theorem d_Fo_addNode_32 : decode b_Fo_addNode 32 = .ok (.getfield 18, 3) := by decide +kernel
theorem d_Fo_addNode_35 : decode b_Fo_addNode 35 = .ok (.aload_n 0, 1) := by decide +kernel
theorem d_Fo_addNode_36 : decode b_Fo_addNode 36 = .ok (.getfield 30, 3) := by decide +kernel
theorem d_Fo_addNode_39 : decode b_Fo_addNode 39 = .ok (.iload_n 3, 1) := by decide +kernel
theorem d_Fo_addNode_40 : decode b_Fo_addNode 40 = .ok (.iastore, 1) := by decide +kernel
theorem d_Fo_addNode_41 : decode b_Fo_addNode 41 = .ok (.aload_n 0, 1) := by decide +kernel
theorem d_Fo_addNode_42 : decode b_Fo_addNode 42 = .ok (.getfield 21, 3) := by decide +kernel
theorem d_Fo_addNode_45 : decode b_Fo_addNode 45 = .ok (.aload_n 0, 1) := by decide +kernel
theorem d_Fo_addNode_46 : decode b_Fo_addNode 46 = .ok (.getfield 30, 3) := by decide +kernel
theorem d_Fo_addNode_49 : decode b_Fo_addNode 49 = .ok (.iload 4, 2) := by decide +kernel
theorem d_Fo_addNode_51 : decode b_Fo_addNode 51 = .ok (.iastore, 1) := by decide +kernel
theorem d_Fo_addNode_52 : decode b_Fo_addNode 52 = .ok (.aload_n 0, 1) := by decide +kernel
theorem d_Fo_addNode_53 : decode b_Fo_addNode 53 = .ok (.getfield 24, 3) := by decide +kernel
theorem d_Fo_addNode_56 : decode b_Fo_addNode 56 = .ok (.aload_n 0, 1) := by decide +kernel
theorem d_Fo_addNode_57 : decode b_Fo_addNode 57 = .ok (.getfield 30, 3) := by decide +kernel
theorem d_Fo_addNode_60 : decode b_Fo_addNode 60 = .ok (.iload 5, 2) := by decide +kernel
theorem d_Fo_addNode_62 : decode b_Fo_addNode 62 = .ok (.iastore, 1) := by decide +kernel
theorem d_Fo_addNode_63 : decode b_Fo_addNode 63 = .ok (.aload_n 0, 1) := by decide +kernel
theorem d_Fo_addNode_64 : decode b_Fo_addNode 64 = .ok (.dup, 1) := by decide +kernel
theorem d_Fo_addNode_65 : decode b_Fo_addNode 65 = .ok (.getfield 30, 3) := by decide +kernel
theorem d_Fo_addNode_68 : decode b_Fo_addNode 68 = .ok (.iconst 1, 1) := by decide +kernel
theorem d_Fo_addNode_69 : decode b_Fo_addNode 69 = .ok (.iadd, 1) := by decide +kernel
theorem d_Fo_addNode_70 : decode b_Fo_addNode 70 = .ok (.putfield 30, 3) := by decide +kernel
theorem d_Fo_addNode_73 : decode b_Fo_addNode 73 = .ok (.aload_n 0, 1) := by decide +kernel
theorem d_Fo_addNode_74 : decode b_Fo_addNode 74 = .ok (.getfield 30, 3) := by decide +kernel
theorem d_Fo_addNode_77 : decode b_Fo_addNode 77 = .ok (.iconst 1, 1) := by decide +kernel
theorem d_Fo_addNode_78 : decode b_Fo_addNode 78 = .ok (.isub, 1) := by decide +kernel
theorem d_Fo_addNode_79 : decode b_Fo_addNode 79 = .ok (.ireturn, 1) := by decide +kernel
theorem d_Fo_addTree_0 : decode b_Fo_addTree 0 = .ok (.aload_n 0, 1) := by decide +kernel
theorem d_Fo_addTree_1 : decode b_Fo_addTree 1 = .ok (.getfield 34, 3) := by decide +kernel
theorem d_Fo_addTree_4 : decode b_Fo_addTree 4 = .ok (.bipush 8, 2) := by decide +kernel
theorem d_Fo_addTree_6 : decode b_Fo_addTree 6 = .ok (.if_icmp .ge 11, 3) := by decide +kernel
theorem d_Fo_addTree_9 : decode b_Fo_addTree 9 = .ok (.aload_n 0, 1) := by decide +kernel
theorem d_Fo_addTree_10 : decode b_Fo_addTree 10 = .ok (.iload_n 1, 1) := by decide +kernel
theorem d_Fo_addTree_11 : decode b_Fo_addTree 11 = .ok (.invokevirtual 37, 3) := by decide +kernel
theorem d_Fo_addTree_14 : decode b_Fo_addTree 14 = .ok (.ifCond .ne 5, 3) := by decide +kernel
theorem d_Fo_addTree_17 : decode b_Fo_addTree 17 = .ok (.iconst (-1), 1) := by decide +kernel
theorem d_Fo_addTree_18 : decode b_Fo_addTree 18 = .ok (.ireturn, 1) := by decide +kernel
theorem d_Fo_addTree_19 : decode b_Fo_addTree 19 = .ok (.aload_n 0, 1) := by decide +kernel
theorem d_Fo_addTree_20 : decode b_Fo_addTree 20 = .ok (.getfield 27, 3) := by decide +kernel
theorem d_Fo_addTree_23 : decode b_Fo_addTree 23 = .ok (.aload_n 0, 1) := by decide +kernel
theorem d_Fo_addTree_24 : decode b_Fo_addTree 24 = .ok (.getfield 34, 3) := by decide +kernel
theorem d_Fo_addTree_27 : decode b_Fo_addTree 27 = .ok (.iload_n 1, 1) := by decide +kernel
theorem d_Fo_addTree_28 : decode b_Fo_addTree 28 = .ok (.iastore, 1) := by decide +kernel
theorem d_Fo_addTree_29 : decode b_Fo_addTree 29 = .ok (.aload_n 0, 1) := by decide +kernel
theorem d_Fo_addTree_30 : decode b_Fo_addTree 30 = .ok (.dup, 1) := by decide +kernel
theorem d_Fo_addTree_31 : decode b_Fo_addTree 31 = .ok (.getfield 34, 3) := by decide +kernel
theorem d_Fo_addTree_34 : decode b_Fo_addTree 34 = .ok (.iconst 1, 1) := by decide +kernel
theorem d_Fo_addTree_35 : decode b_Fo_addTree 35 = .ok (.iadd, 1) := by decide +kernel
theorem d_Fo_addTree_36 : decode b_Fo_addTree 36 = .ok (.putfield 34, 3) := by decide +kernel
theorem d_Fo_addTree_39 : decode b_Fo_addTree 39 = .ok (.aload_n 0, 1) := by decide +kernel
theorem d_Fo_addTree_40 : decode b_Fo_addTree 40 = .ok (.getfield 34, 3) := by decide +kernel
theorem d_Fo_addTree_43 : decode b_Fo_addTree 43 = .ok (.iconst 1, 1) := by decide +kernel
theorem d_Fo_addTree_44 : decode b_Fo_addTree 44 = .ok (.isub, 1) := by decide +kernel
theorem d_Fo_addTree_45 : decode b_Fo_addTree 45 = .ok (.ireturn, 1) := by decide +kernel
theorem d_Fo_isNode_0 : decode b_Fo_isNode 0 = .ok (.iload_n 1, 1) := by decide +kernel
theorem d_Fo_isNode_1 : decode b_Fo_isNode 1 = .ok (.ifCond .lt 15, 3) := by decide +kernel
theorem d_Fo_isNode_4 : decode b_Fo_isNode 4 = .ok (.iload_n 1, 1) := by decide +kernel
theorem d_Fo_isNode_5 : decode b_Fo_isNode 5 = .ok (.aload_n 0, 1) := by decide +kernel
theorem d_Fo_isNode_6 : decode b_Fo_isNode 6 = .ok (.getfield 30, 3) := by decide +kernel
theorem d_Fo_isNode_9 : decode b_Fo_isNode 9 = .ok (.if_icmp .ge 7, 3) := by decide +kernel
theorem d_Fo_isNode_12 : decode b_Fo_isNode 12 = .ok (.iconst 1, 1) := by decide +kernel
theorem d_Fo_isNode_13 : decode b_Fo_isNode 13 = .ok (.goto 4, 3) := by decide +kernel
theorem d_Fo_isNode_16 : decode b_Fo_isNode 16 = .ok (.iconst 0, 1) := by decide +kernel
theorem d_Fo_isNode_17 : decode b_Fo_isNode 17 = .ok (.ireturn, 1) := by decide +kernel
theorem d_Fo_isLeaf_0 : decode b_Fo_isLeaf 0 = .ok (.aload_n 0, 1) := by decide +kernel
theorem d_Fo_isLeaf_1 : decode b_Fo_isLeaf 1 = .ok (.getfield 9, 3) := by decide +kernel
theorem d_Fo_isLeaf_4 : decode b_Fo_isLeaf 4 = .ok (.iload_n 1, 1) := by decide +kernel
theorem d_Fo_isLeaf_5 : decode b_Fo_isLeaf 5 = .ok (.iaload, 1) := by decide +kernel
theorem d_Fo_isLeaf_6 : decode b_Fo_isLeaf 6 = .ok (.iconst (-1), 1) := by decide +kernel
theorem d_Fo_isLeaf_7 : decode b_Fo_isLeaf 7 = .ok (.if_icmp .ne 7, 3) := by decide +kernel
theorem d_Fo_isLeaf_10 : decode b_Fo_isLeaf 10 = .ok (.iconst 1, 1) := by decide +kernel
theorem d_Fo_isLeaf_11 : decode b_Fo_isLeaf 11 = .ok (.goto 4, 3) := by decide +kernel
theorem d_Fo_isLeaf_14 : decode b_Fo_isLeaf 14 = .ok (.iconst 0, 1) := by decide +kernel
theorem d_Fo_isLeaf_15 : decode b_Fo_isLeaf 15 = .ok (.ireturn, 1) := by decide +kernel
theorem d_Fo_kindOfEntry_0 : decode b_Fo_kindOfEntry 0 = .ok (.aload_n 0, 1) := by decide +kernel
theorem d_Fo_kindOfEntry_1 : decode b_Fo_kindOfEntry 1 = .ok (.iload_n 1, 1) := by decide +kernel
theorem d_Fo_kindOfEntry_2 : decode b_Fo_kindOfEntry 2 = .ok (.invokevirtual 41, 3) := by decide +kernel
theorem d_Fo_kindOfEntry_5 : decode b_Fo_kindOfEntry 5 = .ok (.ifCond .eq 5, 3) := by decide +kernel
theorem d_Fo_kindOfEntry_8 : decode b_Fo_kindOfEntry 8 = .ok (.iconst 2, 1) := by decide +kernel
theorem d_Fo_kindOfEntry_9 : decode b_Fo_kindOfEntry 9 = .ok (.ireturn, 1) := by decide +kernel
theorem d_Fo_kindOfEntry_10 : decode b_Fo_kindOfEntry 10 = .ok (.aload_n 0, 1) := by decide +kernel
theorem d_Fo_kindOfEntry_11 : decode b_Fo_kindOfEntry 11 = .ok (.getfield 9, 3) := by decide +kernel
theorem d_Fo_kindOfEntry_14 : decode b_Fo_kindOfEntry 14 = .ok (.iload_n 1, 1) := by decide +kernel
theorem d_Fo_kindOfEntry_15 : decode b_Fo_kindOfEntry 15 = .ok (.iaload, 1) := by decide +kernel
theorem d_Fo_kindOfEntry_16 : decode b_Fo_kindOfEntry 16 = .ok (.invokestatic 44, 3) := by decide +kernel
theorem d_Fo_kindOfEntry_19 : decode b_Fo_kindOfEntry 19 = .ok (.ifCond .eq 7, 3) := by decide +kernel
theorem d_Fo_kindOfEntry_22 : decode b_Fo_kindOfEntry 22 = .ok (.iconst 3, 1) := by decide +kernel
theorem d_Fo_kindOfEntry_23 : decode b_Fo_kindOfEntry 23 = .ok (.goto 4, 3) := by decide +kernel
theorem d_Fo_kindOfEntry_26 : decode b_Fo_kindOfEntry 26 = .ok (.iconst 1, 1) := by decide +kernel
theorem d_Fo_kindOfEntry_27 : decode b_Fo_kindOfEntry 27 = .ok (.ireturn, 1) := by decide +kernel
theorem d_Fo_leafFor_0 : decode b_Fo_leafFor 0 = .ok (.iload_n 1, 1) := by decide +kernel
theorem d_Fo_leafFor_1 : decode b_Fo_leafFor 1 = .ok (.istore_n 3, 1) := by decide +kernel
theorem d_Fo_leafFor_2 : decode b_Fo_leafFor 2 = .ok (.iconst 0, 1) := by decide +kernel
theorem d_Fo_leafFor_3 : decode b_Fo_leafFor 3 = .ok (.istore 4, 2) := by decide +kernel
theorem d_Fo_leafFor_5 : decode b_Fo_leafFor 5 = .ok (.iload 4, 2) := by decide +kernel
theorem d_Fo_leafFor_7 : decode b_Fo_leafFor 7 = .ok (.bipush 12, 2) := by decide +kernel
theorem d_Fo_leafFor_9 : decode b_Fo_leafFor 9 = .ok (.if_icmp .gt 63, 3) := by decide +kernel
theorem d_Fo_leafFor_12 : decode b_Fo_leafFor 12 = .ok (.aload_n 0, 1) := by decide +kernel
theorem d_Fo_leafFor_13 : decode b_Fo_leafFor 13 = .ok (.iload_n 3, 1) := by decide +kernel
theorem d_Fo_leafFor_14 : decode b_Fo_leafFor 14 = .ok (.invokevirtual 41, 3) := by decide +kernel
theorem d_Fo_leafFor_17 : decode b_Fo_leafFor 17 = .ok (.ifCond .ne 55, 3) := by decide +kernel
theorem d_Fo_leafFor_20 : decode b_Fo_leafFor 20 = .ok (.aload_n 0, 1) := by decide +kernel
theorem d_Fo_leafFor_21 : decode b_Fo_leafFor 21 = .ok (.getfield 9, 3) := by decide +kernel
theorem d_Fo_leafFor_24 : decode b_Fo_leafFor 24 = .ok (.iload_n 3, 1) := by decide +kernel
theorem d_Fo_leafFor_25 : decode b_Fo_leafFor 25 = .ok (.iaload, 1) := by decide +kernel
theorem d_Fo_leafFor_26 : decode b_Fo_leafFor 26 = .ok (.aload_n 2, 1) := by decide +kernel
theorem d_Fo_leafFor_27 : decode b_Fo_leafFor 27 = .ok (.aload_n 0, 1) := by decide +kernel
theorem d_Fo_leafFor_28 : decode b_Fo_leafFor 28 = .ok (.getfield 15, 3) := by decide +kernel
theorem d_Fo_leafFor_31 : decode b_Fo_leafFor 31 = .ok (.iload_n 3, 1) := by decide +kernel
theorem d_Fo_leafFor_32 : decode b_Fo_leafFor 32 = .ok (.iaload, 1) := by decide +kernel
theorem d_Fo_leafFor_33 : decode b_Fo_leafFor 33 = .ok (.iaload, 1) := by decide +kernel
theorem d_Fo_leafFor_34 : decode b_Fo_leafFor 34 = .ok (.aload_n 0, 1) := by decide +kernel
theorem d_Fo_leafFor_35 : decode b_Fo_leafFor 35 = .ok (.getfield 18, 3) := by decide +kernel
theorem d_Fo_leafFor_38 : decode b_Fo_leafFor 38 = .ok (.iload_n 3, 1) := by decide +kernel
theorem d_Fo_leafFor_39 : decode b_Fo_leafFor 39 = .ok (.iaload, 1) := by decide +kernel
theorem d_Fo_leafFor_40 : decode b_Fo_leafFor 40 = .ok (.invokestatic 49, 3) := by decide +kernel
theorem d_Fo_leafFor_43 : decode b_Fo_leafFor 43 = .ok (.istore 5, 2) := by decide +kernel
theorem d_Fo_leafFor_45 : decode b_Fo_leafFor 45 = .ok (.iload 5, 2) := by decide +kernel
theorem d_Fo_leafFor_47 : decode b_Fo_leafFor 47 = .ok (.ifCond .eq 12, 3) := by decide +kernel
theorem d_Fo_leafFor_50 : decode b_Fo_leafFor 50 = .ok (.aload_n 0, 1) := by decide +kernel
theorem d_Fo_leafFor_51 : decode b_Fo_leafFor 51 = .ok (.getfield 21, 3) := by decide +kernel
theorem d_Fo_leafFor_54 : decode b_Fo_leafFor 54 = .ok (.iload_n 3, 1) := by decide +kernel
theorem d_Fo_leafFor_55 : decode b_Fo_leafFor 55 = .ok (.iaload, 1) := by decide +kernel
theorem d_Fo_leafFor_56 : decode b_Fo_leafFor 56 = .ok (.goto 9, 3) := by decide +kernel
theorem d_Fo_leafFor_59 : decode b_Fo_leafFor 59 = .ok (.aload_n 0, 1) := by decide +kernel
theorem d_Fo_leafFor_60 : decode b_Fo_leafFor 60 = .ok (.getfield 24, 3) := by decide +kernel
theorem d_Fo_leafFor_63 : decode b_Fo_leafFor 63 = .ok (.iload_n 3, 1) := by decide +kernel
theorem d_Fo_leafFor_64 : decode b_Fo_leafFor 64 = .ok (.iaload, 1) := by decide +kernel
theorem d_Fo_leafFor_65 : decode b_Fo_leafFor 65 = .ok (.istore_n 3, 1) := by decide +kernel
theorem d_Fo_leafFor_66 : decode b_Fo_leafFor 66 = .ok (.iinc 4 1, 3) := by decide +kernel
theorem d_Fo_leafFor_69 : decode b_Fo_leafFor 69 = .ok (.goto (-64), 3) := by decide +kernel
theorem d_Fo_leafFor_72 : decode b_Fo_leafFor 72 = .ok (.iload_n 3, 1) := by decide +kernel
theorem d_Fo_leafFor_73 : decode b_Fo_leafFor 73 = .ok (.ireturn, 1) := by decide +kernel
theorem d_Ch_firstFault_0 : decode b_Ch_firstFault 0 = .ok (.iconst 0, 1) := by decide +kernel
theorem d_Ch_firstFault_1 : decode b_Ch_firstFault 1 = .ok (.istore_n 1, 1) := by decide +kernel
theorem d_Ch_firstFault_2 : decode b_Ch_firstFault 2 = .ok (.iload_n 1, 1) := by decide +kernel
theorem d_Ch_firstFault_3 : decode b_Ch_firstFault 3 = .ok (.bipush 60, 2) := by decide +kernel
theorem d_Ch_firstFault_5 : decode b_Ch_firstFault 5 = .ok (.if_icmp .ge 16, 3) := by decide +kernel
theorem d_Ch_firstFault_8 : decode b_Ch_firstFault 8 = .ok (.aload_n 0, 1) := by decide +kernel
theorem d_Ch_firstFault_9 : decode b_Ch_firstFault 9 = .ok (.getfield 9, 3) := by decide +kernel
theorem d_Ch_firstFault_12 : decode b_Ch_firstFault 12 = .ok (.iload_n 1, 1) := by decide +kernel
theorem d_Ch_firstFault_13 : decode b_Ch_firstFault 13 = .ok (.iconst 0, 1) := by decide +kernel
theorem d_Ch_firstFault_14 : decode b_Ch_firstFault 14 = .ok (.bastore, 1) := by decide +kernel
theorem d_Ch_firstFault_15 : decode b_Ch_firstFault 15 = .ok (.iinc 1 1, 3) := by decide +kernel
theorem d_Ch_firstFault_18 : decode b_Ch_firstFault 18 = .ok (.goto (-16), 3) := by decide +kernel
theorem d_Ch_firstFault_21 : decode b_Ch_firstFault 21 = .ok (.iconst 0, 1) := by decide +kernel
theorem d_Ch_firstFault_22 : decode b_Ch_firstFault 22 = .ok (.istore_n 1, 1) := by decide +kernel
theorem d_Ch_firstFault_23 : decode b_Ch_firstFault 23 = .ok (.iconst 0, 1) := by decide +kernel
theorem d_Ch_firstFault_24 : decode b_Ch_firstFault 24 = .ok (.istore_n 2, 1) := by decide +kernel
theorem d_Ch_firstFault_25 : decode b_Ch_firstFault 25 = .ok (.iload_n 2, 1) := by decide +kernel
theorem d_Ch_firstFault_26 : decode b_Ch_firstFault 26 = .ok (.aload_n 0, 1) := by decide +kernel
theorem d_Ch_firstFault_27 : decode b_Ch_firstFault 27 = .ok (.getfield 15, 3) := by decide +kernel
theorem d_Ch_firstFault_30 : decode b_Ch_firstFault 30 = .ok (.getfield 19, 3) := by decide +kernel
theorem d_Ch_firstFault_33 : decode b_Ch_firstFault 33 = .ok (.if_icmp .ge 28, 3) := by decide +kernel
theorem d_Ch_firstFault_36 : decode b_Ch_firstFault 36 = .ok (.iload_n 1, 1) := by decide +kernel
theorem d_Ch_firstFault_37 : decode b_Ch_firstFault 37 = .ok (.ifCond .ne 24, 3) := by decide +kernel
theorem d_Ch_firstFault_40 : decode b_Ch_firstFault 40 = .ok (.aload_n 0, 1) := by decide +kernel
theorem d_Ch_firstFault_41 : decode b_Ch_firstFault 41 = .ok (.aload_n 0, 1) := by decide +kernel
theorem d_Ch_firstFault_42 : decode b_Ch_firstFault 42 = .ok (.getfield 15, 3) := by decide +kernel
theorem d_Ch_firstFault_45 : decode b_Ch_firstFault 45 = .ok (.getfield 25, 3) := by decide +kernel
theorem d_Ch_firstFault_48 : decode b_Ch_firstFault 48 = .ok (.iload_n 2, 1) := by decide +kernel
theorem d_Ch_firstFault_49 : decode b_Ch_firstFault 49 = .ok (.iaload, 1) := by decide +kernel
end
section
theorem d_Ch_firstFault_50 : decode b_Ch_firstFault 50 = .ok (.iconst 0, 1) := by decide +kernel
theorem d_Ch_firstFault_51 : decode b_Ch_firstFault 51 = .ok (.invokevirtual 29, 3) := by decide +kernel
theorem d_Ch_firstFault_54 : decode b_Ch_firstFault 54 = .ok (.istore_n 1, 1) := by decide +kernel
theorem d_Ch_firstFault_55 : decode b_Ch_firstFault 55 = .ok (.iinc 2 1, 3) := by decide +kernel
theorem d_Ch_firstFault_58 : decode b_Ch_firstFault 58 = .ok (.goto (-33), 3) := by decide +kernel
theorem d_Ch_firstFault_61 : decode b_Ch_firstFault 61 = .ok (.iload_n 1, 1) := by decide +kernel
theorem d_Ch_firstFault_62 : decode b_Ch_firstFault 62 = .ok (.ireturn, 1) := by decide +kernel
theorem d_Ch_faultFrom_0 : decode b_Ch_faultFrom 0 = .ok (.aload_n 0, 1) := by decide +kernel
theorem d_Ch_faultFrom_1 : decode b_Ch_faultFrom 1 = .ok (.iload_n 1, 1) := by decide +kernel
theorem d_Ch_faultFrom_2 : decode b_Ch_faultFrom 2 = .ok (.iload_n 2, 1) := by decide +kernel
theorem d_Ch_faultFrom_3 : decode b_Ch_faultFrom 3 = .ok (.invokevirtual 33, 3) := by decide +kernel
theorem d_Ch_faultFrom_6 : decode b_Ch_faultFrom 6 = .ok (.istore_n 3, 1) := by decide +kernel
theorem d_Ch_faultFrom_7 : decode b_Ch_faultFrom 7 = .ok (.iload_n 3, 1) := by decide +kernel
theorem d_Ch_faultFrom_8 : decode b_Ch_faultFrom 8 = .ok (.ifCond .ne 14, 3) := by decide +kernel
theorem d_Ch_faultFrom_11 : decode b_Ch_faultFrom 11 = .ok (.aload_n 0, 1) := by decide +kernel
theorem d_Ch_faultFrom_12 : decode b_Ch_faultFrom 12 = .ok (.getfield 15, 3) := by decide +kernel
theorem d_Ch_faultFrom_15 : decode b_Ch_faultFrom 15 = .ok (.iload_n 1, 1) := by decide +kernel
theorem d_Ch_faultFrom_16 : decode b_Ch_faultFrom 16 = .ok (.invokevirtual 36, 3) := by decide +kernel
theorem d_Ch_faultFrom_19 : decode b_Ch_faultFrom 19 = .ok (.ifCond .eq 5, 3) := by decide +kernel
theorem d_Ch_faultFrom_22 : decode b_Ch_faultFrom 22 = .ok (.iload_n 3, 1) := by decide +kernel
theorem d_Ch_faultFrom_23 : decode b_Ch_faultFrom 23 = .ok (.ireturn, 1) := by decide +kernel
theorem d_Ch_faultFrom_24 : decode b_Ch_faultFrom 24 = .ok (.aload_n 0, 1) := by decide +kernel
theorem d_Ch_faultFrom_25 : decode b_Ch_faultFrom 25 = .ok (.aload_n 0, 1) := by decide +kernel
theorem d_Ch_faultFrom_26 : decode b_Ch_faultFrom 26 = .ok (.getfield 15, 3) := by decide +kernel
theorem d_Ch_faultFrom_29 : decode b_Ch_faultFrom 29 = .ok (.getfield 40, 3) := by decide +kernel
theorem d_Ch_faultFrom_32 : decode b_Ch_faultFrom 32 = .ok (.iload_n 1, 1) := by decide +kernel
theorem d_Ch_faultFrom_33 : decode b_Ch_faultFrom 33 = .ok (.iaload, 1) := by decide +kernel
theorem d_Ch_faultFrom_34 : decode b_Ch_faultFrom 34 = .ok (.iload_n 2, 1) := by decide +kernel
theorem d_Ch_faultFrom_35 : decode b_Ch_faultFrom 35 = .ok (.iconst 1, 1) := by decide +kernel
theorem d_Ch_faultFrom_36 : decode b_Ch_faultFrom 36 = .ok (.iadd, 1) := by decide +kernel
theorem d_Ch_faultFrom_37 : decode b_Ch_faultFrom 37 = .ok (.invokevirtual 29, 3) := by decide +kernel
theorem d_Ch_faultFrom_40 : decode b_Ch_faultFrom 40 = .ok (.istore_n 3, 1) := by decide +kernel
theorem d_Ch_faultFrom_41 : decode b_Ch_faultFrom 41 = .ok (.iload_n 3, 1) := by decide +kernel
theorem d_Ch_faultFrom_42 : decode b_Ch_faultFrom 42 = .ok (.ifCond .eq 7, 3) := by decide +kernel
theorem d_Ch_faultFrom_45 : decode b_Ch_faultFrom 45 = .ok (.iload_n 3, 1) := by decide +kernel
theorem d_Ch_faultFrom_46 : decode b_Ch_faultFrom 46 = .ok (.goto 19, 3) := by decide +kernel
theorem d_Ch_faultFrom_49 : decode b_Ch_faultFrom 49 = .ok (.aload_n 0, 1) := by decide +kernel
theorem d_Ch_faultFrom_50 : decode b_Ch_faultFrom 50 = .ok (.aload_n 0, 1) := by decide +kernel
theorem d_Ch_faultFrom_51 : decode b_Ch_faultFrom 51 = .ok (.getfield 15, 3) := by decide +kernel
theorem d_Ch_faultFrom_54 : decode b_Ch_faultFrom 54 = .ok (.getfield 43, 3) := by decide +kernel
theorem d_Ch_faultFrom_57 : decode b_Ch_faultFrom 57 = .ok (.iload_n 1, 1) := by decide +kernel
theorem d_Ch_faultFrom_58 : decode b_Ch_faultFrom 58 = .ok (.iaload, 1) := by decide +kernel
theorem d_Ch_faultFrom_59 : decode b_Ch_faultFrom 59 = .ok (.iload_n 2, 1) := by decide +kernel
theorem d_Ch_faultFrom_60 : decode b_Ch_faultFrom 60 = .ok (.iconst 1, 1) := by decide +kernel
theorem d_Ch_faultFrom_61 : decode b_Ch_faultFrom 61 = .ok (.iadd, 1) := by decide +kernel
theorem d_Ch_faultFrom_62 : decode b_Ch_faultFrom 62 = .ok (.invokevirtual 29, 3) := by decide +kernel
theorem d_Ch_faultFrom_65 : decode b_Ch_faultFrom 65 = .ok (.ireturn, 1) := by decide +kernel
theorem d_Ch_faultAt_0 : decode b_Ch_faultAt 0 = .ok (.aload_n 0, 1) := by decide +kernel
theorem d_Ch_faultAt_1 : decode b_Ch_faultAt 1 = .ok (.getfield 9, 3) := by decide +kernel
theorem d_Ch_faultAt_4 : decode b_Ch_faultAt 4 = .ok (.iload_n 1, 1) := by decide +kernel
theorem d_Ch_faultAt_5 : decode b_Ch_faultAt 5 = .ok (.baload, 1) := by decide +kernel
theorem d_Ch_faultAt_6 : decode b_Ch_faultAt 6 = .ok (.ifCond .eq 9, 3) := by decide +kernel
theorem d_Ch_faultAt_9 : decode b_Ch_faultAt 9 = .ok (.sipush 200, 3) := by decide +kernel
theorem d_Ch_faultAt_12 : decode b_Ch_faultAt 12 = .ok (.iload_n 1, 1) := by decide +kernel
theorem d_Ch_faultAt_13 : decode b_Ch_faultAt 13 = .ok (.iadd, 1) := by decide +kernel
theorem d_Ch_faultAt_14 : decode b_Ch_faultAt 14 = .ok (.ireturn, 1) := by decide +kernel
theorem d_Ch_faultAt_15 : decode b_Ch_faultAt 15 = .ok (.aload_n 0, 1) := by decide +kernel
theorem d_Ch_faultAt_16 : decode b_Ch_faultAt 16 = .ok (.getfield 9, 3) := by decide +kernel
theorem d_Ch_faultAt_19 : decode b_Ch_faultAt 19 = .ok (.iload_n 1, 1) := by decide +kernel
theorem d_Ch_faultAt_20 : decode b_Ch_faultAt 20 = .ok (.iconst 1, 1) := by decide +kernel
theorem d_Ch_faultAt_21 : decode b_Ch_faultAt 21 = .ok (.bastore, 1) := by decide +kernel
theorem d_Ch_faultAt_22 : decode b_Ch_faultAt 22 = .ok (.iload_n 2, 1) := by decide +kernel
theorem d_Ch_faultAt_23 : decode b_Ch_faultAt 23 = .ok (.bipush 12, 2) := by decide +kernel
theorem d_Ch_faultAt_25 : decode b_Ch_faultAt 25 = .ok (.if_icmp .le 9, 3) := by decide +kernel
theorem d_Ch_faultAt_28 : decode b_Ch_faultAt 28 = .ok (.sipush 300, 3) := by decide +kernel
theorem d_Ch_faultAt_31 : decode b_Ch_faultAt 31 = .ok (.iload_n 1, 1) := by decide +kernel
theorem d_Ch_faultAt_32 : decode b_Ch_faultAt 32 = .ok (.iadd, 1) := by decide +kernel
theorem d_Ch_faultAt_33 : decode b_Ch_faultAt 33 = .ok (.ireturn, 1) := by decide +kernel
theorem d_Ch_faultAt_34 : decode b_Ch_faultAt 34 = .ok (.aload_n 0, 1) := by decide +kernel
theorem d_Ch_faultAt_35 : decode b_Ch_faultAt 35 = .ok (.iload_n 1, 1) := by decide +kernel
theorem d_Ch_faultAt_36 : decode b_Ch_faultAt 36 = .ok (.invokevirtual 46, 3) := by decide +kernel
theorem d_Ch_faultAt_39 : decode b_Ch_faultAt 39 = .ok (.ifCond .eq 10, 3) := by decide +kernel
theorem d_Ch_faultAt_42 : decode b_Ch_faultAt 42 = .ok (.bipush 100, 2) := by decide +kernel
theorem d_Ch_faultAt_44 : decode b_Ch_faultAt 44 = .ok (.iload_n 1, 1) := by decide +kernel
theorem d_Ch_faultAt_45 : decode b_Ch_faultAt 45 = .ok (.iadd, 1) := by decide +kernel
theorem d_Ch_faultAt_46 : decode b_Ch_faultAt 46 = .ok (.goto 4, 3) := by decide +kernel
theorem d_Ch_faultAt_49 : decode b_Ch_faultAt 49 = .ok (.iconst 0, 1) := by decide +kernel
theorem d_Ch_faultAt_50 : decode b_Ch_faultAt 50 = .ok (.ireturn, 1) := by decide +kernel
theorem d_Ch_isDangling_0 : decode b_Ch_isDangling 0 = .ok (.aload_n 0, 1) := by decide +kernel
theorem d_Ch_isDangling_1 : decode b_Ch_isDangling 1 = .ok (.getfield 15, 3) := by decide +kernel
theorem d_Ch_isDangling_4 : decode b_Ch_isDangling 4 = .ok (.iload_n 1, 1) := by decide +kernel
theorem d_Ch_isDangling_5 : decode b_Ch_isDangling 5 = .ok (.invokevirtual 36, 3) := by decide +kernel
theorem d_Ch_isDangling_8 : decode b_Ch_isDangling 8 = .ok (.ifCond .ne 45, 3) := by decide +kernel
theorem d_Ch_isDangling_11 : decode b_Ch_isDangling 11 = .ok (.aload_n 0, 1) := by decide +kernel
theorem d_Ch_isDangling_12 : decode b_Ch_isDangling 12 = .ok (.getfield 15, 3) := by decide +kernel
theorem d_Ch_isDangling_15 : decode b_Ch_isDangling 15 = .ok (.aload_n 0, 1) := by decide +kernel
theorem d_Ch_isDangling_16 : decode b_Ch_isDangling 16 = .ok (.getfield 15, 3) := by decide +kernel
theorem d_Ch_isDangling_19 : decode b_Ch_isDangling 19 = .ok (.getfield 40, 3) := by decide +kernel
theorem d_Ch_isDangling_22 : decode b_Ch_isDangling 22 = .ok (.iload_n 1, 1) := by decide +kernel
theorem d_Ch_isDangling_23 : decode b_Ch_isDangling 23 = .ok (.iaload, 1) := by decide +kernel
theorem d_Ch_isDangling_24 : decode b_Ch_isDangling 24 = .ok (.invokevirtual 49, 3) := by decide +kernel
theorem d_Ch_isDangling_27 : decode b_Ch_isDangling 27 = .ok (.ifCond .eq 22, 3) := by decide +kernel
theorem d_Ch_isDangling_30 : decode b_Ch_isDangling 30 = .ok (.aload_n 0, 1) := by decide +kernel
theorem d_Ch_isDangling_31 : decode b_Ch_isDangling 31 = .ok (.getfield 15, 3) := by decide +kernel
theorem d_Ch_isDangling_34 : decode b_Ch_isDangling 34 = .ok (.aload_n 0, 1) := by decide +kernel
theorem d_Ch_isDangling_35 : decode b_Ch_isDangling 35 = .ok (.getfield 15, 3) := by decide +kernel
theorem d_Ch_isDangling_38 : decode b_Ch_isDangling 38 = .ok (.getfield 43, 3) := by decide +kernel
theorem d_Ch_isDangling_41 : decode b_Ch_isDangling 41 = .ok (.iload_n 1, 1) := by decide +kernel
theorem d_Ch_isDangling_42 : decode b_Ch_isDangling 42 = .ok (.iaload, 1) := by decide +kernel
theorem d_Ch_isDangling_43 : decode b_Ch_isDangling 43 = .ok (.invokevirtual 49, 3) := by decide +kernel
theorem d_Ch_isDangling_46 : decode b_Ch_isDangling 46 = .ok (.ifCond .ne 7, 3) := by decide +kernel
theorem d_Ch_isDangling_49 : decode b_Ch_isDangling 49 = .ok (.iconst 1, 1) := by decide +kernel
theorem d_Ch_isDangling_50 : decode b_Ch_isDangling 50 = .ok (.goto 4, 3) := by decide +kernel
theorem d_Ch_isDangling_53 : decode b_Ch_isDangling 53 = .ok (.iconst 0, 1) := by decide +kernel
theorem d_Ch_isDangling_54 : decode b_Ch_isDangling 54 = .ok (.ireturn, 1) := by decide +kernel
theorem d_Cu_cutTrees_0 : decode b_Cu_cutTrees 0 = .ok (.aload_n 0, 1) := by decide +kernel
theorem d_Cu_cutTrees_1 : decode b_Cu_cutTrees 1 = .ok (.iconst 0, 1) := by decide +kernel
theorem d_Cu_cutTrees_2 : decode b_Cu_cutTrees 2 = .ok (.putfield 25, 3) := by decide +kernel
theorem d_Cu_cutTrees_5 : decode b_Cu_cutTrees 5 = .ok (.iconst 0, 1) := by decide +kernel
theorem d_Cu_cutTrees_6 : decode b_Cu_cutTrees 6 = .ok (.istore_n 2, 1) := by decide +kernel
theorem d_Cu_cutTrees_7 : decode b_Cu_cutTrees 7 = .ok (.iload_n 2, 1) := by decide +kernel
theorem d_Cu_cutTrees_8 : decode b_Cu_cutTrees 8 = .ok (.bipush 60, 2) := by decide +kernel
theorem d_Cu_cutTrees_10 : decode b_Cu_cutTrees 10 = .ok (.if_icmp .ge 16, 3) := by decide +kernel
theorem d_Cu_cutTrees_13 : decode b_Cu_cutTrees 13 = .ok (.aload_n 0, 1) := by decide +kernel
theorem d_Cu_cutTrees_14 : decode b_Cu_cutTrees 14 = .ok (.getfield 15, 3) := by decide +kernel
theorem d_Cu_cutTrees_17 : decode b_Cu_cutTrees 17 = .ok (.iload_n 2, 1) := by decide +kernel
theorem d_Cu_cutTrees_18 : decode b_Cu_cutTrees 18 = .ok (.iconst (-1), 1) := by decide +kernel
theorem d_Cu_cutTrees_19 : decode b_Cu_cutTrees 19 = .ok (.iastore, 1) := by decide +kernel
theorem d_Cu_cutTrees_20 : decode b_Cu_cutTrees 20 = .ok (.iinc 2 1, 3) := by decide +kernel
theorem d_Cu_cutTrees_23 : decode b_Cu_cutTrees 23 = .ok (.goto (-16), 3) := by decide +kernel
theorem d_Cu_cutTrees_26 : decode b_Cu_cutTrees 26 = .ok (.iconst 0, 1) := by decide +kernel
theorem d_Cu_cutTrees_27 : decode b_Cu_cutTrees 27 = .ok (.istore_n 2, 1) := by decide +kernel
theorem d_Cu_cutTrees_28 : decode b_Cu_cutTrees 28 = .ok (.iload_n 2, 1) := by decide +kernel
theorem d_Cu_cutTrees_29 : decode b_Cu_cutTrees 29 = .ok (.aload_n 0, 1) := by decide +kernel
theorem d_Cu_cutTrees_30 : decode b_Cu_cutTrees 30 = .ok (.getfield 21, 3) := by decide +kernel
theorem d_Cu_cutTrees_33 : decode b_Cu_cutTrees 33 = .ok (.getfield 29, 3) := by decide +kernel
theorem d_Cu_cutTrees_36 : decode b_Cu_cutTrees 36 = .ok (.if_icmp .ge 37, 3) := by decide +kernel
theorem d_Cu_cutTrees_39 : decode b_Cu_cutTrees 39 = .ok (.aload_n 0, 1) := by decide +kernel
theorem d_Cu_cutTrees_40 : decode b_Cu_cutTrees 40 = .ok (.aload_n 0, 1) := by decide +kernel
theorem d_Cu_cutTrees_41 : decode b_Cu_cutTrees 41 = .ok (.getfield 21, 3) := by decide +kernel
theorem d_Cu_cutTrees_44 : decode b_Cu_cutTrees 44 = .ok (.getfield 34, 3) := by decide +kernel
theorem d_Cu_cutTrees_47 : decode b_Cu_cutTrees 47 = .ok (.iload_n 2, 1) := by decide +kernel
theorem d_Cu_cutTrees_48 : decode b_Cu_cutTrees 48 = .ok (.iaload, 1) := by decide +kernel
theorem d_Cu_cutTrees_49 : decode b_Cu_cutTrees 49 = .ok (.iload_n 1, 1) := by decide +kernel
theorem d_Cu_cutTrees_50 : decode b_Cu_cutTrees 50 = .ok (.iconst 0, 1) := by decide +kernel
theorem d_Cu_cutTrees_51 : decode b_Cu_cutTrees 51 = .ok (.invokevirtual 37, 3) := by decide +kernel
theorem d_Cu_cutTrees_54 : decode b_Cu_cutTrees 54 = .ok (.aload_n 0, 1) := by decide +kernel
theorem d_Cu_cutTrees_55 : decode b_Cu_cutTrees 55 = .ok (.aload_n 0, 1) := by decide +kernel
theorem d_Cu_cutTrees_56 : decode b_Cu_cutTrees 56 = .ok (.getfield 21, 3) := by decide +kernel
theorem d_Cu_cutTrees_59 : decode b_Cu_cutTrees 59 = .ok (.getfield 34, 3) := by decide +kernel
theorem d_Cu_cutTrees_62 : decode b_Cu_cutTrees 62 = .ok (.iload_n 2, 1) := by decide +kernel
theorem d_Cu_cutTrees_63 : decode b_Cu_cutTrees 63 = .ok (.iaload, 1) := by decide +kernel
theorem d_Cu_cutTrees_64 : decode b_Cu_cutTrees 64 = .ok (.invokevirtual 41, 3) := by decide +kernel
theorem d_Cu_cutTrees_67 : decode b_Cu_cutTrees 67 = .ok (.iinc 2 1, 3) := by decide +kernel
theorem d_Cu_cutTrees_70 : decode b_Cu_cutTrees 70 = .ok (.goto (-42), 3) := by decide +kernel
theorem d_Cu_cutTrees_73 : decode b_Cu_cutTrees 73 = .ok (.return_, 1) := by decide +kernel
theorem d_Cu_cutFrom_0 : decode b_Cu_cutFrom 0 = .ok (.aload_n 0, 1) := by decide +kernel
theorem d_Cu_cutFrom_1 : decode b_Cu_cutFrom 1 = .ok (.getfield 21, 3) := by decide +kernel
theorem d_Cu_cutFrom_4 : decode b_Cu_cutFrom 4 = .ok (.iload_n 1, 1) := by decide +kernel
theorem d_Cu_cutFrom_5 : decode b_Cu_cutFrom 5 = .ok (.invokevirtual 45, 3) := by decide +kernel
theorem d_Cu_cutFrom_8 : decode b_Cu_cutFrom 8 = .ok (.ifCond .ne 9, 3) := by decide +kernel
theorem d_Cu_cutFrom_11 : decode b_Cu_cutFrom 11 = .ok (.iload_n 3, 1) := by decide +kernel
theorem d_Cu_cutFrom_12 : decode b_Cu_cutFrom 12 = .ok (.bipush 12, 2) := by decide +kernel
theorem d_Cu_cutFrom_14 : decode b_Cu_cutFrom 14 = .ok (.if_icmp .le 11, 3) := by decide +kernel
theorem d_Cu_cutFrom_17 : decode b_Cu_cutFrom 17 = .ok (.aload_n 0, 1) := by decide +kernel
theorem d_Cu_cutFrom_18 : decode b_Cu_cutFrom 18 = .ok (.getfield 9, 3) := by decide +kernel
theorem d_Cu_cutFrom_21 : decode b_Cu_cutFrom 21 = .ok (.iload_n 1, 1) := by decide +kernel
theorem d_Cu_cutFrom_22 : decode b_Cu_cutFrom 22 = .ok (.iconst 3, 1) := by decide +kernel
theorem d_Cu_cutFrom_23 : decode b_Cu_cutFrom 23 = .ok (.iastore, 1) := by decide +kernel
theorem d_Cu_cutFrom_24 : decode b_Cu_cutFrom 24 = .ok (.return_, 1) := by decide +kernel
theorem d_Cu_cutFrom_25 : decode b_Cu_cutFrom 25 = .ok (.aload_n 0, 1) := by decide +kernel
theorem d_Cu_cutFrom_26 : decode b_Cu_cutFrom 26 = .ok (.aload_n 0, 1) := by decide +kernel
theorem d_Cu_cutFrom_27 : decode b_Cu_cutFrom 27 = .ok (.getfield 21, 3) := by decide +kernel
theorem d_Cu_cutFrom_30 : decode b_Cu_cutFrom 30 = .ok (.getfield 49, 3) := by decide +kernel
theorem d_Cu_cutFrom_33 : decode b_Cu_cutFrom 33 = .ok (.iload_n 1, 1) := by decide +kernel
theorem d_Cu_cutFrom_34 : decode b_Cu_cutFrom 34 = .ok (.iaload, 1) := by decide +kernel
theorem d_Cu_cutFrom_35 : decode b_Cu_cutFrom 35 = .ok (.iload_n 2, 1) := by decide +kernel
theorem d_Cu_cutFrom_36 : decode b_Cu_cutFrom 36 = .ok (.iload_n 3, 1) := by decide +kernel
theorem d_Cu_cutFrom_37 : decode b_Cu_cutFrom 37 = .ok (.iconst 1, 1) := by decide +kernel
theorem d_Cu_cutFrom_38 : decode b_Cu_cutFrom 38 = .ok (.iadd, 1) := by decide +kernel
theorem d_Cu_cutFrom_39 : decode b_Cu_cutFrom 39 = .ok (.invokevirtual 37, 3) := by decide +kernel
theorem d_Cu_cutFrom_42 : decode b_Cu_cutFrom 42 = .ok (.aload_n 0, 1) := by decide +kernel
theorem d_Cu_cutFrom_43 : decode b_Cu_cutFrom 43 = .ok (.aload_n 0, 1) := by decide +kernel
theorem d_Cu_cutFrom_44 : decode b_Cu_cutFrom 44 = .ok (.getfield 21, 3) := by decide +kernel
theorem d_Cu_cutFrom_47 : decode b_Cu_cutFrom 47 = .ok (.getfield 52, 3) := by decide +kernel
theorem d_Cu_cutFrom_50 : decode b_Cu_cutFrom 50 = .ok (.iload_n 1, 1) := by decide +kernel
theorem d_Cu_cutFrom_51 : decode b_Cu_cutFrom 51 = .ok (.iaload, 1) := by decide +kernel
theorem d_Cu_cutFrom_52 : decode b_Cu_cutFrom 52 = .ok (.iload_n 2, 1) := by decide +kernel
theorem d_Cu_cutFrom_53 : decode b_Cu_cutFrom 53 = .ok (.iload_n 3, 1) := by decide +kernel
theorem d_Cu_cutFrom_54 : decode b_Cu_cutFrom 54 = .ok (.iconst 1, 1) := by decide +kernel
theorem d_Cu_cutFrom_55 : decode b_Cu_cutFrom 55 = .ok (.iadd, 1) := by decide +kernel
theorem d_Cu_cutFrom_56 : decode b_Cu_cutFrom 56 = .ok (.invokevirtual 37, 3) := by decide +kernel
theorem d_Cu_cutFrom_59 : decode b_Cu_cutFrom 59 = .ok (.aload_n 0, 1) := by decide +kernel
theorem d_Cu_cutFrom_60 : decode b_Cu_cutFrom 60 = .ok (.iload_n 1, 1) := by decide +kernel
theorem d_Cu_cutFrom_61 : decode b_Cu_cutFrom 61 = .ok (.iload_n 2, 1) := by decide +kernel
theorem d_Cu_cutFrom_62 : decode b_Cu_cutFrom 62 = .ok (.invokevirtual 55, 3) := by decide +kernel
theorem d_Cu_cutFrom_65 : decode b_Cu_cutFrom 65 = .ok (.aload_n 0, 1) := by decide +kernel
theorem d_Cu_cutFrom_66 : decode b_Cu_cutFrom 66 = .ok (.getfield 9, 3) := by decide +kernel
theorem d_Cu_cutFrom_69 : decode b_Cu_cutFrom 69 = .ok (.iload_n 1, 1) := by decide +kernel
theorem d_Cu_cutFrom_70 : decode b_Cu_cutFrom 70 = .ok (.aload_n 0, 1) := by decide +kernel
theorem d_Cu_cutFrom_71 : decode b_Cu_cutFrom 71 = .ok (.iload_n 1, 1) := by decide +kernel
theorem d_Cu_cutFrom_72 : decode b_Cu_cutFrom 72 = .ok (.invokevirtual 59, 3) := by decide +kernel
theorem d_Cu_cutFrom_75 : decode b_Cu_cutFrom 75 = .ok (.iastore, 1) := by decide +kernel
theorem d_Cu_cutFrom_76 : decode b_Cu_cutFrom 76 = .ok (.return_, 1) := by decide +kernel
theorem d_Cu_cutChildren_0 : decode b_Cu_cutChildren 0 = .ok (.aload_n 0, 1) := by decide +kernel
theorem d_Cu_cutChildren_1 : decode b_Cu_cutChildren 1 = .ok (.getfield 21, 3) := by decide +kernel
theorem d_Cu_cutChildren_4 : decode b_Cu_cutChildren 4 = .ok (.getfield 49, 3) := by decide +kernel
theorem d_Cu_cutChildren_7 : decode b_Cu_cutChildren 7 = .ok (.iload_n 1, 1) := by decide +kernel
theorem d_Cu_cutChildren_8 : decode b_Cu_cutChildren 8 = .ok (.iaload, 1) := by decide +kernel
theorem d_Cu_cutChildren_9 : decode b_Cu_cutChildren 9 = .ok (.istore_n 3, 1) := by decide +kernel
theorem d_Cu_cutChildren_10 : decode b_Cu_cutChildren 10 = .ok (.aload_n 0, 1) := by decide +kernel
theorem d_Cu_cutChildren_11 : decode b_Cu_cutChildren 11 = .ok (.getfield 21, 3) := by decide +kernel
theorem d_Cu_cutChildren_14 : decode b_Cu_cutChildren 14 = .ok (.getfield 52, 3) := by decide +kernel
theorem d_Cu_cutChildren_17 : decode b_Cu_cutChildren 17 = .ok (.iload_n 1, 1) := by decide +kernel
theorem d_Cu_cutChildren_18 : decode b_Cu_cutChildren 18 = .ok (.iaload, 1) := by decide +kernel
theorem d_Cu_cutChildren_19 : decode b_Cu_cutChildren 19 = .ok (.istore 4, 2) := by decide +kernel
theorem d_Cu_cutChildren_21 : decode b_Cu_cutChildren 21 = .ok (.aload_n 0, 1) := by decide +kernel
theorem d_Cu_cutChildren_22 : decode b_Cu_cutChildren 22 = .ok (.iload_n 1, 1) := by decide +kernel
theorem d_Cu_cutChildren_23 : decode b_Cu_cutChildren 23 = .ok (.invokevirtual 59, 3) := by decide +kernel
theorem d_Cu_cutChildren_26 : decode b_Cu_cutChildren 26 = .ok (.iload_n 2, 1) := by decide +kernel
theorem d_Cu_cutChildren_27 : decode b_Cu_cutChildren 27 = .ok (.if_icmp .gt 4, 3) := by decide +kernel
theorem d_Cu_cutChildren_30 : decode b_Cu_cutChildren 30 = .ok (.return_, 1) := by decide +kernel
theorem d_Cu_cutChildren_31 : decode b_Cu_cutChildren 31 = .ok (.aload_n 0, 1) := by decide +kernel
theorem d_Cu_cutChildren_32 : decode b_Cu_cutChildren 32 = .ok (.iload_n 3, 1) := by decide +kernel
theorem d_Cu_cutChildren_33 : decode b_Cu_cutChildren 33 = .ok (.invokevirtual 63, 3) := by decide +kernel
theorem d_Cu_cutChildren_36 : decode b_Cu_cutChildren 36 = .ok (.aload_n 0, 1) := by decide +kernel
theorem d_Cu_cutChildren_37 : decode b_Cu_cutChildren 37 = .ok (.iload 4, 2) := by decide +kernel
theorem d_Cu_cutChildren_39 : decode b_Cu_cutChildren 39 = .ok (.invokevirtual 63, 3) := by decide +kernel
theorem d_Cu_cutChildren_42 : decode b_Cu_cutChildren 42 = .ok (.if_icmp .lt 7, 3) := by decide +kernel
theorem d_Cu_cutChildren_45 : decode b_Cu_cutChildren 45 = .ok (.iconst 1, 1) := by decide +kernel
theorem d_Cu_cutChildren_46 : decode b_Cu_cutChildren 46 = .ok (.goto 4, 3) := by decide +kernel
theorem d_Cu_cutChildren_49 : decode b_Cu_cutChildren 49 = .ok (.iconst 0, 1) := by decide +kernel
theorem d_Cu_cutChildren_50 : decode b_Cu_cutChildren 50 = .ok (.istore 5, 2) := by decide +kernel
theorem d_Cu_cutChildren_52 : decode b_Cu_cutChildren 52 = .ok (.aload_n 0, 1) := by decide +kernel
theorem d_Cu_cutChildren_53 : decode b_Cu_cutChildren 53 = .ok (.iload 5, 2) := by decide +kernel
theorem d_Cu_cutChildren_55 : decode b_Cu_cutChildren 55 = .ok (.ifCond .eq 7, 3) := by decide +kernel
theorem d_Cu_cutChildren_58 : decode b_Cu_cutChildren 58 = .ok (.iload_n 3, 1) := by decide +kernel
theorem d_Cu_cutChildren_59 : decode b_Cu_cutChildren 59 = .ok (.goto 5, 3) := by decide +kernel
theorem d_Cu_cutChildren_62 : decode b_Cu_cutChildren 62 = .ok (.iload 4, 2) := by decide +kernel
theorem d_Cu_cutChildren_64 : decode b_Cu_cutChildren 64 = .ok (.invokevirtual 41, 3) := by decide +kernel
theorem d_Cu_cutChildren_67 : decode b_Cu_cutChildren 67 = .ok (.aload_n 0, 1) := by decide +kernel
theorem d_Cu_cutChildren_68 : decode b_Cu_cutChildren 68 = .ok (.iload_n 1, 1) := by decide +kernel
theorem d_Cu_cutChildren_69 : decode b_Cu_cutChildren 69 = .ok (.invokevirtual 59, 3) := by decide +kernel
theorem d_Cu_cutChildren_72 : decode b_Cu_cutChildren 72 = .ok (.iload_n 2, 1) := by decide +kernel
theorem d_Cu_cutChildren_73 : decode b_Cu_cutChildren 73 = .ok (.if_icmp .le 18, 3) := by decide +kernel
theorem d_Cu_cutChildren_76 : decode b_Cu_cutChildren 76 = .ok (.aload_n 0, 1) := by decide +kernel
theorem d_Cu_cutChildren_77 : decode b_Cu_cutChildren 77 = .ok (.iload 5, 2) := by decide +kernel
theorem d_Cu_cutChildren_79 : decode b_Cu_cutChildren 79 = .ok (.ifCond .eq 8, 3) := by decide +kernel
theorem d_Cu_cutChildren_82 : decode b_Cu_cutChildren 82 = .ok (.iload 4, 2) := by decide +kernel
theorem d_Cu_cutChildren_84 : decode b_Cu_cutChildren 84 = .ok (.goto 4, 3) := by decide +kernel
theorem d_Cu_cutChildren_87 : decode b_Cu_cutChildren 87 = .ok (.iload_n 3, 1) := by decide +kernel
theorem d_Cu_cutChildren_88 : decode b_Cu_cutChildren 88 = .ok (.invokevirtual 41, 3) := by decide +kernel
theorem d_Cu_cutChildren_91 : decode b_Cu_cutChildren 91 = .ok (.return_, 1) := by decide +kernel
theorem d_Cu_cutOut_0 : decode b_Cu_cutOut 0 = .ok (.aload_n 0, 1) := by decide +kernel
theorem d_Cu_cutOut_1 : decode b_Cu_cutOut 1 = .ok (.getfield 25, 3) := by decide +kernel
theorem d_Cu_cutOut_4 : decode b_Cu_cutOut 4 = .ok (.bipush 60, 2) := by decide +kernel
theorem d_Cu_cutOut_6 : decode b_Cu_cutOut 6 = .ok (.if_icmp .ge 33, 3) := by decide +kernel
theorem d_Cu_cutOut_9 : decode b_Cu_cutOut 9 = .ok (.aload_n 0, 1) := by decide +kernel
theorem d_Cu_cutOut_10 : decode b_Cu_cutOut 10 = .ok (.getfield 15, 3) := by decide +kernel
theorem d_Cu_cutOut_13 : decode b_Cu_cutOut 13 = .ok (.iload_n 1, 1) := by decide +kernel
theorem d_Cu_cutOut_14 : decode b_Cu_cutOut 14 = .ok (.aload_n 0, 1) := by decide +kernel
theorem d_Cu_cutOut_15 : decode b_Cu_cutOut 15 = .ok (.getfield 25, 3) := by decide +kernel
theorem d_Cu_cutOut_18 : decode b_Cu_cutOut 18 = .ok (.iastore, 1) := by decide +kernel
theorem d_Cu_cutOut_19 : decode b_Cu_cutOut 19 = .ok (.aload_n 0, 1) := by decide +kernel
theorem d_Cu_cutOut_20 : decode b_Cu_cutOut 20 = .ok (.getfield 18, 3) := by decide +kernel
theorem d_Cu_cutOut_23 : decode b_Cu_cutOut 23 = .ok (.aload_n 0, 1) := by decide +kernel
theorem d_Cu_cutOut_24 : decode b_Cu_cutOut 24 = .ok (.getfield 25, 3) := by decide +kernel
theorem d_Cu_cutOut_27 : decode b_Cu_cutOut 27 = .ok (.iload_n 1, 1) := by decide +kernel
theorem d_Cu_cutOut_28 : decode b_Cu_cutOut 28 = .ok (.iastore, 1) := by decide +kernel
theorem d_Cu_cutOut_29 : decode b_Cu_cutOut 29 = .ok (.aload_n 0, 1) := by decide +kernel
theorem d_Cu_cutOut_30 : decode b_Cu_cutOut 30 = .ok (.dup, 1) := by decide +kernel
theorem d_Cu_cutOut_31 : decode b_Cu_cutOut 31 = .ok (.getfield 25, 3) := by decide +kernel
theorem d_Cu_cutOut_34 : decode b_Cu_cutOut 34 = .ok (.iconst 1, 1) := by decide +kernel
theorem d_Cu_cutOut_35 : decode b_Cu_cutOut 35 = .ok (.iadd, 1) := by decide +kernel
theorem d_Cu_cutOut_36 : decode b_Cu_cutOut 36 = .ok (.putfield 25, 3) := by decide +kernel
theorem d_Cu_cutOut_39 : decode b_Cu_cutOut 39 = .ok (.return_, 1) := by decide +kernel
theorem d_Cu_splitLength_0 : decode b_Cu_splitLength 0 = .ok (.aload_n 0, 1) := by decide +kernel
theorem d_Cu_splitLength_1 : decode b_Cu_splitLength 1 = .ok (.aload_n 0, 1) := by decide +kernel
theorem d_Cu_splitLength_2 : decode b_Cu_splitLength 2 = .ok (.getfield 21, 3) := by decide +kernel
theorem d_Cu_splitLength_5 : decode b_Cu_splitLength 5 = .ok (.getfield 49, 3) := by decide +kernel
theorem d_Cu_splitLength_8 : decode b_Cu_splitLength 8 = .ok (.iload_n 1, 1) := by decide +kernel
theorem d_Cu_splitLength_9 : decode b_Cu_splitLength 9 = .ok (.iaload, 1) := by decide +kernel
theorem d_Cu_splitLength_10 : decode b_Cu_splitLength 10 = .ok (.invokevirtual 63, 3) := by decide +kernel
theorem d_Cu_splitLength_13 : decode b_Cu_splitLength 13 = .ok (.istore_n 2, 1) := by decide +kernel
theorem d_Cu_splitLength_14 : decode b_Cu_splitLength 14 = .ok (.iconst 4, 1) := by decide +kernel
theorem d_Cu_splitLength_15 : decode b_Cu_splitLength 15 = .ok (.iload_n 2, 1) := by decide +kernel
theorem d_Cu_splitLength_16 : decode b_Cu_splitLength 16 = .ok (.invokestatic 66, 3) := by decide +kernel
theorem d_Cu_splitLength_19 : decode b_Cu_splitLength 19 = .ok (.iadd, 1) := by decide +kernel
theorem d_Cu_splitLength_20 : decode b_Cu_splitLength 20 = .ok (.iload_n 2, 1) := by decide +kernel
theorem d_Cu_splitLength_21 : decode b_Cu_splitLength 21 = .ok (.iadd, 1) := by decide +kernel
theorem d_Cu_splitLength_22 : decode b_Cu_splitLength 22 = .ok (.aload_n 0, 1) := by decide +kernel
theorem d_Cu_splitLength_23 : decode b_Cu_splitLength 23 = .ok (.aload_n 0, 1) := by decide +kernel
theorem d_Cu_splitLength_24 : decode b_Cu_splitLength 24 = .ok (.getfield 21, 3) := by decide +kernel
theorem d_Cu_splitLength_27 : decode b_Cu_splitLength 27 = .ok (.getfield 52, 3) := by decide +kernel
theorem d_Cu_splitLength_30 : decode b_Cu_splitLength 30 = .ok (.iload_n 1, 1) := by decide +kernel
theorem d_Cu_splitLength_31 : decode b_Cu_splitLength 31 = .ok (.iaload, 1) := by decide +kernel
theorem d_Cu_splitLength_32 : decode b_Cu_splitLength 32 = .ok (.invokevirtual 63, 3) := by decide +kernel
theorem d_Cu_splitLength_35 : decode b_Cu_splitLength 35 = .ok (.iadd, 1) := by decide +kernel
theorem d_Cu_splitLength_36 : decode b_Cu_splitLength 36 = .ok (.ireturn, 1) := by decide +kernel
theorem d_Cu_partLength_0 : decode b_Cu_partLength 0 = .ok (.aload_n 0, 1) := by decide +kernel
theorem d_Cu_partLength_1 : decode b_Cu_partLength 1 = .ok (.getfield 15, 3) := by decide +kernel
theorem d_Cu_partLength_4 : decode b_Cu_partLength 4 = .ok (.iload_n 1, 1) := by decide +kernel
theorem d_Cu_partLength_5 : decode b_Cu_partLength 5 = .ok (.iaload, 1) := by decide +kernel
theorem d_Cu_partLength_6 : decode b_Cu_partLength 6 = .ok (.iconst (-1), 1) := by decide +kernel
theorem d_Cu_partLength_7 : decode b_Cu_partLength 7 = .ok (.if_icmp .ne 12, 3) := by decide +kernel
theorem d_Cu_partLength_10 : decode b_Cu_partLength 10 = .ok (.aload_n 0, 1) := by decide +kernel
theorem d_Cu_partLength_11 : decode b_Cu_partLength 11 = .ok (.getfield 9, 3) := by decide +kernel
theorem d_Cu_partLength_14 : decode b_Cu_partLength 14 = .ok (.iload_n 1, 1) := by decide +kernel
theorem d_Cu_partLength_15 : decode b_Cu_partLength 15 = .ok (.iaload, 1) := by decide +kernel
theorem d_Cu_partLength_16 : decode b_Cu_partLength 16 = .ok (.goto 4, 3) := by decide +kernel
theorem d_Cu_partLength_19 : decode b_Cu_partLength 19 = .ok (.iconst 3, 1) := by decide +kernel
theorem d_Cu_partLength_20 : decode b_Cu_partLength 20 = .ok (.ireturn, 1) := by decide +kernel
theorem d_Cu_testLength_0 : decode b_Cu_testLength 0 = .ok (.iconst 2, 1) := by decide +kernel
theorem d_Cu_testLength_1 : decode b_Cu_testLength 1 = .ok (.iload_n 0, 1) := by decide +kernel
theorem d_Cu_testLength_2 : decode b_Cu_testLength 2 = .ok (.iadd, 1) := by decide +kernel
theorem d_Cu_testLength_3 : decode b_Cu_testLength 3 = .ok (.bipush 63, 2) := by decide +kernel
theorem d_Cu_testLength_5 : decode b_Cu_testLength 5 = .ok (.if_icmp .gt 7, 3) := by decide +kernel
theorem d_Cu_testLength_8 : decode b_Cu_testLength 8 = .ok (.iconst 2, 1) := by decide +kernel
theorem d_Cu_testLength_9 : decode b_Cu_testLength 9 = .ok (.goto 4, 3) := by decide +kernel
theorem d_Cu_testLength_12 : decode b_Cu_testLength 12 = .ok (.iconst 3, 1) := by decide +kernel
theorem d_Cu_testLength_13 : decode b_Cu_testLength 13 = .ok (.ireturn, 1) := by decide +kernel
theorem d_Ta_forgetAll_0 : decode b_Ta_forgetAll 0 = .ok (.aload_n 0, 1) := by decide +kernel
theorem d_Ta_forgetAll_1 : decode b_Ta_forgetAll 1 = .ok (.iconst 0, 1) := by decide +kernel
theorem d_Ta_forgetAll_2 : decode b_Ta_forgetAll 2 = .ok (.putfield 21, 3) := by decide +kernel
theorem d_Ta_forgetAll_5 : decode b_Ta_forgetAll 5 = .ok (.aload_n 0, 1) := by decide +kernel
theorem d_Ta_forgetAll_6 : decode b_Ta_forgetAll 6 = .ok (.getfield 18, 3) := by decide +kernel
theorem d_Ta_forgetAll_9 : decode b_Ta_forgetAll 9 = .ok (.iconst 0, 1) := by decide +kernel
theorem d_Ta_forgetAll_10 : decode b_Ta_forgetAll 10 = .ok (.iconst 0, 1) := by decide +kernel
theorem d_Ta_forgetAll_11 : decode b_Ta_forgetAll 11 = .ok (.iastore, 1) := by decide +kernel
theorem d_Ta_forgetAll_12 : decode b_Ta_forgetAll 12 = .ok (.return_, 1) := by decide +kernel
theorem d_Ta_openClass_0 : decode b_Ta_openClass 0 = .ok (.aload_n 0, 1) := by decide +kernel
theorem d_Ta_openClass_1 : decode b_Ta_openClass 1 = .ok (.getfield 21, 3) := by decide +kernel
theorem d_Ta_openClass_4 : decode b_Ta_openClass 4 = .ok (.bipush 60, 2) := by decide +kernel
theorem d_Ta_openClass_6 : decode b_Ta_openClass 6 = .ok (.if_icmp .ge 33, 3) := by decide +kernel
theorem d_Ta_openClass_9 : decode b_Ta_openClass 9 = .ok (.aload_n 0, 1) := by decide +kernel
theorem d_Ta_openClass_10 : decode b_Ta_openClass 10 = .ok (.getfield 18, 3) := by decide +kernel
theorem d_Ta_openClass_13 : decode b_Ta_openClass 13 = .ok (.aload_n 0, 1) := by decide +kernel
theorem d_Ta_openClass_14 : decode b_Ta_openClass 14 = .ok (.getfield 21, 3) := by decide +kernel
theorem d_Ta_openClass_17 : decode b_Ta_openClass 17 = .ok (.iconst 1, 1) := by decide +kernel
theorem d_Ta_openClass_18 : decode b_Ta_openClass 18 = .ok (.iadd, 1) := by decide +kernel
theorem d_Ta_openClass_19 : decode b_Ta_openClass 19 = .ok (.aload_n 0, 1) := by decide +kernel
theorem d_Ta_openClass_20 : decode b_Ta_openClass 20 = .ok (.getfield 18, 3) := by decide +kernel
theorem d_Ta_openClass_23 : decode b_Ta_openClass 23 = .ok (.aload_n 0, 1) := by decide +kernel
theorem d_Ta_openClass_24 : decode b_Ta_openClass 24 = .ok (.getfield 21, 3) := by decide +kernel
theorem d_Ta_openClass_27 : decode b_Ta_openClass 27 = .ok (.iaload, 1) := by decide +kernel
theorem d_Ta_openClass_28 : decode b_Ta_openClass 28 = .ok (.iastore, 1) := by decide +kernel
theorem d_Ta_openClass_29 : decode b_Ta_openClass 29 = .ok (.aload_n 0, 1) := by decide +kernel
theorem d_Ta_openClass_30 : decode b_Ta_openClass 30 = .ok (.dup, 1) := by decide +kernel
theorem d_Ta_openClass_31 : decode b_Ta_openClass 31 = .ok (.getfield 21, 3) := by decide +kernel
theorem d_Ta_openClass_34 : decode b_Ta_openClass 34 = .ok (.iconst 1, 1) := by decide +kernel
theorem d_Ta_openClass_35 : decode b_Ta_openClass 35 = .ok (.iadd, 1) := by decide +kernel
theorem d_Ta_openClass_36 : decode b_Ta_openClass 36 = .ok (.putfield 21, 3) := by decide +kernel
theorem d_Ta_openClass_39 : decode b_Ta_openClass 39 = .ok (.return_, 1) := by decide +kernel
theorem d_Ta_isClass_0 : decode b_Ta_isClass 0 = .ok (.iload_n 1, 1) := by decide +kernel
theorem d_Ta_isClass_1 : decode b_Ta_isClass 1 = .ok (.ifCond .lt 15, 3) := by decide +kernel
theorem d_Ta_isClass_4 : decode b_Ta_isClass 4 = .ok (.iload_n 1, 1) := by decide +kernel
theorem d_Ta_isClass_5 : decode b_Ta_isClass 5 = .ok (.aload_n 0, 1) := by decide +kernel
theorem d_Ta_isClass_6 : decode b_Ta_isClass 6 = .ok (.getfield 21, 3) := by decide +kernel
theorem d_Ta_isClass_9 : decode b_Ta_isClass 9 = .ok (.if_icmp .ge 7, 3) := by decide +kernel
theorem d_Ta_isClass_12 : decode b_Ta_isClass 12 = .ok (.iconst 1, 1) := by decide +kernel
theorem d_Ta_isClass_13 : decode b_Ta_isClass 13 = .ok (.goto 4, 3) := by decide +kernel
theorem d_Ta_isClass_16 : decode b_Ta_isClass 16 = .ok (.iconst 0, 1) := by decide +kernel
theorem d_Ta_isClass_17 : decode b_Ta_isClass 17 = .ok (.ireturn, 1) := by decide +kernel
theorem d_Ta_sizeOf_0 : decode b_Ta_sizeOf 0 = .ok (.aload_n 0, 1) := by decide +kernel
theorem d_Ta_sizeOf_1 : decode b_Ta_sizeOf 1 = .ok (.getfield 18, 3) := by decide +kernel
theorem d_Ta_sizeOf_4 : decode b_Ta_sizeOf 4 = .ok (.iload_n 1, 1) := by decide +kernel
theorem d_Ta_sizeOf_5 : decode b_Ta_sizeOf 5 = .ok (.iconst 1, 1) := by decide +kernel
theorem d_Ta_sizeOf_6 : decode b_Ta_sizeOf 6 = .ok (.iadd, 1) := by decide +kernel
theorem d_Ta_sizeOf_7 : decode b_Ta_sizeOf 7 = .ok (.iaload, 1) := by decide +kernel
theorem d_Ta_sizeOf_8 : decode b_Ta_sizeOf 8 = .ok (.aload_n 0, 1) := by decide +kernel
theorem d_Ta_sizeOf_9 : decode b_Ta_sizeOf 9 = .ok (.getfield 18, 3) := by decide +kernel
theorem d_Ta_sizeOf_12 : decode b_Ta_sizeOf 12 = .ok (.iload_n 1, 1) := by decide +kernel
theorem d_Ta_sizeOf_13 : decode b_Ta_sizeOf 13 = .ok (.iaload, 1) := by decide +kernel
theorem d_Ta_sizeOf_14 : decode b_Ta_sizeOf 14 = .ok (.isub, 1) := by decide +kernel
theorem d_Ta_sizeOf_15 : decode b_Ta_sizeOf 15 = .ok (.ireturn, 1) := by decide +kernel
theorem d_Ta_holds_0 : decode b_Ta_holds 0 = .ok (.aload_n 0, 1) := by decide +kernel
theorem d_Ta_holds_1 : decode b_Ta_holds 1 = .ok (.iload_n 1, 1) := by decide +kernel
theorem d_Ta_holds_2 : decode b_Ta_holds 2 = .ok (.invokevirtual 25, 3) := by decide +kernel
theorem d_Ta_holds_5 : decode b_Ta_holds 5 = .ok (.ifCond .eq 20, 3) := by decide +kernel
theorem d_Ta_holds_8 : decode b_Ta_holds 8 = .ok (.iload_n 2, 1) := by decide +kernel
theorem d_Ta_holds_9 : decode b_Ta_holds 9 = .ok (.ifCond .lt 16, 3) := by decide +kernel
theorem d_Ta_holds_12 : decode b_Ta_holds 12 = .ok (.iload_n 2, 1) := by decide +kernel
theorem d_Ta_holds_13 : decode b_Ta_holds 13 = .ok (.aload_n 0, 1) := by decide +kernel
theorem d_Ta_holds_14 : decode b_Ta_holds 14 = .ok (.iload_n 1, 1) := by decide +kernel
theorem d_Ta_holds_15 : decode b_Ta_holds 15 = .ok (.invokevirtual 29, 3) := by decide +kernel
theorem d_Ta_holds_18 : decode b_Ta_holds 18 = .ok (.if_icmp .ge 7, 3) := by decide +kernel
theorem d_Ta_holds_21 : decode b_Ta_holds 21 = .ok (.iconst 1, 1) := by decide +kernel
theorem d_Ta_holds_22 : decode b_Ta_holds 22 = .ok (.goto 4, 3) := by decide +kernel
theorem d_Ta_holds_25 : decode b_Ta_holds 25 = .ok (.iconst 0, 1) := by decide +kernel
theorem d_Ta_holds_26 : decode b_Ta_holds 26 = .ok (.ireturn, 1) := by decide +kernel
theorem d_Ta_latestSize_0 : decode b_Ta_latestSize 0 = .ok (.aload_n 0, 1) := by decide +kernel
theorem d_Ta_latestSize_1 : decode b_Ta_latestSize 1 = .ok (.getfield 21, 3) := by decide +kernel
theorem d_Ta_latestSize_4 : decode b_Ta_latestSize 4 = .ok (.ifCond .le 16, 3) := by decide +kernel
theorem d_Ta_latestSize_7 : decode b_Ta_latestSize 7 = .ok (.aload_n 0, 1) := by decide +kernel
theorem d_Ta_latestSize_8 : decode b_Ta_latestSize 8 = .ok (.aload_n 0, 1) := by decide +kernel
theorem d_Ta_latestSize_9 : decode b_Ta_latestSize 9 = .ok (.getfield 21, 3) := by decide +kernel
theorem d_Ta_latestSize_12 : decode b_Ta_latestSize 12 = .ok (.iconst 1, 1) := by decide +kernel
theorem d_Ta_latestSize_13 : decode b_Ta_latestSize 13 = .ok (.isub, 1) := by decide +kernel
theorem d_Ta_latestSize_14 : decode b_Ta_latestSize 14 = .ok (.invokevirtual 29, 3) := by decide +kernel
theorem d_Ta_latestSize_17 : decode b_Ta_latestSize 17 = .ok (.goto 4, 3) := by decide +kernel
theorem d_Ta_latestSize_20 : decode b_Ta_latestSize 20 = .ok (.iconst 0, 1) := by decide +kernel
theorem d_Ta_latestSize_21 : decode b_Ta_latestSize 21 = .ok (.ireturn, 1) := by decide +kernel
theorem d_Ta_shrinkLatest_0 : decode b_Ta_shrinkLatest 0 = .ok (.aload_n 0, 1) := by decide +kernel
theorem d_Ta_shrinkLatest_1 : decode b_Ta_shrinkLatest 1 = .ok (.getfield 21, 3) := by decide +kernel
theorem d_Ta_shrinkLatest_4 : decode b_Ta_shrinkLatest 4 = .ok (.ifCond .le 25, 3) := by decide +kernel
theorem d_Ta_shrinkLatest_7 : decode b_Ta_shrinkLatest 7 = .ok (.aload_n 0, 1) := by decide +kernel
theorem d_Ta_shrinkLatest_8 : decode b_Ta_shrinkLatest 8 = .ok (.getfield 18, 3) := by decide +kernel
theorem d_Ta_shrinkLatest_11 : decode b_Ta_shrinkLatest 11 = .ok (.aload_n 0, 1) := by decide +kernel
theorem d_Ta_shrinkLatest_12 : decode b_Ta_shrinkLatest 12 = .ok (.getfield 21, 3) := by decide +kernel
theorem d_Ta_shrinkLatest_15 : decode b_Ta_shrinkLatest 15 = .ok (.aload_n 0, 1) := by decide +kernel
theorem d_Ta_shrinkLatest_16 : decode b_Ta_shrinkLatest 16 = .ok (.getfield 18, 3) := by decide +kernel
theorem d_Ta_shrinkLatest_19 : decode b_Ta_shrinkLatest 19 = .ok (.aload_n 0, 1) := by decide +kernel
theorem d_Ta_shrinkLatest_20 : decode b_Ta_shrinkLatest 20 = .ok (.getfield 21, 3) := by decide +kernel
theorem d_Ta_shrinkLatest_23 : decode b_Ta_shrinkLatest 23 = .ok (.iconst 1, 1) := by decide +kernel
theorem d_Ta_shrinkLatest_24 : decode b_Ta_shrinkLatest 24 = .ok (.isub, 1) := by decide +kernel
theorem d_Ta_shrinkLatest_25 : decode b_Ta_shrinkLatest 25 = .ok (.iaload, 1) := by decide +kernel
theorem d_Ta_shrinkLatest_26 : decode b_Ta_shrinkLatest 26 = .ok (.iload_n 1, 1) := by decide +kernel
theorem d_Ta_shrinkLatest_27 : decode b_Ta_shrinkLatest 27 = .ok (.iadd, 1) := by decide +kernel
theorem d_Ta_shrinkLatest_28 : decode b_Ta_shrinkLatest 28 = .ok (.iastore, 1) := by decide +kernel
theorem d_Ta_shrinkLatest_29 : decode b_Ta_shrinkLatest 29 = .ok (.return_, 1) := by decide +kernel
theorem d_Ta_numberFor_0 : decode b_Ta_numberFor 0 = .ok (.aload_n 0, 1) := by decide +kernel
theorem d_Ta_numberFor_1 : decode b_Ta_numberFor 1 = .ok (.getfield 21, 3) := by decide +kernel
theorem d_Ta_numberFor_4 : decode b_Ta_numberFor 4 = .ok (.ifCond .le 17, 3) := by decide +kernel
theorem d_Ta_numberFor_7 : decode b_Ta_numberFor 7 = .ok (.aload_n 0, 1) := by decide +kernel
theorem d_Ta_numberFor_8 : decode b_Ta_numberFor 8 = .ok (.getfield 18, 3) := by decide +kernel
theorem d_Ta_numberFor_11 : decode b_Ta_numberFor 11 = .ok (.aload_n 0, 1) := by decide +kernel
theorem d_Ta_numberFor_12 : decode b_Ta_numberFor 12 = .ok (.getfield 21, 3) := by decide +kernel
theorem d_Ta_numberFor_15 : decode b_Ta_numberFor 15 = .ok (.iconst 1, 1) := by decide +kernel
theorem d_Ta_numberFor_16 : decode b_Ta_numberFor 16 = .ok (.isub, 1) := by decide +kernel
theorem d_Ta_numberFor_17 : decode b_Ta_numberFor 17 = .ok (.iaload, 1) := by decide +kernel
theorem d_Ta_numberFor_18 : decode b_Ta_numberFor 18 = .ok (.goto 4, 3) := by decide +kernel
theorem d_Ta_numberFor_21 : decode b_Ta_numberFor 21 = .ok (.iconst 0, 1) := by decide +kernel
theorem d_Ta_numberFor_22 : decode b_Ta_numberFor 22 = .ok (.istore_n 3, 1) := by decide +kernel
theorem d_Ta_numberFor_23 : decode b_Ta_numberFor 23 = .ok (.aload_n 0, 1) := by decide +kernel
theorem d_Ta_numberFor_24 : decode b_Ta_numberFor 24 = .ok (.getfield 18, 3) := by decide +kernel
theorem d_Ta_numberFor_27 : decode b_Ta_numberFor 27 = .ok (.aload_n 0, 1) := by decide +kernel
theorem d_Ta_numberFor_28 : decode b_Ta_numberFor 28 = .ok (.getfield 21, 3) := by decide +kernel
theorem d_Ta_numberFor_31 : decode b_Ta_numberFor 31 = .ok (.iaload, 1) := by decide +kernel
theorem d_Ta_numberFor_32 : decode b_Ta_numberFor 32 = .ok (.istore 4, 2) := by decide +kernel
theorem d_Ta_numberFor_34 : decode b_Ta_numberFor 34 = .ok (.iload_n 3, 1) := by decide +kernel
theorem d_Ta_numberFor_35 : decode b_Ta_numberFor 35 = .ok (.istore 5, 2) := by decide +kernel
theorem d_Ta_numberFor_37 : decode b_Ta_numberFor 37 = .ok (.iload 5, 2) := by decide +kernel
theorem d_Ta_numberFor_39 : decode b_Ta_numberFor 39 = .ok (.iload 4, 2) := by decide +kernel
theorem d_Ta_numberFor_41 : decode b_Ta_numberFor 41 = .ok (.if_icmp .ge 36, 3) := by decide +kernel
theorem d_Ta_numberFor_44 : decode b_Ta_numberFor 44 = .ok (.aload_n 0, 1) := by decide +kernel
theorem d_Ta_numberFor_45 : decode b_Ta_numberFor 45 = .ok (.getfield 9, 3) := by decide +kernel
theorem d_Ta_numberFor_48 : decode b_Ta_numberFor 48 = .ok (.iload 5, 2) := by decide +kernel
theorem d_Ta_numberFor_50 : decode b_Ta_numberFor 50 = .ok (.iaload, 1) := by decide +kernel
theorem d_Ta_numberFor_51 : decode b_Ta_numberFor 51 = .ok (.iload_n 1, 1) := by decide +kernel
theorem d_Ta_numberFor_52 : decode b_Ta_numberFor 52 = .ok (.if_icmp .ne 19, 3) := by decide +kernel
theorem d_Ta_numberFor_55 : decode b_Ta_numberFor 55 = .ok (.aload_n 0, 1) := by decide +kernel
theorem d_Ta_numberFor_56 : decode b_Ta_numberFor 56 = .ok (.getfield 15, 3) := by decide +kernel
theorem d_Ta_numberFor_59 : decode b_Ta_numberFor 59 = .ok (.iload 5, 2) := by decide +kernel
theorem d_Ta_numberFor_61 : decode b_Ta_numberFor 61 = .ok (.iaload, 1) := by decide +kernel
theorem d_Ta_numberFor_62 : decode b_Ta_numberFor 62 = .ok (.iload_n 2, 1) := by decide +kernel
theorem d_Ta_numberFor_63 : decode b_Ta_numberFor 63 = .ok (.if_icmp .ne 8, 3) := by decide +kernel
theorem d_Ta_numberFor_66 : decode b_Ta_numberFor 66 = .ok (.iload 5, 2) := by decide +kernel
theorem d_Ta_numberFor_68 : decode b_Ta_numberFor 68 = .ok (.iload_n 3, 1) := by decide +kernel
theorem d_Ta_numberFor_69 : decode b_Ta_numberFor 69 = .ok (.isub, 1) := by decide +kernel
theorem d_Ta_numberFor_70 : decode b_Ta_numberFor 70 = .ok (.ireturn, 1) := by decide +kernel
end
section
theorem d_Ta_numberFor_71 : decode b_Ta_numberFor 71 = .ok (.iinc 5 1, 3) := by decide +kernel
theorem d_Ta_numberFor_74 : decode b_Ta_numberFor 74 = .ok (.goto (-37), 3) := by decide +kernel
theorem d_Ta_numberFor_77 : decode b_Ta_numberFor 77 = .ok (.iload 4, 2) := by decide +kernel
theorem d_Ta_numberFor_79 : decode b_Ta_numberFor 79 = .ok (.bipush 120, 2) := by decide +kernel
theorem d_Ta_numberFor_81 : decode b_Ta_numberFor 81 = .ok (.if_icmp .ge 32, 3) := by decide +kernel
theorem d_Ta_numberFor_84 : decode b_Ta_numberFor 84 = .ok (.aload_n 0, 1) := by decide +kernel
theorem d_Ta_numberFor_85 : decode b_Ta_numberFor 85 = .ok (.getfield 9, 3) := by decide +kernel
theorem d_Ta_numberFor_88 : decode b_Ta_numberFor 88 = .ok (.iload 4, 2) := by decide +kernel
theorem d_Ta_numberFor_90 : decode b_Ta_numberFor 90 = .ok (.iload_n 1, 1) := by decide +kernel
theorem d_Ta_numberFor_91 : decode b_Ta_numberFor 91 = .ok (.iastore, 1) := by decide +kernel
theorem d_Ta_numberFor_92 : decode b_Ta_numberFor 92 = .ok (.aload_n 0, 1) := by decide +kernel
theorem d_Ta_numberFor_93 : decode b_Ta_numberFor 93 = .ok (.getfield 15, 3) := by decide +kernel
theorem d_Ta_numberFor_96 : decode b_Ta_numberFor 96 = .ok (.iload 4, 2) := by decide +kernel
theorem d_Ta_numberFor_98 : decode b_Ta_numberFor 98 = .ok (.iload_n 2, 1) := by decide +kernel
theorem d_Ta_numberFor_99 : decode b_Ta_numberFor 99 = .ok (.iastore, 1) := by decide +kernel
theorem d_Ta_numberFor_100 : decode b_Ta_numberFor 100 = .ok (.aload_n 0, 1) := by decide +kernel
theorem d_Ta_numberFor_101 : decode b_Ta_numberFor 101 = .ok (.getfield 18, 3) := by decide +kernel
theorem d_Ta_numberFor_104 : decode b_Ta_numberFor 104 = .ok (.aload_n 0, 1) := by decide +kernel
theorem d_Ta_numberFor_105 : decode b_Ta_numberFor 105 = .ok (.getfield 21, 3) := by decide +kernel
theorem d_Ta_numberFor_108 : decode b_Ta_numberFor 108 = .ok (.iload 4, 2) := by decide +kernel
theorem d_Ta_numberFor_110 : decode b_Ta_numberFor 110 = .ok (.iconst 1, 1) := by decide +kernel
theorem d_Ta_numberFor_111 : decode b_Ta_numberFor 111 = .ok (.iadd, 1) := by decide +kernel
theorem d_Ta_numberFor_112 : decode b_Ta_numberFor 112 = .ok (.iastore, 1) := by decide +kernel
theorem d_Ta_numberFor_113 : decode b_Ta_numberFor 113 = .ok (.iload 4, 2) := by decide +kernel
theorem d_Ta_numberFor_115 : decode b_Ta_numberFor 115 = .ok (.iload_n 3, 1) := by decide +kernel
theorem d_Ta_numberFor_116 : decode b_Ta_numberFor 116 = .ok (.isub, 1) := by decide +kernel
theorem d_Ta_numberFor_117 : decode b_Ta_numberFor 117 = .ok (.ireturn, 1) := by decide +kernel
theorem d_Co_isMethod_0 : decode b_Co_isMethod 0 = .ok (.iload_n 1, 1) := by decide +kernel
theorem d_Co_isMethod_1 : decode b_Co_isMethod 1 = .ok (.ifCond .lt 15, 3) := by decide +kernel
theorem d_Co_isMethod_4 : decode b_Co_isMethod 4 = .ok (.iload_n 1, 1) := by decide +kernel
theorem d_Co_isMethod_5 : decode b_Co_isMethod 5 = .ok (.aload_n 0, 1) := by decide +kernel
theorem d_Co_isMethod_6 : decode b_Co_isMethod 6 = .ok (.getfield 36, 3) := by decide +kernel
theorem d_Co_isMethod_9 : decode b_Co_isMethod 9 = .ok (.if_icmp .ge 7, 3) := by decide +kernel
theorem d_Co_isMethod_12 : decode b_Co_isMethod 12 = .ok (.iconst 1, 1) := by decide +kernel
theorem d_Co_isMethod_13 : decode b_Co_isMethod 13 = .ok (.goto 4, 3) := by decide +kernel
theorem d_Co_isMethod_16 : decode b_Co_isMethod 16 = .ok (.iconst 0, 1) := by decide +kernel
theorem d_Co_isMethod_17 : decode b_Co_isMethod 17 = .ok (.ireturn, 1) := by decide +kernel
theorem d_Co_writeMethods_0 : decode b_Co_writeMethods 0 = .ok (.aload_n 0, 1) := by decide +kernel
theorem d_Co_writeMethods_1 : decode b_Co_writeMethods 1 = .ok (.iconst 0, 1) := by decide +kernel
theorem d_Co_writeMethods_2 : decode b_Co_writeMethods 2 = .ok (.putfield 40, 3) := by decide +kernel
theorem d_Co_writeMethods_5 : decode b_Co_writeMethods 5 = .ok (.aload_n 0, 1) := by decide +kernel
theorem d_Co_writeMethods_6 : decode b_Co_writeMethods 6 = .ok (.getfield 32, 3) := by decide +kernel
theorem d_Co_writeMethods_9 : decode b_Co_writeMethods 9 = .ok (.invokevirtual 43, 3) := by decide +kernel
theorem d_Co_writeMethods_12 : decode b_Co_writeMethods 12 = .ok (.aload_n 0, 1) := by decide +kernel
theorem d_Co_writeMethods_13 : decode b_Co_writeMethods 13 = .ok (.getfield 32, 3) := by decide +kernel
theorem d_Co_writeMethods_16 : decode b_Co_writeMethods 16 = .ok (.invokevirtual 48, 3) := by decide +kernel
theorem d_Co_writeMethods_19 : decode b_Co_writeMethods 19 = .ok (.aload_n 0, 1) := by decide +kernel
theorem d_Co_writeMethods_20 : decode b_Co_writeMethods 20 = .ok (.aload_n 0, 1) := by decide +kernel
theorem d_Co_writeMethods_21 : decode b_Co_writeMethods 21 = .ok (.getfield 28, 3) := by decide +kernel
theorem d_Co_writeMethods_24 : decode b_Co_writeMethods 24 = .ok (.getfield 51, 3) := by decide +kernel
theorem d_Co_writeMethods_27 : decode b_Co_writeMethods 27 = .ok (.putfield 36, 3) := by decide +kernel
theorem d_Co_writeMethods_30 : decode b_Co_writeMethods 30 = .ok (.iconst 0, 1) := by decide +kernel
theorem d_Co_writeMethods_31 : decode b_Co_writeMethods 31 = .ok (.istore_n 2, 1) := by decide +kernel
theorem d_Co_writeMethods_32 : decode b_Co_writeMethods 32 = .ok (.iload_n 2, 1) := by decide +kernel
theorem d_Co_writeMethods_33 : decode b_Co_writeMethods 33 = .ok (.aload_n 0, 1) := by decide +kernel
theorem d_Co_writeMethods_34 : decode b_Co_writeMethods 34 = .ok (.getfield 36, 3) := by decide +kernel
theorem d_Co_writeMethods_37 : decode b_Co_writeMethods 37 = .ok (.if_icmp .ge 15, 3) := by decide +kernel
theorem d_Co_writeMethods_40 : decode b_Co_writeMethods 40 = .ok (.aload_n 0, 1) := by decide +kernel
theorem d_Co_writeMethods_41 : decode b_Co_writeMethods 41 = .ok (.iload_n 2, 1) := by decide +kernel
theorem d_Co_writeMethods_42 : decode b_Co_writeMethods 42 = .ok (.iload_n 1, 1) := by decide +kernel
theorem d_Co_writeMethods_43 : decode b_Co_writeMethods 43 = .ok (.invokevirtual 54, 3) := by decide +kernel
theorem d_Co_writeMethods_46 : decode b_Co_writeMethods 46 = .ok (.iinc 2 1, 3) := by decide +kernel
theorem d_Co_writeMethods_49 : decode b_Co_writeMethods 49 = .ok (.goto (-17), 3) := by decide +kernel
theorem d_Co_writeMethods_52 : decode b_Co_writeMethods 52 = .ok (.aload_n 0, 1) := by decide +kernel
theorem d_Co_writeMethods_53 : decode b_Co_writeMethods 53 = .ok (.aload_n 0, 1) := by decide +kernel
theorem d_Co_writeMethods_54 : decode b_Co_writeMethods 54 = .ok (.getfield 24, 3) := by decide +kernel
theorem d_Co_writeMethods_57 : decode b_Co_writeMethods 57 = .ok (.getfield 58, 3) := by decide +kernel
theorem d_Co_writeMethods_60 : decode b_Co_writeMethods 60 = .ok (.putfield 63, 3) := by decide +kernel
theorem d_Co_writeMethods_63 : decode b_Co_writeMethods 63 = .ok (.iconst 0, 1) := by decide +kernel
theorem d_Co_writeMethods_64 : decode b_Co_writeMethods 64 = .ok (.istore_n 2, 1) := by decide +kernel
theorem d_Co_writeMethods_65 : decode b_Co_writeMethods 65 = .ok (.iload_n 2, 1) := by decide +kernel
theorem d_Co_writeMethods_66 : decode b_Co_writeMethods 66 = .ok (.aload_n 0, 1) := by decide +kernel
theorem d_Co_writeMethods_67 : decode b_Co_writeMethods 67 = .ok (.getfield 63, 3) := by decide +kernel
theorem d_Co_writeMethods_70 : decode b_Co_writeMethods 70 = .ok (.if_icmp .ge 32, 3) := by decide +kernel
theorem d_Co_writeMethods_73 : decode b_Co_writeMethods 73 = .ok (.aload_n 0, 1) := by decide +kernel
theorem d_Co_writeMethods_74 : decode b_Co_writeMethods 74 = .ok (.getfield 21, 3) := by decide +kernel
theorem d_Co_writeMethods_77 : decode b_Co_writeMethods 77 = .ok (.iload_n 2, 1) := by decide +kernel
theorem d_Co_writeMethods_78 : decode b_Co_writeMethods 78 = .ok (.aload_n 0, 1) := by decide +kernel
theorem d_Co_writeMethods_79 : decode b_Co_writeMethods 79 = .ok (.getfield 28, 3) := by decide +kernel
theorem d_Co_writeMethods_82 : decode b_Co_writeMethods 82 = .ok (.getfield 64, 3) := by decide +kernel
theorem d_Co_writeMethods_85 : decode b_Co_writeMethods 85 = .ok (.aload_n 0, 1) := by decide +kernel
theorem d_Co_writeMethods_86 : decode b_Co_writeMethods 86 = .ok (.getfield 24, 3) := by decide +kernel
theorem d_Co_writeMethods_89 : decode b_Co_writeMethods 89 = .ok (.getfield 67, 3) := by decide +kernel
theorem d_Co_writeMethods_92 : decode b_Co_writeMethods 92 = .ok (.iload_n 2, 1) := by decide +kernel
theorem d_Co_writeMethods_93 : decode b_Co_writeMethods 93 = .ok (.iaload, 1) := by decide +kernel
theorem d_Co_writeMethods_94 : decode b_Co_writeMethods 94 = .ok (.iaload, 1) := by decide +kernel
theorem d_Co_writeMethods_95 : decode b_Co_writeMethods 95 = .ok (.iastore, 1) := by decide +kernel
theorem d_Co_writeMethods_96 : decode b_Co_writeMethods 96 = .ok (.iinc 2 1, 3) := by decide +kernel
theorem d_Co_writeMethods_99 : decode b_Co_writeMethods 99 = .ok (.goto (-34), 3) := by decide +kernel
theorem d_Co_writeMethods_102 : decode b_Co_writeMethods 102 = .ok (.return_, 1) := by decide +kernel
theorem d_Co_writeMethod_0 : decode b_Co_writeMethod 0 = .ok (.aload_n 0, 1) := by decide +kernel
theorem d_Co_writeMethod_1 : decode b_Co_writeMethod 1 = .ok (.getfield 32, 3) := by decide +kernel
theorem d_Co_writeMethod_4 : decode b_Co_writeMethod 4 = .ok (.invokevirtual 70, 3) := by decide +kernel
theorem d_Co_writeMethod_7 : decode b_Co_writeMethod 7 = .ok (.istore_n 3, 1) := by decide +kernel
theorem d_Co_writeMethod_8 : decode b_Co_writeMethod 8 = .ok (.aload_n 0, 1) := by decide +kernel
theorem d_Co_writeMethod_9 : decode b_Co_writeMethod 9 = .ok (.getfield 15, 3) := by decide +kernel
theorem d_Co_writeMethod_12 : decode b_Co_writeMethod 12 = .ok (.iload_n 1, 1) := by decide +kernel
theorem d_Co_writeMethod_13 : decode b_Co_writeMethod 13 = .ok (.aload_n 0, 1) := by decide +kernel
theorem d_Co_writeMethod_14 : decode b_Co_writeMethod 14 = .ok (.getfield 40, 3) := by decide +kernel
theorem d_Co_writeMethod_17 : decode b_Co_writeMethod 17 = .ok (.iastore, 1) := by decide +kernel
theorem d_Co_writeMethod_18 : decode b_Co_writeMethod 18 = .ok (.aload_n 0, 1) := by decide +kernel
theorem d_Co_writeMethod_19 : decode b_Co_writeMethod 19 = .ok (.aload_n 0, 1) := by decide +kernel
theorem d_Co_writeMethod_20 : decode b_Co_writeMethod 20 = .ok (.getfield 28, 3) := by decide +kernel
theorem d_Co_writeMethod_23 : decode b_Co_writeMethod 23 = .ok (.getfield 74, 3) := by decide +kernel
theorem d_Co_writeMethod_26 : decode b_Co_writeMethod 26 = .ok (.iload_n 1, 1) := by decide +kernel
theorem d_Co_writeMethod_27 : decode b_Co_writeMethod 27 = .ok (.iaload, 1) := by decide +kernel
theorem d_Co_writeMethod_28 : decode b_Co_writeMethod 28 = .ok (.iconst 0, 1) := by decide +kernel
theorem d_Co_writeMethod_29 : decode b_Co_writeMethod 29 = .ok (.invokevirtual 77, 3) := by decide +kernel
theorem d_Co_writeMethod_32 : decode b_Co_writeMethod 32 = .ok (.aload_n 0, 1) := by decide +kernel
theorem d_Co_writeMethod_33 : decode b_Co_writeMethod 33 = .ok (.getfield 32, 3) := by decide +kernel
theorem d_Co_writeMethod_36 : decode b_Co_writeMethod 36 = .ok (.invokevirtual 70, 3) := by decide +kernel
theorem d_Co_writeMethod_39 : decode b_Co_writeMethod 39 = .ok (.iload_n 2, 1) := by decide +kernel
theorem d_Co_writeMethod_40 : decode b_Co_writeMethod 40 = .ok (.if_icmp .le 42, 3) := by decide +kernel
theorem d_Co_writeMethod_43 : decode b_Co_writeMethod 43 = .ok (.aload_n 0, 1) := by decide +kernel
theorem d_Co_writeMethod_44 : decode b_Co_writeMethod 44 = .ok (.getfield 32, 3) := by decide +kernel
theorem d_Co_writeMethod_47 : decode b_Co_writeMethod 47 = .ok (.iload_n 3, 1) := by decide +kernel
theorem d_Co_writeMethod_48 : decode b_Co_writeMethod 48 = .ok (.invokevirtual 80, 3) := by decide +kernel
theorem d_Co_writeMethod_51 : decode b_Co_writeMethod 51 = .ok (.aload_n 0, 1) := by decide +kernel
theorem d_Co_writeMethod_52 : decode b_Co_writeMethod 52 = .ok (.getfield 32, 3) := by decide +kernel
theorem d_Co_writeMethod_55 : decode b_Co_writeMethod 55 = .ok (.invokevirtual 48, 3) := by decide +kernel
theorem d_Co_writeMethod_58 : decode b_Co_writeMethod 58 = .ok (.aload_n 0, 1) := by decide +kernel
theorem d_Co_writeMethod_59 : decode b_Co_writeMethod 59 = .ok (.aload_n 0, 1) := by decide +kernel
theorem d_Co_writeMethod_60 : decode b_Co_writeMethod 60 = .ok (.getfield 15, 3) := by decide +kernel
theorem d_Co_writeMethod_63 : decode b_Co_writeMethod 63 = .ok (.iload_n 1, 1) := by decide +kernel
theorem d_Co_writeMethod_64 : decode b_Co_writeMethod 64 = .ok (.iaload, 1) := by decide +kernel
theorem d_Co_writeMethod_65 : decode b_Co_writeMethod 65 = .ok (.putfield 40, 3) := by decide +kernel
theorem d_Co_writeMethod_68 : decode b_Co_writeMethod 68 = .ok (.aload_n 0, 1) := by decide +kernel
theorem d_Co_writeMethod_69 : decode b_Co_writeMethod 69 = .ok (.aload_n 0, 1) := by decide +kernel
theorem d_Co_writeMethod_70 : decode b_Co_writeMethod 70 = .ok (.getfield 28, 3) := by decide +kernel
theorem d_Co_writeMethod_73 : decode b_Co_writeMethod 73 = .ok (.getfield 74, 3) := by decide +kernel
theorem d_Co_writeMethod_76 : decode b_Co_writeMethod 76 = .ok (.iload_n 1, 1) := by decide +kernel
theorem d_Co_writeMethod_77 : decode b_Co_writeMethod 77 = .ok (.iaload, 1) := by decide +kernel
theorem d_Co_writeMethod_78 : decode b_Co_writeMethod 78 = .ok (.iconst 0, 1) := by decide +kernel
theorem d_Co_writeMethod_79 : decode b_Co_writeMethod 79 = .ok (.invokevirtual 77, 3) := by decide +kernel
theorem d_Co_writeMethod_82 : decode b_Co_writeMethod 82 = .ok (.aload_n 0, 1) := by decide +kernel
theorem d_Co_writeMethod_83 : decode b_Co_writeMethod 83 = .ok (.getfield 15, 3) := by decide +kernel
theorem d_Co_writeMethod_86 : decode b_Co_writeMethod 86 = .ok (.iload_n 1, 1) := by decide +kernel
theorem d_Co_writeMethod_87 : decode b_Co_writeMethod 87 = .ok (.iconst 1, 1) := by decide +kernel
theorem d_Co_writeMethod_88 : decode b_Co_writeMethod 88 = .ok (.iadd, 1) := by decide +kernel
theorem d_Co_writeMethod_89 : decode b_Co_writeMethod 89 = .ok (.aload_n 0, 1) := by decide +kernel
theorem d_Co_writeMethod_90 : decode b_Co_writeMethod 90 = .ok (.getfield 40, 3) := by decide +kernel
theorem d_Co_writeMethod_93 : decode b_Co_writeMethod 93 = .ok (.iastore, 1) := by decide +kernel
theorem d_Co_writeMethod_94 : decode b_Co_writeMethod 94 = .ok (.aload_n 0, 1) := by decide +kernel
theorem d_Co_writeMethod_95 : decode b_Co_writeMethod 95 = .ok (.getfield 18, 3) := by decide +kernel
theorem d_Co_writeMethod_98 : decode b_Co_writeMethod 98 = .ok (.iload_n 1, 1) := by decide +kernel
theorem d_Co_writeMethod_99 : decode b_Co_writeMethod 99 = .ok (.aload_n 0, 1) := by decide +kernel
theorem d_Co_writeMethod_100 : decode b_Co_writeMethod 100 = .ok (.getfield 32, 3) := by decide +kernel
theorem d_Co_writeMethod_103 : decode b_Co_writeMethod 103 = .ok (.getfield 84, 3) := by decide +kernel
theorem d_Co_writeMethod_106 : decode b_Co_writeMethod 106 = .ok (.iconst 1, 1) := by decide +kernel
theorem d_Co_writeMethod_107 : decode b_Co_writeMethod 107 = .ok (.isub, 1) := by decide +kernel
theorem d_Co_writeMethod_108 : decode b_Co_writeMethod 108 = .ok (.iastore, 1) := by decide +kernel
theorem d_Co_writeMethod_109 : decode b_Co_writeMethod 109 = .ok (.return_, 1) := by decide +kernel
theorem d_Co_writeCode_0 : decode b_Co_writeCode 0 = .ok (.iload_n 2, 1) := by decide +kernel
theorem d_Co_writeCode_1 : decode b_Co_writeCode 1 = .ok (.bipush 12, 2) := by decide +kernel
theorem d_Co_writeCode_3 : decode b_Co_writeCode 3 = .ok (.if_icmp .le 4, 3) := by decide +kernel
theorem d_Co_writeCode_6 : decode b_Co_writeCode 6 = .ok (.return_, 1) := by decide +kernel
theorem d_Co_writeCode_7 : decode b_Co_writeCode 7 = .ok (.aload_n 0, 1) := by decide +kernel
theorem d_Co_writeCode_8 : decode b_Co_writeCode 8 = .ok (.getfield 24, 3) := by decide +kernel
theorem d_Co_writeCode_11 : decode b_Co_writeCode 11 = .ok (.iload_n 1, 1) := by decide +kernel
theorem d_Co_writeCode_12 : decode b_Co_writeCode 12 = .ok (.invokevirtual 87, 3) := by decide +kernel
theorem d_Co_writeCode_15 : decode b_Co_writeCode 15 = .ok (.istore_n 3, 1) := by decide +kernel
theorem d_Co_writeCode_16 : decode b_Co_writeCode 16 = .ok (.iload_n 3, 1) := by decide +kernel
theorem d_Co_writeCode_17 : decode b_Co_writeCode 17 = .ok (.ifCond .ne 17, 3) := by decide +kernel
theorem d_Co_writeCode_20 : decode b_Co_writeCode 20 = .ok (.aload_n 0, 1) := by decide +kernel
theorem d_Co_writeCode_21 : decode b_Co_writeCode 21 = .ok (.iconst 1, 1) := by decide +kernel
theorem d_Co_writeCode_22 : decode b_Co_writeCode 22 = .ok (.aload_n 0, 1) := by decide +kernel
theorem d_Co_writeCode_23 : decode b_Co_writeCode 23 = .ok (.getfield 24, 3) := by decide +kernel
theorem d_Co_writeCode_26 : decode b_Co_writeCode 26 = .ok (.getfield 91, 3) := by decide +kernel
theorem d_Co_writeCode_29 : decode b_Co_writeCode 29 = .ok (.iload_n 1, 1) := by decide +kernel
theorem d_Co_writeCode_30 : decode b_Co_writeCode 30 = .ok (.iaload, 1) := by decide +kernel
theorem d_Co_writeCode_31 : decode b_Co_writeCode 31 = .ok (.invokevirtual 94, 3) := by decide +kernel
theorem d_Co_writeCode_34 : decode b_Co_writeCode 34 = .ok (.aload_n 0, 1) := by decide +kernel
theorem d_Co_writeCode_35 : decode b_Co_writeCode 35 = .ok (.iconst 2, 1) := by decide +kernel
theorem d_Co_writeCode_36 : decode b_Co_writeCode 36 = .ok (.aload_n 0, 1) := by decide +kernel
theorem d_Co_writeCode_37 : decode b_Co_writeCode 37 = .ok (.getfield 32, 3) := by decide +kernel
theorem d_Co_writeCode_40 : decode b_Co_writeCode 40 = .ok (.aload_n 0, 1) := by decide +kernel
theorem d_Co_writeCode_41 : decode b_Co_writeCode 41 = .ok (.getfield 24, 3) := by decide +kernel
theorem d_Co_writeCode_44 : decode b_Co_writeCode 44 = .ok (.iload_n 1, 1) := by decide +kernel
theorem d_Co_writeCode_45 : decode b_Co_writeCode 45 = .ok (.invokevirtual 97, 3) := by decide +kernel
theorem d_Co_writeCode_48 : decode b_Co_writeCode 48 = .ok (.aload_n 0, 1) := by decide +kernel
theorem d_Co_writeCode_49 : decode b_Co_writeCode 49 = .ok (.getfield 24, 3) := by decide +kernel
theorem d_Co_writeCode_52 : decode b_Co_writeCode 52 = .ok (.getfield 101, 3) := by decide +kernel
theorem d_Co_writeCode_55 : decode b_Co_writeCode 55 = .ok (.iload_n 1, 1) := by decide +kernel
theorem d_Co_writeCode_56 : decode b_Co_writeCode 56 = .ok (.iaload, 1) := by decide +kernel
theorem d_Co_writeCode_57 : decode b_Co_writeCode 57 = .ok (.invokevirtual 104, 3) := by decide +kernel
theorem d_Co_writeCode_60 : decode b_Co_writeCode 60 = .ok (.invokevirtual 94, 3) := by decide +kernel
theorem d_Co_writeCode_63 : decode b_Co_writeCode 63 = .ok (.iload_n 3, 1) := by decide +kernel
theorem d_Co_writeCode_64 : decode b_Co_writeCode 64 = .ok (.ifCond .eq 9, 3) := by decide +kernel
theorem d_Co_writeCode_67 : decode b_Co_writeCode 67 = .ok (.aload_n 0, 1) := by decide +kernel
theorem d_Co_writeCode_68 : decode b_Co_writeCode 68 = .ok (.iconst 3, 1) := by decide +kernel
theorem d_Co_writeCode_69 : decode b_Co_writeCode 69 = .ok (.invokevirtual 108, 3) := by decide +kernel
theorem d_Co_writeCode_72 : decode b_Co_writeCode 72 = .ok (.return_, 1) := by decide +kernel
theorem d_Co_writeCode_73 : decode b_Co_writeCode 73 = .ok (.aload_n 0, 1) := by decide +kernel
theorem d_Co_writeCode_74 : decode b_Co_writeCode 74 = .ok (.aload_n 0, 1) := by decide +kernel
theorem d_Co_writeCode_75 : decode b_Co_writeCode 75 = .ok (.getfield 24, 3) := by decide +kernel
theorem d_Co_writeCode_78 : decode b_Co_writeCode 78 = .ok (.getfield 111, 3) := by decide +kernel
theorem d_Co_writeCode_81 : decode b_Co_writeCode 81 = .ok (.iload_n 1, 1) := by decide +kernel
theorem d_Co_writeCode_82 : decode b_Co_writeCode 82 = .ok (.iaload, 1) := by decide +kernel
theorem d_Co_writeCode_83 : decode b_Co_writeCode 83 = .ok (.aload_n 0, 1) := by decide +kernel
theorem d_Co_writeCode_84 : decode b_Co_writeCode 84 = .ok (.getfield 28, 3) := by decide +kernel
theorem d_Co_writeCode_87 : decode b_Co_writeCode 87 = .ok (.aload_n 0, 1) := by decide +kernel
theorem d_Co_writeCode_88 : decode b_Co_writeCode 88 = .ok (.getfield 24, 3) := by decide +kernel
theorem d_Co_writeCode_91 : decode b_Co_writeCode 91 = .ok (.getfield 114, 3) := by decide +kernel
theorem d_Co_writeCode_94 : decode b_Co_writeCode 94 = .ok (.iload_n 1, 1) := by decide +kernel
theorem d_Co_writeCode_95 : decode b_Co_writeCode 95 = .ok (.iaload, 1) := by decide +kernel
theorem d_Co_writeCode_96 : decode b_Co_writeCode 96 = .ok (.invokevirtual 117, 3) := by decide +kernel
theorem d_Co_writeCode_99 : decode b_Co_writeCode 99 = .ok (.invokevirtual 120, 3) := by decide +kernel
theorem d_Co_writeCode_102 : decode b_Co_writeCode 102 = .ok (.aload_n 0, 1) := by decide +kernel
theorem d_Co_writeCode_103 : decode b_Co_writeCode 103 = .ok (.aload_n 0, 1) := by decide +kernel
theorem d_Co_writeCode_104 : decode b_Co_writeCode 104 = .ok (.getfield 24, 3) := by decide +kernel
theorem d_Co_writeCode_107 : decode b_Co_writeCode 107 = .ok (.getfield 114, 3) := by decide +kernel
theorem d_Co_writeCode_110 : decode b_Co_writeCode 110 = .ok (.iload_n 1, 1) := by decide +kernel
theorem d_Co_writeCode_111 : decode b_Co_writeCode 111 = .ok (.iaload, 1) := by decide +kernel
theorem d_Co_writeCode_112 : decode b_Co_writeCode 112 = .ok (.iload_n 2, 1) := by decide +kernel
theorem d_Co_writeCode_113 : decode b_Co_writeCode 113 = .ok (.iconst 1, 1) := by decide +kernel
theorem d_Co_writeCode_114 : decode b_Co_writeCode 114 = .ok (.iadd, 1) := by decide +kernel
theorem d_Co_writeCode_115 : decode b_Co_writeCode 115 = .ok (.invokevirtual 123, 3) := by decide +kernel
theorem d_Co_writeCode_118 : decode b_Co_writeCode 118 = .ok (.aload_n 0, 1) := by decide +kernel
theorem d_Co_writeCode_119 : decode b_Co_writeCode 119 = .ok (.aload_n 0, 1) := by decide +kernel
theorem d_Co_writeCode_120 : decode b_Co_writeCode 120 = .ok (.getfield 24, 3) := by decide +kernel
theorem d_Co_writeCode_123 : decode b_Co_writeCode 123 = .ok (.getfield 126, 3) := by decide +kernel
theorem d_Co_writeCode_126 : decode b_Co_writeCode 126 = .ok (.iload_n 1, 1) := by decide +kernel
theorem d_Co_writeCode_127 : decode b_Co_writeCode 127 = .ok (.iaload, 1) := by decide +kernel
theorem d_Co_writeCode_128 : decode b_Co_writeCode 128 = .ok (.iload_n 2, 1) := by decide +kernel
theorem d_Co_writeCode_129 : decode b_Co_writeCode 129 = .ok (.iconst 1, 1) := by decide +kernel
theorem d_Co_writeCode_130 : decode b_Co_writeCode 130 = .ok (.iadd, 1) := by decide +kernel
theorem d_Co_writeCode_131 : decode b_Co_writeCode 131 = .ok (.invokevirtual 123, 3) := by decide +kernel
theorem d_Co_writeCode_134 : decode b_Co_writeCode 134 = .ok (.return_, 1) := by decide +kernel
theorem d_Co_writePart_0 : decode b_Co_writePart 0 = .ok (.aload_n 0, 1) := by decide +kernel
theorem d_Co_writePart_1 : decode b_Co_writePart 1 = .ok (.getfield 28, 3) := by decide +kernel
theorem d_Co_writePart_4 : decode b_Co_writePart 4 = .ok (.getfield 64, 3) := by decide +kernel
theorem d_Co_writePart_7 : decode b_Co_writePart 7 = .ok (.iload_n 1, 1) := by decide +kernel
theorem d_Co_writePart_8 : decode b_Co_writePart 8 = .ok (.iaload, 1) := by decide +kernel
theorem d_Co_writePart_9 : decode b_Co_writePart 9 = .ok (.istore_n 3, 1) := by decide +kernel
theorem d_Co_writePart_10 : decode b_Co_writePart 10 = .ok (.iload_n 3, 1) := by decide +kernel
theorem d_Co_writePart_11 : decode b_Co_writePart 11 = .ok (.iconst (-1), 1) := by decide +kernel
theorem d_Co_writePart_12 : decode b_Co_writePart 12 = .ok (.if_icmp .ne 10, 3) := by decide +kernel
theorem d_Co_writePart_15 : decode b_Co_writePart 15 = .ok (.aload_n 0, 1) := by decide +kernel
theorem d_Co_writePart_16 : decode b_Co_writePart 16 = .ok (.iload_n 1, 1) := by decide +kernel
theorem d_Co_writePart_17 : decode b_Co_writePart 17 = .ok (.iload_n 2, 1) := by decide +kernel
theorem d_Co_writePart_18 : decode b_Co_writePart 18 = .ok (.invokevirtual 77, 3) := by decide +kernel
theorem d_Co_writePart_21 : decode b_Co_writePart 21 = .ok (.return_, 1) := by decide +kernel
theorem d_Co_writePart_22 : decode b_Co_writePart 22 = .ok (.aload_n 0, 1) := by decide +kernel
theorem d_Co_writePart_23 : decode b_Co_writePart 23 = .ok (.iconst 4, 1) := by decide +kernel
theorem d_Co_writePart_24 : decode b_Co_writePart 24 = .ok (.aload_n 0, 1) := by decide +kernel
theorem d_Co_writePart_25 : decode b_Co_writePart 25 = .ok (.getfield 32, 3) := by decide +kernel
theorem d_Co_writePart_28 : decode b_Co_writePart 28 = .ok (.iconst 4, 1) := by decide +kernel
theorem d_Co_writePart_29 : decode b_Co_writePart 29 = .ok (.iload_n 3, 1) := by decide +kernel
theorem d_Co_writePart_30 : decode b_Co_writePart 30 = .ok (.invokevirtual 104, 3) := by decide +kernel
theorem d_Co_writePart_33 : decode b_Co_writePart 33 = .ok (.invokevirtual 94, 3) := by decide +kernel
theorem d_Co_writePart_36 : decode b_Co_writePart 36 = .ok (.aload_n 0, 1) := by decide +kernel
theorem d_Co_writePart_37 : decode b_Co_writePart 37 = .ok (.iconst 3, 1) := by decide +kernel
theorem d_Co_writePart_38 : decode b_Co_writePart 38 = .ok (.invokevirtual 108, 3) := by decide +kernel
theorem d_Co_writePart_41 : decode b_Co_writePart 41 = .ok (.return_, 1) := by decide +kernel
theorem d_Co_writeTest_0 : decode b_Co_writeTest 0 = .ok (.iload_n 2, 1) := by decide +kernel
theorem d_Co_writeTest_1 : decode b_Co_writeTest 1 = .ok (.invokestatic 129, 3) := by decide +kernel
theorem d_Co_writeTest_4 : decode b_Co_writeTest 4 = .ok (.istore_n 3, 1) := by decide +kernel
theorem d_Co_writeTest_5 : decode b_Co_writeTest 5 = .ok (.iload_n 3, 1) := by decide +kernel
theorem d_Co_writeTest_6 : decode b_Co_writeTest 6 = .ok (.iload_n 2, 1) := by decide +kernel
theorem d_Co_writeTest_7 : decode b_Co_writeTest 7 = .ok (.iadd, 1) := by decide +kernel
theorem d_Co_writeTest_8 : decode b_Co_writeTest 8 = .ok (.istore 4, 2) := by decide +kernel
theorem d_Co_writeTest_10 : decode b_Co_writeTest 10 = .ok (.iload_n 3, 1) := by decide +kernel
theorem d_Co_writeTest_11 : decode b_Co_writeTest 11 = .ok (.iconst 2, 1) := by decide +kernel
theorem d_Co_writeTest_12 : decode b_Co_writeTest 12 = .ok (.if_icmp .ne 14, 3) := by decide +kernel
theorem d_Co_writeTest_15 : decode b_Co_writeTest 15 = .ok (.aload_n 0, 1) := by decide +kernel
theorem d_Co_writeTest_16 : decode b_Co_writeTest 16 = .ok (.bipush 10, 2) := by decide +kernel
theorem d_Co_writeTest_18 : decode b_Co_writeTest 18 = .ok (.iload_n 1, 1) := by decide +kernel
theorem d_Co_writeTest_19 : decode b_Co_writeTest 19 = .ok (.iadd, 1) := by decide +kernel
theorem d_Co_writeTest_20 : decode b_Co_writeTest 20 = .ok (.iload 4, 2) := by decide +kernel
theorem d_Co_writeTest_22 : decode b_Co_writeTest 22 = .ok (.invokevirtual 94, 3) := by decide +kernel
theorem d_Co_writeTest_25 : decode b_Co_writeTest 25 = .ok (.return_, 1) := by decide +kernel
theorem d_Co_writeTest_26 : decode b_Co_writeTest 26 = .ok (.aload_n 0, 1) := by decide +kernel
theorem d_Co_writeTest_27 : decode b_Co_writeTest 27 = .ok (.bipush 20, 2) := by decide +kernel
theorem d_Co_writeTest_29 : decode b_Co_writeTest 29 = .ok (.iload_n 1, 1) := by decide +kernel
theorem d_Co_writeTest_30 : decode b_Co_writeTest 30 = .ok (.iadd, 1) := by decide +kernel
theorem d_Co_writeTest_31 : decode b_Co_writeTest 31 = .ok (.iload 4, 2) := by decide +kernel
theorem d_Co_writeTest_33 : decode b_Co_writeTest 33 = .ok (.bipush 8, 2) := by decide +kernel
theorem d_Co_writeTest_35 : decode b_Co_writeTest 35 = .ok (.ishr, 1) := by decide +kernel
theorem d_Co_writeTest_36 : decode b_Co_writeTest 36 = .ok (.invokevirtual 94, 3) := by decide +kernel
theorem d_Co_writeTest_39 : decode b_Co_writeTest 39 = .ok (.aload_n 0, 1) := by decide +kernel
theorem d_Co_writeTest_40 : decode b_Co_writeTest 40 = .ok (.iload 4, 2) := by decide +kernel
theorem d_Co_writeTest_42 : decode b_Co_writeTest 42 = .ok (.sipush 255, 3) := by decide +kernel
theorem d_Co_writeTest_45 : decode b_Co_writeTest 45 = .ok (.iand, 1) := by decide +kernel
theorem d_Co_writeTest_46 : decode b_Co_writeTest 46 = .ok (.invokevirtual 108, 3) := by decide +kernel
theorem d_Co_writeTest_49 : decode b_Co_writeTest 49 = .ok (.return_, 1) := by decide +kernel
theorem d_Co_writePair_0 : decode b_Co_writePair 0 = .ok (.aload_n 0, 1) := by decide +kernel
theorem d_Co_writePair_1 : decode b_Co_writePair 1 = .ok (.iload_n 1, 1) := by decide +kernel
theorem d_Co_writePair_2 : decode b_Co_writePair 2 = .ok (.invokevirtual 108, 3) := by decide +kernel
theorem d_Co_writePair_5 : decode b_Co_writePair 5 = .ok (.aload_n 0, 1) := by decide +kernel
theorem d_Co_writePair_6 : decode b_Co_writePair 6 = .ok (.iload_n 2, 1) := by decide +kernel
theorem d_Co_writePair_7 : decode b_Co_writePair 7 = .ok (.invokevirtual 108, 3) := by decide +kernel
theorem d_Co_writePair_10 : decode b_Co_writePair 10 = .ok (.return_, 1) := by decide +kernel
theorem d_Co_writeByte_0 : decode b_Co_writeByte 0 = .ok (.aload_n 0, 1) := by decide +kernel
theorem d_Co_writeByte_1 : decode b_Co_writeByte 1 = .ok (.getfield 40, 3) := by decide +kernel
theorem d_Co_writeByte_4 : decode b_Co_writeByte 4 = .ok (.sipush 600, 3) := by decide +kernel
theorem d_Co_writeByte_7 : decode b_Co_writeByte 7 = .ok (.if_icmp .ge 23, 3) := by decide +kernel
theorem d_Co_writeByte_10 : decode b_Co_writeByte 10 = .ok (.aload_n 0, 1) := by decide +kernel
theorem d_Co_writeByte_11 : decode b_Co_writeByte 11 = .ok (.getfield 9, 3) := by decide +kernel
theorem d_Co_writeByte_14 : decode b_Co_writeByte 14 = .ok (.aload_n 0, 1) := by decide +kernel
theorem d_Co_writeByte_15 : decode b_Co_writeByte 15 = .ok (.getfield 40, 3) := by decide +kernel
theorem d_Co_writeByte_18 : decode b_Co_writeByte 18 = .ok (.iload_n 1, 1) := by decide +kernel
theorem d_Co_writeByte_19 : decode b_Co_writeByte 19 = .ok (.iastore, 1) := by decide +kernel
theorem d_Co_writeByte_20 : decode b_Co_writeByte 20 = .ok (.aload_n 0, 1) := by decide +kernel
theorem d_Co_writeByte_21 : decode b_Co_writeByte 21 = .ok (.dup, 1) := by decide +kernel
theorem d_Co_writeByte_22 : decode b_Co_writeByte 22 = .ok (.getfield 40, 3) := by decide +kernel
theorem d_Co_writeByte_25 : decode b_Co_writeByte 25 = .ok (.iconst 1, 1) := by decide +kernel
theorem d_Co_writeByte_26 : decode b_Co_writeByte 26 = .ok (.iadd, 1) := by decide +kernel
theorem d_Co_writeByte_27 : decode b_Co_writeByte 27 = .ok (.putfield 40, 3) := by decide +kernel
theorem d_Co_writeByte_30 : decode b_Co_writeByte 30 = .ok (.return_, 1) := by decide +kernel
theorem d_Co_byteOfAll_0 : decode b_Co_byteOfAll 0 = .ok (.iload_n 1, 1) := by decide +kernel
theorem d_Co_byteOfAll_1 : decode b_Co_byteOfAll 1 = .ok (.ifCond .lt 20, 3) := by decide +kernel
theorem d_Co_byteOfAll_4 : decode b_Co_byteOfAll 4 = .ok (.iload_n 1, 1) := by decide +kernel
theorem d_Co_byteOfAll_5 : decode b_Co_byteOfAll 5 = .ok (.aload_n 0, 1) := by decide +kernel
theorem d_Co_byteOfAll_6 : decode b_Co_byteOfAll 6 = .ok (.getfield 40, 3) := by decide +kernel
theorem d_Co_byteOfAll_9 : decode b_Co_byteOfAll 9 = .ok (.if_icmp .ge 12, 3) := by decide +kernel
theorem d_Co_byteOfAll_12 : decode b_Co_byteOfAll 12 = .ok (.aload_n 0, 1) := by decide +kernel
theorem d_Co_byteOfAll_13 : decode b_Co_byteOfAll 13 = .ok (.getfield 9, 3) := by decide +kernel
theorem d_Co_byteOfAll_16 : decode b_Co_byteOfAll 16 = .ok (.iload_n 1, 1) := by decide +kernel
theorem d_Co_byteOfAll_17 : decode b_Co_byteOfAll 17 = .ok (.iaload, 1) := by decide +kernel
theorem d_Co_byteOfAll_18 : decode b_Co_byteOfAll 18 = .ok (.goto 4, 3) := by decide +kernel
theorem d_Co_byteOfAll_21 : decode b_Co_byteOfAll 21 = .ok (.iconst 3, 1) := by decide +kernel
theorem d_Co_byteOfAll_22 : decode b_Co_byteOfAll 22 = .ok (.ireturn, 1) := by decide +kernel
theorem d_Ma_runTrees_0 : decode b_Ma_runTrees 0 = .ok (.aload_n 0, 1) := by decide +kernel
theorem d_Ma_runTrees_1 : decode b_Ma_runTrees 1 = .ok (.iconst 0, 1) := by decide +kernel
theorem d_Ma_runTrees_2 : decode b_Ma_runTrees 2 = .ok (.putfield 23, 3) := by decide +kernel
theorem d_Ma_runTrees_5 : decode b_Ma_runTrees 5 = .ok (.aload_n 0, 1) := by decide +kernel
theorem d_Ma_runTrees_6 : decode b_Ma_runTrees 6 = .ok (.iconst 0, 1) := by decide +kernel
theorem d_Ma_runTrees_7 : decode b_Ma_runTrees 7 = .ok (.putfield 27, 3) := by decide +kernel
theorem d_Ma_runTrees_10 : decode b_Ma_runTrees 10 = .ok (.lconst 0, 1) := by decide +kernel
theorem d_Ma_runTrees_11 : decode b_Ma_runTrees 11 = .ok (.lstore_n 1, 1) := by decide +kernel
theorem d_Ma_runTrees_12 : decode b_Ma_runTrees 12 = .ok (.iconst 0, 1) := by decide +kernel
theorem d_Ma_runTrees_13 : decode b_Ma_runTrees 13 = .ok (.istore_n 3, 1) := by decide +kernel
theorem d_Ma_runTrees_14 : decode b_Ma_runTrees 14 = .ok (.iload_n 3, 1) := by decide +kernel
theorem d_Ma_runTrees_15 : decode b_Ma_runTrees 15 = .ok (.aload_n 0, 1) := by decide +kernel
theorem d_Ma_runTrees_16 : decode b_Ma_runTrees 16 = .ok (.getfield 9, 3) := by decide +kernel
theorem d_Ma_runTrees_19 : decode b_Ma_runTrees 19 = .ok (.getfield 30, 3) := by decide +kernel
theorem d_Ma_runTrees_22 : decode b_Ma_runTrees 22 = .ok (.if_icmp .ge 27, 3) := by decide +kernel
theorem d_Ma_runTrees_25 : decode b_Ma_runTrees 25 = .ok (.lload_n 1, 1) := by decide +kernel
theorem d_Ma_runTrees_26 : decode b_Ma_runTrees 26 = .ok (.aload_n 0, 1) := by decide +kernel
theorem d_Ma_runTrees_27 : decode b_Ma_runTrees 27 = .ok (.aload_n 0, 1) := by decide +kernel
theorem d_Ma_runTrees_28 : decode b_Ma_runTrees 28 = .ok (.getfield 9, 3) := by decide +kernel
theorem d_Ma_runTrees_31 : decode b_Ma_runTrees 31 = .ok (.getfield 35, 3) := by decide +kernel
theorem d_Ma_runTrees_34 : decode b_Ma_runTrees 34 = .ok (.iload_n 3, 1) := by decide +kernel
theorem d_Ma_runTrees_35 : decode b_Ma_runTrees 35 = .ok (.iaload, 1) := by decide +kernel
theorem d_Ma_runTrees_36 : decode b_Ma_runTrees 36 = .ok (.iconst 0, 1) := by decide +kernel
theorem d_Ma_runTrees_37 : decode b_Ma_runTrees 37 = .ok (.invokevirtual 38, 3) := by decide +kernel
theorem d_Ma_runTrees_40 : decode b_Ma_runTrees 40 = .ok (.i2l, 1) := by decide +kernel
theorem d_Ma_runTrees_41 : decode b_Ma_runTrees 41 = .ok (.ladd, 1) := by decide +kernel
theorem d_Ma_runTrees_42 : decode b_Ma_runTrees 42 = .ok (.lstore_n 1, 1) := by decide +kernel
theorem d_Ma_runTrees_43 : decode b_Ma_runTrees 43 = .ok (.iinc 3 1, 3) := by decide +kernel
theorem d_Ma_runTrees_46 : decode b_Ma_runTrees 46 = .ok (.goto (-32), 3) := by decide +kernel
theorem d_Ma_runTrees_49 : decode b_Ma_runTrees 49 = .ok (.lload_n 1, 1) := by decide +kernel
theorem d_Ma_runTrees_50 : decode b_Ma_runTrees 50 = .ok (.lreturn, 1) := by decide +kernel
theorem d_Ma_runMethod_0 : decode b_Ma_runMethod 0 = .ok (.iload_n 2, 1) := by decide +kernel
theorem d_Ma_runMethod_1 : decode b_Ma_runMethod 1 = .ok (.bipush 12, 2) := by decide +kernel
theorem d_Ma_runMethod_3 : decode b_Ma_runMethod 3 = .ok (.if_icmp .gt 14, 3) := by decide +kernel
theorem d_Ma_runMethod_6 : decode b_Ma_runMethod 6 = .ok (.aload_n 0, 1) := by decide +kernel
theorem d_Ma_runMethod_7 : decode b_Ma_runMethod 7 = .ok (.getfield 9, 3) := by decide +kernel
theorem d_Ma_runMethod_10 : decode b_Ma_runMethod 10 = .ok (.iload_n 1, 1) := by decide +kernel
theorem d_Ma_runMethod_11 : decode b_Ma_runMethod 11 = .ok (.invokevirtual 42, 3) := by decide +kernel
theorem d_Ma_runMethod_14 : decode b_Ma_runMethod 14 = .ok (.ifCond .ne 5, 3) := by decide +kernel
theorem d_Ma_runMethod_17 : decode b_Ma_runMethod 17 = .ok (.iconst 0, 1) := by decide +kernel
theorem d_Ma_runMethod_18 : decode b_Ma_runMethod 18 = .ok (.ireturn, 1) := by decide +kernel
theorem d_Ma_runMethod_19 : decode b_Ma_runMethod 19 = .ok (.iconst 0, 1) := by decide +kernel
theorem d_Ma_runMethod_20 : decode b_Ma_runMethod 20 = .ok (.istore_n 3, 1) := by decide +kernel
theorem d_Ma_runMethod_21 : decode b_Ma_runMethod 21 = .ok (.iconst 0, 1) := by decide +kernel
theorem d_Ma_runMethod_22 : decode b_Ma_runMethod 22 = .ok (.istore 4, 2) := by decide +kernel
theorem d_Ma_runMethod_24 : decode b_Ma_runMethod 24 = .ok (.aload_n 0, 1) := by decide +kernel
theorem d_Ma_runMethod_25 : decode b_Ma_runMethod 25 = .ok (.getfield 9, 3) := by decide +kernel
theorem d_Ma_runMethod_28 : decode b_Ma_runMethod 28 = .ok (.getfield 46, 3) := by decide +kernel
theorem d_Ma_runMethod_31 : decode b_Ma_runMethod 31 = .ok (.iload_n 1, 1) := by decide +kernel
theorem d_Ma_runMethod_32 : decode b_Ma_runMethod 32 = .ok (.iaload, 1) := by decide +kernel
theorem d_Ma_runMethod_33 : decode b_Ma_runMethod 33 = .ok (.istore 5, 2) := by decide +kernel
theorem d_Ma_runMethod_35 : decode b_Ma_runMethod 35 = .ok (.iconst 0, 1) := by decide +kernel
theorem d_Ma_runMethod_36 : decode b_Ma_runMethod 36 = .ok (.istore 6, 2) := by decide +kernel
theorem d_Ma_runMethod_38 : decode b_Ma_runMethod 38 = .ok (.iload 6, 2) := by decide +kernel
theorem d_Ma_runMethod_40 : decode b_Ma_runMethod 40 = .ok (.sipush 600, 3) := by decide +kernel
theorem d_Ma_runMethod_43 : decode b_Ma_runMethod 43 = .ok (.if_icmp .ge 120, 3) := by decide +kernel
theorem d_Ma_runMethod_46 : decode b_Ma_runMethod 46 = .ok (.aload_n 0, 1) := by decide +kernel
theorem d_Ma_runMethod_47 : decode b_Ma_runMethod 47 = .ok (.getfield 9, 3) := by decide +kernel
theorem d_Ma_runMethod_50 : decode b_Ma_runMethod 50 = .ok (.iload 5, 2) := by decide +kernel
theorem d_Ma_runMethod_52 : decode b_Ma_runMethod 52 = .ok (.invokevirtual 49, 3) := by decide +kernel
theorem d_Ma_runMethod_55 : decode b_Ma_runMethod 55 = .ok (.istore 7, 2) := by decide +kernel
theorem d_Ma_runMethod_57 : decode b_Ma_runMethod 57 = .ok (.aload_n 0, 1) := by decide +kernel
theorem d_Ma_runMethod_58 : decode b_Ma_runMethod 58 = .ok (.dup, 1) := by decide +kernel
theorem d_Ma_runMethod_59 : decode b_Ma_runMethod 59 = .ok (.getfield 23, 3) := by decide +kernel
theorem d_Ma_runMethod_62 : decode b_Ma_runMethod 62 = .ok (.iconst 1, 1) := by decide +kernel
theorem d_Ma_runMethod_63 : decode b_Ma_runMethod 63 = .ok (.iadd, 1) := by decide +kernel
theorem d_Ma_runMethod_64 : decode b_Ma_runMethod 64 = .ok (.putfield 23, 3) := by decide +kernel
theorem d_Ma_runMethod_67 : decode b_Ma_runMethod 67 = .ok (.iload 7, 2) := by decide +kernel
theorem d_Ma_runMethod_69 : decode b_Ma_runMethod 69 = .ok (.iconst 3, 1) := by decide +kernel
theorem d_Ma_runMethod_70 : decode b_Ma_runMethod 70 = .ok (.if_icmp .ne 5, 3) := by decide +kernel
theorem d_Ma_runMethod_73 : decode b_Ma_runMethod 73 = .ok (.iload_n 3, 1) := by decide +kernel
theorem d_Ma_runMethod_74 : decode b_Ma_runMethod 74 = .ok (.ireturn, 1) := by decide +kernel
theorem d_Ma_runMethod_75 : decode b_Ma_runMethod 75 = .ok (.iload 7, 2) := by decide +kernel
theorem d_Ma_runMethod_77 : decode b_Ma_runMethod 77 = .ok (.bipush 10, 2) := by decide +kernel
theorem d_Ma_runMethod_79 : decode b_Ma_runMethod 79 = .ok (.if_icmp .lt 20, 3) := by decide +kernel
theorem d_Ma_runMethod_82 : decode b_Ma_runMethod 82 = .ok (.iload 5, 2) := by decide +kernel
theorem d_Ma_runMethod_84 : decode b_Ma_runMethod 84 = .ok (.aload_n 0, 1) := by decide +kernel
theorem d_Ma_runMethod_85 : decode b_Ma_runMethod 85 = .ok (.iload 5, 2) := by decide +kernel
theorem d_Ma_runMethod_87 : decode b_Ma_runMethod 87 = .ok (.iload 4, 2) := by decide +kernel
theorem d_Ma_runMethod_89 : decode b_Ma_runMethod 89 = .ok (.iload_n 3, 1) := by decide +kernel
theorem d_Ma_runMethod_90 : decode b_Ma_runMethod 90 = .ok (.invokevirtual 53, 3) := by decide +kernel
theorem d_Ma_runMethod_93 : decode b_Ma_runMethod 93 = .ok (.iadd, 1) := by decide +kernel
theorem d_Ma_runMethod_94 : decode b_Ma_runMethod 94 = .ok (.istore 5, 2) := by decide +kernel
theorem d_Ma_runMethod_96 : decode b_Ma_runMethod 96 = .ok (.goto 61, 3) := by decide +kernel
theorem d_Ma_runMethod_99 : decode b_Ma_runMethod 99 = .ok (.iload_n 3, 1) := by decide +kernel
theorem d_Ma_runMethod_100 : decode b_Ma_runMethod 100 = .ok (.istore 4, 2) := by decide +kernel
theorem d_Ma_runMethod_102 : decode b_Ma_runMethod 102 = .ok (.aload_n 0, 1) := by decide +kernel
theorem d_Ma_runMethod_103 : decode b_Ma_runMethod 103 = .ok (.iload 7, 2) := by decide +kernel
theorem d_Ma_runMethod_105 : decode b_Ma_runMethod 105 = .ok (.aload_n 0, 1) := by decide +kernel
theorem d_Ma_runMethod_106 : decode b_Ma_runMethod 106 = .ok (.getfield 9, 3) := by decide +kernel
theorem d_Ma_runMethod_109 : decode b_Ma_runMethod 109 = .ok (.getfield 57, 3) := by decide +kernel
theorem d_Ma_runMethod_112 : decode b_Ma_runMethod 112 = .ok (.iload_n 1, 1) := by decide +kernel
theorem d_Ma_runMethod_113 : decode b_Ma_runMethod 113 = .ok (.iaload, 1) := by decide +kernel
theorem d_Ma_runMethod_114 : decode b_Ma_runMethod 114 = .ok (.aload_n 0, 1) := by decide +kernel
theorem d_Ma_runMethod_115 : decode b_Ma_runMethod 115 = .ok (.getfield 9, 3) := by decide +kernel
theorem d_Ma_runMethod_118 : decode b_Ma_runMethod 118 = .ok (.iload 5, 2) := by decide +kernel
theorem d_Ma_runMethod_120 : decode b_Ma_runMethod 120 = .ok (.iconst 1, 1) := by decide +kernel
theorem d_Ma_runMethod_121 : decode b_Ma_runMethod 121 = .ok (.iadd, 1) := by decide +kernel
theorem d_Ma_runMethod_122 : decode b_Ma_runMethod 122 = .ok (.invokevirtual 49, 3) := by decide +kernel
theorem d_Ma_runMethod_125 : decode b_Ma_runMethod 125 = .ok (.invokevirtual 60, 3) := by decide +kernel
theorem d_Ma_runMethod_128 : decode b_Ma_runMethod 128 = .ok (.istore_n 3, 1) := by decide +kernel
theorem d_Ma_runMethod_129 : decode b_Ma_runMethod 129 = .ok (.iload 7, 2) := by decide +kernel
theorem d_Ma_runMethod_131 : decode b_Ma_runMethod 131 = .ok (.iconst 4, 1) := by decide +kernel
theorem d_Ma_runMethod_132 : decode b_Ma_runMethod 132 = .ok (.if_icmp .ne 22, 3) := by decide +kernel
theorem d_Ma_runMethod_135 : decode b_Ma_runMethod 135 = .ok (.aload_n 0, 1) := by decide +kernel
theorem d_Ma_runMethod_136 : decode b_Ma_runMethod 136 = .ok (.dup, 1) := by decide +kernel
theorem d_Ma_runMethod_137 : decode b_Ma_runMethod 137 = .ok (.getfield 27, 3) := by decide +kernel
theorem d_Ma_runMethod_140 : decode b_Ma_runMethod 140 = .ok (.iconst 1, 1) := by decide +kernel
theorem d_Ma_runMethod_141 : decode b_Ma_runMethod 141 = .ok (.iadd, 1) := by decide +kernel
theorem d_Ma_runMethod_142 : decode b_Ma_runMethod 142 = .ok (.putfield 27, 3) := by decide +kernel
theorem d_Ma_runMethod_145 : decode b_Ma_runMethod 145 = .ok (.aload_n 0, 1) := by decide +kernel
theorem d_Ma_runMethod_146 : decode b_Ma_runMethod 146 = .ok (.iload_n 3, 1) := by decide +kernel
theorem d_Ma_runMethod_147 : decode b_Ma_runMethod 147 = .ok (.iload_n 2, 1) := by decide +kernel
theorem d_Ma_runMethod_148 : decode b_Ma_runMethod 148 = .ok (.iconst 1, 1) := by decide +kernel
theorem d_Ma_runMethod_149 : decode b_Ma_runMethod 149 = .ok (.iadd, 1) := by decide +kernel
theorem d_Ma_runMethod_150 : decode b_Ma_runMethod 150 = .ok (.invokevirtual 38, 3) := by decide +kernel
theorem d_Ma_runMethod_153 : decode b_Ma_runMethod 153 = .ok (.istore_n 3, 1) := by decide +kernel
theorem d_Ma_runMethod_154 : decode b_Ma_runMethod 154 = .ok (.iinc 5 2, 3) := by decide +kernel
theorem d_Ma_runMethod_157 : decode b_Ma_runMethod 157 = .ok (.iinc 6 1, 3) := by decide +kernel
theorem d_Ma_runMethod_160 : decode b_Ma_runMethod 160 = .ok (.goto (-122), 3) := by decide +kernel
theorem d_Ma_runMethod_163 : decode b_Ma_runMethod 163 = .ok (.iload_n 3, 1) := by decide +kernel
theorem d_Ma_runMethod_164 : decode b_Ma_runMethod 164 = .ok (.ireturn, 1) := by decide +kernel
theorem d_Ma_operand_0 : decode b_Ma_operand 0 = .ok (.iload_n 1, 1) := by decide +kernel
theorem d_Ma_operand_1 : decode b_Ma_operand 1 = .ok (.iconst 1, 1) := by decide +kernel
theorem d_Ma_operand_2 : decode b_Ma_operand 2 = .ok (.if_icmp .ne 21, 3) := by decide +kernel
theorem d_Ma_operand_5 : decode b_Ma_operand 5 = .ok (.iload_n 3, 1) := by decide +kernel
theorem d_Ma_operand_6 : decode b_Ma_operand 6 = .ok (.invokestatic 63, 3) := by decide +kernel
theorem d_Ma_operand_9 : decode b_Ma_operand 9 = .ok (.ifCond .eq 12, 3) := by decide +kernel
end
section
theorem d_Ma_operand_12 : decode b_Ma_operand 12 = .ok (.aload_n 0, 1) := by decide +kernel
theorem d_Ma_operand_13 : decode b_Ma_operand 13 = .ok (.getfield 19, 3) := by decide +kernel
theorem d_Ma_operand_16 : decode b_Ma_operand 16 = .ok (.iload_n 3, 1) := by decide +kernel
theorem d_Ma_operand_17 : decode b_Ma_operand 17 = .ok (.iaload, 1) := by decide +kernel
theorem d_Ma_operand_18 : decode b_Ma_operand 18 = .ok (.goto 4, 3) := by decide +kernel
theorem d_Ma_operand_21 : decode b_Ma_operand 21 = .ok (.iconst 0, 1) := by decide +kernel
theorem d_Ma_operand_22 : decode b_Ma_operand 22 = .ok (.ireturn, 1) := by decide +kernel
theorem d_Ma_operand_23 : decode b_Ma_operand 23 = .ok (.aload_n 0, 1) := by decide +kernel
theorem d_Ma_operand_24 : decode b_Ma_operand 24 = .ok (.getfield 15, 3) := by decide +kernel
theorem d_Ma_operand_27 : decode b_Ma_operand 27 = .ok (.iload_n 2, 1) := by decide +kernel
theorem d_Ma_operand_28 : decode b_Ma_operand 28 = .ok (.iload_n 3, 1) := by decide +kernel
theorem d_Ma_operand_29 : decode b_Ma_operand 29 = .ok (.invokevirtual 66, 3) := by decide +kernel
theorem d_Ma_operand_32 : decode b_Ma_operand 32 = .ok (.ifCond .eq 25, 3) := by decide +kernel
theorem d_Ma_operand_35 : decode b_Ma_operand 35 = .ok (.aload_n 0, 1) := by decide +kernel
theorem d_Ma_operand_36 : decode b_Ma_operand 36 = .ok (.getfield 15, 3) := by decide +kernel
theorem d_Ma_operand_39 : decode b_Ma_operand 39 = .ok (.getfield 72, 3) := by decide +kernel
theorem d_Ma_operand_42 : decode b_Ma_operand 42 = .ok (.aload_n 0, 1) := by decide +kernel
theorem d_Ma_operand_43 : decode b_Ma_operand 43 = .ok (.getfield 15, 3) := by decide +kernel
theorem d_Ma_operand_46 : decode b_Ma_operand 46 = .ok (.getfield 75, 3) := by decide +kernel
theorem d_Ma_operand_49 : decode b_Ma_operand 49 = .ok (.iload_n 2, 1) := by decide +kernel
theorem d_Ma_operand_50 : decode b_Ma_operand 50 = .ok (.iaload, 1) := by decide +kernel
theorem d_Ma_operand_51 : decode b_Ma_operand 51 = .ok (.iload_n 3, 1) := by decide +kernel
theorem d_Ma_operand_52 : decode b_Ma_operand 52 = .ok (.iadd, 1) := by decide +kernel
theorem d_Ma_operand_53 : decode b_Ma_operand 53 = .ok (.iaload, 1) := by decide +kernel
theorem d_Ma_operand_54 : decode b_Ma_operand 54 = .ok (.goto 4, 3) := by decide +kernel
theorem d_Ma_operand_57 : decode b_Ma_operand 57 = .ok (.iconst 0, 1) := by decide +kernel
theorem d_Ma_operand_58 : decode b_Ma_operand 58 = .ok (.ireturn, 1) := by decide +kernel
theorem d_Ma_testMove_0 : decode b_Ma_testMove 0 = .ok (.aload_n 0, 1) := by decide +kernel
theorem d_Ma_testMove_1 : decode b_Ma_testMove 1 = .ok (.getfield 9, 3) := by decide +kernel
theorem d_Ma_testMove_4 : decode b_Ma_testMove 4 = .ok (.iload_n 1, 1) := by decide +kernel
theorem d_Ma_testMove_5 : decode b_Ma_testMove 5 = .ok (.invokevirtual 49, 3) := by decide +kernel
theorem d_Ma_testMove_8 : decode b_Ma_testMove 8 = .ok (.istore 4, 2) := by decide +kernel
theorem d_Ma_testMove_10 : decode b_Ma_testMove 10 = .ok (.iload 4, 2) := by decide +kernel
theorem d_Ma_testMove_12 : decode b_Ma_testMove 12 = .ok (.bipush 20, 2) := by decide +kernel
theorem d_Ma_testMove_14 : decode b_Ma_testMove 14 = .ok (.if_icmp .lt 7, 3) := by decide +kernel
theorem d_Ma_testMove_17 : decode b_Ma_testMove 17 = .ok (.iconst 1, 1) := by decide +kernel
theorem d_Ma_testMove_18 : decode b_Ma_testMove 18 = .ok (.goto 4, 3) := by decide +kernel
theorem d_Ma_testMove_21 : decode b_Ma_testMove 21 = .ok (.iconst 0, 1) := by decide +kernel
theorem d_Ma_testMove_22 : decode b_Ma_testMove 22 = .ok (.istore 5, 2) := by decide +kernel
theorem d_Ma_testMove_24 : decode b_Ma_testMove 24 = .ok (.iload 4, 2) := by decide +kernel
theorem d_Ma_testMove_26 : decode b_Ma_testMove 26 = .ok (.iload 5, 2) := by decide +kernel
theorem d_Ma_testMove_28 : decode b_Ma_testMove 28 = .ok (.ifCond .eq 8, 3) := by decide +kernel
theorem d_Ma_testMove_31 : decode b_Ma_testMove 31 = .ok (.bipush 20, 2) := by decide +kernel
theorem d_Ma_testMove_33 : decode b_Ma_testMove 33 = .ok (.goto 5, 3) := by decide +kernel
theorem d_Ma_testMove_36 : decode b_Ma_testMove 36 = .ok (.bipush 10, 2) := by decide +kernel
theorem d_Ma_testMove_38 : decode b_Ma_testMove 38 = .ok (.isub, 1) := by decide +kernel
theorem d_Ma_testMove_39 : decode b_Ma_testMove 39 = .ok (.istore 6, 2) := by decide +kernel
theorem d_Ma_testMove_41 : decode b_Ma_testMove 41 = .ok (.iload 6, 2) := by decide +kernel
theorem d_Ma_testMove_43 : decode b_Ma_testMove 43 = .ok (.iload_n 2, 1) := by decide +kernel
theorem d_Ma_testMove_44 : decode b_Ma_testMove 44 = .ok (.iload_n 3, 1) := by decide +kernel
theorem d_Ma_testMove_45 : decode b_Ma_testMove 45 = .ok (.invokestatic 76, 3) := by decide +kernel
theorem d_Ma_testMove_48 : decode b_Ma_testMove 48 = .ok (.ifCond .eq 14, 3) := by decide +kernel
theorem d_Ma_testMove_51 : decode b_Ma_testMove 51 = .ok (.iload 5, 2) := by decide +kernel
theorem d_Ma_testMove_53 : decode b_Ma_testMove 53 = .ok (.ifCond .eq 7, 3) := by decide +kernel
theorem d_Ma_testMove_56 : decode b_Ma_testMove 56 = .ok (.iconst 3, 1) := by decide +kernel
theorem d_Ma_testMove_57 : decode b_Ma_testMove 57 = .ok (.goto 4, 3) := by decide +kernel
theorem d_Ma_testMove_60 : decode b_Ma_testMove 60 = .ok (.iconst 2, 1) := by decide +kernel
theorem d_Ma_testMove_61 : decode b_Ma_testMove 61 = .ok (.ireturn, 1) := by decide +kernel
theorem d_Ma_testMove_62 : decode b_Ma_testMove 62 = .ok (.aload_n 0, 1) := by decide +kernel
theorem d_Ma_testMove_63 : decode b_Ma_testMove 63 = .ok (.getfield 9, 3) := by decide +kernel
theorem d_Ma_testMove_66 : decode b_Ma_testMove 66 = .ok (.iload_n 1, 1) := by decide +kernel
theorem d_Ma_testMove_67 : decode b_Ma_testMove 67 = .ok (.iconst 1, 1) := by decide +kernel
theorem d_Ma_testMove_68 : decode b_Ma_testMove 68 = .ok (.iadd, 1) := by decide +kernel
theorem d_Ma_testMove_69 : decode b_Ma_testMove 69 = .ok (.invokevirtual 49, 3) := by decide +kernel
theorem d_Ma_testMove_72 : decode b_Ma_testMove 72 = .ok (.istore 7, 2) := by decide +kernel
theorem d_Ma_testMove_74 : decode b_Ma_testMove 74 = .ok (.iload 5, 2) := by decide +kernel
theorem d_Ma_testMove_76 : decode b_Ma_testMove 76 = .ok (.ifCond .eq 23, 3) := by decide +kernel
theorem d_Ma_testMove_79 : decode b_Ma_testMove 79 = .ok (.sipush 256, 3) := by decide +kernel
theorem d_Ma_testMove_82 : decode b_Ma_testMove 82 = .ok (.iload 7, 2) := by decide +kernel
theorem d_Ma_testMove_84 : decode b_Ma_testMove 84 = .ok (.imul, 1) := by decide +kernel
theorem d_Ma_testMove_85 : decode b_Ma_testMove 85 = .ok (.aload_n 0, 1) := by decide +kernel
theorem d_Ma_testMove_86 : decode b_Ma_testMove 86 = .ok (.getfield 9, 3) := by decide +kernel
theorem d_Ma_testMove_89 : decode b_Ma_testMove 89 = .ok (.iload_n 1, 1) := by decide +kernel
theorem d_Ma_testMove_90 : decode b_Ma_testMove 90 = .ok (.iconst 2, 1) := by decide +kernel
theorem d_Ma_testMove_91 : decode b_Ma_testMove 91 = .ok (.iadd, 1) := by decide +kernel
theorem d_Ma_testMove_92 : decode b_Ma_testMove 92 = .ok (.invokevirtual 49, 3) := by decide +kernel
theorem d_Ma_testMove_95 : decode b_Ma_testMove 95 = .ok (.iadd, 1) := by decide +kernel
theorem d_Ma_testMove_96 : decode b_Ma_testMove 96 = .ok (.goto 5, 3) := by decide +kernel
theorem d_Ma_testMove_99 : decode b_Ma_testMove 99 = .ok (.iload 7, 2) := by decide +kernel
theorem d_Ma_testMove_101 : decode b_Ma_testMove 101 = .ok (.ireturn, 1) := by decide +kernel
theorem d_Ru_takesMark_0 : decode b_Ru_takesMark 0 = .ok (.iload_n 0, 1) := by decide +kernel
theorem d_Ru_takesMark_1 : decode b_Ru_takesMark 1 = .ok (.invokestatic 9, 3) := by decide +kernel
theorem d_Ru_takesMark_4 : decode b_Ru_takesMark 4 = .ok (.ifCond .ne 12, 3) := by decide +kernel
theorem d_Ru_takesMark_7 : decode b_Ru_takesMark 7 = .ok (.iload_n 1, 1) := by decide +kernel
theorem d_Ru_takesMark_8 : decode b_Ru_takesMark 8 = .ok (.ldc 15, 2) := by decide +kernel
theorem d_Ru_takesMark_10 : decode b_Ru_takesMark 10 = .ok (.iand, 1) := by decide +kernel
theorem d_Ru_takesMark_11 : decode b_Ru_takesMark 11 = .ok (.ldc 16, 2) := by decide +kernel
theorem d_Ru_takesMark_13 : decode b_Ru_takesMark 13 = .ok (.if_icmp .ge 7, 3) := by decide +kernel
theorem d_Ru_takesMark_16 : decode b_Ru_takesMark 16 = .ok (.iconst 1, 1) := by decide +kernel
theorem d_Ru_takesMark_17 : decode b_Ru_takesMark 17 = .ok (.goto 4, 3) := by decide +kernel
theorem d_Ru_takesMark_20 : decode b_Ru_takesMark 20 = .ok (.iconst 0, 1) := by decide +kernel
theorem d_Ru_takesMark_21 : decode b_Ru_takesMark 21 = .ok (.ireturn, 1) := by decide +kernel
theorem d_Ru_isBitRule_0 : decode b_Ru_isBitRule 0 = .ok (.iload_n 0, 1) := by decide +kernel
theorem d_Ru_isBitRule_1 : decode b_Ru_isBitRule 1 = .ok (.iconst 4, 1) := by decide +kernel
theorem d_Ru_isBitRule_2 : decode b_Ru_isBitRule 2 = .ok (.if_icmp .lt 7, 3) := by decide +kernel
theorem d_Ru_isBitRule_5 : decode b_Ru_isBitRule 5 = .ok (.iconst 1, 1) := by decide +kernel
theorem d_Ru_isBitRule_6 : decode b_Ru_isBitRule 6 = .ok (.goto 4, 3) := by decide +kernel
theorem d_Ru_isBitRule_9 : decode b_Ru_isBitRule 9 = .ok (.iconst 0, 1) := by decide +kernel
theorem d_Ru_isBitRule_10 : decode b_Ru_isBitRule 10 = .ok (.ireturn, 1) := by decide +kernel
theorem d_Ru_goesToYes_0 : decode b_Ru_goesToYes 0 = .ok (.iload_n 1, 1) := by decide +kernel
theorem d_Ru_goesToYes_1 : decode b_Ru_goesToYes 1 = .ok (.ldc 15, 2) := by decide +kernel
theorem d_Ru_goesToYes_3 : decode b_Ru_goesToYes 3 = .ok (.iand, 1) := by decide +kernel
theorem d_Ru_goesToYes_4 : decode b_Ru_goesToYes 4 = .ok (.ldc 16, 2) := by decide +kernel
theorem d_Ru_goesToYes_6 : decode b_Ru_goesToYes 6 = .ok (.if_icmp .le 16, 3) := by decide +kernel
theorem d_Ru_goesToYes_9 : decode b_Ru_goesToYes 9 = .ok (.iload_n 0, 1) := by decide +kernel
theorem d_Ru_goesToYes_10 : decode b_Ru_goesToYes 10 = .ok (.iconst 1, 1) := by decide +kernel
theorem d_Ru_goesToYes_11 : decode b_Ru_goesToYes 11 = .ok (.iand, 1) := by decide +kernel
theorem d_Ru_goesToYes_12 : decode b_Ru_goesToYes 12 = .ok (.iconst 1, 1) := by decide +kernel
theorem d_Ru_goesToYes_13 : decode b_Ru_goesToYes 13 = .ok (.if_icmp .ne 7, 3) := by decide +kernel
theorem d_Ru_goesToYes_16 : decode b_Ru_goesToYes 16 = .ok (.iconst 1, 1) := by decide +kernel
theorem d_Ru_goesToYes_17 : decode b_Ru_goesToYes 17 = .ok (.goto 4, 3) := by decide +kernel
theorem d_Ru_goesToYes_20 : decode b_Ru_goesToYes 20 = .ok (.iconst 0, 1) := by decide +kernel
theorem d_Ru_goesToYes_21 : decode b_Ru_goesToYes 21 = .ok (.ireturn, 1) := by decide +kernel
theorem d_Ru_goesToYes_22 : decode b_Ru_goesToYes 22 = .ok (.iload_n 0, 1) := by decide +kernel
theorem d_Ru_goesToYes_23 : decode b_Ru_goesToYes 23 = .ok (.invokestatic 9, 3) := by decide +kernel
theorem d_Ru_goesToYes_26 : decode b_Ru_goesToYes 26 = .ok (.ifCond .eq 28, 3) := by decide +kernel
theorem d_Ru_goesToYes_29 : decode b_Ru_goesToYes 29 = .ok (.iload_n 1, 1) := by decide +kernel
theorem d_Ru_goesToYes_30 : decode b_Ru_goesToYes 30 = .ok (.invokestatic 17, 3) := by decide +kernel
theorem d_Ru_goesToYes_33 : decode b_Ru_goesToYes 33 = .ok (.istore_n 3, 1) := by decide +kernel
theorem d_Ru_goesToYes_34 : decode b_Ru_goesToYes 34 = .ok (.iload_n 3, 1) := by decide +kernel
theorem d_Ru_goesToYes_35 : decode b_Ru_goesToYes 35 = .ok (.iconst (-1), 1) := by decide +kernel
theorem d_Ru_goesToYes_36 : decode b_Ru_goesToYes 36 = .ok (.if_icmp .eq 16, 3) := by decide +kernel
theorem d_Ru_goesToYes_39 : decode b_Ru_goesToYes 39 = .ok (.iload_n 2, 1) := by decide +kernel
theorem d_Ru_goesToYes_40 : decode b_Ru_goesToYes 40 = .ok (.iload_n 3, 1) := by decide +kernel
theorem d_Ru_goesToYes_41 : decode b_Ru_goesToYes 41 = .ok (.iushr, 1) := by decide +kernel
theorem d_Ru_goesToYes_42 : decode b_Ru_goesToYes 42 = .ok (.iconst 1, 1) := by decide +kernel
theorem d_Ru_goesToYes_43 : decode b_Ru_goesToYes 43 = .ok (.iand, 1) := by decide +kernel
theorem d_Ru_goesToYes_44 : decode b_Ru_goesToYes 44 = .ok (.iconst 1, 1) := by decide +kernel
theorem d_Ru_goesToYes_45 : decode b_Ru_goesToYes 45 = .ok (.if_icmp .ne 7, 3) := by decide +kernel
theorem d_Ru_goesToYes_48 : decode b_Ru_goesToYes 48 = .ok (.iconst 1, 1) := by decide +kernel
theorem d_Ru_goesToYes_49 : decode b_Ru_goesToYes 49 = .ok (.goto 4, 3) := by decide +kernel
theorem d_Ru_goesToYes_52 : decode b_Ru_goesToYes 52 = .ok (.iconst 0, 1) := by decide +kernel
theorem d_Ru_goesToYes_53 : decode b_Ru_goesToYes 53 = .ok (.ireturn, 1) := by decide +kernel
theorem d_Ru_goesToYes_54 : decode b_Ru_goesToYes 54 = .ok (.iload_n 0, 1) := by decide +kernel
theorem d_Ru_goesToYes_55 : decode b_Ru_goesToYes 55 = .ok (.iconst 2, 1) := by decide +kernel
theorem d_Ru_goesToYes_56 : decode b_Ru_goesToYes 56 = .ok (.if_icmp .ge 22, 3) := by decide +kernel
theorem d_Ru_goesToYes_59 : decode b_Ru_goesToYes 59 = .ok (.iload_n 1, 1) := by decide +kernel
theorem d_Ru_goesToYes_60 : decode b_Ru_goesToYes 60 = .ok (.invokestatic 21, 3) := by decide +kernel
theorem d_Ru_goesToYes_63 : decode b_Ru_goesToYes 63 = .ok (.iload_n 2, 1) := by decide +kernel
theorem d_Ru_goesToYes_64 : decode b_Ru_goesToYes 64 = .ok (.invokestatic 21, 3) := by decide +kernel
theorem d_Ru_goesToYes_67 : decode b_Ru_goesToYes 67 = .ok (.if_icmp .ge 7, 3) := by decide +kernel
theorem d_Ru_goesToYes_70 : decode b_Ru_goesToYes 70 = .ok (.iconst 1, 1) := by decide +kernel
theorem d_Ru_goesToYes_71 : decode b_Ru_goesToYes 71 = .ok (.goto 23, 3) := by decide +kernel
theorem d_Ru_goesToYes_74 : decode b_Ru_goesToYes 74 = .ok (.iconst 0, 1) := by decide +kernel
theorem d_Ru_goesToYes_75 : decode b_Ru_goesToYes 75 = .ok (.goto 19, 3) := by decide +kernel
theorem d_Ru_goesToYes_78 : decode b_Ru_goesToYes 78 = .ok (.iload_n 1, 1) := by decide +kernel
theorem d_Ru_goesToYes_79 : decode b_Ru_goesToYes 79 = .ok (.invokestatic 21, 3) := by decide +kernel
theorem d_Ru_goesToYes_82 : decode b_Ru_goesToYes 82 = .ok (.iload_n 2, 1) := by decide +kernel
theorem d_Ru_goesToYes_83 : decode b_Ru_goesToYes 83 = .ok (.invokestatic 21, 3) := by decide +kernel
theorem d_Ru_goesToYes_86 : decode b_Ru_goesToYes 86 = .ok (.if_icmp .gt 7, 3) := by decide +kernel
theorem d_Ru_goesToYes_89 : decode b_Ru_goesToYes 89 = .ok (.iconst 1, 1) := by decide +kernel
theorem d_Ru_goesToYes_90 : decode b_Ru_goesToYes 90 = .ok (.goto 4, 3) := by decide +kernel
theorem d_Ru_goesToYes_93 : decode b_Ru_goesToYes 93 = .ok (.iconst 0, 1) := by decide +kernel
theorem d_Ru_goesToYes_94 : decode b_Ru_goesToYes 94 = .ok (.ireturn, 1) := by decide +kernel
theorem d_Ru_orderOf_0 : decode b_Ru_orderOf 0 = .ok (.iload_n 0, 1) := by decide +kernel
theorem d_Ru_orderOf_1 : decode b_Ru_orderOf 1 = .ok (.ifCond .lt 7, 3) := by decide +kernel
theorem d_Ru_orderOf_4 : decode b_Ru_orderOf 4 = .ok (.iload_n 0, 1) := by decide +kernel
theorem d_Ru_orderOf_5 : decode b_Ru_orderOf 5 = .ok (.goto 8, 3) := by decide +kernel
theorem d_Ru_orderOf_8 : decode b_Ru_orderOf 8 = .ok (.iload_n 0, 1) := by decide +kernel
theorem d_Ru_orderOf_9 : decode b_Ru_orderOf 9 = .ok (.ldc 15, 2) := by decide +kernel
theorem d_Ru_orderOf_11 : decode b_Ru_orderOf 11 = .ok (.iand, 1) := by decide +kernel
theorem d_Ru_orderOf_12 : decode b_Ru_orderOf 12 = .ok (.ineg, 1) := by decide +kernel
theorem d_Ru_orderOf_13 : decode b_Ru_orderOf 13 = .ok (.ireturn, 1) := by decide +kernel
theorem d_Ru_wholeOf_0 : decode b_Ru_wholeOf 0 = .ok (.iload_n 0, 1) := by decide +kernel
theorem d_Ru_wholeOf_1 : decode b_Ru_wholeOf 1 = .ok (.ldc 15, 2) := by decide +kernel
theorem d_Ru_wholeOf_3 : decode b_Ru_wholeOf 3 = .ok (.iand, 1) := by decide +kernel
theorem d_Ru_wholeOf_4 : decode b_Ru_wholeOf 4 = .ok (.ifCond .ne 5, 3) := by decide +kernel
theorem d_Ru_wholeOf_7 : decode b_Ru_wholeOf 7 = .ok (.iconst 0, 1) := by decide +kernel
theorem d_Ru_wholeOf_8 : decode b_Ru_wholeOf 8 = .ok (.ireturn, 1) := by decide +kernel
theorem d_Ru_wholeOf_9 : decode b_Ru_wholeOf 9 = .ok (.iload_n 0, 1) := by decide +kernel
theorem d_Ru_wholeOf_10 : decode b_Ru_wholeOf 10 = .ok (.bipush 23, 2) := by decide +kernel
theorem d_Ru_wholeOf_12 : decode b_Ru_wholeOf 12 = .ok (.iushr, 1) := by decide +kernel
theorem d_Ru_wholeOf_13 : decode b_Ru_wholeOf 13 = .ok (.bipush 127, 2) := by decide +kernel
theorem d_Ru_wholeOf_15 : decode b_Ru_wholeOf 15 = .ok (.isub, 1) := by decide +kernel
theorem d_Ru_wholeOf_16 : decode b_Ru_wholeOf 16 = .ok (.istore_n 1, 1) := by decide +kernel
theorem d_Ru_wholeOf_17 : decode b_Ru_wholeOf 17 = .ok (.iload_n 1, 1) := by decide +kernel
theorem d_Ru_wholeOf_18 : decode b_Ru_wholeOf 18 = .ok (.ifCond .lt 8, 3) := by decide +kernel
theorem d_Ru_wholeOf_21 : decode b_Ru_wholeOf 21 = .ok (.iload_n 1, 1) := by decide +kernel
theorem d_Ru_wholeOf_22 : decode b_Ru_wholeOf 22 = .ok (.iconst 4, 1) := by decide +kernel
theorem d_Ru_wholeOf_23 : decode b_Ru_wholeOf 23 = .ok (.if_icmp .le 5, 3) := by decide +kernel
theorem d_Ru_wholeOf_26 : decode b_Ru_wholeOf 26 = .ok (.iconst (-1), 1) := by decide +kernel
theorem d_Ru_wholeOf_27 : decode b_Ru_wholeOf 27 = .ok (.ireturn, 1) := by decide +kernel
theorem d_Ru_wholeOf_28 : decode b_Ru_wholeOf 28 = .ok (.iload_n 0, 1) := by decide +kernel
theorem d_Ru_wholeOf_29 : decode b_Ru_wholeOf 29 = .ok (.ldc 24, 2) := by decide +kernel
theorem d_Ru_wholeOf_31 : decode b_Ru_wholeOf 31 = .ok (.iand, 1) := by decide +kernel
theorem d_Ru_wholeOf_32 : decode b_Ru_wholeOf 32 = .ok (.ldc 25, 2) := by decide +kernel
theorem d_Ru_wholeOf_34 : decode b_Ru_wholeOf 34 = .ok (.ior, 1) := by decide +kernel
theorem d_Ru_wholeOf_35 : decode b_Ru_wholeOf 35 = .ok (.istore_n 2, 1) := by decide +kernel
theorem d_Ru_wholeOf_36 : decode b_Ru_wholeOf 36 = .ok (.iload_n 2, 1) := by decide +kernel
theorem d_Ru_wholeOf_37 : decode b_Ru_wholeOf 37 = .ok (.bipush 23, 2) := by decide +kernel
theorem d_Ru_wholeOf_39 : decode b_Ru_wholeOf 39 = .ok (.iload_n 1, 1) := by decide +kernel
theorem d_Ru_wholeOf_40 : decode b_Ru_wholeOf 40 = .ok (.isub, 1) := by decide +kernel
theorem d_Ru_wholeOf_41 : decode b_Ru_wholeOf 41 = .ok (.ishr, 1) := by decide +kernel
theorem d_Ru_wholeOf_42 : decode b_Ru_wholeOf 42 = .ok (.istore_n 3, 1) := by decide +kernel
theorem d_Ru_wholeOf_43 : decode b_Ru_wholeOf 43 = .ok (.iload_n 3, 1) := by decide +kernel
theorem d_Ru_wholeOf_44 : decode b_Ru_wholeOf 44 = .ok (.bipush 23, 2) := by decide +kernel
theorem d_Ru_wholeOf_46 : decode b_Ru_wholeOf 46 = .ok (.iload_n 1, 1) := by decide +kernel
theorem d_Ru_wholeOf_47 : decode b_Ru_wholeOf 47 = .ok (.isub, 1) := by decide +kernel
theorem d_Ru_wholeOf_48 : decode b_Ru_wholeOf 48 = .ok (.ishl, 1) := by decide +kernel
theorem d_Ru_wholeOf_49 : decode b_Ru_wholeOf 49 = .ok (.iload_n 2, 1) := by decide +kernel
theorem d_Ru_wholeOf_50 : decode b_Ru_wholeOf 50 = .ok (.if_icmp .ne 7, 3) := by decide +kernel
theorem d_Ru_wholeOf_53 : decode b_Ru_wholeOf 53 = .ok (.iload_n 3, 1) := by decide +kernel
theorem d_Ru_wholeOf_54 : decode b_Ru_wholeOf 54 = .ok (.goto 4, 3) := by decide +kernel
theorem d_Ru_wholeOf_57 : decode b_Ru_wholeOf 57 = .ok (.iconst (-1), 1) := by decide +kernel
theorem d_Ru_wholeOf_58 : decode b_Ru_wholeOf 58 = .ok (.ireturn, 1) := by decide +kernel
theorem d_BF_init_0 : decode b_BF_init 0 = .ok (.aload_n 0, 1) := by decide +kernel
theorem d_BF_init_1 : decode b_BF_init 1 = .ok (.invokespecial 3, 3) := by decide +kernel
theorem d_BF_init_4 : decode b_BF_init 4 = .ok (.aload_n 0, 1) := by decide +kernel
theorem d_BF_init_5 : decode b_BF_init 5 = .ok (.bipush 8, 2) := by decide +kernel
theorem d_BF_init_7 : decode b_BF_init 7 = .ok (.newarray .int, 2) := by decide +kernel
theorem d_BF_init_9 : decode b_BF_init 9 = .ok (.putfield 9, 3) := by decide +kernel
theorem d_BF_init_12 : decode b_BF_init 12 = .ok (.aload_n 0, 1) := by decide +kernel
theorem d_BF_init_13 : decode b_BF_init 13 = .ok (.new 13, 3) := by decide +kernel
theorem d_BF_init_16 : decode b_BF_init 16 = .ok (.dup, 1) := by decide +kernel
theorem d_BF_init_17 : decode b_BF_init 17 = .ok (.invokespecial 15, 3) := by decide +kernel
theorem d_BF_init_20 : decode b_BF_init 20 = .ok (.putfield 16, 3) := by decide +kernel
theorem d_BF_init_23 : decode b_BF_init 23 = .ok (.aload_n 0, 1) := by decide +kernel
theorem d_BF_init_24 : decode b_BF_init 24 = .ok (.new 20, 3) := by decide +kernel
theorem d_BF_init_27 : decode b_BF_init 27 = .ok (.dup, 1) := by decide +kernel
theorem d_BF_init_28 : decode b_BF_init 28 = .ok (.aload_n 0, 1) := by decide +kernel
theorem d_BF_init_29 : decode b_BF_init 29 = .ok (.getfield 16, 3) := by decide +kernel
theorem d_BF_init_32 : decode b_BF_init 32 = .ok (.invokespecial 22, 3) := by decide +kernel
theorem d_BF_init_35 : decode b_BF_init 35 = .ok (.putfield 25, 3) := by decide +kernel
theorem d_BF_init_38 : decode b_BF_init 38 = .ok (.aload_n 0, 1) := by decide +kernel
theorem d_BF_init_39 : decode b_BF_init 39 = .ok (.new 29, 3) := by decide +kernel
theorem d_BF_init_42 : decode b_BF_init 42 = .ok (.dup, 1) := by decide +kernel
theorem d_BF_init_43 : decode b_BF_init 43 = .ok (.aload_n 0, 1) := by decide +kernel
theorem d_BF_init_44 : decode b_BF_init 44 = .ok (.getfield 16, 3) := by decide +kernel
theorem d_BF_init_47 : decode b_BF_init 47 = .ok (.invokespecial 31, 3) := by decide +kernel
theorem d_BF_init_50 : decode b_BF_init 50 = .ok (.putfield 32, 3) := by decide +kernel
theorem d_BF_init_53 : decode b_BF_init 53 = .ok (.aload_n 0, 1) := by decide +kernel
theorem d_BF_init_54 : decode b_BF_init 54 = .ok (.new 36, 3) := by decide +kernel
theorem d_BF_init_57 : decode b_BF_init 57 = .ok (.dup, 1) := by decide +kernel
theorem d_BF_init_58 : decode b_BF_init 58 = .ok (.invokespecial 38, 3) := by decide +kernel
theorem d_BF_init_61 : decode b_BF_init 61 = .ok (.putfield 39, 3) := by decide +kernel
theorem d_BF_init_64 : decode b_BF_init 64 = .ok (.aload_n 0, 1) := by decide +kernel
theorem d_BF_init_65 : decode b_BF_init 65 = .ok (.new 43, 3) := by decide +kernel
theorem d_BF_init_68 : decode b_BF_init 68 = .ok (.dup, 1) := by decide +kernel
theorem d_BF_init_69 : decode b_BF_init 69 = .ok (.aload_n 0, 1) := by decide +kernel
theorem d_BF_init_70 : decode b_BF_init 70 = .ok (.getfield 16, 3) := by decide +kernel
theorem d_BF_init_73 : decode b_BF_init 73 = .ok (.aload_n 0, 1) := by decide +kernel
theorem d_BF_init_74 : decode b_BF_init 74 = .ok (.getfield 32, 3) := by decide +kernel
theorem d_BF_init_77 : decode b_BF_init 77 = .ok (.aload_n 0, 1) := by decide +kernel
theorem d_BF_init_78 : decode b_BF_init 78 = .ok (.getfield 39, 3) := by decide +kernel
theorem d_BF_init_81 : decode b_BF_init 81 = .ok (.invokespecial 45, 3) := by decide +kernel
theorem d_BF_init_84 : decode b_BF_init 84 = .ok (.putfield 48, 3) := by decide +kernel
theorem d_BF_init_87 : decode b_BF_init 87 = .ok (.aload_n 0, 1) := by decide +kernel
theorem d_BF_init_88 : decode b_BF_init 88 = .ok (.new 52, 3) := by decide +kernel
theorem d_BF_init_91 : decode b_BF_init 91 = .ok (.dup, 1) := by decide +kernel
theorem d_BF_init_92 : decode b_BF_init 92 = .ok (.aload_n 0, 1) := by decide +kernel
theorem d_BF_init_93 : decode b_BF_init 93 = .ok (.getfield 48, 3) := by decide +kernel
theorem d_BF_init_96 : decode b_BF_init 96 = .ok (.aload_n 0, 1) := by decide +kernel
theorem d_BF_init_97 : decode b_BF_init 97 = .ok (.getfield 39, 3) := by decide +kernel
theorem d_BF_init_100 : decode b_BF_init 100 = .ok (.aload_n 0, 1) := by decide +kernel
theorem d_BF_init_101 : decode b_BF_init 101 = .ok (.getfield 9, 3) := by decide +kernel
theorem d_BF_init_104 : decode b_BF_init 104 = .ok (.invokespecial 54, 3) := by decide +kernel
theorem d_BF_init_107 : decode b_BF_init 107 = .ok (.putfield 57, 3) := by decide +kernel
theorem d_BF_init_110 : decode b_BF_init 110 = .ok (.return_, 1) := by decide +kernel
theorem d_Fo_init_0 : decode b_Fo_init 0 = .ok (.aload_n 0, 1) := by decide +kernel
theorem d_Fo_init_1 : decode b_Fo_init 1 = .ok (.invokespecial 3, 3) := by decide +kernel
theorem d_Fo_init_4 : decode b_Fo_init 4 = .ok (.aload_n 0, 1) := by decide +kernel
theorem d_Fo_init_5 : decode b_Fo_init 5 = .ok (.bipush 60, 2) := by decide +kernel
theorem d_Fo_init_7 : decode b_Fo_init 7 = .ok (.newarray .int, 2) := by decide +kernel
theorem d_Fo_init_9 : decode b_Fo_init 9 = .ok (.putfield 9, 3) := by decide +kernel
theorem d_Fo_init_12 : decode b_Fo_init 12 = .ok (.aload_n 0, 1) := by decide +kernel
theorem d_Fo_init_13 : decode b_Fo_init 13 = .ok (.bipush 60, 2) := by decide +kernel
theorem d_Fo_init_15 : decode b_Fo_init 15 = .ok (.newarray .int, 2) := by decide +kernel
theorem d_Fo_init_17 : decode b_Fo_init 17 = .ok (.putfield 15, 3) := by decide +kernel
theorem d_Fo_init_20 : decode b_Fo_init 20 = .ok (.aload_n 0, 1) := by decide +kernel
theorem d_Fo_init_21 : decode b_Fo_init 21 = .ok (.bipush 60, 2) := by decide +kernel
theorem d_Fo_init_23 : decode b_Fo_init 23 = .ok (.newarray .int, 2) := by decide +kernel
theorem d_Fo_init_25 : decode b_Fo_init 25 = .ok (.putfield 18, 3) := by decide +kernel
theorem d_Fo_init_28 : decode b_Fo_init 28 = .ok (.aload_n 0, 1) := by decide +kernel
theorem d_Fo_init_29 : decode b_Fo_init 29 = .ok (.bipush 60, 2) := by decide +kernel
theorem d_Fo_init_31 : decode b_Fo_init 31 = .ok (.newarray .int, 2) := by decide +kernel
theorem d_Fo_init_33 : decode b_Fo_init 33 = .ok (.putfield 21, 3) := by decide +kernel
theorem d_Fo_init_36 : decode b_Fo_init 36 = .ok (.aload_n 0, 1) := by decide +kernel
theorem d_Fo_init_37 : decode b_Fo_init 37 = .ok (.bipush 60, 2) := by decide +kernel
theorem d_Fo_init_39 : decode b_Fo_init 39 = .ok (.newarray .int, 2) := by decide +kernel
theorem d_Fo_init_41 : decode b_Fo_init 41 = .ok (.putfield 24, 3) := by decide +kernel
theorem d_Fo_init_44 : decode b_Fo_init 44 = .ok (.aload_n 0, 1) := by decide +kernel
theorem d_Fo_init_45 : decode b_Fo_init 45 = .ok (.bipush 8, 2) := by decide +kernel
theorem d_Fo_init_47 : decode b_Fo_init 47 = .ok (.newarray .int, 2) := by decide +kernel
theorem d_Fo_init_49 : decode b_Fo_init 49 = .ok (.putfield 27, 3) := by decide +kernel
theorem d_Fo_init_52 : decode b_Fo_init 52 = .ok (.return_, 1) := by decide +kernel
theorem d_Ch_init_0 : decode b_Ch_init 0 = .ok (.aload_n 0, 1) := by decide +kernel
theorem d_Ch_init_1 : decode b_Ch_init 1 = .ok (.invokespecial 3, 3) := by decide +kernel
theorem d_Ch_init_4 : decode b_Ch_init 4 = .ok (.aload_n 0, 1) := by decide +kernel
theorem d_Ch_init_5 : decode b_Ch_init 5 = .ok (.bipush 60, 2) := by decide +kernel
theorem d_Ch_init_7 : decode b_Ch_init 7 = .ok (.newarray .boolean, 2) := by decide +kernel
theorem d_Ch_init_9 : decode b_Ch_init 9 = .ok (.putfield 9, 3) := by decide +kernel
theorem d_Ch_init_12 : decode b_Ch_init 12 = .ok (.aload_n 0, 1) := by decide +kernel
theorem d_Ch_init_13 : decode b_Ch_init 13 = .ok (.aload_n 1, 1) := by decide +kernel
theorem d_Ch_init_14 : decode b_Ch_init 14 = .ok (.putfield 15, 3) := by decide +kernel
theorem d_Ch_init_17 : decode b_Ch_init 17 = .ok (.return_, 1) := by decide +kernel
theorem d_Cu_init_0 : decode b_Cu_init 0 = .ok (.aload_n 0, 1) := by decide +kernel
theorem d_Cu_init_1 : decode b_Cu_init 1 = .ok (.invokespecial 3, 3) := by decide +kernel
theorem d_Cu_init_4 : decode b_Cu_init 4 = .ok (.aload_n 0, 1) := by decide +kernel
theorem d_Cu_init_5 : decode b_Cu_init 5 = .ok (.bipush 60, 2) := by decide +kernel
theorem d_Cu_init_7 : decode b_Cu_init 7 = .ok (.newarray .int, 2) := by decide +kernel
theorem d_Cu_init_9 : decode b_Cu_init 9 = .ok (.putfield 9, 3) := by decide +kernel
theorem d_Cu_init_12 : decode b_Cu_init 12 = .ok (.aload_n 0, 1) := by decide +kernel
theorem d_Cu_init_13 : decode b_Cu_init 13 = .ok (.bipush 60, 2) := by decide +kernel
theorem d_Cu_init_15 : decode b_Cu_init 15 = .ok (.newarray .int, 2) := by decide +kernel
theorem d_Cu_init_17 : decode b_Cu_init 17 = .ok (.putfield 15, 3) := by decide +kernel
theorem d_Cu_init_20 : decode b_Cu_init 20 = .ok (.aload_n 0, 1) := by decide +kernel
theorem d_Cu_init_21 : decode b_Cu_init 21 = .ok (.bipush 60, 2) := by decide +kernel
theorem d_Cu_init_23 : decode b_Cu_init 23 = .ok (.newarray .int, 2) := by decide +kernel
theorem d_Cu_init_25 : decode b_Cu_init 25 = .ok (.putfield 18, 3) := by decide +kernel
theorem d_Cu_init_28 : decode b_Cu_init 28 = .ok (.aload_n 0, 1) := by decide +kernel
theorem d_Cu_init_29 : decode b_Cu_init 29 = .ok (.aload_n 1, 1) := by decide +kernel
theorem d_Cu_init_30 : decode b_Cu_init 30 = .ok (.putfield 21, 3) := by decide +kernel
theorem d_Cu_init_33 : decode b_Cu_init 33 = .ok (.return_, 1) := by decide +kernel
theorem d_Ta_init_0 : decode b_Ta_init 0 = .ok (.aload_n 0, 1) := by decide +kernel
theorem d_Ta_init_1 : decode b_Ta_init 1 = .ok (.invokespecial 3, 3) := by decide +kernel
theorem d_Ta_init_4 : decode b_Ta_init 4 = .ok (.aload_n 0, 1) := by decide +kernel
theorem d_Ta_init_5 : decode b_Ta_init 5 = .ok (.bipush 120, 2) := by decide +kernel
theorem d_Ta_init_7 : decode b_Ta_init 7 = .ok (.newarray .int, 2) := by decide +kernel
theorem d_Ta_init_9 : decode b_Ta_init 9 = .ok (.putfield 9, 3) := by decide +kernel
theorem d_Ta_init_12 : decode b_Ta_init 12 = .ok (.aload_n 0, 1) := by decide +kernel
theorem d_Ta_init_13 : decode b_Ta_init 13 = .ok (.bipush 120, 2) := by decide +kernel
theorem d_Ta_init_15 : decode b_Ta_init 15 = .ok (.newarray .int, 2) := by decide +kernel
theorem d_Ta_init_17 : decode b_Ta_init 17 = .ok (.putfield 15, 3) := by decide +kernel
theorem d_Ta_init_20 : decode b_Ta_init 20 = .ok (.aload_n 0, 1) := by decide +kernel
theorem d_Ta_init_21 : decode b_Ta_init 21 = .ok (.bipush 61, 2) := by decide +kernel
theorem d_Ta_init_23 : decode b_Ta_init 23 = .ok (.newarray .int, 2) := by decide +kernel
theorem d_Ta_init_25 : decode b_Ta_init 25 = .ok (.putfield 18, 3) := by decide +kernel
theorem d_Ta_init_28 : decode b_Ta_init 28 = .ok (.return_, 1) := by decide +kernel
theorem d_Co_init_0 : decode b_Co_init 0 = .ok (.aload_n 0, 1) := by decide +kernel
theorem d_Co_init_1 : decode b_Co_init 1 = .ok (.invokespecial 3, 3) := by decide +kernel
theorem d_Co_init_4 : decode b_Co_init 4 = .ok (.aload_n 0, 1) := by decide +kernel
theorem d_Co_init_5 : decode b_Co_init 5 = .ok (.sipush 600, 3) := by decide +kernel
theorem d_Co_init_8 : decode b_Co_init 8 = .ok (.newarray .int, 2) := by decide +kernel
theorem d_Co_init_10 : decode b_Co_init 10 = .ok (.putfield 9, 3) := by decide +kernel
theorem d_Co_init_13 : decode b_Co_init 13 = .ok (.aload_n 0, 1) := by decide +kernel
theorem d_Co_init_14 : decode b_Co_init 14 = .ok (.bipush 61, 2) := by decide +kernel
theorem d_Co_init_16 : decode b_Co_init 16 = .ok (.newarray .int, 2) := by decide +kernel
theorem d_Co_init_18 : decode b_Co_init 18 = .ok (.putfield 15, 3) := by decide +kernel
theorem d_Co_init_21 : decode b_Co_init 21 = .ok (.aload_n 0, 1) := by decide +kernel
theorem d_Co_init_22 : decode b_Co_init 22 = .ok (.bipush 60, 2) := by decide +kernel
theorem d_Co_init_24 : decode b_Co_init 24 = .ok (.newarray .int, 2) := by decide +kernel
theorem d_Co_init_26 : decode b_Co_init 26 = .ok (.putfield 18, 3) := by decide +kernel
theorem d_Co_init_29 : decode b_Co_init 29 = .ok (.aload_n 0, 1) := by decide +kernel
theorem d_Co_init_30 : decode b_Co_init 30 = .ok (.bipush 8, 2) := by decide +kernel
theorem d_Co_init_32 : decode b_Co_init 32 = .ok (.newarray .int, 2) := by decide +kernel
theorem d_Co_init_34 : decode b_Co_init 34 = .ok (.putfield 21, 3) := by decide +kernel
theorem d_Co_init_37 : decode b_Co_init 37 = .ok (.aload_n 0, 1) := by decide +kernel
theorem d_Co_init_38 : decode b_Co_init 38 = .ok (.aload_n 1, 1) := by decide +kernel
theorem d_Co_init_39 : decode b_Co_init 39 = .ok (.putfield 24, 3) := by decide +kernel
theorem d_Co_init_42 : decode b_Co_init 42 = .ok (.aload_n 0, 1) := by decide +kernel
theorem d_Co_init_43 : decode b_Co_init 43 = .ok (.aload_n 2, 1) := by decide +kernel
theorem d_Co_init_44 : decode b_Co_init 44 = .ok (.putfield 28, 3) := by decide +kernel
theorem d_Co_init_47 : decode b_Co_init 47 = .ok (.aload_n 0, 1) := by decide +kernel
theorem d_Co_init_48 : decode b_Co_init 48 = .ok (.aload_n 3, 1) := by decide +kernel
theorem d_Co_init_49 : decode b_Co_init 49 = .ok (.putfield 32, 3) := by decide +kernel
theorem d_Co_init_52 : decode b_Co_init 52 = .ok (.return_, 1) := by decide +kernel
theorem d_Ma_init_0 : decode b_Ma_init 0 = .ok (.aload_n 0, 1) := by decide +kernel
theorem d_Ma_init_1 : decode b_Ma_init 1 = .ok (.invokespecial 3, 3) := by decide +kernel
theorem d_Ma_init_4 : decode b_Ma_init 4 = .ok (.aload_n 0, 1) := by decide +kernel
theorem d_Ma_init_5 : decode b_Ma_init 5 = .ok (.aload_n 1, 1) := by decide +kernel
theorem d_Ma_init_6 : decode b_Ma_init 6 = .ok (.putfield 9, 3) := by decide +kernel
theorem d_Ma_init_9 : decode b_Ma_init 9 = .ok (.aload_n 0, 1) := by decide +kernel
theorem d_Ma_init_10 : decode b_Ma_init 10 = .ok (.aload_n 2, 1) := by decide +kernel
theorem d_Ma_init_11 : decode b_Ma_init 11 = .ok (.putfield 15, 3) := by decide +kernel
theorem d_Ma_init_14 : decode b_Ma_init 14 = .ok (.aload_n 0, 1) := by decide +kernel
theorem d_Ma_init_15 : decode b_Ma_init 15 = .ok (.aload_n 3, 1) := by decide +kernel
theorem d_Ma_init_16 : decode b_Ma_init 16 = .ok (.putfield 19, 3) := by decide +kernel
theorem d_Ma_init_19 : decode b_Ma_init 19 = .ok (.return_, 1) := by decide +kernel
end
section
def nfC : List (String × Nat × String × String × String × String) := [(R_Ch, 40, "BranchForge$Forest", "yesOf", "[I", "BranchForge"), (R_Ch, 43, "BranchForge$Forest", "noOf", "[I", "BranchForge"), (R_Ch, 19, "BranchForge$Forest", "treeCount", "I", "BranchForge"), (R_Ch, 25, "BranchForge$Forest", "rootOf", "[I", "BranchForge"), (R_Cu, 49, "BranchForge$Forest", "yesOf", "[I", "BranchForge"), (R_Cu, 52, "BranchForge$Forest", "noOf", "[I", "BranchForge"), (R_Cu, 29, "BranchForge$Forest", "treeCount", "I", "BranchForge"), (R_Cu, 34, "BranchForge$Forest", "rootOf", "[I", "BranchForge"), (R_Co, 64, "BranchForge$Cutter", "methodOf", "[I", "BranchForge"), (R_Co, 101, "BranchForge$Forest", "bitsOf", "[I", "BranchForge"), (R_Co, 111, "BranchForge$Forest", "ruleOf", "[I", "BranchForge"), (R_Co, 114, "BranchForge$Forest", "yesOf", "[I", "BranchForge"), (R_Co, 126, "BranchForge$Forest", "noOf", "[I", "BranchForge"), (R_Co, 91, "BranchForge$Forest", "featureOf", "[I", "BranchForge"), (R_Co, 84, "BranchForge$Tables", "classCount", "I", "BranchForge"), (R_Co, 74, "BranchForge$Cutter", "nodeOf", "[I", "BranchForge"), (R_Co, 67, "BranchForge$Forest", "rootOf", "[I", "BranchForge"), (R_Co, 58, "BranchForge$Forest", "treeCount", "I", "BranchForge"), (R_Co, 51, "BranchForge$Cutter", "methodCount", "I", "BranchForge"), (R_BF, 85, "BranchForge$Forest", "treeCount", "I", "BranchForge"), (R_BF, 100, "BranchForge$Code", "methodCount", "I", "BranchForge"), (R_BF, 106, "BranchForge$Code", "startOf", "[I", "BranchForge"), (R_BF, 112, "BranchForge$Code", "bytes", "[I", "BranchForge"), (R_BF, 115, "BranchForge$Code", "homeOf", "[I", "BranchForge"), (R_BF, 118, "BranchForge$Tables", "classCount", "I", "BranchForge"), (R_BF, 132, "BranchForge$Tables", "startOf", "[I", "BranchForge"), (R_BF, 133, "BranchForge$Tables", "kindAt", "[I", "BranchForge"), (R_BF, 136, "BranchForge$Tables", "bitsAt", "[I", "BranchForge"), (R_Ma, 72, "BranchForge$Tables", "bitsAt", "[I", "BranchForge"), (R_Ma, 75, "BranchForge$Tables", "startOf", "[I", "BranchForge"), (R_Ma, 57, "BranchForge$Code", "homeOf", "[I", "BranchForge"), (R_Ma, 46, "BranchForge$Code", "startOf", "[I", "BranchForge"), (R_Ma, 30, "BranchForge$Code", "treeCount", "I", "BranchForge"), (R_Ma, 35, "BranchForge$Code", "rootMethodOf", "[I", "BranchForge"), (R_BF, 145, "BranchForge$Machine", "stepCount", "I", "BranchForge"), (R_BF, 148, "BranchForge$Machine", "callCount", "I", "BranchForge"), (R_BF, 151, "BranchForge$Code", "treeCount", "I", "BranchForge"), (R_BF, 152, "BranchForge$Forest", "rootOf", "[I", "BranchForge")]
def nmC : List (String × Nat × MethodName × String) := [(R_BF, 15, y_Fo_init, "BranchForge"), (R_BF, 38, y_Ta_init, "BranchForge"), (R_Ma, 63, y_BF_isFeature, "BranchForge")]
theorem nkC_0 : (R_Ch, 40, "BranchForge$Forest", "yesOf", "[I", "BranchForge") ∈ nfC := List.mem_of_getElem? (i := 0) rfl
theorem nkC_1 : (R_Ch, 43, "BranchForge$Forest", "noOf", "[I", "BranchForge") ∈ nfC := List.mem_of_getElem? (i := 1) rfl
theorem nkC_2 : (R_Ch, 19, "BranchForge$Forest", "treeCount", "I", "BranchForge") ∈ nfC := List.mem_of_getElem? (i := 2) rfl
theorem nkC_3 : (R_Ch, 25, "BranchForge$Forest", "rootOf", "[I", "BranchForge") ∈ nfC := List.mem_of_getElem? (i := 3) rfl
theorem nkC_4 : (R_Cu, 49, "BranchForge$Forest", "yesOf", "[I", "BranchForge") ∈ nfC := List.mem_of_getElem? (i := 4) rfl
theorem nkC_5 : (R_Cu, 52, "BranchForge$Forest", "noOf", "[I", "BranchForge") ∈ nfC := List.mem_of_getElem? (i := 5) rfl
theorem nkC_6 : (R_Cu, 29, "BranchForge$Forest", "treeCount", "I", "BranchForge") ∈ nfC := List.mem_of_getElem? (i := 6) rfl
theorem nkC_7 : (R_Cu, 34, "BranchForge$Forest", "rootOf", "[I", "BranchForge") ∈ nfC := List.mem_of_getElem? (i := 7) rfl
theorem nkC_8 : (R_Co, 64, "BranchForge$Cutter", "methodOf", "[I", "BranchForge") ∈ nfC := List.mem_of_getElem? (i := 8) rfl
theorem nkC_9 : (R_Co, 101, "BranchForge$Forest", "bitsOf", "[I", "BranchForge") ∈ nfC := List.mem_of_getElem? (i := 9) rfl
theorem nkC_10 : (R_Co, 111, "BranchForge$Forest", "ruleOf", "[I", "BranchForge") ∈ nfC := List.mem_of_getElem? (i := 10) rfl
theorem nkC_11 : (R_Co, 114, "BranchForge$Forest", "yesOf", "[I", "BranchForge") ∈ nfC := List.mem_of_getElem? (i := 11) rfl
theorem nkC_12 : (R_Co, 126, "BranchForge$Forest", "noOf", "[I", "BranchForge") ∈ nfC := List.mem_of_getElem? (i := 12) rfl
theorem nkC_13 : (R_Co, 91, "BranchForge$Forest", "featureOf", "[I", "BranchForge") ∈ nfC := List.mem_of_getElem? (i := 13) rfl
theorem nkC_14 : (R_Co, 84, "BranchForge$Tables", "classCount", "I", "BranchForge") ∈ nfC := List.mem_of_getElem? (i := 14) rfl
theorem nkC_15 : (R_Co, 74, "BranchForge$Cutter", "nodeOf", "[I", "BranchForge") ∈ nfC := List.mem_of_getElem? (i := 15) rfl
theorem nkC_16 : (R_Co, 67, "BranchForge$Forest", "rootOf", "[I", "BranchForge") ∈ nfC := List.mem_of_getElem? (i := 16) rfl
theorem nkC_17 : (R_Co, 58, "BranchForge$Forest", "treeCount", "I", "BranchForge") ∈ nfC := List.mem_of_getElem? (i := 17) rfl
theorem nkC_18 : (R_Co, 51, "BranchForge$Cutter", "methodCount", "I", "BranchForge") ∈ nfC := List.mem_of_getElem? (i := 18) rfl
theorem nkC_19 : (R_BF, 85, "BranchForge$Forest", "treeCount", "I", "BranchForge") ∈ nfC := List.mem_of_getElem? (i := 19) rfl
theorem nkC_20 : (R_BF, 100, "BranchForge$Code", "methodCount", "I", "BranchForge") ∈ nfC := List.mem_of_getElem? (i := 20) rfl
theorem nkC_21 : (R_BF, 106, "BranchForge$Code", "startOf", "[I", "BranchForge") ∈ nfC := List.mem_of_getElem? (i := 21) rfl
theorem nkC_22 : (R_BF, 112, "BranchForge$Code", "bytes", "[I", "BranchForge") ∈ nfC := List.mem_of_getElem? (i := 22) rfl
theorem nkC_23 : (R_BF, 115, "BranchForge$Code", "homeOf", "[I", "BranchForge") ∈ nfC := List.mem_of_getElem? (i := 23) rfl
theorem nkC_24 : (R_BF, 118, "BranchForge$Tables", "classCount", "I", "BranchForge") ∈ nfC := List.mem_of_getElem? (i := 24) rfl
theorem nkC_25 : (R_BF, 132, "BranchForge$Tables", "startOf", "[I", "BranchForge") ∈ nfC := List.mem_of_getElem? (i := 25) rfl
theorem nkC_26 : (R_BF, 133, "BranchForge$Tables", "kindAt", "[I", "BranchForge") ∈ nfC := List.mem_of_getElem? (i := 26) rfl
theorem nkC_27 : (R_BF, 136, "BranchForge$Tables", "bitsAt", "[I", "BranchForge") ∈ nfC := List.mem_of_getElem? (i := 27) rfl
theorem nkC_28 : (R_Ma, 72, "BranchForge$Tables", "bitsAt", "[I", "BranchForge") ∈ nfC := List.mem_of_getElem? (i := 28) rfl
theorem nkC_29 : (R_Ma, 75, "BranchForge$Tables", "startOf", "[I", "BranchForge") ∈ nfC := List.mem_of_getElem? (i := 29) rfl
theorem nkC_30 : (R_Ma, 57, "BranchForge$Code", "homeOf", "[I", "BranchForge") ∈ nfC := List.mem_of_getElem? (i := 30) rfl
theorem nkC_31 : (R_Ma, 46, "BranchForge$Code", "startOf", "[I", "BranchForge") ∈ nfC := List.mem_of_getElem? (i := 31) rfl
theorem nkC_32 : (R_Ma, 30, "BranchForge$Code", "treeCount", "I", "BranchForge") ∈ nfC := List.mem_of_getElem? (i := 32) rfl
theorem nkC_33 : (R_Ma, 35, "BranchForge$Code", "rootMethodOf", "[I", "BranchForge") ∈ nfC := List.mem_of_getElem? (i := 33) rfl
theorem nkC_34 : (R_BF, 145, "BranchForge$Machine", "stepCount", "I", "BranchForge") ∈ nfC := List.mem_of_getElem? (i := 34) rfl
theorem nkC_35 : (R_BF, 148, "BranchForge$Machine", "callCount", "I", "BranchForge") ∈ nfC := List.mem_of_getElem? (i := 35) rfl
theorem nkC_36 : (R_BF, 151, "BranchForge$Code", "treeCount", "I", "BranchForge") ∈ nfC := List.mem_of_getElem? (i := 36) rfl
theorem nkC_37 : (R_BF, 152, "BranchForge$Forest", "rootOf", "[I", "BranchForge") ∈ nfC := List.mem_of_getElem? (i := 37) rfl
theorem nyC_0 : (R_BF, 15, y_Fo_init, "BranchForge") ∈ nmC := List.mem_of_getElem? (i := 0) rfl
theorem nyC_1 : (R_BF, 38, y_Ta_init, "BranchForge") ∈ nmC := List.mem_of_getElem? (i := 1) rfl
theorem nyC_2 : (R_Ma, 63, y_BF_isFeature, "BranchForge") ∈ nmC := List.mem_of_getElem? (i := 2) rfl
def w0C : List Cond := [.constant R_Ru 15 2147483647,
  .constant R_Ru 16 2139095040,
  .constantLong R_BF 139 4294967295,
  .constantLong R_BF 130 (-1),
  .constant R_Ru 24 8388607,
  .constant R_Ru 25 8388608,
  .methodLink R_Fo 3 objectInit,
  .instanceMethod objectInit,
  .code objectInit ⟨#[0xb1]⟩ 1 none,
  .arrayClass .int,
  .fieldLink R_Fo 9 "BranchForge$Forest" "ruleOf" "[I",
  .fieldLink R_Fo 15 "BranchForge$Forest" "featureOf" "[I",
  .fieldLink R_Fo 18 "BranchForge$Forest" "bitsOf" "[I",
  .fieldLink R_Fo 21 "BranchForge$Forest" "yesOf" "[I",
  .fieldLink R_Fo 24 "BranchForge$Forest" "noOf" "[I",
  .fieldLink R_Fo 27 "BranchForge$Forest" "rootOf" "[I",
  .code y_Fo_init b_Fo_init 1 none,
  .methodLink R_Ch 3 objectInit,
  .arrayClass .boolean,
  .fieldLink R_Ch 9 "BranchForge$Checker" "cameTo" "[Z",
  .fieldLink R_Ch 15 "BranchForge$Checker" "forest" "LBranchForge$Forest;",
  .code y_Ch_init b_Ch_init 2 none,
  .methodLink R_Cu 3 objectInit,
  .fieldLink R_Cu 9 "BranchForge$Cutter" "codeLengthOf" "[I",
  .fieldLink R_Cu 15 "BranchForge$Cutter" "methodOf" "[I",
  .fieldLink R_Cu 18 "BranchForge$Cutter" "nodeOf" "[I",
  .fieldLink R_Cu 21 "BranchForge$Cutter" "forest" "LBranchForge$Forest;",
  .code y_Cu_init b_Cu_init 2 none,
  .methodLink R_Ta 3 objectInit,
  .fieldLink R_Ta 9 "BranchForge$Tables" "kindAt" "[I",
  .fieldLink R_Ta 15 "BranchForge$Tables" "bitsAt" "[I",
  .fieldLink R_Ta 18 "BranchForge$Tables" "startOf" "[I",
  .code y_Ta_init b_Ta_init 1 none,
  .methodLink R_Co 3 objectInit,
  .fieldLink R_Co 9 "BranchForge$Code" "bytes" "[I",
  .fieldLink R_Co 15 "BranchForge$Code" "startOf" "[I",
  .fieldLink R_Co 18 "BranchForge$Code" "homeOf" "[I",
  .fieldLink R_Co 21 "BranchForge$Code" "rootMethodOf" "[I",
  .fieldLink R_Co 24 "BranchForge$Code" "forest" "LBranchForge$Forest;",
  .fieldLink R_Co 28 "BranchForge$Code" "cutter" "LBranchForge$Cutter;",
  .fieldLink R_Co 32 "BranchForge$Code" "tables" "LBranchForge$Tables;",
  .code y_Co_init b_Co_init 4 none,
  .methodLink R_Ma 3 objectInit,
  .fieldLink R_Ma 9 "BranchForge$Machine" "code" "LBranchForge$Code;",
  .fieldLink R_Ma 15 "BranchForge$Machine" "tables" "LBranchForge$Tables;",
  .fieldLink R_Ma 19 "BranchForge$Machine" "features" "[I",
  .code y_Ma_init b_Ma_init 4 none,
  .methodLink R_BF 3 objectInit,
  .fieldLink R_BF 9 "BranchForge" "features" "[I",
  .classLink R_BF 13 R_Fo,
  .instantiable R_Fo 8,
  .initialized R_Fo,
  .instanceMethod y_Fo_init,
  .fieldLink R_BF 16 "BranchForge" "forest" "LBranchForge$Forest;",
  .classLink R_BF 20 R_Ch,
  .instantiable R_Ch 2,
  .initialized R_Ch,
  .methodLink R_BF 22 y_Ch_init,
  .instanceMethod y_Ch_init,
  .fieldLink R_BF 25 "BranchForge" "checker" "LBranchForge$Checker;",
  .classLink R_BF 29 R_Cu,
  .instantiable R_Cu 5,
  .initialized R_Cu,
  .methodLink R_BF 31 y_Cu_init,
  .instanceMethod y_Cu_init,
  .fieldLink R_BF 32 "BranchForge" "cutter" "LBranchForge$Cutter;",
  .classLink R_BF 36 R_Ta,
  .instantiable R_Ta 4,
  .initialized R_Ta,
  .instanceMethod y_Ta_init,
  .fieldLink R_BF 39 "BranchForge" "tables" "LBranchForge$Tables;",
  .classLink R_BF 43 R_Co,
  .instantiable R_Co 10,
  .initialized R_Co,
  .methodLink R_BF 45 y_Co_init,
  .instanceMethod y_Co_init,
  .fieldLink R_BF 48 "BranchForge" "code" "LBranchForge$Code;",
  .classLink R_BF 52 R_Ma,
  .instantiable R_Ma 5,
  .initialized R_Ma,
  .methodLink R_BF 54 y_Ma_init,
  .instanceMethod y_Ma_init,
  .fieldLink R_BF 57 "BranchForge" "machine" "LBranchForge$Machine;",
  .code y_BF_init b_BF_init 1 none,
  .fieldLink R_Fo 30 "BranchForge$Forest" "nodeCount" "I",
  .fieldLink R_Fo 34 "BranchForge$Forest" "treeCount" "I",
  .fieldLink R_Cu 25 "BranchForge$Cutter" "methodCount" "I",
  .fieldLink R_Ta 21 "BranchForge$Tables" "classCount" "I",
  .fieldLink R_Co 40 "BranchForge$Code" "used" "I",
  .fieldLink R_Co 63 "BranchForge$Code" "treeCount" "I",
  .fieldLink R_Co 36 "BranchForge$Code" "methodCount" "I",
  .fieldLink R_Ma 23 "BranchForge$Machine" "stepCount" "I",
  .fieldLink R_Ma 27 "BranchForge$Machine" "callCount" "I",
  .methodLink R_BF 61 y_Fo_addNode,
  .instanceMethod y_Fo_addNode,
  .selects R_Fo y_Fo_addNode y_Fo_addNode,
  .methodLink R_Ru 9 y_Ru_isBitRule,
  .static y_Ru_isBitRule,
  .initialized R_Ru,
  .methodLink R_BF 65 y_BF_isFeature,
  .static y_BF_isFeature,
  .initialized R_BF,
  .methodLink R_BF 69 y_Ru_takesMark,
  .static y_Ru_takesMark,
  .methodLink R_BF 75 y_BF_isNodeNumber,
  .static y_BF_isNodeNumber,
  .methodLink R_Fo 37 y_Fo_isNode,
  .instanceMethod y_Fo_isNode,
  .selects R_Fo y_Fo_isNode y_Fo_isNode,
  .methodLink R_BF 78 y_Fo_addTree,
  .instanceMethod y_Fo_addTree,
  .selects R_Fo y_Fo_addTree y_Fo_addTree,
  .methodLink R_Ch 36 y_Fo_isLeaf,
  .instanceMethod y_Fo_isLeaf,
  .selects R_Fo y_Fo_isLeaf y_Fo_isLeaf,
  .methodLink R_Ch 49 y_Fo_isNode,
  .methodLink R_Ch 46 y_Ch_isDangling,
  .instanceMethod y_Ch_isDangling,
  .selects R_Ch y_Ch_isDangling y_Ch_isDangling,
  .methodLink R_Ch 33 y_Ch_faultAt,
  .instanceMethod y_Ch_faultAt,
  .selects R_Ch y_Ch_faultAt y_Ch_faultAt,
  .methodLink R_Ch 29 y_Ch_faultFrom,
  .instanceMethod y_Ch_faultFrom,
  .selects R_Ch y_Ch_faultFrom y_Ch_faultFrom,
  .methodLink R_Cu 63 y_Cu_partLength,
  .instanceMethod y_Cu_partLength,
  .selects R_Cu y_Cu_partLength y_Cu_partLength,
  .methodLink R_Cu 66 y_Cu_testLength,
  .static y_Cu_testLength,
  .methodLink R_Cu 41 y_Cu_cutOut,
  .instanceMethod y_Cu_cutOut,
  .selects R_Cu y_Cu_cutOut y_Cu_cutOut,
  .methodLink R_Cu 59 y_Cu_splitLength,
  .instanceMethod y_Cu_splitLength,
  .selects R_Cu y_Cu_splitLength y_Cu_splitLength,
  .methodLink R_Cu 45 y_Fo_isLeaf,
  .methodLink R_Cu 37 y_Cu_cutFrom,
  .instanceMethod y_Cu_cutFrom,
  .selects R_Cu y_Cu_cutFrom y_Cu_cutFrom,
  .methodLink R_Cu 55 y_Cu_cutChildren,
  .instanceMethod y_Cu_cutChildren,
  .selects R_Cu y_Cu_cutChildren y_Cu_cutChildren,
  .methodLink R_Ta 29 y_Ta_sizeOf,
  .instanceMethod y_Ta_sizeOf,
  .selects R_Ta y_Ta_sizeOf y_Ta_sizeOf,
  .methodLink R_Co 108 y_Co_writeByte,
  .instanceMethod y_Co_writeByte,
  .selects R_Co y_Co_writeByte y_Co_writeByte,
  .methodLink R_Fo 41 y_Fo_isLeaf,
  .methodLink R_Fo 44 y_Ru_isBitRule,
  .methodLink R_Co 129 y_Cu_testLength,
  .methodLink R_Co 94 y_Co_writePair,
  .instanceMethod y_Co_writePair,
  .selects R_Co y_Co_writePair y_Co_writePair,
  .methodLink R_Co 104 y_Ta_numberFor,
  .instanceMethod y_Ta_numberFor,
  .selects R_Ta y_Ta_numberFor y_Ta_numberFor,
  .methodLink R_Co 77 y_Co_writeCode,
  .instanceMethod y_Co_writeCode,
  .selects R_Co y_Co_writeCode y_Co_writeCode,
  .methodLink R_Co 97 y_Fo_kindOfEntry,
  .instanceMethod y_Fo_kindOfEntry,
  .selects R_Fo y_Fo_kindOfEntry y_Fo_kindOfEntry,
  .methodLink R_Co 117 y_Cu_partLength,
  .methodLink R_Co 120 y_Co_writeTest,
  .instanceMethod y_Co_writeTest,
  .selects R_Co y_Co_writeTest y_Co_writeTest,
  .methodLink R_Co 123 y_Co_writePart,
  .instanceMethod y_Co_writePart,
  .selects R_Co y_Co_writePart y_Co_writePart,
  .methodLink R_Co 87 y_Fo_isLeaf,
  .methodLink R_Co 70 y_Ta_latestSize,
  .instanceMethod y_Ta_latestSize,
  .selects R_Ta y_Ta_latestSize y_Ta_latestSize,
  .methodLink R_Co 80 y_Ta_shrinkLatest,
  .instanceMethod y_Ta_shrinkLatest,
  .selects R_Ta y_Ta_shrinkLatest y_Ta_shrinkLatest,
  .methodLink R_Co 48 y_Ta_openClass,
  .instanceMethod y_Ta_openClass,
  .selects R_Ta y_Ta_openClass y_Ta_openClass,
  .methodLink R_Co 54 y_Co_writeMethod,
  .instanceMethod y_Co_writeMethod,
  .selects R_Co y_Co_writeMethod y_Co_writeMethod,
  .methodLink R_Co 43 y_Ta_forgetAll,
  .instanceMethod y_Ta_forgetAll,
  .selects R_Ta y_Ta_forgetAll y_Ta_forgetAll,
  .methodLink R_BF 82 y_BF_isTableSize,
  .static y_BF_isTableSize,
  .methodLink R_BF 89 y_Ch_firstFault,
  .instanceMethod y_Ch_firstFault,
  .selects R_Ch y_Ch_firstFault y_Ch_firstFault,
  .methodLink R_BF 93 y_Cu_cutTrees,
  .instanceMethod y_Cu_cutTrees,
  .selects R_Cu y_Cu_cutTrees y_Cu_cutTrees,
  .methodLink R_BF 97 y_Co_writeMethods,
  .instanceMethod y_Co_writeMethods,
  .selects R_Co y_Co_writeMethods y_Co_writeMethods,
  .methodLink R_BF 103 y_Co_isMethod,
  .instanceMethod y_Co_isMethod,
  .selects R_Co y_Co_isMethod y_Co_isMethod,
  .methodLink R_BF 109 y_BF_length,
  .instanceMethod y_BF_length,
  .selects R_BF y_BF_length y_BF_length,
  .methodLink R_BF 121 y_Ta_isClass,
  .instanceMethod y_Ta_isClass,
  .selects R_Ta y_Ta_isClass y_Ta_isClass,
  .methodLink R_BF 124 y_Ta_sizeOf,
  .methodLink R_Ta 25 y_Ta_isClass,
  .methodLink R_BF 127 y_Ta_holds,
  .instanceMethod y_Ta_holds,
  .selects R_Ta y_Ta_holds y_Ta_holds,
  .methodLink R_Ru 21 y_Ru_orderOf,
  .static y_Ru_orderOf,
  .methodLink R_Ru 17 y_Ru_wholeOf,
  .static y_Ru_wholeOf,
  .methodLink R_Ma 76 y_Ru_goesToYes,
  .static y_Ru_goesToYes,
  .methodLink R_Ma 49 y_Co_byteOfAll,
  .instanceMethod y_Co_byteOfAll,
  .selects R_Co y_Co_byteOfAll y_Co_byteOfAll,
  .methodLink R_Ma 66 y_Ta_holds,
  .methodLink R_Ma 60 y_Ma_operand,
  .instanceMethod y_Ma_operand,
  .selects R_Ma y_Ma_operand y_Ma_operand,
  .methodLink R_Ma 38 y_Ma_runMethod,
  .instanceMethod y_Ma_runMethod,
  .selects R_Ma y_Ma_runMethod y_Ma_runMethod,
  .methodLink R_Ma 53 y_Ma_testMove,
  .instanceMethod y_Ma_testMove,
  .selects R_Ma y_Ma_testMove y_Ma_testMove,
  .methodLink R_Ma 42 y_Co_isMethod,
  .methodLink R_BF 141 y_Ma_runTrees,
  .instanceMethod y_Ma_runTrees,
  .selects R_Ma y_Ma_runTrees y_Ma_runTrees,
  .methodLink R_Fo 49 y_Ru_goesToYes,
  .methodLink R_BF 155 y_Fo_leafFor,
  .instanceMethod y_Fo_leafFor,
  .selects R_Fo y_Fo_leafFor y_Fo_leafFor,
  .code y_BF_leaf b_BF_leaf 2 (some .int),
  .code y_BF_split b_BF_split 6 (some .int),
  .code y_BF_tree b_BF_tree 2 (some .int),
  .code y_BF_compile b_BF_compile 4 (some .int),
  .code y_BF_methods b_BF_methods 1 (some .int),
  .code y_BF_length b_BF_length 2 (some .int),
  .code y_BF_byteAt b_BF_byteAt 3 (some .int),
  .code y_BF_classOf b_BF_classOf 2 (some .int),
  .code y_BF_classes b_BF_classes 1 (some .int),
  .code y_BF_entries b_BF_entries 2 (some .int),
  .code y_BF_entry b_BF_entry 4 (some .long),
  .code y_BF_set b_BF_set 3 (some .boolean),
  .code y_BF_predict b_BF_predict 1 (some .long),
  .code y_BF_steps b_BF_steps 1 (some .int),
  .code y_BF_calls b_BF_calls 1 (some .int),
  .code y_BF_reach b_BF_reach 2 (some .int),
  .code y_BF_isFeature b_BF_isFeature 1 (some .boolean),
  .code y_BF_isNodeNumber b_BF_isNodeNumber 1 (some .boolean),
  .code y_BF_isTableSize b_BF_isTableSize 2 (some .boolean),
  .code y_Fo_addNode b_Fo_addNode 6 (some .int),
  .code y_Fo_addTree b_Fo_addTree 2 (some .int),
  .code y_Fo_isNode b_Fo_isNode 2 (some .boolean),
  .code y_Fo_isLeaf b_Fo_isLeaf 2 (some .boolean),
  .code y_Fo_kindOfEntry b_Fo_kindOfEntry 2 (some .int),
  .code y_Fo_leafFor b_Fo_leafFor 6 (some .int),
  .code y_Ch_firstFault b_Ch_firstFault 3 (some .int),
  .code y_Ch_faultFrom b_Ch_faultFrom 4 (some .int),
  .code y_Ch_faultAt b_Ch_faultAt 3 (some .int),
  .code y_Ch_isDangling b_Ch_isDangling 2 (some .boolean),
  .code y_Cu_cutTrees b_Cu_cutTrees 3 none,
  .code y_Cu_cutFrom b_Cu_cutFrom 4 none,
  .code y_Cu_cutChildren b_Cu_cutChildren 6 none,
  .code y_Cu_cutOut b_Cu_cutOut 2 none,
  .code y_Cu_splitLength b_Cu_splitLength 3 (some .int),
  .code y_Cu_partLength b_Cu_partLength 2 (some .int),
  .code y_Cu_testLength b_Cu_testLength 1 (some .int),
  .code y_Ta_forgetAll b_Ta_forgetAll 1 none,
  .code y_Ta_openClass b_Ta_openClass 1 none,
  .code y_Ta_isClass b_Ta_isClass 2 (some .boolean),
  .code y_Ta_sizeOf b_Ta_sizeOf 2 (some .int),
  .code y_Ta_holds b_Ta_holds 3 (some .boolean),
  .code y_Ta_latestSize b_Ta_latestSize 1 (some .int),
  .code y_Ta_shrinkLatest b_Ta_shrinkLatest 2 none,
  .code y_Ta_numberFor b_Ta_numberFor 6 (some .int),
  .code y_Co_isMethod b_Co_isMethod 2 (some .boolean),
  .code y_Co_writeMethods b_Co_writeMethods 3 none,
  .code y_Co_writeMethod b_Co_writeMethod 4 none,
  .code y_Co_writeCode b_Co_writeCode 4 none,
  .code y_Co_writePart b_Co_writePart 4 none,
  .code y_Co_writeTest b_Co_writeTest 5 none,
  .code y_Co_writePair b_Co_writePair 3 none,
  .code y_Co_writeByte b_Co_writeByte 2 none,
  .code y_Co_byteOfAll b_Co_byteOfAll 2 (some .int),
  .code y_Ma_runTrees b_Ma_runTrees 4 (some .long),
  .code y_Ma_runMethod b_Ma_runMethod 8 (some .int),
  .code y_Ma_operand b_Ma_operand 4 (some .int),
  .code y_Ma_testMove b_Ma_testMove 8 (some .int),
  .code y_Ru_takesMark b_Ru_takesMark 2 (some .boolean),
  .code y_Ru_isBitRule b_Ru_isBitRule 1 (some .boolean),
  .code y_Ru_goesToYes b_Ru_goesToYes 4 (some .boolean),
  .code y_Ru_orderOf b_Ru_orderOf 1 (some .int),
  .code y_Ru_wholeOf b_Ru_wholeOf 4 (some .int)]
def wGC : List Cond := w0C ++ (u_ws R_BF F_BF 7 ++ (u_ws R_Fo F_Fo 8 ++ (u_ws R_Ch F_Ch 2 ++ (u_ws R_Cu F_Cu 5 ++ (u_ws R_Ta F_Ta 4 ++ (u_ws R_Co F_Co 10 ++ (u_ws R_Ma F_Ma 5)))))))
theorem goodwC : ∀ w ∈ wGC, goodWord w = true := by decide +kernel
theorem kC_0 : Cond.constant R_Ru 15 2147483647 ∈ wGC := List.mem_append_left _ (List.mem_of_getElem? (i := 0) rfl)
theorem kC_1 : Cond.constant R_Ru 16 2139095040 ∈ wGC := List.mem_append_left _ (List.mem_of_getElem? (i := 1) rfl)
theorem kC_2 : Cond.constantLong R_BF 139 4294967295 ∈ wGC := List.mem_append_left _ (List.mem_of_getElem? (i := 2) rfl)
theorem kC_3 : Cond.constantLong R_BF 130 (-1) ∈ wGC := List.mem_append_left _ (List.mem_of_getElem? (i := 3) rfl)
theorem kC_4 : Cond.constant R_Ru 24 8388607 ∈ wGC := List.mem_append_left _ (List.mem_of_getElem? (i := 4) rfl)
theorem kC_5 : Cond.constant R_Ru 25 8388608 ∈ wGC := List.mem_append_left _ (List.mem_of_getElem? (i := 5) rfl)
theorem kC_6 : Cond.methodLink R_Fo 3 objectInit ∈ wGC := List.mem_append_left _ (List.mem_of_getElem? (i := 6) rfl)
theorem kC_7 : Cond.instanceMethod objectInit ∈ wGC := List.mem_append_left _ (List.mem_of_getElem? (i := 7) rfl)
theorem kC_8 : Cond.code objectInit ⟨#[0xb1]⟩ 1 none ∈ wGC := List.mem_append_left _ (List.mem_of_getElem? (i := 8) rfl)
theorem kC_9 : Cond.arrayClass .int ∈ wGC := List.mem_append_left _ (List.mem_of_getElem? (i := 9) rfl)
theorem kC_10 : Cond.fieldLink R_Fo 9 "BranchForge$Forest" "ruleOf" "[I" ∈ wGC := List.mem_append_left _ (List.mem_of_getElem? (i := 10) rfl)
theorem kC_11 : Cond.fieldLink R_Fo 15 "BranchForge$Forest" "featureOf" "[I" ∈ wGC := List.mem_append_left _ (List.mem_of_getElem? (i := 11) rfl)
theorem kC_12 : Cond.fieldLink R_Fo 18 "BranchForge$Forest" "bitsOf" "[I" ∈ wGC := List.mem_append_left _ (List.mem_of_getElem? (i := 12) rfl)
theorem kC_13 : Cond.fieldLink R_Fo 21 "BranchForge$Forest" "yesOf" "[I" ∈ wGC := List.mem_append_left _ (List.mem_of_getElem? (i := 13) rfl)
theorem kC_14 : Cond.fieldLink R_Fo 24 "BranchForge$Forest" "noOf" "[I" ∈ wGC := List.mem_append_left _ (List.mem_of_getElem? (i := 14) rfl)
theorem kC_15 : Cond.fieldLink R_Fo 27 "BranchForge$Forest" "rootOf" "[I" ∈ wGC := List.mem_append_left _ (List.mem_of_getElem? (i := 15) rfl)
theorem kC_16 : Cond.code y_Fo_init b_Fo_init 1 none ∈ wGC := List.mem_append_left _ (List.mem_of_getElem? (i := 16) rfl)
theorem kC_17 : Cond.methodLink R_Ch 3 objectInit ∈ wGC := List.mem_append_left _ (List.mem_of_getElem? (i := 17) rfl)
theorem kC_18 : Cond.arrayClass .boolean ∈ wGC := List.mem_append_left _ (List.mem_of_getElem? (i := 18) rfl)
theorem kC_19 : Cond.fieldLink R_Ch 9 "BranchForge$Checker" "cameTo" "[Z" ∈ wGC := List.mem_append_left _ (List.mem_of_getElem? (i := 19) rfl)
theorem kC_20 : Cond.fieldLink R_Ch 15 "BranchForge$Checker" "forest" "LBranchForge$Forest;" ∈ wGC := List.mem_append_left _ (List.mem_of_getElem? (i := 20) rfl)
theorem kC_21 : Cond.code y_Ch_init b_Ch_init 2 none ∈ wGC := List.mem_append_left _ (List.mem_of_getElem? (i := 21) rfl)
theorem kC_22 : Cond.methodLink R_Cu 3 objectInit ∈ wGC := List.mem_append_left _ (List.mem_of_getElem? (i := 22) rfl)
theorem kC_23 : Cond.fieldLink R_Cu 9 "BranchForge$Cutter" "codeLengthOf" "[I" ∈ wGC := List.mem_append_left _ (List.mem_of_getElem? (i := 23) rfl)
theorem kC_24 : Cond.fieldLink R_Cu 15 "BranchForge$Cutter" "methodOf" "[I" ∈ wGC := List.mem_append_left _ (List.mem_of_getElem? (i := 24) rfl)
theorem kC_25 : Cond.fieldLink R_Cu 18 "BranchForge$Cutter" "nodeOf" "[I" ∈ wGC := List.mem_append_left _ (List.mem_of_getElem? (i := 25) rfl)
theorem kC_26 : Cond.fieldLink R_Cu 21 "BranchForge$Cutter" "forest" "LBranchForge$Forest;" ∈ wGC := List.mem_append_left _ (List.mem_of_getElem? (i := 26) rfl)
theorem kC_27 : Cond.code y_Cu_init b_Cu_init 2 none ∈ wGC := List.mem_append_left _ (List.mem_of_getElem? (i := 27) rfl)
theorem kC_28 : Cond.methodLink R_Ta 3 objectInit ∈ wGC := List.mem_append_left _ (List.mem_of_getElem? (i := 28) rfl)
theorem kC_29 : Cond.fieldLink R_Ta 9 "BranchForge$Tables" "kindAt" "[I" ∈ wGC := List.mem_append_left _ (List.mem_of_getElem? (i := 29) rfl)
theorem kC_30 : Cond.fieldLink R_Ta 15 "BranchForge$Tables" "bitsAt" "[I" ∈ wGC := List.mem_append_left _ (List.mem_of_getElem? (i := 30) rfl)
theorem kC_31 : Cond.fieldLink R_Ta 18 "BranchForge$Tables" "startOf" "[I" ∈ wGC := List.mem_append_left _ (List.mem_of_getElem? (i := 31) rfl)
theorem kC_32 : Cond.code y_Ta_init b_Ta_init 1 none ∈ wGC := List.mem_append_left _ (List.mem_of_getElem? (i := 32) rfl)
theorem kC_33 : Cond.methodLink R_Co 3 objectInit ∈ wGC := List.mem_append_left _ (List.mem_of_getElem? (i := 33) rfl)
theorem kC_34 : Cond.fieldLink R_Co 9 "BranchForge$Code" "bytes" "[I" ∈ wGC := List.mem_append_left _ (List.mem_of_getElem? (i := 34) rfl)
theorem kC_35 : Cond.fieldLink R_Co 15 "BranchForge$Code" "startOf" "[I" ∈ wGC := List.mem_append_left _ (List.mem_of_getElem? (i := 35) rfl)
theorem kC_36 : Cond.fieldLink R_Co 18 "BranchForge$Code" "homeOf" "[I" ∈ wGC := List.mem_append_left _ (List.mem_of_getElem? (i := 36) rfl)
theorem kC_37 : Cond.fieldLink R_Co 21 "BranchForge$Code" "rootMethodOf" "[I" ∈ wGC := List.mem_append_left _ (List.mem_of_getElem? (i := 37) rfl)
theorem kC_38 : Cond.fieldLink R_Co 24 "BranchForge$Code" "forest" "LBranchForge$Forest;" ∈ wGC := List.mem_append_left _ (List.mem_of_getElem? (i := 38) rfl)
theorem kC_39 : Cond.fieldLink R_Co 28 "BranchForge$Code" "cutter" "LBranchForge$Cutter;" ∈ wGC := List.mem_append_left _ (List.mem_of_getElem? (i := 39) rfl)
theorem kC_40 : Cond.fieldLink R_Co 32 "BranchForge$Code" "tables" "LBranchForge$Tables;" ∈ wGC := List.mem_append_left _ (List.mem_of_getElem? (i := 40) rfl)
theorem kC_41 : Cond.code y_Co_init b_Co_init 4 none ∈ wGC := List.mem_append_left _ (List.mem_of_getElem? (i := 41) rfl)
theorem kC_42 : Cond.methodLink R_Ma 3 objectInit ∈ wGC := List.mem_append_left _ (List.mem_of_getElem? (i := 42) rfl)
theorem kC_43 : Cond.fieldLink R_Ma 9 "BranchForge$Machine" "code" "LBranchForge$Code;" ∈ wGC := List.mem_append_left _ (List.mem_of_getElem? (i := 43) rfl)
theorem kC_44 : Cond.fieldLink R_Ma 15 "BranchForge$Machine" "tables" "LBranchForge$Tables;" ∈ wGC := List.mem_append_left _ (List.mem_of_getElem? (i := 44) rfl)
theorem kC_45 : Cond.fieldLink R_Ma 19 "BranchForge$Machine" "features" "[I" ∈ wGC := List.mem_append_left _ (List.mem_of_getElem? (i := 45) rfl)
theorem kC_46 : Cond.code y_Ma_init b_Ma_init 4 none ∈ wGC := List.mem_append_left _ (List.mem_of_getElem? (i := 46) rfl)
theorem kC_47 : Cond.methodLink R_BF 3 objectInit ∈ wGC := List.mem_append_left _ (List.mem_of_getElem? (i := 47) rfl)
theorem kC_48 : Cond.fieldLink R_BF 9 "BranchForge" "features" "[I" ∈ wGC := List.mem_append_left _ (List.mem_of_getElem? (i := 48) rfl)
theorem kC_49 : Cond.classLink R_BF 13 R_Fo ∈ wGC := List.mem_append_left _ (List.mem_of_getElem? (i := 49) rfl)
theorem kC_50 : Cond.instantiable R_Fo 8 ∈ wGC := List.mem_append_left _ (List.mem_of_getElem? (i := 50) rfl)
theorem kC_51 : Cond.initialized R_Fo ∈ wGC := List.mem_append_left _ (List.mem_of_getElem? (i := 51) rfl)
theorem kC_52 : Cond.instanceMethod y_Fo_init ∈ wGC := List.mem_append_left _ (List.mem_of_getElem? (i := 52) rfl)
theorem kC_53 : Cond.fieldLink R_BF 16 "BranchForge" "forest" "LBranchForge$Forest;" ∈ wGC := List.mem_append_left _ (List.mem_of_getElem? (i := 53) rfl)
theorem kC_54 : Cond.classLink R_BF 20 R_Ch ∈ wGC := List.mem_append_left _ (List.mem_of_getElem? (i := 54) rfl)
theorem kC_55 : Cond.instantiable R_Ch 2 ∈ wGC := List.mem_append_left _ (List.mem_of_getElem? (i := 55) rfl)
theorem kC_56 : Cond.initialized R_Ch ∈ wGC := List.mem_append_left _ (List.mem_of_getElem? (i := 56) rfl)
theorem kC_57 : Cond.methodLink R_BF 22 y_Ch_init ∈ wGC := List.mem_append_left _ (List.mem_of_getElem? (i := 57) rfl)
theorem kC_58 : Cond.instanceMethod y_Ch_init ∈ wGC := List.mem_append_left _ (List.mem_of_getElem? (i := 58) rfl)
theorem kC_59 : Cond.fieldLink R_BF 25 "BranchForge" "checker" "LBranchForge$Checker;" ∈ wGC := List.mem_append_left _ (List.mem_of_getElem? (i := 59) rfl)
theorem kC_60 : Cond.classLink R_BF 29 R_Cu ∈ wGC := List.mem_append_left _ (List.mem_of_getElem? (i := 60) rfl)
theorem kC_61 : Cond.instantiable R_Cu 5 ∈ wGC := List.mem_append_left _ (List.mem_of_getElem? (i := 61) rfl)
theorem kC_62 : Cond.initialized R_Cu ∈ wGC := List.mem_append_left _ (List.mem_of_getElem? (i := 62) rfl)
theorem kC_63 : Cond.methodLink R_BF 31 y_Cu_init ∈ wGC := List.mem_append_left _ (List.mem_of_getElem? (i := 63) rfl)
theorem kC_64 : Cond.instanceMethod y_Cu_init ∈ wGC := List.mem_append_left _ (List.mem_of_getElem? (i := 64) rfl)
theorem kC_65 : Cond.fieldLink R_BF 32 "BranchForge" "cutter" "LBranchForge$Cutter;" ∈ wGC := List.mem_append_left _ (List.mem_of_getElem? (i := 65) rfl)
theorem kC_66 : Cond.classLink R_BF 36 R_Ta ∈ wGC := List.mem_append_left _ (List.mem_of_getElem? (i := 66) rfl)
theorem kC_67 : Cond.instantiable R_Ta 4 ∈ wGC := List.mem_append_left _ (List.mem_of_getElem? (i := 67) rfl)
theorem kC_68 : Cond.initialized R_Ta ∈ wGC := List.mem_append_left _ (List.mem_of_getElem? (i := 68) rfl)
theorem kC_69 : Cond.instanceMethod y_Ta_init ∈ wGC := List.mem_append_left _ (List.mem_of_getElem? (i := 69) rfl)
theorem kC_70 : Cond.fieldLink R_BF 39 "BranchForge" "tables" "LBranchForge$Tables;" ∈ wGC := List.mem_append_left _ (List.mem_of_getElem? (i := 70) rfl)
theorem kC_71 : Cond.classLink R_BF 43 R_Co ∈ wGC := List.mem_append_left _ (List.mem_of_getElem? (i := 71) rfl)
theorem kC_72 : Cond.instantiable R_Co 10 ∈ wGC := List.mem_append_left _ (List.mem_of_getElem? (i := 72) rfl)
theorem kC_73 : Cond.initialized R_Co ∈ wGC := List.mem_append_left _ (List.mem_of_getElem? (i := 73) rfl)
theorem kC_74 : Cond.methodLink R_BF 45 y_Co_init ∈ wGC := List.mem_append_left _ (List.mem_of_getElem? (i := 74) rfl)
theorem kC_75 : Cond.instanceMethod y_Co_init ∈ wGC := List.mem_append_left _ (List.mem_of_getElem? (i := 75) rfl)
theorem kC_76 : Cond.fieldLink R_BF 48 "BranchForge" "code" "LBranchForge$Code;" ∈ wGC := List.mem_append_left _ (List.mem_of_getElem? (i := 76) rfl)
theorem kC_77 : Cond.classLink R_BF 52 R_Ma ∈ wGC := List.mem_append_left _ (List.mem_of_getElem? (i := 77) rfl)
theorem kC_78 : Cond.instantiable R_Ma 5 ∈ wGC := List.mem_append_left _ (List.mem_of_getElem? (i := 78) rfl)
theorem kC_79 : Cond.initialized R_Ma ∈ wGC := List.mem_append_left _ (List.mem_of_getElem? (i := 79) rfl)
theorem kC_80 : Cond.methodLink R_BF 54 y_Ma_init ∈ wGC := List.mem_append_left _ (List.mem_of_getElem? (i := 80) rfl)
theorem kC_81 : Cond.instanceMethod y_Ma_init ∈ wGC := List.mem_append_left _ (List.mem_of_getElem? (i := 81) rfl)
theorem kC_82 : Cond.fieldLink R_BF 57 "BranchForge" "machine" "LBranchForge$Machine;" ∈ wGC := List.mem_append_left _ (List.mem_of_getElem? (i := 82) rfl)
theorem kC_83 : Cond.code y_BF_init b_BF_init 1 none ∈ wGC := List.mem_append_left _ (List.mem_of_getElem? (i := 83) rfl)
theorem kC_84 : Cond.fieldLink R_Fo 30 "BranchForge$Forest" "nodeCount" "I" ∈ wGC := List.mem_append_left _ (List.mem_of_getElem? (i := 84) rfl)
theorem kC_85 : Cond.fieldLink R_Fo 34 "BranchForge$Forest" "treeCount" "I" ∈ wGC := List.mem_append_left _ (List.mem_of_getElem? (i := 85) rfl)
theorem kC_86 : Cond.fieldLink R_Cu 25 "BranchForge$Cutter" "methodCount" "I" ∈ wGC := List.mem_append_left _ (List.mem_of_getElem? (i := 86) rfl)
theorem kC_87 : Cond.fieldLink R_Ta 21 "BranchForge$Tables" "classCount" "I" ∈ wGC := List.mem_append_left _ (List.mem_of_getElem? (i := 87) rfl)
theorem kC_88 : Cond.fieldLink R_Co 40 "BranchForge$Code" "used" "I" ∈ wGC := List.mem_append_left _ (List.mem_of_getElem? (i := 88) rfl)
theorem kC_89 : Cond.fieldLink R_Co 63 "BranchForge$Code" "treeCount" "I" ∈ wGC := List.mem_append_left _ (List.mem_of_getElem? (i := 89) rfl)
theorem kC_90 : Cond.fieldLink R_Co 36 "BranchForge$Code" "methodCount" "I" ∈ wGC := List.mem_append_left _ (List.mem_of_getElem? (i := 90) rfl)
theorem kC_91 : Cond.fieldLink R_Ma 23 "BranchForge$Machine" "stepCount" "I" ∈ wGC := List.mem_append_left _ (List.mem_of_getElem? (i := 91) rfl)
theorem kC_92 : Cond.fieldLink R_Ma 27 "BranchForge$Machine" "callCount" "I" ∈ wGC := List.mem_append_left _ (List.mem_of_getElem? (i := 92) rfl)
theorem kC_93 : Cond.methodLink R_BF 61 y_Fo_addNode ∈ wGC := List.mem_append_left _ (List.mem_of_getElem? (i := 93) rfl)
theorem kC_94 : Cond.instanceMethod y_Fo_addNode ∈ wGC := List.mem_append_left _ (List.mem_of_getElem? (i := 94) rfl)
theorem kC_95 : Cond.selects R_Fo y_Fo_addNode y_Fo_addNode ∈ wGC := List.mem_append_left _ (List.mem_of_getElem? (i := 95) rfl)
theorem kC_96 : Cond.methodLink R_Ru 9 y_Ru_isBitRule ∈ wGC := List.mem_append_left _ (List.mem_of_getElem? (i := 96) rfl)
theorem kC_97 : Cond.static y_Ru_isBitRule ∈ wGC := List.mem_append_left _ (List.mem_of_getElem? (i := 97) rfl)
theorem kC_98 : Cond.initialized R_Ru ∈ wGC := List.mem_append_left _ (List.mem_of_getElem? (i := 98) rfl)
theorem kC_99 : Cond.methodLink R_BF 65 y_BF_isFeature ∈ wGC := List.mem_append_left _ (List.mem_of_getElem? (i := 99) rfl)
theorem kC_100 : Cond.static y_BF_isFeature ∈ wGC := List.mem_append_left _ (List.mem_of_getElem? (i := 100) rfl)
theorem kC_101 : Cond.initialized R_BF ∈ wGC := List.mem_append_left _ (List.mem_of_getElem? (i := 101) rfl)
theorem kC_102 : Cond.methodLink R_BF 69 y_Ru_takesMark ∈ wGC := List.mem_append_left _ (List.mem_of_getElem? (i := 102) rfl)
theorem kC_103 : Cond.static y_Ru_takesMark ∈ wGC := List.mem_append_left _ (List.mem_of_getElem? (i := 103) rfl)
theorem kC_104 : Cond.methodLink R_BF 75 y_BF_isNodeNumber ∈ wGC := List.mem_append_left _ (List.mem_of_getElem? (i := 104) rfl)
theorem kC_105 : Cond.static y_BF_isNodeNumber ∈ wGC := List.mem_append_left _ (List.mem_of_getElem? (i := 105) rfl)
theorem kC_106 : Cond.methodLink R_Fo 37 y_Fo_isNode ∈ wGC := List.mem_append_left _ (List.mem_of_getElem? (i := 106) rfl)
theorem kC_107 : Cond.instanceMethod y_Fo_isNode ∈ wGC := List.mem_append_left _ (List.mem_of_getElem? (i := 107) rfl)
theorem kC_108 : Cond.selects R_Fo y_Fo_isNode y_Fo_isNode ∈ wGC := List.mem_append_left _ (List.mem_of_getElem? (i := 108) rfl)
theorem kC_109 : Cond.methodLink R_BF 78 y_Fo_addTree ∈ wGC := List.mem_append_left _ (List.mem_of_getElem? (i := 109) rfl)
theorem kC_110 : Cond.instanceMethod y_Fo_addTree ∈ wGC := List.mem_append_left _ (List.mem_of_getElem? (i := 110) rfl)
theorem kC_111 : Cond.selects R_Fo y_Fo_addTree y_Fo_addTree ∈ wGC := List.mem_append_left _ (List.mem_of_getElem? (i := 111) rfl)
theorem kC_112 : Cond.methodLink R_Ch 36 y_Fo_isLeaf ∈ wGC := List.mem_append_left _ (List.mem_of_getElem? (i := 112) rfl)
theorem kC_113 : Cond.instanceMethod y_Fo_isLeaf ∈ wGC := List.mem_append_left _ (List.mem_of_getElem? (i := 113) rfl)
theorem kC_114 : Cond.selects R_Fo y_Fo_isLeaf y_Fo_isLeaf ∈ wGC := List.mem_append_left _ (List.mem_of_getElem? (i := 114) rfl)
theorem kC_115 : Cond.methodLink R_Ch 49 y_Fo_isNode ∈ wGC := List.mem_append_left _ (List.mem_of_getElem? (i := 115) rfl)
theorem kC_116 : Cond.methodLink R_Ch 46 y_Ch_isDangling ∈ wGC := List.mem_append_left _ (List.mem_of_getElem? (i := 116) rfl)
theorem kC_117 : Cond.instanceMethod y_Ch_isDangling ∈ wGC := List.mem_append_left _ (List.mem_of_getElem? (i := 117) rfl)
theorem kC_118 : Cond.selects R_Ch y_Ch_isDangling y_Ch_isDangling ∈ wGC := List.mem_append_left _ (List.mem_of_getElem? (i := 118) rfl)
theorem kC_119 : Cond.methodLink R_Ch 33 y_Ch_faultAt ∈ wGC := List.mem_append_left _ (List.mem_of_getElem? (i := 119) rfl)
theorem kC_120 : Cond.instanceMethod y_Ch_faultAt ∈ wGC := List.mem_append_left _ (List.mem_of_getElem? (i := 120) rfl)
theorem kC_121 : Cond.selects R_Ch y_Ch_faultAt y_Ch_faultAt ∈ wGC := List.mem_append_left _ (List.mem_of_getElem? (i := 121) rfl)
theorem kC_122 : Cond.methodLink R_Ch 29 y_Ch_faultFrom ∈ wGC := List.mem_append_left _ (List.mem_of_getElem? (i := 122) rfl)
theorem kC_123 : Cond.instanceMethod y_Ch_faultFrom ∈ wGC := List.mem_append_left _ (List.mem_of_getElem? (i := 123) rfl)
theorem kC_124 : Cond.selects R_Ch y_Ch_faultFrom y_Ch_faultFrom ∈ wGC := List.mem_append_left _ (List.mem_of_getElem? (i := 124) rfl)
theorem kC_125 : Cond.methodLink R_Cu 63 y_Cu_partLength ∈ wGC := List.mem_append_left _ (List.mem_of_getElem? (i := 125) rfl)
theorem kC_126 : Cond.instanceMethod y_Cu_partLength ∈ wGC := List.mem_append_left _ (List.mem_of_getElem? (i := 126) rfl)
theorem kC_127 : Cond.selects R_Cu y_Cu_partLength y_Cu_partLength ∈ wGC := List.mem_append_left _ (List.mem_of_getElem? (i := 127) rfl)
theorem kC_128 : Cond.methodLink R_Cu 66 y_Cu_testLength ∈ wGC := List.mem_append_left _ (List.mem_of_getElem? (i := 128) rfl)
theorem kC_129 : Cond.static y_Cu_testLength ∈ wGC := List.mem_append_left _ (List.mem_of_getElem? (i := 129) rfl)
theorem kC_130 : Cond.methodLink R_Cu 41 y_Cu_cutOut ∈ wGC := List.mem_append_left _ (List.mem_of_getElem? (i := 130) rfl)
theorem kC_131 : Cond.instanceMethod y_Cu_cutOut ∈ wGC := List.mem_append_left _ (List.mem_of_getElem? (i := 131) rfl)
theorem kC_132 : Cond.selects R_Cu y_Cu_cutOut y_Cu_cutOut ∈ wGC := List.mem_append_left _ (List.mem_of_getElem? (i := 132) rfl)
theorem kC_133 : Cond.methodLink R_Cu 59 y_Cu_splitLength ∈ wGC := List.mem_append_left _ (List.mem_of_getElem? (i := 133) rfl)
theorem kC_134 : Cond.instanceMethod y_Cu_splitLength ∈ wGC := List.mem_append_left _ (List.mem_of_getElem? (i := 134) rfl)
theorem kC_135 : Cond.selects R_Cu y_Cu_splitLength y_Cu_splitLength ∈ wGC := List.mem_append_left _ (List.mem_of_getElem? (i := 135) rfl)
theorem kC_136 : Cond.methodLink R_Cu 45 y_Fo_isLeaf ∈ wGC := List.mem_append_left _ (List.mem_of_getElem? (i := 136) rfl)
theorem kC_137 : Cond.methodLink R_Cu 37 y_Cu_cutFrom ∈ wGC := List.mem_append_left _ (List.mem_of_getElem? (i := 137) rfl)
theorem kC_138 : Cond.instanceMethod y_Cu_cutFrom ∈ wGC := List.mem_append_left _ (List.mem_of_getElem? (i := 138) rfl)
theorem kC_139 : Cond.selects R_Cu y_Cu_cutFrom y_Cu_cutFrom ∈ wGC := List.mem_append_left _ (List.mem_of_getElem? (i := 139) rfl)
theorem kC_140 : Cond.methodLink R_Cu 55 y_Cu_cutChildren ∈ wGC := List.mem_append_left _ (List.mem_of_getElem? (i := 140) rfl)
theorem kC_141 : Cond.instanceMethod y_Cu_cutChildren ∈ wGC := List.mem_append_left _ (List.mem_of_getElem? (i := 141) rfl)
theorem kC_142 : Cond.selects R_Cu y_Cu_cutChildren y_Cu_cutChildren ∈ wGC := List.mem_append_left _ (List.mem_of_getElem? (i := 142) rfl)
theorem kC_143 : Cond.methodLink R_Ta 29 y_Ta_sizeOf ∈ wGC := List.mem_append_left _ (List.mem_of_getElem? (i := 143) rfl)
theorem kC_144 : Cond.instanceMethod y_Ta_sizeOf ∈ wGC := List.mem_append_left _ (List.mem_of_getElem? (i := 144) rfl)
theorem kC_145 : Cond.selects R_Ta y_Ta_sizeOf y_Ta_sizeOf ∈ wGC := List.mem_append_left _ (List.mem_of_getElem? (i := 145) rfl)
theorem kC_146 : Cond.methodLink R_Co 108 y_Co_writeByte ∈ wGC := List.mem_append_left _ (List.mem_of_getElem? (i := 146) rfl)
theorem kC_147 : Cond.instanceMethod y_Co_writeByte ∈ wGC := List.mem_append_left _ (List.mem_of_getElem? (i := 147) rfl)
theorem kC_148 : Cond.selects R_Co y_Co_writeByte y_Co_writeByte ∈ wGC := List.mem_append_left _ (List.mem_of_getElem? (i := 148) rfl)
theorem kC_149 : Cond.methodLink R_Fo 41 y_Fo_isLeaf ∈ wGC := List.mem_append_left _ (List.mem_of_getElem? (i := 149) rfl)
theorem kC_150 : Cond.methodLink R_Fo 44 y_Ru_isBitRule ∈ wGC := List.mem_append_left _ (List.mem_of_getElem? (i := 150) rfl)
theorem kC_151 : Cond.methodLink R_Co 129 y_Cu_testLength ∈ wGC := List.mem_append_left _ (List.mem_of_getElem? (i := 151) rfl)
theorem kC_152 : Cond.methodLink R_Co 94 y_Co_writePair ∈ wGC := List.mem_append_left _ (List.mem_of_getElem? (i := 152) rfl)
theorem kC_153 : Cond.instanceMethod y_Co_writePair ∈ wGC := List.mem_append_left _ (List.mem_of_getElem? (i := 153) rfl)
theorem kC_154 : Cond.selects R_Co y_Co_writePair y_Co_writePair ∈ wGC := List.mem_append_left _ (List.mem_of_getElem? (i := 154) rfl)
theorem kC_155 : Cond.methodLink R_Co 104 y_Ta_numberFor ∈ wGC := List.mem_append_left _ (List.mem_of_getElem? (i := 155) rfl)
theorem kC_156 : Cond.instanceMethod y_Ta_numberFor ∈ wGC := List.mem_append_left _ (List.mem_of_getElem? (i := 156) rfl)
theorem kC_157 : Cond.selects R_Ta y_Ta_numberFor y_Ta_numberFor ∈ wGC := List.mem_append_left _ (List.mem_of_getElem? (i := 157) rfl)
theorem kC_158 : Cond.methodLink R_Co 77 y_Co_writeCode ∈ wGC := List.mem_append_left _ (List.mem_of_getElem? (i := 158) rfl)
theorem kC_159 : Cond.instanceMethod y_Co_writeCode ∈ wGC := List.mem_append_left _ (List.mem_of_getElem? (i := 159) rfl)
theorem kC_160 : Cond.selects R_Co y_Co_writeCode y_Co_writeCode ∈ wGC := List.mem_append_left _ (List.mem_of_getElem? (i := 160) rfl)
theorem kC_161 : Cond.methodLink R_Co 97 y_Fo_kindOfEntry ∈ wGC := List.mem_append_left _ (List.mem_of_getElem? (i := 161) rfl)
theorem kC_162 : Cond.instanceMethod y_Fo_kindOfEntry ∈ wGC := List.mem_append_left _ (List.mem_of_getElem? (i := 162) rfl)
theorem kC_163 : Cond.selects R_Fo y_Fo_kindOfEntry y_Fo_kindOfEntry ∈ wGC := List.mem_append_left _ (List.mem_of_getElem? (i := 163) rfl)
theorem kC_164 : Cond.methodLink R_Co 117 y_Cu_partLength ∈ wGC := List.mem_append_left _ (List.mem_of_getElem? (i := 164) rfl)
theorem kC_165 : Cond.methodLink R_Co 120 y_Co_writeTest ∈ wGC := List.mem_append_left _ (List.mem_of_getElem? (i := 165) rfl)
theorem kC_166 : Cond.instanceMethod y_Co_writeTest ∈ wGC := List.mem_append_left _ (List.mem_of_getElem? (i := 166) rfl)
theorem kC_167 : Cond.selects R_Co y_Co_writeTest y_Co_writeTest ∈ wGC := List.mem_append_left _ (List.mem_of_getElem? (i := 167) rfl)
theorem kC_168 : Cond.methodLink R_Co 123 y_Co_writePart ∈ wGC := List.mem_append_left _ (List.mem_of_getElem? (i := 168) rfl)
theorem kC_169 : Cond.instanceMethod y_Co_writePart ∈ wGC := List.mem_append_left _ (List.mem_of_getElem? (i := 169) rfl)
theorem kC_170 : Cond.selects R_Co y_Co_writePart y_Co_writePart ∈ wGC := List.mem_append_left _ (List.mem_of_getElem? (i := 170) rfl)
theorem kC_171 : Cond.methodLink R_Co 87 y_Fo_isLeaf ∈ wGC := List.mem_append_left _ (List.mem_of_getElem? (i := 171) rfl)
theorem kC_172 : Cond.methodLink R_Co 70 y_Ta_latestSize ∈ wGC := List.mem_append_left _ (List.mem_of_getElem? (i := 172) rfl)
theorem kC_173 : Cond.instanceMethod y_Ta_latestSize ∈ wGC := List.mem_append_left _ (List.mem_of_getElem? (i := 173) rfl)
theorem kC_174 : Cond.selects R_Ta y_Ta_latestSize y_Ta_latestSize ∈ wGC := List.mem_append_left _ (List.mem_of_getElem? (i := 174) rfl)
theorem kC_175 : Cond.methodLink R_Co 80 y_Ta_shrinkLatest ∈ wGC := List.mem_append_left _ (List.mem_of_getElem? (i := 175) rfl)
theorem kC_176 : Cond.instanceMethod y_Ta_shrinkLatest ∈ wGC := List.mem_append_left _ (List.mem_of_getElem? (i := 176) rfl)
theorem kC_177 : Cond.selects R_Ta y_Ta_shrinkLatest y_Ta_shrinkLatest ∈ wGC := List.mem_append_left _ (List.mem_of_getElem? (i := 177) rfl)
theorem kC_178 : Cond.methodLink R_Co 48 y_Ta_openClass ∈ wGC := List.mem_append_left _ (List.mem_of_getElem? (i := 178) rfl)
theorem kC_179 : Cond.instanceMethod y_Ta_openClass ∈ wGC := List.mem_append_left _ (List.mem_of_getElem? (i := 179) rfl)
theorem kC_180 : Cond.selects R_Ta y_Ta_openClass y_Ta_openClass ∈ wGC := List.mem_append_left _ (List.mem_of_getElem? (i := 180) rfl)
theorem kC_181 : Cond.methodLink R_Co 54 y_Co_writeMethod ∈ wGC := List.mem_append_left _ (List.mem_of_getElem? (i := 181) rfl)
theorem kC_182 : Cond.instanceMethod y_Co_writeMethod ∈ wGC := List.mem_append_left _ (List.mem_of_getElem? (i := 182) rfl)
theorem kC_183 : Cond.selects R_Co y_Co_writeMethod y_Co_writeMethod ∈ wGC := List.mem_append_left _ (List.mem_of_getElem? (i := 183) rfl)
theorem kC_184 : Cond.methodLink R_Co 43 y_Ta_forgetAll ∈ wGC := List.mem_append_left _ (List.mem_of_getElem? (i := 184) rfl)
theorem kC_185 : Cond.instanceMethod y_Ta_forgetAll ∈ wGC := List.mem_append_left _ (List.mem_of_getElem? (i := 185) rfl)
theorem kC_186 : Cond.selects R_Ta y_Ta_forgetAll y_Ta_forgetAll ∈ wGC := List.mem_append_left _ (List.mem_of_getElem? (i := 186) rfl)
theorem kC_187 : Cond.methodLink R_BF 82 y_BF_isTableSize ∈ wGC := List.mem_append_left _ (List.mem_of_getElem? (i := 187) rfl)
theorem kC_188 : Cond.static y_BF_isTableSize ∈ wGC := List.mem_append_left _ (List.mem_of_getElem? (i := 188) rfl)
theorem kC_189 : Cond.methodLink R_BF 89 y_Ch_firstFault ∈ wGC := List.mem_append_left _ (List.mem_of_getElem? (i := 189) rfl)
theorem kC_190 : Cond.instanceMethod y_Ch_firstFault ∈ wGC := List.mem_append_left _ (List.mem_of_getElem? (i := 190) rfl)
theorem kC_191 : Cond.selects R_Ch y_Ch_firstFault y_Ch_firstFault ∈ wGC := List.mem_append_left _ (List.mem_of_getElem? (i := 191) rfl)
theorem kC_192 : Cond.methodLink R_BF 93 y_Cu_cutTrees ∈ wGC := List.mem_append_left _ (List.mem_of_getElem? (i := 192) rfl)
theorem kC_193 : Cond.instanceMethod y_Cu_cutTrees ∈ wGC := List.mem_append_left _ (List.mem_of_getElem? (i := 193) rfl)
theorem kC_194 : Cond.selects R_Cu y_Cu_cutTrees y_Cu_cutTrees ∈ wGC := List.mem_append_left _ (List.mem_of_getElem? (i := 194) rfl)
theorem kC_195 : Cond.methodLink R_BF 97 y_Co_writeMethods ∈ wGC := List.mem_append_left _ (List.mem_of_getElem? (i := 195) rfl)
theorem kC_196 : Cond.instanceMethod y_Co_writeMethods ∈ wGC := List.mem_append_left _ (List.mem_of_getElem? (i := 196) rfl)
theorem kC_197 : Cond.selects R_Co y_Co_writeMethods y_Co_writeMethods ∈ wGC := List.mem_append_left _ (List.mem_of_getElem? (i := 197) rfl)
theorem kC_198 : Cond.methodLink R_BF 103 y_Co_isMethod ∈ wGC := List.mem_append_left _ (List.mem_of_getElem? (i := 198) rfl)
theorem kC_199 : Cond.instanceMethod y_Co_isMethod ∈ wGC := List.mem_append_left _ (List.mem_of_getElem? (i := 199) rfl)
theorem kC_200 : Cond.selects R_Co y_Co_isMethod y_Co_isMethod ∈ wGC := List.mem_append_left _ (List.mem_of_getElem? (i := 200) rfl)
theorem kC_201 : Cond.methodLink R_BF 109 y_BF_length ∈ wGC := List.mem_append_left _ (List.mem_of_getElem? (i := 201) rfl)
theorem kC_202 : Cond.instanceMethod y_BF_length ∈ wGC := List.mem_append_left _ (List.mem_of_getElem? (i := 202) rfl)
theorem kC_203 : Cond.selects R_BF y_BF_length y_BF_length ∈ wGC := List.mem_append_left _ (List.mem_of_getElem? (i := 203) rfl)
theorem kC_204 : Cond.methodLink R_BF 121 y_Ta_isClass ∈ wGC := List.mem_append_left _ (List.mem_of_getElem? (i := 204) rfl)
theorem kC_205 : Cond.instanceMethod y_Ta_isClass ∈ wGC := List.mem_append_left _ (List.mem_of_getElem? (i := 205) rfl)
theorem kC_206 : Cond.selects R_Ta y_Ta_isClass y_Ta_isClass ∈ wGC := List.mem_append_left _ (List.mem_of_getElem? (i := 206) rfl)
theorem kC_207 : Cond.methodLink R_BF 124 y_Ta_sizeOf ∈ wGC := List.mem_append_left _ (List.mem_of_getElem? (i := 207) rfl)
theorem kC_208 : Cond.methodLink R_Ta 25 y_Ta_isClass ∈ wGC := List.mem_append_left _ (List.mem_of_getElem? (i := 208) rfl)
theorem kC_209 : Cond.methodLink R_BF 127 y_Ta_holds ∈ wGC := List.mem_append_left _ (List.mem_of_getElem? (i := 209) rfl)
theorem kC_210 : Cond.instanceMethod y_Ta_holds ∈ wGC := List.mem_append_left _ (List.mem_of_getElem? (i := 210) rfl)
theorem kC_211 : Cond.selects R_Ta y_Ta_holds y_Ta_holds ∈ wGC := List.mem_append_left _ (List.mem_of_getElem? (i := 211) rfl)
theorem kC_212 : Cond.methodLink R_Ru 21 y_Ru_orderOf ∈ wGC := List.mem_append_left _ (List.mem_of_getElem? (i := 212) rfl)
theorem kC_213 : Cond.static y_Ru_orderOf ∈ wGC := List.mem_append_left _ (List.mem_of_getElem? (i := 213) rfl)
theorem kC_214 : Cond.methodLink R_Ru 17 y_Ru_wholeOf ∈ wGC := List.mem_append_left _ (List.mem_of_getElem? (i := 214) rfl)
theorem kC_215 : Cond.static y_Ru_wholeOf ∈ wGC := List.mem_append_left _ (List.mem_of_getElem? (i := 215) rfl)
theorem kC_216 : Cond.methodLink R_Ma 76 y_Ru_goesToYes ∈ wGC := List.mem_append_left _ (List.mem_of_getElem? (i := 216) rfl)
theorem kC_217 : Cond.static y_Ru_goesToYes ∈ wGC := List.mem_append_left _ (List.mem_of_getElem? (i := 217) rfl)
theorem kC_218 : Cond.methodLink R_Ma 49 y_Co_byteOfAll ∈ wGC := List.mem_append_left _ (List.mem_of_getElem? (i := 218) rfl)
theorem kC_219 : Cond.instanceMethod y_Co_byteOfAll ∈ wGC := List.mem_append_left _ (List.mem_of_getElem? (i := 219) rfl)
theorem kC_220 : Cond.selects R_Co y_Co_byteOfAll y_Co_byteOfAll ∈ wGC := List.mem_append_left _ (List.mem_of_getElem? (i := 220) rfl)
theorem kC_221 : Cond.methodLink R_Ma 66 y_Ta_holds ∈ wGC := List.mem_append_left _ (List.mem_of_getElem? (i := 221) rfl)
theorem kC_222 : Cond.methodLink R_Ma 60 y_Ma_operand ∈ wGC := List.mem_append_left _ (List.mem_of_getElem? (i := 222) rfl)
theorem kC_223 : Cond.instanceMethod y_Ma_operand ∈ wGC := List.mem_append_left _ (List.mem_of_getElem? (i := 223) rfl)
theorem kC_224 : Cond.selects R_Ma y_Ma_operand y_Ma_operand ∈ wGC := List.mem_append_left _ (List.mem_of_getElem? (i := 224) rfl)
theorem kC_225 : Cond.methodLink R_Ma 38 y_Ma_runMethod ∈ wGC := List.mem_append_left _ (List.mem_of_getElem? (i := 225) rfl)
theorem kC_226 : Cond.instanceMethod y_Ma_runMethod ∈ wGC := List.mem_append_left _ (List.mem_of_getElem? (i := 226) rfl)
theorem kC_227 : Cond.selects R_Ma y_Ma_runMethod y_Ma_runMethod ∈ wGC := List.mem_append_left _ (List.mem_of_getElem? (i := 227) rfl)
theorem kC_228 : Cond.methodLink R_Ma 53 y_Ma_testMove ∈ wGC := List.mem_append_left _ (List.mem_of_getElem? (i := 228) rfl)
theorem kC_229 : Cond.instanceMethod y_Ma_testMove ∈ wGC := List.mem_append_left _ (List.mem_of_getElem? (i := 229) rfl)
theorem kC_230 : Cond.selects R_Ma y_Ma_testMove y_Ma_testMove ∈ wGC := List.mem_append_left _ (List.mem_of_getElem? (i := 230) rfl)
theorem kC_231 : Cond.methodLink R_Ma 42 y_Co_isMethod ∈ wGC := List.mem_append_left _ (List.mem_of_getElem? (i := 231) rfl)
theorem kC_232 : Cond.methodLink R_BF 141 y_Ma_runTrees ∈ wGC := List.mem_append_left _ (List.mem_of_getElem? (i := 232) rfl)
theorem kC_233 : Cond.instanceMethod y_Ma_runTrees ∈ wGC := List.mem_append_left _ (List.mem_of_getElem? (i := 233) rfl)
theorem kC_234 : Cond.selects R_Ma y_Ma_runTrees y_Ma_runTrees ∈ wGC := List.mem_append_left _ (List.mem_of_getElem? (i := 234) rfl)
theorem kC_235 : Cond.methodLink R_Fo 49 y_Ru_goesToYes ∈ wGC := List.mem_append_left _ (List.mem_of_getElem? (i := 235) rfl)
theorem kC_236 : Cond.methodLink R_BF 155 y_Fo_leafFor ∈ wGC := List.mem_append_left _ (List.mem_of_getElem? (i := 236) rfl)
theorem kC_237 : Cond.instanceMethod y_Fo_leafFor ∈ wGC := List.mem_append_left _ (List.mem_of_getElem? (i := 237) rfl)
theorem kC_238 : Cond.selects R_Fo y_Fo_leafFor y_Fo_leafFor ∈ wGC := List.mem_append_left _ (List.mem_of_getElem? (i := 238) rfl)
theorem kC_239 : Cond.code y_BF_leaf b_BF_leaf 2 (some .int) ∈ wGC := List.mem_append_left _ (List.mem_of_getElem? (i := 239) rfl)
theorem kC_240 : Cond.code y_BF_split b_BF_split 6 (some .int) ∈ wGC := List.mem_append_left _ (List.mem_of_getElem? (i := 240) rfl)
theorem kC_241 : Cond.code y_BF_tree b_BF_tree 2 (some .int) ∈ wGC := List.mem_append_left _ (List.mem_of_getElem? (i := 241) rfl)
theorem kC_242 : Cond.code y_BF_compile b_BF_compile 4 (some .int) ∈ wGC := List.mem_append_left _ (List.mem_of_getElem? (i := 242) rfl)
theorem kC_243 : Cond.code y_BF_methods b_BF_methods 1 (some .int) ∈ wGC := List.mem_append_left _ (List.mem_of_getElem? (i := 243) rfl)
theorem kC_244 : Cond.code y_BF_length b_BF_length 2 (some .int) ∈ wGC := List.mem_append_left _ (List.mem_of_getElem? (i := 244) rfl)
theorem kC_245 : Cond.code y_BF_byteAt b_BF_byteAt 3 (some .int) ∈ wGC := List.mem_append_left _ (List.mem_of_getElem? (i := 245) rfl)
theorem kC_246 : Cond.code y_BF_classOf b_BF_classOf 2 (some .int) ∈ wGC := List.mem_append_left _ (List.mem_of_getElem? (i := 246) rfl)
theorem kC_247 : Cond.code y_BF_classes b_BF_classes 1 (some .int) ∈ wGC := List.mem_append_left _ (List.mem_of_getElem? (i := 247) rfl)
theorem kC_248 : Cond.code y_BF_entries b_BF_entries 2 (some .int) ∈ wGC := List.mem_append_left _ (List.mem_of_getElem? (i := 248) rfl)
theorem kC_249 : Cond.code y_BF_entry b_BF_entry 4 (some .long) ∈ wGC := List.mem_append_left _ (List.mem_of_getElem? (i := 249) rfl)
theorem kC_250 : Cond.code y_BF_set b_BF_set 3 (some .boolean) ∈ wGC := List.mem_append_left _ (List.mem_of_getElem? (i := 250) rfl)
theorem kC_251 : Cond.code y_BF_predict b_BF_predict 1 (some .long) ∈ wGC := List.mem_append_left _ (List.mem_of_getElem? (i := 251) rfl)
theorem kC_252 : Cond.code y_BF_steps b_BF_steps 1 (some .int) ∈ wGC := List.mem_append_left _ (List.mem_of_getElem? (i := 252) rfl)
theorem kC_253 : Cond.code y_BF_calls b_BF_calls 1 (some .int) ∈ wGC := List.mem_append_left _ (List.mem_of_getElem? (i := 253) rfl)
theorem kC_254 : Cond.code y_BF_reach b_BF_reach 2 (some .int) ∈ wGC := List.mem_append_left _ (List.mem_of_getElem? (i := 254) rfl)
theorem kC_255 : Cond.code y_BF_isFeature b_BF_isFeature 1 (some .boolean) ∈ wGC := List.mem_append_left _ (List.mem_of_getElem? (i := 255) rfl)
theorem kC_256 : Cond.code y_BF_isNodeNumber b_BF_isNodeNumber 1 (some .boolean) ∈ wGC := List.mem_append_left _ (List.mem_of_getElem? (i := 256) rfl)
theorem kC_257 : Cond.code y_BF_isTableSize b_BF_isTableSize 2 (some .boolean) ∈ wGC := List.mem_append_left _ (List.mem_of_getElem? (i := 257) rfl)
theorem kC_258 : Cond.code y_Fo_addNode b_Fo_addNode 6 (some .int) ∈ wGC := List.mem_append_left _ (List.mem_of_getElem? (i := 258) rfl)
theorem kC_259 : Cond.code y_Fo_addTree b_Fo_addTree 2 (some .int) ∈ wGC := List.mem_append_left _ (List.mem_of_getElem? (i := 259) rfl)
theorem kC_260 : Cond.code y_Fo_isNode b_Fo_isNode 2 (some .boolean) ∈ wGC := List.mem_append_left _ (List.mem_of_getElem? (i := 260) rfl)
theorem kC_261 : Cond.code y_Fo_isLeaf b_Fo_isLeaf 2 (some .boolean) ∈ wGC := List.mem_append_left _ (List.mem_of_getElem? (i := 261) rfl)
theorem kC_262 : Cond.code y_Fo_kindOfEntry b_Fo_kindOfEntry 2 (some .int) ∈ wGC := List.mem_append_left _ (List.mem_of_getElem? (i := 262) rfl)
theorem kC_263 : Cond.code y_Fo_leafFor b_Fo_leafFor 6 (some .int) ∈ wGC := List.mem_append_left _ (List.mem_of_getElem? (i := 263) rfl)
theorem kC_264 : Cond.code y_Ch_firstFault b_Ch_firstFault 3 (some .int) ∈ wGC := List.mem_append_left _ (List.mem_of_getElem? (i := 264) rfl)
theorem kC_265 : Cond.code y_Ch_faultFrom b_Ch_faultFrom 4 (some .int) ∈ wGC := List.mem_append_left _ (List.mem_of_getElem? (i := 265) rfl)
theorem kC_266 : Cond.code y_Ch_faultAt b_Ch_faultAt 3 (some .int) ∈ wGC := List.mem_append_left _ (List.mem_of_getElem? (i := 266) rfl)
theorem kC_267 : Cond.code y_Ch_isDangling b_Ch_isDangling 2 (some .boolean) ∈ wGC := List.mem_append_left _ (List.mem_of_getElem? (i := 267) rfl)
theorem kC_268 : Cond.code y_Cu_cutTrees b_Cu_cutTrees 3 none ∈ wGC := List.mem_append_left _ (List.mem_of_getElem? (i := 268) rfl)
theorem kC_269 : Cond.code y_Cu_cutFrom b_Cu_cutFrom 4 none ∈ wGC := List.mem_append_left _ (List.mem_of_getElem? (i := 269) rfl)
theorem kC_270 : Cond.code y_Cu_cutChildren b_Cu_cutChildren 6 none ∈ wGC := List.mem_append_left _ (List.mem_of_getElem? (i := 270) rfl)
theorem kC_271 : Cond.code y_Cu_cutOut b_Cu_cutOut 2 none ∈ wGC := List.mem_append_left _ (List.mem_of_getElem? (i := 271) rfl)
theorem kC_272 : Cond.code y_Cu_splitLength b_Cu_splitLength 3 (some .int) ∈ wGC := List.mem_append_left _ (List.mem_of_getElem? (i := 272) rfl)
theorem kC_273 : Cond.code y_Cu_partLength b_Cu_partLength 2 (some .int) ∈ wGC := List.mem_append_left _ (List.mem_of_getElem? (i := 273) rfl)
theorem kC_274 : Cond.code y_Cu_testLength b_Cu_testLength 1 (some .int) ∈ wGC := List.mem_append_left _ (List.mem_of_getElem? (i := 274) rfl)
theorem kC_275 : Cond.code y_Ta_forgetAll b_Ta_forgetAll 1 none ∈ wGC := List.mem_append_left _ (List.mem_of_getElem? (i := 275) rfl)
theorem kC_276 : Cond.code y_Ta_openClass b_Ta_openClass 1 none ∈ wGC := List.mem_append_left _ (List.mem_of_getElem? (i := 276) rfl)
theorem kC_277 : Cond.code y_Ta_isClass b_Ta_isClass 2 (some .boolean) ∈ wGC := List.mem_append_left _ (List.mem_of_getElem? (i := 277) rfl)
theorem kC_278 : Cond.code y_Ta_sizeOf b_Ta_sizeOf 2 (some .int) ∈ wGC := List.mem_append_left _ (List.mem_of_getElem? (i := 278) rfl)
theorem kC_279 : Cond.code y_Ta_holds b_Ta_holds 3 (some .boolean) ∈ wGC := List.mem_append_left _ (List.mem_of_getElem? (i := 279) rfl)
theorem kC_280 : Cond.code y_Ta_latestSize b_Ta_latestSize 1 (some .int) ∈ wGC := List.mem_append_left _ (List.mem_of_getElem? (i := 280) rfl)
theorem kC_281 : Cond.code y_Ta_shrinkLatest b_Ta_shrinkLatest 2 none ∈ wGC := List.mem_append_left _ (List.mem_of_getElem? (i := 281) rfl)
theorem kC_282 : Cond.code y_Ta_numberFor b_Ta_numberFor 6 (some .int) ∈ wGC := List.mem_append_left _ (List.mem_of_getElem? (i := 282) rfl)
theorem kC_283 : Cond.code y_Co_isMethod b_Co_isMethod 2 (some .boolean) ∈ wGC := List.mem_append_left _ (List.mem_of_getElem? (i := 283) rfl)
theorem kC_284 : Cond.code y_Co_writeMethods b_Co_writeMethods 3 none ∈ wGC := List.mem_append_left _ (List.mem_of_getElem? (i := 284) rfl)
theorem kC_285 : Cond.code y_Co_writeMethod b_Co_writeMethod 4 none ∈ wGC := List.mem_append_left _ (List.mem_of_getElem? (i := 285) rfl)
theorem kC_286 : Cond.code y_Co_writeCode b_Co_writeCode 4 none ∈ wGC := List.mem_append_left _ (List.mem_of_getElem? (i := 286) rfl)
theorem kC_287 : Cond.code y_Co_writePart b_Co_writePart 4 none ∈ wGC := List.mem_append_left _ (List.mem_of_getElem? (i := 287) rfl)
theorem kC_288 : Cond.code y_Co_writeTest b_Co_writeTest 5 none ∈ wGC := List.mem_append_left _ (List.mem_of_getElem? (i := 288) rfl)
theorem kC_289 : Cond.code y_Co_writePair b_Co_writePair 3 none ∈ wGC := List.mem_append_left _ (List.mem_of_getElem? (i := 289) rfl)
theorem kC_290 : Cond.code y_Co_writeByte b_Co_writeByte 2 none ∈ wGC := List.mem_append_left _ (List.mem_of_getElem? (i := 290) rfl)
theorem kC_291 : Cond.code y_Co_byteOfAll b_Co_byteOfAll 2 (some .int) ∈ wGC := List.mem_append_left _ (List.mem_of_getElem? (i := 291) rfl)
theorem kC_292 : Cond.code y_Ma_runTrees b_Ma_runTrees 4 (some .long) ∈ wGC := List.mem_append_left _ (List.mem_of_getElem? (i := 292) rfl)
theorem kC_293 : Cond.code y_Ma_runMethod b_Ma_runMethod 8 (some .int) ∈ wGC := List.mem_append_left _ (List.mem_of_getElem? (i := 293) rfl)
theorem kC_294 : Cond.code y_Ma_operand b_Ma_operand 4 (some .int) ∈ wGC := List.mem_append_left _ (List.mem_of_getElem? (i := 294) rfl)
theorem kC_295 : Cond.code y_Ma_testMove b_Ma_testMove 8 (some .int) ∈ wGC := List.mem_append_left _ (List.mem_of_getElem? (i := 295) rfl)
theorem kC_296 : Cond.code y_Ru_takesMark b_Ru_takesMark 2 (some .boolean) ∈ wGC := List.mem_append_left _ (List.mem_of_getElem? (i := 296) rfl)
theorem kC_297 : Cond.code y_Ru_isBitRule b_Ru_isBitRule 1 (some .boolean) ∈ wGC := List.mem_append_left _ (List.mem_of_getElem? (i := 297) rfl)
theorem kC_298 : Cond.code y_Ru_goesToYes b_Ru_goesToYes 4 (some .boolean) ∈ wGC := List.mem_append_left _ (List.mem_of_getElem? (i := 298) rfl)
theorem kC_299 : Cond.code y_Ru_orderOf b_Ru_orderOf 1 (some .int) ∈ wGC := List.mem_append_left _ (List.mem_of_getElem? (i := 299) rfl)
theorem kC_300 : Cond.code y_Ru_wholeOf b_Ru_wholeOf 4 (some .int) ∈ wGC := List.mem_append_left _ (List.mem_of_getElem? (i := 300) rfl)
theorem in_BF : ∀ w ∈ u_ws R_BF F_BF 7, w ∈ wGC := fun _ h => List.mem_append_right _ (List.mem_append_left _ h)
theorem in_Fo : ∀ w ∈ u_ws R_Fo F_Fo 8, w ∈ wGC := fun _ h => List.mem_append_right _ (List.mem_append_right _ (List.mem_append_left _ h))
theorem in_Ch : ∀ w ∈ u_ws R_Ch F_Ch 2, w ∈ wGC := fun _ h => List.mem_append_right _ (List.mem_append_right _ (List.mem_append_right _ (List.mem_append_left _ h)))
theorem in_Cu : ∀ w ∈ u_ws R_Cu F_Cu 5, w ∈ wGC := fun _ h => List.mem_append_right _ (List.mem_append_right _ (List.mem_append_right _ (List.mem_append_right _ (List.mem_append_left _ h))))
theorem in_Ta : ∀ w ∈ u_ws R_Ta F_Ta 4, w ∈ wGC := fun _ h => List.mem_append_right _ (List.mem_append_right _ (List.mem_append_right _ (List.mem_append_right _ (List.mem_append_right _ (List.mem_append_left _ h)))))
theorem in_Co : ∀ w ∈ u_ws R_Co F_Co 10, w ∈ wGC := fun _ h => List.mem_append_right _ (List.mem_append_right _ (List.mem_append_right _ (List.mem_append_right _ (List.mem_append_right _ (List.mem_append_right _ (List.mem_append_left _ h))))))
theorem in_Ma : ∀ w ∈ u_ws R_Ma F_Ma 5, w ∈ wGC := fun _ h => List.mem_append_right _ (List.mem_append_right _ (List.mem_append_right _ (List.mem_append_right _ (List.mem_append_right _ (List.mem_append_right _ (List.mem_append_right _ (h)))))))
end
section
def nwC (U : State) : Prop := (∀ q ∈ nfC, va_Nw (.fieldLinkNest q.1 q.2.1 q.2.2.1 q.2.2.2.1 q.2.2.2.2.1 q.2.2.2.2.2) U) ∧ ∀ q ∈ nmC, va_Nw (.methodLinkNest q.1 q.2.1 q.2.2.1 q.2.2.2) U
theorem nwC_warm {s U : State} (hW : s.WarmedH U.vm) (h : nwC s) : nwC U := ⟨fun q hq => va_Nw.warmF hW (h.1 q hq), fun q hq => va_Nw.warmM hW (h.2 q hq)⟩
theorem nwC_same {s U : State} (hv : s.vm = U.vm) (h : nwC s) : nwC U := ⟨fun q hq => va_Nw.same rfl hv (h.1 q hq), fun q hq => va_Nw.same rfl hv (h.2 q hq)⟩
theorem nwC_f {s : State} {a b n d h : String} {i : Nat} (hN : nwC s) (hm : (a, i, b, n, d, h) ∈ nfC) : va_Nw (.fieldLinkNest a i b n d h) s := hN.1 _ hm
theorem nwC_m {s : State} {a h : String} {i : Nat} {y : MethodName} (hN : nwC s) (hm : (a, i, y, h) ∈ nmC) : va_Nw (.methodLinkNest a i y h) s := hN.2 _ hm
theorem goodC (ws : List Cond) (h : ∀ w ∈ ws, w ∈ wGC) : GoodIn wGC ws := fun w hw => ⟨h w hw, good_of_word (goodwC w (h w hw))⟩
def fxC (D : va_G) (cI cZ : ClassId) (p : Program) (R : Room) (s : State) (m : MethodId) (args : Array Value) (c : Code) (cc : ByteArray) (nL : Nat) (own : String) (fr lr : Nat) : Prop :=
  p.tables.exec = Jvm.exec ∧ c.code = cc ∧ c.maxLocals = nL ∧ s.vm.findClass own = some m.cls ∧ (∀ w ∈ wGC, w.before args s = true) ∧ va_K D clC [(cI, .int), (cZ, .boolean)] s ∧ nwC s ∧ (fr ≤ R.frames ∧ lr ≤ R.locals)
def wdC (D : va_G) (cI cZ : ClassId) (ad : Nat → Nat) (A : Nat → Prop) (H0 : Heap) (g : St) (H : Heap) (locs : List Loc) : Prop :=
  va_P D clC (gwC cI cZ ad g) H ∧ va_D A (gwC cI cZ ad g) ∧ va_S A H0 H locs ∧ ∀ q, H0.size ≤ q → A q
def pwC (D : va_G) (cI cZ : ClassId) (ad : Nat → Nat) (g : St) (sz : Nat) (U : State) : Prop :=
  U.heap.size = sz ∧ va_P D clC (gwC cI cZ ad g) U.heap ∧ va_K D clC [(cI, .int), (cZ, .boolean)] U ∧ va_D (fun _ => True) (gwC cI cZ ad g) ∧ nwC U
def bwC (D : va_G) (cI cZ : ClassId) (ad : Nat → Nat) (g : St) (sz : Nat) (g' : St) (t : State) : Prop :=
  va_P D clC (gwC cI cZ ad g') t.heap ∧ va_K D clC [(cI, .int), (cZ, .boolean)] t ∧ va_D (va_A (gwC cI cZ ad g) sz) (gwC cI cZ ad g')
def ctCI (l : Launch) (y : MethodName) (b : ByteArray) (nL f lo : Nat) (D : va_G) (cI cZ : ClassId) (ad : Nat → Nat) (av : List Value) (g : St) (K : Int32 → St → Prop) : Prop :=
  ∀ sz : Nat, Met l y (.code y b nL (some .int) :: wGC) { frames := f, cells := 0, slots := 0, locals := lo } (va_Pc av (pwC D cI cZ ad g sz)) (va_Qi K (bwC D cI cZ ad g sz) (va_A (gwC cI cZ ad g) sz)) 0 0 (va_A (gwC cI cZ ad g) sz)
def ctCZ (l : Launch) (y : MethodName) (b : ByteArray) (nL f lo : Nat) (D : va_G) (cI cZ : ClassId) (ad : Nat → Nat) (av : List Value) (g : St) (K : Int32 → St → Prop) : Prop :=
  ∀ sz : Nat, Met l y (.code y b nL (some .boolean) :: wGC) { frames := f, cells := 0, slots := 0, locals := lo } (va_Pc av (pwC D cI cZ ad g sz)) (va_Qi K (bwC D cI cZ ad g sz) (va_A (gwC cI cZ ad g) sz)) 0 0 (va_A (gwC cI cZ ad g) sz)
def ctCJ (l : Launch) (y : MethodName) (b : ByteArray) (nL f lo : Nat) (D : va_G) (cI cZ : ClassId) (ad : Nat → Nat) (av : List Value) (g : St) (K : Int64 → St → Prop) : Prop :=
  ∀ sz : Nat, Met l y (.code y b nL (some .long) :: wGC) { frames := f, cells := 0, slots := 0, locals := lo } (va_Pc av (pwC D cI cZ ad g sz)) (va_Ql K (bwC D cI cZ ad g sz) (va_A (gwC cI cZ ad g) sz)) 0 0 (va_A (gwC cI cZ ad g) sz)
def ctCV (l : Launch) (y : MethodName) (b : ByteArray) (nL f lo : Nat) (D : va_G) (cI cZ : ClassId) (ad : Nat → Nat) (av : List Value) (g : St) (K : St → Prop) : Prop :=
  ∀ sz : Nat, Met l y (.code y b nL none :: wGC) { frames := f, cells := 0, slots := 0, locals := lo } (va_Pc av (pwC D cI cZ ad g sz)) (va_Qv K (bwC D cI cZ ad g sz) (va_A (gwC cI cZ ad g) sz)) 0 0 (va_A (gwC cI cZ ad g) sz)

section ROWSC
variable {p : Program} {l : Launch} {e : Env} {R : Room} {s : State} {m : MethodId} {args : Array Value} {below : List Frame} {meth : Method} {c : Code} {H : Heap} {locs : List Loc} {Q : State → Prop}
variable {D : va_G} {cI cZ : ClassId} {ad : Nat → Nat} {A : Nat → Prop} {H0 : Heap} {cc : ByteArray} {pc nL fr lr : Nat} {own : String} {ls : Array Slot} {rest : List Value} {g : St}

def rtCI (D : va_G) (cI cZ : ClassId) (ad : Nat → Nat) (p : Program) (l : Launch) (e : Env) (R : Room) (s : State) (m : MethodId) (args : Array Value) (below : List Frame) (meth : Method) (c : Code) (cc : ByteArray) (A : Nat → Prop) (H0 : Heap) (Q : State → Prop) (K : Int32 → St → Prop) : Prop :=
  ∀ (r : Int32) (g' : St) (H' : Heap) (locs' : List Loc), K r g' → wdC D cI cZ ad A H0 g' H' locs' → ∀ (pc' : Nat) (ls' : Array Slot), decode cc pc' = .ok (.ireturn, 1) → W p l e R s m args below meth c H' locs' 0 0 Q (F0 m pc' ls' [.int r])
def rtCZ (D : va_G) (cI cZ : ClassId) (ad : Nat → Nat) (p : Program) (l : Launch) (e : Env) (R : Room) (s : State) (m : MethodId) (args : Array Value) (below : List Frame) (meth : Method) (c : Code) (cc : ByteArray) (A : Nat → Prop) (H0 : Heap) (Q : State → Prop) (K : Int32 → St → Prop) : Prop :=
  ∀ (r : Int32) (g' : St) (H' : Heap) (locs' : List Loc), K r g' → (r = 0 ∨ r = 1) → wdC D cI cZ ad A H0 g' H' locs' → ∀ (pc' : Nat) (ls' : Array Slot), decode cc pc' = .ok (.ireturn, 1) → W p l e R s m args below meth c H' locs' 0 0 Q (F0 m pc' ls' [.int r])
def rtCJ (D : va_G) (cI cZ : ClassId) (ad : Nat → Nat) (p : Program) (l : Launch) (e : Env) (R : Room) (s : State) (m : MethodId) (args : Array Value) (below : List Frame) (meth : Method) (c : Code) (cc : ByteArray) (A : Nat → Prop) (H0 : Heap) (Q : State → Prop) (K : Int64 → St → Prop) : Prop :=
  ∀ (r : Int64) (g' : St) (H' : Heap) (locs' : List Loc), K r g' → wdC D cI cZ ad A H0 g' H' locs' → ∀ (pc' : Nat) (ls' : Array Slot), decode cc pc' = .ok (.lreturn, 1) → W p l e R s m args below meth c H' locs' 0 0 Q (F0 m pc' ls' [.long r])
def rtCV (D : va_G) (cI cZ : ClassId) (ad : Nat → Nat) (p : Program) (l : Launch) (e : Env) (R : Room) (s : State) (m : MethodId) (args : Array Value) (below : List Frame) (meth : Method) (c : Code) (cc : ByteArray) (A : Nat → Prop) (H0 : Heap) (Q : State → Prop) (K : St → Prop) : Prop :=
  ∀ (g' : St) (H' : Heap) (locs' : List Loc), K g' → wdC D cI cZ ad A H0 g' H' locs' → ∀ (pc' : Nat) (ls' : Array Slot), decode cc pc' = .ok (.return_, 1) → W p l e R s m args below meth c H' locs' 0 0 Q (F0 m pc' ls' [])

theorem prC_V {C : String} {T : u_T} {N ci k : Nat} {b : Nat} {fs As : List Value} (hK : va_K D clC [(cI, .int), (cZ, .boolean)] s) (hN : nwC s) (hwd : wdC D cI cZ ad A H0 g H locs) (hc : clC[ci]? = some (C, T, N)) (he : (gwC cI cZ ad g)[k]? = some (b, .inr (ci, fs))) : PreV s H C b (va_Pc (.ref b :: As) (pwC D cI cZ ad g H.size)) As :=
  ⟨fun a U g mk q => by
      obtain ⟨q0, q1, qP, qK, qD, qN⟩ := q
      exact ⟨q0, q1, qP, va_K.moved (u := U) (U := U.calling g mk a) (Vm.Alike.refl U.vm) qK, qD, nwC_same (s := U) (U := U.calling g mk a) rfl qN⟩,
    va_recv hK hwd.1 hc he,
    fun U hU hW => ⟨rfl, by rw [hU], by rw [hU]; exact hwd.1, va_K.moved hW.alike hK, hwd.2.1.weaken (fun _ _ _ _ => trivial), nwC_warm hW hN⟩⟩
theorem prC_S {As : List Value} (hK : va_K D clC [(cI, .int), (cZ, .boolean)] s) (hN : nwC s) (hwd : wdC D cI cZ ad A H0 g H locs) : PreS s H (va_Pc As (pwC D cI cZ ad g H.size)) As :=
  ⟨fun a U g mk q => by
      obtain ⟨q0, q1, qP, qK, qD, qN⟩ := q
      exact ⟨q0, q1, qP, va_K.moved (u := U) (U := U.calling g mk a) (Vm.Alike.refl U.vm) qK, qD, nwC_same (s := U) (U := U.calling g mk a) rfl qN⟩,
    fun U hU hW => ⟨rfl, by rw [hU], by rw [hU]; exact hwd.1, va_K.moved hW.alike hK, hwd.2.1.weaken (fun _ _ _ _ => trivial), nwC_warm hW hN⟩⟩
theorem wdC_free (hwd : wdC D cI cZ ad A H0 g H locs) : ∀ q, va_A (gwC cI cZ ad g) H.size q → A q := by
  obtain ⟨hP, hD, hS, hA⟩ := hwd
  rintro q (⟨k, e, h⟩ | h)
  · exact hD.2 k _ h
  · exact hA q (Nat.le_trans hS.1 h)
theorem afC_I {K : Int32 → St → Prop} {a : Array Value} {st0 : List Value} (hwd : wdC D cI cZ ad A H0 g H locs) (hr : va_Run p l e R s m args below meth c H locs 0 0 0 0 (F0 m pc ls st0) rest (va_Qi K (bwC D cI cZ ad g H.size) (va_A (gwC cI cZ ad g) H.size) a) (va_A (gwC cI cZ ad g) H.size))
    (kk : ∀ (r : Int32) (g' : St) (H' : Heap) (locs' : List Loc), K r g' → wdC D cI cZ ad A H0 g' H' locs' → W p l e R s m args below meth c H' locs' 0 0 Q (F0 m (pc + 3) ls (.int r :: rest))) : W p l e R s m args below meth c H locs 0 0 Q (F0 m pc ls st0) := by
  have hfc := wdC_free hwd
  obtain ⟨hP, hD, hS, hA⟩ := hwd
  refine va_calli hr hS (fun q _ h => hfc q h) hfc (fun r u t H1 locs1 ht hvm hw hB hz1 hk1 hS1 => ?_)
  obtain ⟨hP1, hK1, hD1⟩ := hB
  rw [ht] at hP1
  exact kk r u H1 locs1 hw ⟨hP1, hD1.weaken (fun _ _ _ h => hfc _ h), hS1, hA⟩
theorem afC_J {K : Int64 → St → Prop} {a : Array Value} {st0 : List Value} (hwd : wdC D cI cZ ad A H0 g H locs) (hr : va_Run p l e R s m args below meth c H locs 0 0 0 0 (F0 m pc ls st0) rest (va_Ql K (bwC D cI cZ ad g H.size) (va_A (gwC cI cZ ad g) H.size) a) (va_A (gwC cI cZ ad g) H.size))
    (kk : ∀ (r : Int64) (g' : St) (H' : Heap) (locs' : List Loc), K r g' → wdC D cI cZ ad A H0 g' H' locs' → W p l e R s m args below meth c H' locs' 0 0 Q (F0 m (pc + 3) ls (.long r :: rest))) : W p l e R s m args below meth c H locs 0 0 Q (F0 m pc ls st0) := by
  have hfc := wdC_free hwd
  obtain ⟨hP, hD, hS, hA⟩ := hwd
  refine va_calll hr hS (fun q _ h => hfc q h) hfc (fun r u t H1 locs1 ht hvm hw hB hz1 hk1 hS1 => ?_)
  obtain ⟨hP1, hK1, hD1⟩ := hB
  rw [ht] at hP1
  exact kk r u H1 locs1 hw ⟨hP1, hD1.weaken (fun _ _ _ h => hfc _ h), hS1, hA⟩
theorem afC_V {K : St → Prop} {a : Array Value} {st0 : List Value} (hwd : wdC D cI cZ ad A H0 g H locs) (hr : va_Run p l e R s m args below meth c H locs 0 0 0 0 (F0 m pc ls st0) rest (va_Qv K (bwC D cI cZ ad g H.size) (va_A (gwC cI cZ ad g) H.size) a) (va_A (gwC cI cZ ad g) H.size))
    (kk : ∀ (g' : St) (H' : Heap) (locs' : List Loc), K g' → wdC D cI cZ ad A H0 g' H' locs' → W p l e R s m args below meth c H' locs' 0 0 Q (F0 m (pc + 3) ls (rest))) : W p l e R s m args below meth c H locs 0 0 Q (F0 m pc ls st0) := by
  have hfc := wdC_free hwd
  obtain ⟨hP, hD, hS, hA⟩ := hwd
  refine va_callv hr hS (fun q _ h => hfc q h) hfc (fun u t H1 locs1 ht hvm hw hB hz1 hk1 hS1 => ?_)
  obtain ⟨hP1, hK1, hD1⟩ := hB
  rw [ht] at hP1
  exact kk u H1 locs1 hw ⟨hP1, hD1.weaken (fun _ _ _ h => hfc _ h), hS1, hA⟩
theorem gfC_Fo_30 (F : fxC D cI cZ p R s m args c cc nL R_Fo fr lr) (hwd : wdC D cI cZ ad A H0 g H locs) (hdg : decode cc pc = .ok (.getfield 30, 3)) (k : W p l e R s m args below meth c H locs 0 0 Q (F0 m (pc + 3) ls (.int (g 100 0) :: rest))) : W p l e R s m args below meth c H locs 0 0 Q (F0 m pc ls (.ref (ad 2) :: rest)) := by
  obtain ⟨hx, hb, hml, hown, hts, hK, hN, hR⟩ := F
  exact va_get (D := D) (ci := 1) (v := .int (g 100 0)) (C := R_Fo) (T := F_Fo) (N := 8) hx hb hts in_Fo hown hK hwd.1 2 rfl rfl 6 (by decide) (hts _ kC_84) (fun _ h9 => h9) rfl hdg k

theorem gfC_Fo_9 (F : fxC D cI cZ p R s m args c cc nL R_Fo fr lr) (hwd : wdC D cI cZ ad A H0 g H locs) (hdg : decode cc pc = .ok (.getfield 9, 3)) (k : W p l e R s m args below meth c H locs 0 0 Q (F0 m (pc + 3) ls (.ref (ad 3) :: rest))) : W p l e R s m args below meth c H locs 0 0 Q (F0 m pc ls (.ref (ad 2) :: rest)) := by
  obtain ⟨hx, hb, hml, hown, hts, hK, hN, hR⟩ := F
  exact va_get (D := D) (ci := 1) (v := .ref (ad 3)) (C := R_Fo) (T := F_Fo) (N := 8) hx hb hts in_Fo hown hK hwd.1 2 rfl rfl 0 (by decide) (hts _ kC_10) (fun _ h9 => h9) rfl hdg k

theorem gfC_Fo_15 (F : fxC D cI cZ p R s m args c cc nL R_Fo fr lr) (hwd : wdC D cI cZ ad A H0 g H locs) (hdg : decode cc pc = .ok (.getfield 15, 3)) (k : W p l e R s m args below meth c H locs 0 0 Q (F0 m (pc + 3) ls (.ref (ad 4) :: rest))) : W p l e R s m args below meth c H locs 0 0 Q (F0 m pc ls (.ref (ad 2) :: rest)) := by
  obtain ⟨hx, hb, hml, hown, hts, hK, hN, hR⟩ := F
  exact va_get (D := D) (ci := 1) (v := .ref (ad 4)) (C := R_Fo) (T := F_Fo) (N := 8) hx hb hts in_Fo hown hK hwd.1 2 rfl rfl 1 (by decide) (hts _ kC_11) (fun _ h9 => h9) rfl hdg k

theorem gfC_Fo_18 (F : fxC D cI cZ p R s m args c cc nL R_Fo fr lr) (hwd : wdC D cI cZ ad A H0 g H locs) (hdg : decode cc pc = .ok (.getfield 18, 3)) (k : W p l e R s m args below meth c H locs 0 0 Q (F0 m (pc + 3) ls (.ref (ad 5) :: rest))) : W p l e R s m args below meth c H locs 0 0 Q (F0 m pc ls (.ref (ad 2) :: rest)) := by
  obtain ⟨hx, hb, hml, hown, hts, hK, hN, hR⟩ := F
  exact va_get (D := D) (ci := 1) (v := .ref (ad 5)) (C := R_Fo) (T := F_Fo) (N := 8) hx hb hts in_Fo hown hK hwd.1 2 rfl rfl 2 (by decide) (hts _ kC_12) (fun _ h9 => h9) rfl hdg k

theorem gfC_Fo_21 (F : fxC D cI cZ p R s m args c cc nL R_Fo fr lr) (hwd : wdC D cI cZ ad A H0 g H locs) (hdg : decode cc pc = .ok (.getfield 21, 3)) (k : W p l e R s m args below meth c H locs 0 0 Q (F0 m (pc + 3) ls (.ref (ad 6) :: rest))) : W p l e R s m args below meth c H locs 0 0 Q (F0 m pc ls (.ref (ad 2) :: rest)) := by
  obtain ⟨hx, hb, hml, hown, hts, hK, hN, hR⟩ := F
  exact va_get (D := D) (ci := 1) (v := .ref (ad 6)) (C := R_Fo) (T := F_Fo) (N := 8) hx hb hts in_Fo hown hK hwd.1 2 rfl rfl 3 (by decide) (hts _ kC_13) (fun _ h9 => h9) rfl hdg k

theorem gfC_Fo_24 (F : fxC D cI cZ p R s m args c cc nL R_Fo fr lr) (hwd : wdC D cI cZ ad A H0 g H locs) (hdg : decode cc pc = .ok (.getfield 24, 3)) (k : W p l e R s m args below meth c H locs 0 0 Q (F0 m (pc + 3) ls (.ref (ad 7) :: rest))) : W p l e R s m args below meth c H locs 0 0 Q (F0 m pc ls (.ref (ad 2) :: rest)) := by
  obtain ⟨hx, hb, hml, hown, hts, hK, hN, hR⟩ := F
  exact va_get (D := D) (ci := 1) (v := .ref (ad 7)) (C := R_Fo) (T := F_Fo) (N := 8) hx hb hts in_Fo hown hK hwd.1 2 rfl rfl 4 (by decide) (hts _ kC_14) (fun _ h9 => h9) rfl hdg k

theorem gfC_BF_16 (F : fxC D cI cZ p R s m args c cc nL R_BF fr lr) (hwd : wdC D cI cZ ad A H0 g H locs) (hdg : decode cc pc = .ok (.getfield 16, 3)) (k : W p l e R s m args below meth c H locs 0 0 Q (F0 m (pc + 3) ls (.ref (ad 2) :: rest))) : W p l e R s m args below meth c H locs 0 0 Q (F0 m pc ls (.ref (ad 0) :: rest)) := by
  obtain ⟨hx, hb, hml, hown, hts, hK, hN, hR⟩ := F
  exact va_get (D := D) (ci := 0) (v := .ref (ad 2)) (C := R_BF) (T := F_BF) (N := 7) hx hb hts in_BF hown hK hwd.1 0 rfl rfl 1 (by decide) (hts _ kC_53) (fun _ h9 => h9) rfl hdg k

theorem gfC_Fo_34 (F : fxC D cI cZ p R s m args c cc nL R_Fo fr lr) (hwd : wdC D cI cZ ad A H0 g H locs) (hdg : decode cc pc = .ok (.getfield 34, 3)) (k : W p l e R s m args below meth c H locs 0 0 Q (F0 m (pc + 3) ls (.int (g 101 0) :: rest))) : W p l e R s m args below meth c H locs 0 0 Q (F0 m pc ls (.ref (ad 2) :: rest)) := by
  obtain ⟨hx, hb, hml, hown, hts, hK, hN, hR⟩ := F
  exact va_get (D := D) (ci := 1) (v := .int (g 101 0)) (C := R_Fo) (T := F_Fo) (N := 8) hx hb hts in_Fo hown hK hwd.1 2 rfl rfl 7 (by decide) (hts _ kC_85) (fun _ h9 => h9) rfl hdg k

theorem gfC_Fo_27 (F : fxC D cI cZ p R s m args c cc nL R_Fo fr lr) (hwd : wdC D cI cZ ad A H0 g H locs) (hdg : decode cc pc = .ok (.getfield 27, 3)) (k : W p l e R s m args below meth c H locs 0 0 Q (F0 m (pc + 3) ls (.ref (ad 8) :: rest))) : W p l e R s m args below meth c H locs 0 0 Q (F0 m pc ls (.ref (ad 2) :: rest)) := by
  obtain ⟨hx, hb, hml, hown, hts, hK, hN, hR⟩ := F
  exact va_get (D := D) (ci := 1) (v := .ref (ad 8)) (C := R_Fo) (T := F_Fo) (N := 8) hx hb hts in_Fo hown hK hwd.1 2 rfl rfl 5 (by decide) (hts _ kC_15) (fun _ h9 => h9) rfl hdg k

theorem gfC_Ch_15 (F : fxC D cI cZ p R s m args c cc nL R_Ch fr lr) (hwd : wdC D cI cZ ad A H0 g H locs) (hdg : decode cc pc = .ok (.getfield 15, 3)) (k : W p l e R s m args below meth c H locs 0 0 Q (F0 m (pc + 3) ls (.ref (ad 2) :: rest))) : W p l e R s m args below meth c H locs 0 0 Q (F0 m pc ls (.ref (ad 9) :: rest)) := by
  obtain ⟨hx, hb, hml, hown, hts, hK, hN, hR⟩ := F
  exact va_get (D := D) (ci := 2) (v := .ref (ad 2)) (C := R_Ch) (T := F_Ch) (N := 2) hx hb hts in_Ch hown hK hwd.1 9 rfl rfl 0 (by decide) (hts _ kC_20) (fun _ h9 => h9) rfl hdg k

theorem gfC_Ch_40 (F : fxC D cI cZ p R s m args c cc nL R_Ch fr lr) (hwd : wdC D cI cZ ad A H0 g H locs) (hdg : decode cc pc = .ok (.getfield 40, 3)) (k : W p l e R s m args below meth c H locs 0 0 Q (F0 m (pc + 3) ls (.ref (ad 6) :: rest))) : W p l e R s m args below meth c H locs 0 0 Q (F0 m pc ls (.ref (ad 2) :: rest)) := by
  obtain ⟨hx, hb, hml, hown, hts, hK, hN, hR⟩ := F
  exact va_getN (D := D) (ci := 1) (v := .ref (ad 6)) (C := R_Fo) (T := F_Fo) (N := 8) hx hb hts in_Fo hown hK hwd.1 2 rfl rfl 3 (by decide) (va_Nw.use rfl (show va_Nw (.fieldLinkNest R_Ch 40 "BranchForge$Forest" "yesOf" "[I" "BranchForge") s from nwC_f hN nkC_0)) (fun _ h9 => h9) rfl hdg k

theorem gfC_Ch_43 (F : fxC D cI cZ p R s m args c cc nL R_Ch fr lr) (hwd : wdC D cI cZ ad A H0 g H locs) (hdg : decode cc pc = .ok (.getfield 43, 3)) (k : W p l e R s m args below meth c H locs 0 0 Q (F0 m (pc + 3) ls (.ref (ad 7) :: rest))) : W p l e R s m args below meth c H locs 0 0 Q (F0 m pc ls (.ref (ad 2) :: rest)) := by
  obtain ⟨hx, hb, hml, hown, hts, hK, hN, hR⟩ := F
  exact va_getN (D := D) (ci := 1) (v := .ref (ad 7)) (C := R_Fo) (T := F_Fo) (N := 8) hx hb hts in_Fo hown hK hwd.1 2 rfl rfl 4 (by decide) (va_Nw.use rfl (show va_Nw (.fieldLinkNest R_Ch 43 "BranchForge$Forest" "noOf" "[I" "BranchForge") s from nwC_f hN nkC_1)) (fun _ h9 => h9) rfl hdg k

theorem gfC_Ch_9 (F : fxC D cI cZ p R s m args c cc nL R_Ch fr lr) (hwd : wdC D cI cZ ad A H0 g H locs) (hdg : decode cc pc = .ok (.getfield 9, 3)) (k : W p l e R s m args below meth c H locs 0 0 Q (F0 m (pc + 3) ls (.ref (ad 10) :: rest))) : W p l e R s m args below meth c H locs 0 0 Q (F0 m pc ls (.ref (ad 9) :: rest)) := by
  obtain ⟨hx, hb, hml, hown, hts, hK, hN, hR⟩ := F
  exact va_get (D := D) (ci := 2) (v := .ref (ad 10)) (C := R_Ch) (T := F_Ch) (N := 2) hx hb hts in_Ch hown hK hwd.1 9 rfl rfl 1 (by decide) (hts _ kC_19) (fun _ h9 => h9) rfl hdg k

theorem gfC_Ch_19 (F : fxC D cI cZ p R s m args c cc nL R_Ch fr lr) (hwd : wdC D cI cZ ad A H0 g H locs) (hdg : decode cc pc = .ok (.getfield 19, 3)) (k : W p l e R s m args below meth c H locs 0 0 Q (F0 m (pc + 3) ls (.int (g 101 0) :: rest))) : W p l e R s m args below meth c H locs 0 0 Q (F0 m pc ls (.ref (ad 2) :: rest)) := by
  obtain ⟨hx, hb, hml, hown, hts, hK, hN, hR⟩ := F
  exact va_getN (D := D) (ci := 1) (v := .int (g 101 0)) (C := R_Fo) (T := F_Fo) (N := 8) hx hb hts in_Fo hown hK hwd.1 2 rfl rfl 7 (by decide) (va_Nw.use rfl (show va_Nw (.fieldLinkNest R_Ch 19 "BranchForge$Forest" "treeCount" "I" "BranchForge") s from nwC_f hN nkC_2)) (fun _ h9 => h9) rfl hdg k

theorem gfC_Ch_25 (F : fxC D cI cZ p R s m args c cc nL R_Ch fr lr) (hwd : wdC D cI cZ ad A H0 g H locs) (hdg : decode cc pc = .ok (.getfield 25, 3)) (k : W p l e R s m args below meth c H locs 0 0 Q (F0 m (pc + 3) ls (.ref (ad 8) :: rest))) : W p l e R s m args below meth c H locs 0 0 Q (F0 m pc ls (.ref (ad 2) :: rest)) := by
  obtain ⟨hx, hb, hml, hown, hts, hK, hN, hR⟩ := F
  exact va_getN (D := D) (ci := 1) (v := .ref (ad 8)) (C := R_Fo) (T := F_Fo) (N := 8) hx hb hts in_Fo hown hK hwd.1 2 rfl rfl 5 (by decide) (va_Nw.use rfl (show va_Nw (.fieldLinkNest R_Ch 25 "BranchForge$Forest" "rootOf" "[I" "BranchForge") s from nwC_f hN nkC_3)) (fun _ h9 => h9) rfl hdg k

theorem gfC_Cu_15 (F : fxC D cI cZ p R s m args c cc nL R_Cu fr lr) (hwd : wdC D cI cZ ad A H0 g H locs) (hdg : decode cc pc = .ok (.getfield 15, 3)) (k : W p l e R s m args below meth c H locs 0 0 Q (F0 m (pc + 3) ls (.ref (ad 13) :: rest))) : W p l e R s m args below meth c H locs 0 0 Q (F0 m pc ls (.ref (ad 11) :: rest)) := by
  obtain ⟨hx, hb, hml, hown, hts, hK, hN, hR⟩ := F
  exact va_get (D := D) (ci := 3) (v := .ref (ad 13)) (C := R_Cu) (T := F_Cu) (N := 5) hx hb hts in_Cu hown hK hwd.1 11 rfl rfl 2 (by decide) (hts _ kC_24) (fun _ h9 => h9) rfl hdg k

theorem gfC_Cu_9 (F : fxC D cI cZ p R s m args c cc nL R_Cu fr lr) (hwd : wdC D cI cZ ad A H0 g H locs) (hdg : decode cc pc = .ok (.getfield 9, 3)) (k : W p l e R s m args below meth c H locs 0 0 Q (F0 m (pc + 3) ls (.ref (ad 12) :: rest))) : W p l e R s m args below meth c H locs 0 0 Q (F0 m pc ls (.ref (ad 11) :: rest)) := by
  obtain ⟨hx, hb, hml, hown, hts, hK, hN, hR⟩ := F
  exact va_get (D := D) (ci := 3) (v := .ref (ad 12)) (C := R_Cu) (T := F_Cu) (N := 5) hx hb hts in_Cu hown hK hwd.1 11 rfl rfl 1 (by decide) (hts _ kC_23) (fun _ h9 => h9) rfl hdg k

theorem gfC_Cu_21 (F : fxC D cI cZ p R s m args c cc nL R_Cu fr lr) (hwd : wdC D cI cZ ad A H0 g H locs) (hdg : decode cc pc = .ok (.getfield 21, 3)) (k : W p l e R s m args below meth c H locs 0 0 Q (F0 m (pc + 3) ls (.ref (ad 2) :: rest))) : W p l e R s m args below meth c H locs 0 0 Q (F0 m pc ls (.ref (ad 11) :: rest)) := by
  obtain ⟨hx, hb, hml, hown, hts, hK, hN, hR⟩ := F
  exact va_get (D := D) (ci := 3) (v := .ref (ad 2)) (C := R_Cu) (T := F_Cu) (N := 5) hx hb hts in_Cu hown hK hwd.1 11 rfl rfl 0 (by decide) (hts _ kC_26) (fun _ h9 => h9) rfl hdg k

theorem gfC_Cu_49 (F : fxC D cI cZ p R s m args c cc nL R_Cu fr lr) (hwd : wdC D cI cZ ad A H0 g H locs) (hdg : decode cc pc = .ok (.getfield 49, 3)) (k : W p l e R s m args below meth c H locs 0 0 Q (F0 m (pc + 3) ls (.ref (ad 6) :: rest))) : W p l e R s m args below meth c H locs 0 0 Q (F0 m pc ls (.ref (ad 2) :: rest)) := by
  obtain ⟨hx, hb, hml, hown, hts, hK, hN, hR⟩ := F
  exact va_getN (D := D) (ci := 1) (v := .ref (ad 6)) (C := R_Fo) (T := F_Fo) (N := 8) hx hb hts in_Fo hown hK hwd.1 2 rfl rfl 3 (by decide) (va_Nw.use rfl (show va_Nw (.fieldLinkNest R_Cu 49 "BranchForge$Forest" "yesOf" "[I" "BranchForge") s from nwC_f hN nkC_4)) (fun _ h9 => h9) rfl hdg k

theorem gfC_Cu_52 (F : fxC D cI cZ p R s m args c cc nL R_Cu fr lr) (hwd : wdC D cI cZ ad A H0 g H locs) (hdg : decode cc pc = .ok (.getfield 52, 3)) (k : W p l e R s m args below meth c H locs 0 0 Q (F0 m (pc + 3) ls (.ref (ad 7) :: rest))) : W p l e R s m args below meth c H locs 0 0 Q (F0 m pc ls (.ref (ad 2) :: rest)) := by
  obtain ⟨hx, hb, hml, hown, hts, hK, hN, hR⟩ := F
  exact va_getN (D := D) (ci := 1) (v := .ref (ad 7)) (C := R_Fo) (T := F_Fo) (N := 8) hx hb hts in_Fo hown hK hwd.1 2 rfl rfl 4 (by decide) (va_Nw.use rfl (show va_Nw (.fieldLinkNest R_Cu 52 "BranchForge$Forest" "noOf" "[I" "BranchForge") s from nwC_f hN nkC_5)) (fun _ h9 => h9) rfl hdg k

theorem gfC_Cu_25 (F : fxC D cI cZ p R s m args c cc nL R_Cu fr lr) (hwd : wdC D cI cZ ad A H0 g H locs) (hdg : decode cc pc = .ok (.getfield 25, 3)) (k : W p l e R s m args below meth c H locs 0 0 Q (F0 m (pc + 3) ls (.int (g 102 0) :: rest))) : W p l e R s m args below meth c H locs 0 0 Q (F0 m pc ls (.ref (ad 11) :: rest)) := by
  obtain ⟨hx, hb, hml, hown, hts, hK, hN, hR⟩ := F
  exact va_get (D := D) (ci := 3) (v := .int (g 102 0)) (C := R_Cu) (T := F_Cu) (N := 5) hx hb hts in_Cu hown hK hwd.1 11 rfl rfl 4 (by decide) (hts _ kC_86) (fun _ h9 => h9) rfl hdg k

theorem gfC_Cu_18 (F : fxC D cI cZ p R s m args c cc nL R_Cu fr lr) (hwd : wdC D cI cZ ad A H0 g H locs) (hdg : decode cc pc = .ok (.getfield 18, 3)) (k : W p l e R s m args below meth c H locs 0 0 Q (F0 m (pc + 3) ls (.ref (ad 14) :: rest))) : W p l e R s m args below meth c H locs 0 0 Q (F0 m pc ls (.ref (ad 11) :: rest)) := by
  obtain ⟨hx, hb, hml, hown, hts, hK, hN, hR⟩ := F
  exact va_get (D := D) (ci := 3) (v := .ref (ad 14)) (C := R_Cu) (T := F_Cu) (N := 5) hx hb hts in_Cu hown hK hwd.1 11 rfl rfl 3 (by decide) (hts _ kC_25) (fun _ h9 => h9) rfl hdg k

theorem gfC_Cu_29 (F : fxC D cI cZ p R s m args c cc nL R_Cu fr lr) (hwd : wdC D cI cZ ad A H0 g H locs) (hdg : decode cc pc = .ok (.getfield 29, 3)) (k : W p l e R s m args below meth c H locs 0 0 Q (F0 m (pc + 3) ls (.int (g 101 0) :: rest))) : W p l e R s m args below meth c H locs 0 0 Q (F0 m pc ls (.ref (ad 2) :: rest)) := by
  obtain ⟨hx, hb, hml, hown, hts, hK, hN, hR⟩ := F
  exact va_getN (D := D) (ci := 1) (v := .int (g 101 0)) (C := R_Fo) (T := F_Fo) (N := 8) hx hb hts in_Fo hown hK hwd.1 2 rfl rfl 7 (by decide) (va_Nw.use rfl (show va_Nw (.fieldLinkNest R_Cu 29 "BranchForge$Forest" "treeCount" "I" "BranchForge") s from nwC_f hN nkC_6)) (fun _ h9 => h9) rfl hdg k

theorem gfC_Cu_34 (F : fxC D cI cZ p R s m args c cc nL R_Cu fr lr) (hwd : wdC D cI cZ ad A H0 g H locs) (hdg : decode cc pc = .ok (.getfield 34, 3)) (k : W p l e R s m args below meth c H locs 0 0 Q (F0 m (pc + 3) ls (.ref (ad 8) :: rest))) : W p l e R s m args below meth c H locs 0 0 Q (F0 m pc ls (.ref (ad 2) :: rest)) := by
  obtain ⟨hx, hb, hml, hown, hts, hK, hN, hR⟩ := F
  exact va_getN (D := D) (ci := 1) (v := .ref (ad 8)) (C := R_Fo) (T := F_Fo) (N := 8) hx hb hts in_Fo hown hK hwd.1 2 rfl rfl 5 (by decide) (va_Nw.use rfl (show va_Nw (.fieldLinkNest R_Cu 34 "BranchForge$Forest" "rootOf" "[I" "BranchForge") s from nwC_f hN nkC_7)) (fun _ h9 => h9) rfl hdg k

theorem gfC_Ta_18 (F : fxC D cI cZ p R s m args c cc nL R_Ta fr lr) (hwd : wdC D cI cZ ad A H0 g H locs) (hdg : decode cc pc = .ok (.getfield 18, 3)) (k : W p l e R s m args below meth c H locs 0 0 Q (F0 m (pc + 3) ls (.ref (ad 18) :: rest))) : W p l e R s m args below meth c H locs 0 0 Q (F0 m pc ls (.ref (ad 15) :: rest)) := by
  obtain ⟨hx, hb, hml, hown, hts, hK, hN, hR⟩ := F
  exact va_get (D := D) (ci := 4) (v := .ref (ad 18)) (C := R_Ta) (T := F_Ta) (N := 4) hx hb hts in_Ta hown hK hwd.1 15 rfl rfl 2 (by decide) (hts _ kC_31) (fun _ h9 => h9) rfl hdg k

theorem gfC_Ta_21 (F : fxC D cI cZ p R s m args c cc nL R_Ta fr lr) (hwd : wdC D cI cZ ad A H0 g H locs) (hdg : decode cc pc = .ok (.getfield 21, 3)) (k : W p l e R s m args below meth c H locs 0 0 Q (F0 m (pc + 3) ls (.int (g 103 0) :: rest))) : W p l e R s m args below meth c H locs 0 0 Q (F0 m pc ls (.ref (ad 15) :: rest)) := by
  obtain ⟨hx, hb, hml, hown, hts, hK, hN, hR⟩ := F
  exact va_get (D := D) (ci := 4) (v := .int (g 103 0)) (C := R_Ta) (T := F_Ta) (N := 4) hx hb hts in_Ta hown hK hwd.1 15 rfl rfl 3 (by decide) (hts _ kC_87) (fun _ h9 => h9) rfl hdg k

theorem gfC_Co_40 (F : fxC D cI cZ p R s m args c cc nL R_Co fr lr) (hwd : wdC D cI cZ ad A H0 g H locs) (hdg : decode cc pc = .ok (.getfield 40, 3)) (k : W p l e R s m args below meth c H locs 0 0 Q (F0 m (pc + 3) ls (.int (g 104 0) :: rest))) : W p l e R s m args below meth c H locs 0 0 Q (F0 m pc ls (.ref (ad 19) :: rest)) := by
  obtain ⟨hx, hb, hml, hown, hts, hK, hN, hR⟩ := F
  exact va_get (D := D) (ci := 5) (v := .int (g 104 0)) (C := R_Co) (T := F_Co) (N := 10) hx hb hts in_Co hown hK hwd.1 19 rfl rfl 7 (by decide) (hts _ kC_88) (fun _ h9 => h9) rfl hdg k

theorem gfC_Co_9 (F : fxC D cI cZ p R s m args c cc nL R_Co fr lr) (hwd : wdC D cI cZ ad A H0 g H locs) (hdg : decode cc pc = .ok (.getfield 9, 3)) (k : W p l e R s m args below meth c H locs 0 0 Q (F0 m (pc + 3) ls (.ref (ad 20) :: rest))) : W p l e R s m args below meth c H locs 0 0 Q (F0 m pc ls (.ref (ad 19) :: rest)) := by
  obtain ⟨hx, hb, hml, hown, hts, hK, hN, hR⟩ := F
  exact va_get (D := D) (ci := 5) (v := .ref (ad 20)) (C := R_Co) (T := F_Co) (N := 10) hx hb hts in_Co hown hK hwd.1 19 rfl rfl 3 (by decide) (hts _ kC_34) (fun _ h9 => h9) rfl hdg k

theorem gfC_Ta_9 (F : fxC D cI cZ p R s m args c cc nL R_Ta fr lr) (hwd : wdC D cI cZ ad A H0 g H locs) (hdg : decode cc pc = .ok (.getfield 9, 3)) (k : W p l e R s m args below meth c H locs 0 0 Q (F0 m (pc + 3) ls (.ref (ad 16) :: rest))) : W p l e R s m args below meth c H locs 0 0 Q (F0 m pc ls (.ref (ad 15) :: rest)) := by
  obtain ⟨hx, hb, hml, hown, hts, hK, hN, hR⟩ := F
  exact va_get (D := D) (ci := 4) (v := .ref (ad 16)) (C := R_Ta) (T := F_Ta) (N := 4) hx hb hts in_Ta hown hK hwd.1 15 rfl rfl 0 (by decide) (hts _ kC_29) (fun _ h9 => h9) rfl hdg k

theorem gfC_Ta_15 (F : fxC D cI cZ p R s m args c cc nL R_Ta fr lr) (hwd : wdC D cI cZ ad A H0 g H locs) (hdg : decode cc pc = .ok (.getfield 15, 3)) (k : W p l e R s m args below meth c H locs 0 0 Q (F0 m (pc + 3) ls (.ref (ad 17) :: rest))) : W p l e R s m args below meth c H locs 0 0 Q (F0 m pc ls (.ref (ad 15) :: rest)) := by
  obtain ⟨hx, hb, hml, hown, hts, hK, hN, hR⟩ := F
  exact va_get (D := D) (ci := 4) (v := .ref (ad 17)) (C := R_Ta) (T := F_Ta) (N := 4) hx hb hts in_Ta hown hK hwd.1 15 rfl rfl 1 (by decide) (hts _ kC_30) (fun _ h9 => h9) rfl hdg k

theorem gfC_Co_28 (F : fxC D cI cZ p R s m args c cc nL R_Co fr lr) (hwd : wdC D cI cZ ad A H0 g H locs) (hdg : decode cc pc = .ok (.getfield 28, 3)) (k : W p l e R s m args below meth c H locs 0 0 Q (F0 m (pc + 3) ls (.ref (ad 11) :: rest))) : W p l e R s m args below meth c H locs 0 0 Q (F0 m pc ls (.ref (ad 19) :: rest)) := by
  obtain ⟨hx, hb, hml, hown, hts, hK, hN, hR⟩ := F
  exact va_get (D := D) (ci := 5) (v := .ref (ad 11)) (C := R_Co) (T := F_Co) (N := 10) hx hb hts in_Co hown hK hwd.1 19 rfl rfl 1 (by decide) (hts _ kC_39) (fun _ h9 => h9) rfl hdg k

theorem gfC_Co_64 (F : fxC D cI cZ p R s m args c cc nL R_Co fr lr) (hwd : wdC D cI cZ ad A H0 g H locs) (hdg : decode cc pc = .ok (.getfield 64, 3)) (k : W p l e R s m args below meth c H locs 0 0 Q (F0 m (pc + 3) ls (.ref (ad 13) :: rest))) : W p l e R s m args below meth c H locs 0 0 Q (F0 m pc ls (.ref (ad 11) :: rest)) := by
  obtain ⟨hx, hb, hml, hown, hts, hK, hN, hR⟩ := F
  exact va_getN (D := D) (ci := 3) (v := .ref (ad 13)) (C := R_Cu) (T := F_Cu) (N := 5) hx hb hts in_Cu hown hK hwd.1 11 rfl rfl 2 (by decide) (va_Nw.use rfl (show va_Nw (.fieldLinkNest R_Co 64 "BranchForge$Cutter" "methodOf" "[I" "BranchForge") s from nwC_f hN nkC_8)) (fun _ h9 => h9) rfl hdg k

theorem gfC_Co_32 (F : fxC D cI cZ p R s m args c cc nL R_Co fr lr) (hwd : wdC D cI cZ ad A H0 g H locs) (hdg : decode cc pc = .ok (.getfield 32, 3)) (k : W p l e R s m args below meth c H locs 0 0 Q (F0 m (pc + 3) ls (.ref (ad 15) :: rest))) : W p l e R s m args below meth c H locs 0 0 Q (F0 m pc ls (.ref (ad 19) :: rest)) := by
  obtain ⟨hx, hb, hml, hown, hts, hK, hN, hR⟩ := F
  exact va_get (D := D) (ci := 5) (v := .ref (ad 15)) (C := R_Co) (T := F_Co) (N := 10) hx hb hts in_Co hown hK hwd.1 19 rfl rfl 2 (by decide) (hts _ kC_40) (fun _ h9 => h9) rfl hdg k

theorem gfC_Co_24 (F : fxC D cI cZ p R s m args c cc nL R_Co fr lr) (hwd : wdC D cI cZ ad A H0 g H locs) (hdg : decode cc pc = .ok (.getfield 24, 3)) (k : W p l e R s m args below meth c H locs 0 0 Q (F0 m (pc + 3) ls (.ref (ad 2) :: rest))) : W p l e R s m args below meth c H locs 0 0 Q (F0 m pc ls (.ref (ad 19) :: rest)) := by
  obtain ⟨hx, hb, hml, hown, hts, hK, hN, hR⟩ := F
  exact va_get (D := D) (ci := 5) (v := .ref (ad 2)) (C := R_Co) (T := F_Co) (N := 10) hx hb hts in_Co hown hK hwd.1 19 rfl rfl 0 (by decide) (hts _ kC_38) (fun _ h9 => h9) rfl hdg k

theorem gfC_Co_101 (F : fxC D cI cZ p R s m args c cc nL R_Co fr lr) (hwd : wdC D cI cZ ad A H0 g H locs) (hdg : decode cc pc = .ok (.getfield 101, 3)) (k : W p l e R s m args below meth c H locs 0 0 Q (F0 m (pc + 3) ls (.ref (ad 5) :: rest))) : W p l e R s m args below meth c H locs 0 0 Q (F0 m pc ls (.ref (ad 2) :: rest)) := by
  obtain ⟨hx, hb, hml, hown, hts, hK, hN, hR⟩ := F
  exact va_getN (D := D) (ci := 1) (v := .ref (ad 5)) (C := R_Fo) (T := F_Fo) (N := 8) hx hb hts in_Fo hown hK hwd.1 2 rfl rfl 2 (by decide) (va_Nw.use rfl (show va_Nw (.fieldLinkNest R_Co 101 "BranchForge$Forest" "bitsOf" "[I" "BranchForge") s from nwC_f hN nkC_9)) (fun _ h9 => h9) rfl hdg k

theorem gfC_Co_111 (F : fxC D cI cZ p R s m args c cc nL R_Co fr lr) (hwd : wdC D cI cZ ad A H0 g H locs) (hdg : decode cc pc = .ok (.getfield 111, 3)) (k : W p l e R s m args below meth c H locs 0 0 Q (F0 m (pc + 3) ls (.ref (ad 3) :: rest))) : W p l e R s m args below meth c H locs 0 0 Q (F0 m pc ls (.ref (ad 2) :: rest)) := by
  obtain ⟨hx, hb, hml, hown, hts, hK, hN, hR⟩ := F
  exact va_getN (D := D) (ci := 1) (v := .ref (ad 3)) (C := R_Fo) (T := F_Fo) (N := 8) hx hb hts in_Fo hown hK hwd.1 2 rfl rfl 0 (by decide) (va_Nw.use rfl (show va_Nw (.fieldLinkNest R_Co 111 "BranchForge$Forest" "ruleOf" "[I" "BranchForge") s from nwC_f hN nkC_10)) (fun _ h9 => h9) rfl hdg k

theorem gfC_Co_114 (F : fxC D cI cZ p R s m args c cc nL R_Co fr lr) (hwd : wdC D cI cZ ad A H0 g H locs) (hdg : decode cc pc = .ok (.getfield 114, 3)) (k : W p l e R s m args below meth c H locs 0 0 Q (F0 m (pc + 3) ls (.ref (ad 6) :: rest))) : W p l e R s m args below meth c H locs 0 0 Q (F0 m pc ls (.ref (ad 2) :: rest)) := by
  obtain ⟨hx, hb, hml, hown, hts, hK, hN, hR⟩ := F
  exact va_getN (D := D) (ci := 1) (v := .ref (ad 6)) (C := R_Fo) (T := F_Fo) (N := 8) hx hb hts in_Fo hown hK hwd.1 2 rfl rfl 3 (by decide) (va_Nw.use rfl (show va_Nw (.fieldLinkNest R_Co 114 "BranchForge$Forest" "yesOf" "[I" "BranchForge") s from nwC_f hN nkC_11)) (fun _ h9 => h9) rfl hdg k

theorem gfC_Co_126 (F : fxC D cI cZ p R s m args c cc nL R_Co fr lr) (hwd : wdC D cI cZ ad A H0 g H locs) (hdg : decode cc pc = .ok (.getfield 126, 3)) (k : W p l e R s m args below meth c H locs 0 0 Q (F0 m (pc + 3) ls (.ref (ad 7) :: rest))) : W p l e R s m args below meth c H locs 0 0 Q (F0 m pc ls (.ref (ad 2) :: rest)) := by
  obtain ⟨hx, hb, hml, hown, hts, hK, hN, hR⟩ := F
  exact va_getN (D := D) (ci := 1) (v := .ref (ad 7)) (C := R_Fo) (T := F_Fo) (N := 8) hx hb hts in_Fo hown hK hwd.1 2 rfl rfl 4 (by decide) (va_Nw.use rfl (show va_Nw (.fieldLinkNest R_Co 126 "BranchForge$Forest" "noOf" "[I" "BranchForge") s from nwC_f hN nkC_12)) (fun _ h9 => h9) rfl hdg k

theorem gfC_Co_91 (F : fxC D cI cZ p R s m args c cc nL R_Co fr lr) (hwd : wdC D cI cZ ad A H0 g H locs) (hdg : decode cc pc = .ok (.getfield 91, 3)) (k : W p l e R s m args below meth c H locs 0 0 Q (F0 m (pc + 3) ls (.ref (ad 4) :: rest))) : W p l e R s m args below meth c H locs 0 0 Q (F0 m pc ls (.ref (ad 2) :: rest)) := by
  obtain ⟨hx, hb, hml, hown, hts, hK, hN, hR⟩ := F
  exact va_getN (D := D) (ci := 1) (v := .ref (ad 4)) (C := R_Fo) (T := F_Fo) (N := 8) hx hb hts in_Fo hown hK hwd.1 2 rfl rfl 1 (by decide) (va_Nw.use rfl (show va_Nw (.fieldLinkNest R_Co 91 "BranchForge$Forest" "featureOf" "[I" "BranchForge") s from nwC_f hN nkC_13)) (fun _ h9 => h9) rfl hdg k

theorem gfC_Co_15 (F : fxC D cI cZ p R s m args c cc nL R_Co fr lr) (hwd : wdC D cI cZ ad A H0 g H locs) (hdg : decode cc pc = .ok (.getfield 15, 3)) (k : W p l e R s m args below meth c H locs 0 0 Q (F0 m (pc + 3) ls (.ref (ad 21) :: rest))) : W p l e R s m args below meth c H locs 0 0 Q (F0 m pc ls (.ref (ad 19) :: rest)) := by
  obtain ⟨hx, hb, hml, hown, hts, hK, hN, hR⟩ := F
  exact va_get (D := D) (ci := 5) (v := .ref (ad 21)) (C := R_Co) (T := F_Co) (N := 10) hx hb hts in_Co hown hK hwd.1 19 rfl rfl 4 (by decide) (hts _ kC_35) (fun _ h9 => h9) rfl hdg k

theorem gfC_Co_18 (F : fxC D cI cZ p R s m args c cc nL R_Co fr lr) (hwd : wdC D cI cZ ad A H0 g H locs) (hdg : decode cc pc = .ok (.getfield 18, 3)) (k : W p l e R s m args below meth c H locs 0 0 Q (F0 m (pc + 3) ls (.ref (ad 22) :: rest))) : W p l e R s m args below meth c H locs 0 0 Q (F0 m pc ls (.ref (ad 19) :: rest)) := by
  obtain ⟨hx, hb, hml, hown, hts, hK, hN, hR⟩ := F
  exact va_get (D := D) (ci := 5) (v := .ref (ad 22)) (C := R_Co) (T := F_Co) (N := 10) hx hb hts in_Co hown hK hwd.1 19 rfl rfl 5 (by decide) (hts _ kC_36) (fun _ h9 => h9) rfl hdg k

theorem gfC_Co_84 (F : fxC D cI cZ p R s m args c cc nL R_Co fr lr) (hwd : wdC D cI cZ ad A H0 g H locs) (hdg : decode cc pc = .ok (.getfield 84, 3)) (k : W p l e R s m args below meth c H locs 0 0 Q (F0 m (pc + 3) ls (.int (g 103 0) :: rest))) : W p l e R s m args below meth c H locs 0 0 Q (F0 m pc ls (.ref (ad 15) :: rest)) := by
  obtain ⟨hx, hb, hml, hown, hts, hK, hN, hR⟩ := F
  exact va_getN (D := D) (ci := 4) (v := .int (g 103 0)) (C := R_Ta) (T := F_Ta) (N := 4) hx hb hts in_Ta hown hK hwd.1 15 rfl rfl 3 (by decide) (va_Nw.use rfl (show va_Nw (.fieldLinkNest R_Co 84 "BranchForge$Tables" "classCount" "I" "BranchForge") s from nwC_f hN nkC_14)) (fun _ h9 => h9) rfl hdg k

theorem gfC_Co_74 (F : fxC D cI cZ p R s m args c cc nL R_Co fr lr) (hwd : wdC D cI cZ ad A H0 g H locs) (hdg : decode cc pc = .ok (.getfield 74, 3)) (k : W p l e R s m args below meth c H locs 0 0 Q (F0 m (pc + 3) ls (.ref (ad 14) :: rest))) : W p l e R s m args below meth c H locs 0 0 Q (F0 m pc ls (.ref (ad 11) :: rest)) := by
  obtain ⟨hx, hb, hml, hown, hts, hK, hN, hR⟩ := F
  exact va_getN (D := D) (ci := 3) (v := .ref (ad 14)) (C := R_Cu) (T := F_Cu) (N := 5) hx hb hts in_Cu hown hK hwd.1 11 rfl rfl 3 (by decide) (va_Nw.use rfl (show va_Nw (.fieldLinkNest R_Co 74 "BranchForge$Cutter" "nodeOf" "[I" "BranchForge") s from nwC_f hN nkC_15)) (fun _ h9 => h9) rfl hdg k

theorem gfC_Co_63 (F : fxC D cI cZ p R s m args c cc nL R_Co fr lr) (hwd : wdC D cI cZ ad A H0 g H locs) (hdg : decode cc pc = .ok (.getfield 63, 3)) (k : W p l e R s m args below meth c H locs 0 0 Q (F0 m (pc + 3) ls (.int (g 106 0) :: rest))) : W p l e R s m args below meth c H locs 0 0 Q (F0 m pc ls (.ref (ad 19) :: rest)) := by
  obtain ⟨hx, hb, hml, hown, hts, hK, hN, hR⟩ := F
  exact va_get (D := D) (ci := 5) (v := .int (g 106 0)) (C := R_Co) (T := F_Co) (N := 10) hx hb hts in_Co hown hK hwd.1 19 rfl rfl 9 (by decide) (hts _ kC_89) (fun _ h9 => h9) rfl hdg k

theorem gfC_Co_21 (F : fxC D cI cZ p R s m args c cc nL R_Co fr lr) (hwd : wdC D cI cZ ad A H0 g H locs) (hdg : decode cc pc = .ok (.getfield 21, 3)) (k : W p l e R s m args below meth c H locs 0 0 Q (F0 m (pc + 3) ls (.ref (ad 23) :: rest))) : W p l e R s m args below meth c H locs 0 0 Q (F0 m pc ls (.ref (ad 19) :: rest)) := by
  obtain ⟨hx, hb, hml, hown, hts, hK, hN, hR⟩ := F
  exact va_get (D := D) (ci := 5) (v := .ref (ad 23)) (C := R_Co) (T := F_Co) (N := 10) hx hb hts in_Co hown hK hwd.1 19 rfl rfl 6 (by decide) (hts _ kC_37) (fun _ h9 => h9) rfl hdg k

theorem gfC_Co_67 (F : fxC D cI cZ p R s m args c cc nL R_Co fr lr) (hwd : wdC D cI cZ ad A H0 g H locs) (hdg : decode cc pc = .ok (.getfield 67, 3)) (k : W p l e R s m args below meth c H locs 0 0 Q (F0 m (pc + 3) ls (.ref (ad 8) :: rest))) : W p l e R s m args below meth c H locs 0 0 Q (F0 m pc ls (.ref (ad 2) :: rest)) := by
  obtain ⟨hx, hb, hml, hown, hts, hK, hN, hR⟩ := F
  exact va_getN (D := D) (ci := 1) (v := .ref (ad 8)) (C := R_Fo) (T := F_Fo) (N := 8) hx hb hts in_Fo hown hK hwd.1 2 rfl rfl 5 (by decide) (va_Nw.use rfl (show va_Nw (.fieldLinkNest R_Co 67 "BranchForge$Forest" "rootOf" "[I" "BranchForge") s from nwC_f hN nkC_16)) (fun _ h9 => h9) rfl hdg k

theorem gfC_Co_36 (F : fxC D cI cZ p R s m args c cc nL R_Co fr lr) (hwd : wdC D cI cZ ad A H0 g H locs) (hdg : decode cc pc = .ok (.getfield 36, 3)) (k : W p l e R s m args below meth c H locs 0 0 Q (F0 m (pc + 3) ls (.int (g 105 0) :: rest))) : W p l e R s m args below meth c H locs 0 0 Q (F0 m pc ls (.ref (ad 19) :: rest)) := by
  obtain ⟨hx, hb, hml, hown, hts, hK, hN, hR⟩ := F
  exact va_get (D := D) (ci := 5) (v := .int (g 105 0)) (C := R_Co) (T := F_Co) (N := 10) hx hb hts in_Co hown hK hwd.1 19 rfl rfl 8 (by decide) (hts _ kC_90) (fun _ h9 => h9) rfl hdg k

theorem gfC_Co_58 (F : fxC D cI cZ p R s m args c cc nL R_Co fr lr) (hwd : wdC D cI cZ ad A H0 g H locs) (hdg : decode cc pc = .ok (.getfield 58, 3)) (k : W p l e R s m args below meth c H locs 0 0 Q (F0 m (pc + 3) ls (.int (g 101 0) :: rest))) : W p l e R s m args below meth c H locs 0 0 Q (F0 m pc ls (.ref (ad 2) :: rest)) := by
  obtain ⟨hx, hb, hml, hown, hts, hK, hN, hR⟩ := F
  exact va_getN (D := D) (ci := 1) (v := .int (g 101 0)) (C := R_Fo) (T := F_Fo) (N := 8) hx hb hts in_Fo hown hK hwd.1 2 rfl rfl 7 (by decide) (va_Nw.use rfl (show va_Nw (.fieldLinkNest R_Co 58 "BranchForge$Forest" "treeCount" "I" "BranchForge") s from nwC_f hN nkC_17)) (fun _ h9 => h9) rfl hdg k

theorem gfC_Co_51 (F : fxC D cI cZ p R s m args c cc nL R_Co fr lr) (hwd : wdC D cI cZ ad A H0 g H locs) (hdg : decode cc pc = .ok (.getfield 51, 3)) (k : W p l e R s m args below meth c H locs 0 0 Q (F0 m (pc + 3) ls (.int (g 102 0) :: rest))) : W p l e R s m args below meth c H locs 0 0 Q (F0 m pc ls (.ref (ad 11) :: rest)) := by
  obtain ⟨hx, hb, hml, hown, hts, hK, hN, hR⟩ := F
  exact va_getN (D := D) (ci := 3) (v := .int (g 102 0)) (C := R_Cu) (T := F_Cu) (N := 5) hx hb hts in_Cu hown hK hwd.1 11 rfl rfl 4 (by decide) (va_Nw.use rfl (show va_Nw (.fieldLinkNest R_Co 51 "BranchForge$Cutter" "methodCount" "I" "BranchForge") s from nwC_f hN nkC_18)) (fun _ h9 => h9) rfl hdg k

theorem gfC_BF_85 (F : fxC D cI cZ p R s m args c cc nL R_BF fr lr) (hwd : wdC D cI cZ ad A H0 g H locs) (hdg : decode cc pc = .ok (.getfield 85, 3)) (k : W p l e R s m args below meth c H locs 0 0 Q (F0 m (pc + 3) ls (.int (g 101 0) :: rest))) : W p l e R s m args below meth c H locs 0 0 Q (F0 m pc ls (.ref (ad 2) :: rest)) := by
  obtain ⟨hx, hb, hml, hown, hts, hK, hN, hR⟩ := F
  exact va_getN (D := D) (ci := 1) (v := .int (g 101 0)) (C := R_Fo) (T := F_Fo) (N := 8) hx hb hts in_Fo hown hK hwd.1 2 rfl rfl 7 (by decide) (va_Nw.use rfl (show va_Nw (.fieldLinkNest R_BF 85 "BranchForge$Forest" "treeCount" "I" "BranchForge") s from nwC_f hN nkC_19)) (fun _ h9 => h9) rfl hdg k

theorem gfC_BF_25 (F : fxC D cI cZ p R s m args c cc nL R_BF fr lr) (hwd : wdC D cI cZ ad A H0 g H locs) (hdg : decode cc pc = .ok (.getfield 25, 3)) (k : W p l e R s m args below meth c H locs 0 0 Q (F0 m (pc + 3) ls (.ref (ad 9) :: rest))) : W p l e R s m args below meth c H locs 0 0 Q (F0 m pc ls (.ref (ad 0) :: rest)) := by
  obtain ⟨hx, hb, hml, hown, hts, hK, hN, hR⟩ := F
  exact va_get (D := D) (ci := 0) (v := .ref (ad 9)) (C := R_BF) (T := F_BF) (N := 7) hx hb hts in_BF hown hK hwd.1 0 rfl rfl 2 (by decide) (hts _ kC_59) (fun _ h9 => h9) rfl hdg k

theorem gfC_BF_32 (F : fxC D cI cZ p R s m args c cc nL R_BF fr lr) (hwd : wdC D cI cZ ad A H0 g H locs) (hdg : decode cc pc = .ok (.getfield 32, 3)) (k : W p l e R s m args below meth c H locs 0 0 Q (F0 m (pc + 3) ls (.ref (ad 11) :: rest))) : W p l e R s m args below meth c H locs 0 0 Q (F0 m pc ls (.ref (ad 0) :: rest)) := by
  obtain ⟨hx, hb, hml, hown, hts, hK, hN, hR⟩ := F
  exact va_get (D := D) (ci := 0) (v := .ref (ad 11)) (C := R_BF) (T := F_BF) (N := 7) hx hb hts in_BF hown hK hwd.1 0 rfl rfl 3 (by decide) (hts _ kC_65) (fun _ h9 => h9) rfl hdg k

theorem gfC_BF_48 (F : fxC D cI cZ p R s m args c cc nL R_BF fr lr) (hwd : wdC D cI cZ ad A H0 g H locs) (hdg : decode cc pc = .ok (.getfield 48, 3)) (k : W p l e R s m args below meth c H locs 0 0 Q (F0 m (pc + 3) ls (.ref (ad 19) :: rest))) : W p l e R s m args below meth c H locs 0 0 Q (F0 m pc ls (.ref (ad 0) :: rest)) := by
  obtain ⟨hx, hb, hml, hown, hts, hK, hN, hR⟩ := F
  exact va_get (D := D) (ci := 0) (v := .ref (ad 19)) (C := R_BF) (T := F_BF) (N := 7) hx hb hts in_BF hown hK hwd.1 0 rfl rfl 5 (by decide) (hts _ kC_76) (fun _ h9 => h9) rfl hdg k

theorem gfC_BF_100 (F : fxC D cI cZ p R s m args c cc nL R_BF fr lr) (hwd : wdC D cI cZ ad A H0 g H locs) (hdg : decode cc pc = .ok (.getfield 100, 3)) (k : W p l e R s m args below meth c H locs 0 0 Q (F0 m (pc + 3) ls (.int (g 105 0) :: rest))) : W p l e R s m args below meth c H locs 0 0 Q (F0 m pc ls (.ref (ad 19) :: rest)) := by
  obtain ⟨hx, hb, hml, hown, hts, hK, hN, hR⟩ := F
  exact va_getN (D := D) (ci := 5) (v := .int (g 105 0)) (C := R_Co) (T := F_Co) (N := 10) hx hb hts in_Co hown hK hwd.1 19 rfl rfl 8 (by decide) (va_Nw.use rfl (show va_Nw (.fieldLinkNest R_BF 100 "BranchForge$Code" "methodCount" "I" "BranchForge") s from nwC_f hN nkC_20)) (fun _ h9 => h9) rfl hdg k

theorem gfC_BF_106 (F : fxC D cI cZ p R s m args c cc nL R_BF fr lr) (hwd : wdC D cI cZ ad A H0 g H locs) (hdg : decode cc pc = .ok (.getfield 106, 3)) (k : W p l e R s m args below meth c H locs 0 0 Q (F0 m (pc + 3) ls (.ref (ad 21) :: rest))) : W p l e R s m args below meth c H locs 0 0 Q (F0 m pc ls (.ref (ad 19) :: rest)) := by
  obtain ⟨hx, hb, hml, hown, hts, hK, hN, hR⟩ := F
  exact va_getN (D := D) (ci := 5) (v := .ref (ad 21)) (C := R_Co) (T := F_Co) (N := 10) hx hb hts in_Co hown hK hwd.1 19 rfl rfl 4 (by decide) (va_Nw.use rfl (show va_Nw (.fieldLinkNest R_BF 106 "BranchForge$Code" "startOf" "[I" "BranchForge") s from nwC_f hN nkC_21)) (fun _ h9 => h9) rfl hdg k

theorem gfC_BF_112 (F : fxC D cI cZ p R s m args c cc nL R_BF fr lr) (hwd : wdC D cI cZ ad A H0 g H locs) (hdg : decode cc pc = .ok (.getfield 112, 3)) (k : W p l e R s m args below meth c H locs 0 0 Q (F0 m (pc + 3) ls (.ref (ad 20) :: rest))) : W p l e R s m args below meth c H locs 0 0 Q (F0 m pc ls (.ref (ad 19) :: rest)) := by
  obtain ⟨hx, hb, hml, hown, hts, hK, hN, hR⟩ := F
  exact va_getN (D := D) (ci := 5) (v := .ref (ad 20)) (C := R_Co) (T := F_Co) (N := 10) hx hb hts in_Co hown hK hwd.1 19 rfl rfl 3 (by decide) (va_Nw.use rfl (show va_Nw (.fieldLinkNest R_BF 112 "BranchForge$Code" "bytes" "[I" "BranchForge") s from nwC_f hN nkC_22)) (fun _ h9 => h9) rfl hdg k

theorem gfC_BF_115 (F : fxC D cI cZ p R s m args c cc nL R_BF fr lr) (hwd : wdC D cI cZ ad A H0 g H locs) (hdg : decode cc pc = .ok (.getfield 115, 3)) (k : W p l e R s m args below meth c H locs 0 0 Q (F0 m (pc + 3) ls (.ref (ad 22) :: rest))) : W p l e R s m args below meth c H locs 0 0 Q (F0 m pc ls (.ref (ad 19) :: rest)) := by
  obtain ⟨hx, hb, hml, hown, hts, hK, hN, hR⟩ := F
  exact va_getN (D := D) (ci := 5) (v := .ref (ad 22)) (C := R_Co) (T := F_Co) (N := 10) hx hb hts in_Co hown hK hwd.1 19 rfl rfl 5 (by decide) (va_Nw.use rfl (show va_Nw (.fieldLinkNest R_BF 115 "BranchForge$Code" "homeOf" "[I" "BranchForge") s from nwC_f hN nkC_23)) (fun _ h9 => h9) rfl hdg k

theorem gfC_BF_39 (F : fxC D cI cZ p R s m args c cc nL R_BF fr lr) (hwd : wdC D cI cZ ad A H0 g H locs) (hdg : decode cc pc = .ok (.getfield 39, 3)) (k : W p l e R s m args below meth c H locs 0 0 Q (F0 m (pc + 3) ls (.ref (ad 15) :: rest))) : W p l e R s m args below meth c H locs 0 0 Q (F0 m pc ls (.ref (ad 0) :: rest)) := by
  obtain ⟨hx, hb, hml, hown, hts, hK, hN, hR⟩ := F
  exact va_get (D := D) (ci := 0) (v := .ref (ad 15)) (C := R_BF) (T := F_BF) (N := 7) hx hb hts in_BF hown hK hwd.1 0 rfl rfl 4 (by decide) (hts _ kC_70) (fun _ h9 => h9) rfl hdg k

theorem gfC_BF_118 (F : fxC D cI cZ p R s m args c cc nL R_BF fr lr) (hwd : wdC D cI cZ ad A H0 g H locs) (hdg : decode cc pc = .ok (.getfield 118, 3)) (k : W p l e R s m args below meth c H locs 0 0 Q (F0 m (pc + 3) ls (.int (g 103 0) :: rest))) : W p l e R s m args below meth c H locs 0 0 Q (F0 m pc ls (.ref (ad 15) :: rest)) := by
  obtain ⟨hx, hb, hml, hown, hts, hK, hN, hR⟩ := F
  exact va_getN (D := D) (ci := 4) (v := .int (g 103 0)) (C := R_Ta) (T := F_Ta) (N := 4) hx hb hts in_Ta hown hK hwd.1 15 rfl rfl 3 (by decide) (va_Nw.use rfl (show va_Nw (.fieldLinkNest R_BF 118 "BranchForge$Tables" "classCount" "I" "BranchForge") s from nwC_f hN nkC_24)) (fun _ h9 => h9) rfl hdg k

theorem gfC_BF_132 (F : fxC D cI cZ p R s m args c cc nL R_BF fr lr) (hwd : wdC D cI cZ ad A H0 g H locs) (hdg : decode cc pc = .ok (.getfield 132, 3)) (k : W p l e R s m args below meth c H locs 0 0 Q (F0 m (pc + 3) ls (.ref (ad 18) :: rest))) : W p l e R s m args below meth c H locs 0 0 Q (F0 m pc ls (.ref (ad 15) :: rest)) := by
  obtain ⟨hx, hb, hml, hown, hts, hK, hN, hR⟩ := F
  exact va_getN (D := D) (ci := 4) (v := .ref (ad 18)) (C := R_Ta) (T := F_Ta) (N := 4) hx hb hts in_Ta hown hK hwd.1 15 rfl rfl 2 (by decide) (va_Nw.use rfl (show va_Nw (.fieldLinkNest R_BF 132 "BranchForge$Tables" "startOf" "[I" "BranchForge") s from nwC_f hN nkC_25)) (fun _ h9 => h9) rfl hdg k

theorem gfC_BF_133 (F : fxC D cI cZ p R s m args c cc nL R_BF fr lr) (hwd : wdC D cI cZ ad A H0 g H locs) (hdg : decode cc pc = .ok (.getfield 133, 3)) (k : W p l e R s m args below meth c H locs 0 0 Q (F0 m (pc + 3) ls (.ref (ad 16) :: rest))) : W p l e R s m args below meth c H locs 0 0 Q (F0 m pc ls (.ref (ad 15) :: rest)) := by
  obtain ⟨hx, hb, hml, hown, hts, hK, hN, hR⟩ := F
  exact va_getN (D := D) (ci := 4) (v := .ref (ad 16)) (C := R_Ta) (T := F_Ta) (N := 4) hx hb hts in_Ta hown hK hwd.1 15 rfl rfl 0 (by decide) (va_Nw.use rfl (show va_Nw (.fieldLinkNest R_BF 133 "BranchForge$Tables" "kindAt" "[I" "BranchForge") s from nwC_f hN nkC_26)) (fun _ h9 => h9) rfl hdg k

theorem gfC_BF_136 (F : fxC D cI cZ p R s m args c cc nL R_BF fr lr) (hwd : wdC D cI cZ ad A H0 g H locs) (hdg : decode cc pc = .ok (.getfield 136, 3)) (k : W p l e R s m args below meth c H locs 0 0 Q (F0 m (pc + 3) ls (.ref (ad 17) :: rest))) : W p l e R s m args below meth c H locs 0 0 Q (F0 m pc ls (.ref (ad 15) :: rest)) := by
  obtain ⟨hx, hb, hml, hown, hts, hK, hN, hR⟩ := F
  exact va_getN (D := D) (ci := 4) (v := .ref (ad 17)) (C := R_Ta) (T := F_Ta) (N := 4) hx hb hts in_Ta hown hK hwd.1 15 rfl rfl 1 (by decide) (va_Nw.use rfl (show va_Nw (.fieldLinkNest R_BF 136 "BranchForge$Tables" "bitsAt" "[I" "BranchForge") s from nwC_f hN nkC_27)) (fun _ h9 => h9) rfl hdg k

theorem gfC_BF_9 (F : fxC D cI cZ p R s m args c cc nL R_BF fr lr) (hwd : wdC D cI cZ ad A H0 g H locs) (hdg : decode cc pc = .ok (.getfield 9, 3)) (k : W p l e R s m args below meth c H locs 0 0 Q (F0 m (pc + 3) ls (.ref (ad 1) :: rest))) : W p l e R s m args below meth c H locs 0 0 Q (F0 m pc ls (.ref (ad 0) :: rest)) := by
  obtain ⟨hx, hb, hml, hown, hts, hK, hN, hR⟩ := F
  exact va_get (D := D) (ci := 0) (v := .ref (ad 1)) (C := R_BF) (T := F_BF) (N := 7) hx hb hts in_BF hown hK hwd.1 0 rfl rfl 0 (by decide) (hts _ kC_48) (fun _ h9 => h9) rfl hdg k

theorem gfC_Ma_9 (F : fxC D cI cZ p R s m args c cc nL R_Ma fr lr) (hwd : wdC D cI cZ ad A H0 g H locs) (hdg : decode cc pc = .ok (.getfield 9, 3)) (k : W p l e R s m args below meth c H locs 0 0 Q (F0 m (pc + 3) ls (.ref (ad 19) :: rest))) : W p l e R s m args below meth c H locs 0 0 Q (F0 m pc ls (.ref (ad 24) :: rest)) := by
  obtain ⟨hx, hb, hml, hown, hts, hK, hN, hR⟩ := F
  exact va_get (D := D) (ci := 6) (v := .ref (ad 19)) (C := R_Ma) (T := F_Ma) (N := 5) hx hb hts in_Ma hown hK hwd.1 24 rfl rfl 0 (by decide) (hts _ kC_43) (fun _ h9 => h9) rfl hdg k

theorem gfC_Ma_15 (F : fxC D cI cZ p R s m args c cc nL R_Ma fr lr) (hwd : wdC D cI cZ ad A H0 g H locs) (hdg : decode cc pc = .ok (.getfield 15, 3)) (k : W p l e R s m args below meth c H locs 0 0 Q (F0 m (pc + 3) ls (.ref (ad 15) :: rest))) : W p l e R s m args below meth c H locs 0 0 Q (F0 m pc ls (.ref (ad 24) :: rest)) := by
  obtain ⟨hx, hb, hml, hown, hts, hK, hN, hR⟩ := F
  exact va_get (D := D) (ci := 6) (v := .ref (ad 15)) (C := R_Ma) (T := F_Ma) (N := 5) hx hb hts in_Ma hown hK hwd.1 24 rfl rfl 1 (by decide) (hts _ kC_44) (fun _ h9 => h9) rfl hdg k

theorem gfC_Ma_72 (F : fxC D cI cZ p R s m args c cc nL R_Ma fr lr) (hwd : wdC D cI cZ ad A H0 g H locs) (hdg : decode cc pc = .ok (.getfield 72, 3)) (k : W p l e R s m args below meth c H locs 0 0 Q (F0 m (pc + 3) ls (.ref (ad 17) :: rest))) : W p l e R s m args below meth c H locs 0 0 Q (F0 m pc ls (.ref (ad 15) :: rest)) := by
  obtain ⟨hx, hb, hml, hown, hts, hK, hN, hR⟩ := F
  exact va_getN (D := D) (ci := 4) (v := .ref (ad 17)) (C := R_Ta) (T := F_Ta) (N := 4) hx hb hts in_Ta hown hK hwd.1 15 rfl rfl 1 (by decide) (va_Nw.use rfl (show va_Nw (.fieldLinkNest R_Ma 72 "BranchForge$Tables" "bitsAt" "[I" "BranchForge") s from nwC_f hN nkC_28)) (fun _ h9 => h9) rfl hdg k

theorem gfC_Ma_75 (F : fxC D cI cZ p R s m args c cc nL R_Ma fr lr) (hwd : wdC D cI cZ ad A H0 g H locs) (hdg : decode cc pc = .ok (.getfield 75, 3)) (k : W p l e R s m args below meth c H locs 0 0 Q (F0 m (pc + 3) ls (.ref (ad 18) :: rest))) : W p l e R s m args below meth c H locs 0 0 Q (F0 m pc ls (.ref (ad 15) :: rest)) := by
  obtain ⟨hx, hb, hml, hown, hts, hK, hN, hR⟩ := F
  exact va_getN (D := D) (ci := 4) (v := .ref (ad 18)) (C := R_Ta) (T := F_Ta) (N := 4) hx hb hts in_Ta hown hK hwd.1 15 rfl rfl 2 (by decide) (va_Nw.use rfl (show va_Nw (.fieldLinkNest R_Ma 75 "BranchForge$Tables" "startOf" "[I" "BranchForge") s from nwC_f hN nkC_29)) (fun _ h9 => h9) rfl hdg k

theorem gfC_Ma_19 (F : fxC D cI cZ p R s m args c cc nL R_Ma fr lr) (hwd : wdC D cI cZ ad A H0 g H locs) (hdg : decode cc pc = .ok (.getfield 19, 3)) (k : W p l e R s m args below meth c H locs 0 0 Q (F0 m (pc + 3) ls (.ref (ad 1) :: rest))) : W p l e R s m args below meth c H locs 0 0 Q (F0 m pc ls (.ref (ad 24) :: rest)) := by
  obtain ⟨hx, hb, hml, hown, hts, hK, hN, hR⟩ := F
  exact va_get (D := D) (ci := 6) (v := .ref (ad 1)) (C := R_Ma) (T := F_Ma) (N := 5) hx hb hts in_Ma hown hK hwd.1 24 rfl rfl 2 (by decide) (hts _ kC_45) (fun _ h9 => h9) rfl hdg k

theorem gfC_Ma_23 (F : fxC D cI cZ p R s m args c cc nL R_Ma fr lr) (hwd : wdC D cI cZ ad A H0 g H locs) (hdg : decode cc pc = .ok (.getfield 23, 3)) (k : W p l e R s m args below meth c H locs 0 0 Q (F0 m (pc + 3) ls (.int (g 107 0) :: rest))) : W p l e R s m args below meth c H locs 0 0 Q (F0 m pc ls (.ref (ad 24) :: rest)) := by
  obtain ⟨hx, hb, hml, hown, hts, hK, hN, hR⟩ := F
  exact va_get (D := D) (ci := 6) (v := .int (g 107 0)) (C := R_Ma) (T := F_Ma) (N := 5) hx hb hts in_Ma hown hK hwd.1 24 rfl rfl 3 (by decide) (hts _ kC_91) (fun _ h9 => h9) rfl hdg k

theorem gfC_Ma_57 (F : fxC D cI cZ p R s m args c cc nL R_Ma fr lr) (hwd : wdC D cI cZ ad A H0 g H locs) (hdg : decode cc pc = .ok (.getfield 57, 3)) (k : W p l e R s m args below meth c H locs 0 0 Q (F0 m (pc + 3) ls (.ref (ad 22) :: rest))) : W p l e R s m args below meth c H locs 0 0 Q (F0 m pc ls (.ref (ad 19) :: rest)) := by
  obtain ⟨hx, hb, hml, hown, hts, hK, hN, hR⟩ := F
  exact va_getN (D := D) (ci := 5) (v := .ref (ad 22)) (C := R_Co) (T := F_Co) (N := 10) hx hb hts in_Co hown hK hwd.1 19 rfl rfl 5 (by decide) (va_Nw.use rfl (show va_Nw (.fieldLinkNest R_Ma 57 "BranchForge$Code" "homeOf" "[I" "BranchForge") s from nwC_f hN nkC_30)) (fun _ h9 => h9) rfl hdg k

theorem gfC_Ma_27 (F : fxC D cI cZ p R s m args c cc nL R_Ma fr lr) (hwd : wdC D cI cZ ad A H0 g H locs) (hdg : decode cc pc = .ok (.getfield 27, 3)) (k : W p l e R s m args below meth c H locs 0 0 Q (F0 m (pc + 3) ls (.int (g 108 0) :: rest))) : W p l e R s m args below meth c H locs 0 0 Q (F0 m pc ls (.ref (ad 24) :: rest)) := by
  obtain ⟨hx, hb, hml, hown, hts, hK, hN, hR⟩ := F
  exact va_get (D := D) (ci := 6) (v := .int (g 108 0)) (C := R_Ma) (T := F_Ma) (N := 5) hx hb hts in_Ma hown hK hwd.1 24 rfl rfl 4 (by decide) (hts _ kC_92) (fun _ h9 => h9) rfl hdg k

theorem gfC_Ma_46 (F : fxC D cI cZ p R s m args c cc nL R_Ma fr lr) (hwd : wdC D cI cZ ad A H0 g H locs) (hdg : decode cc pc = .ok (.getfield 46, 3)) (k : W p l e R s m args below meth c H locs 0 0 Q (F0 m (pc + 3) ls (.ref (ad 21) :: rest))) : W p l e R s m args below meth c H locs 0 0 Q (F0 m pc ls (.ref (ad 19) :: rest)) := by
  obtain ⟨hx, hb, hml, hown, hts, hK, hN, hR⟩ := F
  exact va_getN (D := D) (ci := 5) (v := .ref (ad 21)) (C := R_Co) (T := F_Co) (N := 10) hx hb hts in_Co hown hK hwd.1 19 rfl rfl 4 (by decide) (va_Nw.use rfl (show va_Nw (.fieldLinkNest R_Ma 46 "BranchForge$Code" "startOf" "[I" "BranchForge") s from nwC_f hN nkC_31)) (fun _ h9 => h9) rfl hdg k

theorem gfC_Ma_30 (F : fxC D cI cZ p R s m args c cc nL R_Ma fr lr) (hwd : wdC D cI cZ ad A H0 g H locs) (hdg : decode cc pc = .ok (.getfield 30, 3)) (k : W p l e R s m args below meth c H locs 0 0 Q (F0 m (pc + 3) ls (.int (g 106 0) :: rest))) : W p l e R s m args below meth c H locs 0 0 Q (F0 m pc ls (.ref (ad 19) :: rest)) := by
  obtain ⟨hx, hb, hml, hown, hts, hK, hN, hR⟩ := F
  exact va_getN (D := D) (ci := 5) (v := .int (g 106 0)) (C := R_Co) (T := F_Co) (N := 10) hx hb hts in_Co hown hK hwd.1 19 rfl rfl 9 (by decide) (va_Nw.use rfl (show va_Nw (.fieldLinkNest R_Ma 30 "BranchForge$Code" "treeCount" "I" "BranchForge") s from nwC_f hN nkC_32)) (fun _ h9 => h9) rfl hdg k

theorem gfC_Ma_35 (F : fxC D cI cZ p R s m args c cc nL R_Ma fr lr) (hwd : wdC D cI cZ ad A H0 g H locs) (hdg : decode cc pc = .ok (.getfield 35, 3)) (k : W p l e R s m args below meth c H locs 0 0 Q (F0 m (pc + 3) ls (.ref (ad 23) :: rest))) : W p l e R s m args below meth c H locs 0 0 Q (F0 m pc ls (.ref (ad 19) :: rest)) := by
  obtain ⟨hx, hb, hml, hown, hts, hK, hN, hR⟩ := F
  exact va_getN (D := D) (ci := 5) (v := .ref (ad 23)) (C := R_Co) (T := F_Co) (N := 10) hx hb hts in_Co hown hK hwd.1 19 rfl rfl 6 (by decide) (va_Nw.use rfl (show va_Nw (.fieldLinkNest R_Ma 35 "BranchForge$Code" "rootMethodOf" "[I" "BranchForge") s from nwC_f hN nkC_33)) (fun _ h9 => h9) rfl hdg k

theorem gfC_BF_57 (F : fxC D cI cZ p R s m args c cc nL R_BF fr lr) (hwd : wdC D cI cZ ad A H0 g H locs) (hdg : decode cc pc = .ok (.getfield 57, 3)) (k : W p l e R s m args below meth c H locs 0 0 Q (F0 m (pc + 3) ls (.ref (ad 24) :: rest))) : W p l e R s m args below meth c H locs 0 0 Q (F0 m pc ls (.ref (ad 0) :: rest)) := by
  obtain ⟨hx, hb, hml, hown, hts, hK, hN, hR⟩ := F
  exact va_get (D := D) (ci := 0) (v := .ref (ad 24)) (C := R_BF) (T := F_BF) (N := 7) hx hb hts in_BF hown hK hwd.1 0 rfl rfl 6 (by decide) (hts _ kC_82) (fun _ h9 => h9) rfl hdg k

theorem gfC_BF_145 (F : fxC D cI cZ p R s m args c cc nL R_BF fr lr) (hwd : wdC D cI cZ ad A H0 g H locs) (hdg : decode cc pc = .ok (.getfield 145, 3)) (k : W p l e R s m args below meth c H locs 0 0 Q (F0 m (pc + 3) ls (.int (g 107 0) :: rest))) : W p l e R s m args below meth c H locs 0 0 Q (F0 m pc ls (.ref (ad 24) :: rest)) := by
  obtain ⟨hx, hb, hml, hown, hts, hK, hN, hR⟩ := F
  exact va_getN (D := D) (ci := 6) (v := .int (g 107 0)) (C := R_Ma) (T := F_Ma) (N := 5) hx hb hts in_Ma hown hK hwd.1 24 rfl rfl 3 (by decide) (va_Nw.use rfl (show va_Nw (.fieldLinkNest R_BF 145 "BranchForge$Machine" "stepCount" "I" "BranchForge") s from nwC_f hN nkC_34)) (fun _ h9 => h9) rfl hdg k

theorem gfC_BF_148 (F : fxC D cI cZ p R s m args c cc nL R_BF fr lr) (hwd : wdC D cI cZ ad A H0 g H locs) (hdg : decode cc pc = .ok (.getfield 148, 3)) (k : W p l e R s m args below meth c H locs 0 0 Q (F0 m (pc + 3) ls (.int (g 108 0) :: rest))) : W p l e R s m args below meth c H locs 0 0 Q (F0 m pc ls (.ref (ad 24) :: rest)) := by
  obtain ⟨hx, hb, hml, hown, hts, hK, hN, hR⟩ := F
  exact va_getN (D := D) (ci := 6) (v := .int (g 108 0)) (C := R_Ma) (T := F_Ma) (N := 5) hx hb hts in_Ma hown hK hwd.1 24 rfl rfl 4 (by decide) (va_Nw.use rfl (show va_Nw (.fieldLinkNest R_BF 148 "BranchForge$Machine" "callCount" "I" "BranchForge") s from nwC_f hN nkC_35)) (fun _ h9 => h9) rfl hdg k

theorem gfC_BF_151 (F : fxC D cI cZ p R s m args c cc nL R_BF fr lr) (hwd : wdC D cI cZ ad A H0 g H locs) (hdg : decode cc pc = .ok (.getfield 151, 3)) (k : W p l e R s m args below meth c H locs 0 0 Q (F0 m (pc + 3) ls (.int (g 106 0) :: rest))) : W p l e R s m args below meth c H locs 0 0 Q (F0 m pc ls (.ref (ad 19) :: rest)) := by
  obtain ⟨hx, hb, hml, hown, hts, hK, hN, hR⟩ := F
  exact va_getN (D := D) (ci := 5) (v := .int (g 106 0)) (C := R_Co) (T := F_Co) (N := 10) hx hb hts in_Co hown hK hwd.1 19 rfl rfl 9 (by decide) (va_Nw.use rfl (show va_Nw (.fieldLinkNest R_BF 151 "BranchForge$Code" "treeCount" "I" "BranchForge") s from nwC_f hN nkC_36)) (fun _ h9 => h9) rfl hdg k

theorem gfC_BF_152 (F : fxC D cI cZ p R s m args c cc nL R_BF fr lr) (hwd : wdC D cI cZ ad A H0 g H locs) (hdg : decode cc pc = .ok (.getfield 152, 3)) (k : W p l e R s m args below meth c H locs 0 0 Q (F0 m (pc + 3) ls (.ref (ad 8) :: rest))) : W p l e R s m args below meth c H locs 0 0 Q (F0 m pc ls (.ref (ad 2) :: rest)) := by
  obtain ⟨hx, hb, hml, hown, hts, hK, hN, hR⟩ := F
  exact va_getN (D := D) (ci := 1) (v := .ref (ad 8)) (C := R_Fo) (T := F_Fo) (N := 8) hx hb hts in_Fo hown hK hwd.1 2 rfl rfl 5 (by decide) (va_Nw.use rfl (show va_Nw (.fieldLinkNest R_BF 152 "BranchForge$Forest" "rootOf" "[I" "BranchForge") s from nwC_f hN nkC_37)) (fun _ h9 => h9) rfl hdg k

theorem pfC_Fo_30 {v : Int32} (F : fxC D cI cZ p R s m args c cc nL R_Fo fr lr) (hwd : wdC D cI cZ ad A H0 g H locs) (hdg : decode cc pc = .ok (.putfield 30, 3)) (k : ∀ (H : Heap) (locs : List Loc), wdC D cI cZ ad A H0 (sc g 100 v) H locs → W p l e R s m args below meth c H locs 0 0 Q (F0 m (pc + 3) ls rest)) : W p l e R s m args below meth c H locs 0 0 Q (F0 m pc ls (.int v :: .ref (ad 2) :: rest)) := by
  obtain ⟨hx, hb, hml, hown, hts, hK, hN, hR⟩ := F
  obtain ⟨hP, hD, hS, hA⟩ := hwd
  exact va_put (D := D) (ci := 1) (v := .int v) (ty := .int) (C := R_Fo) (T := F_Fo) (N := 8) hx hb hts in_Fo t_Fo t_Fo_ok n_Fo hown hK hP hD hS 2 rfl rfl 6 (by decide) (hts _ kC_84) (fun _ h9 => h9) rfl (by decide +kernel) rfl rfl (Nat.le_of_ble_eq_true rfl) hdg (fun H locs h1 h2 h3 => k H locs ⟨h1, h2, h3, hA⟩)

theorem pfC_Fo_34 {v : Int32} (F : fxC D cI cZ p R s m args c cc nL R_Fo fr lr) (hwd : wdC D cI cZ ad A H0 g H locs) (hdg : decode cc pc = .ok (.putfield 34, 3)) (k : ∀ (H : Heap) (locs : List Loc), wdC D cI cZ ad A H0 (sc g 101 v) H locs → W p l e R s m args below meth c H locs 0 0 Q (F0 m (pc + 3) ls rest)) : W p l e R s m args below meth c H locs 0 0 Q (F0 m pc ls (.int v :: .ref (ad 2) :: rest)) := by
  obtain ⟨hx, hb, hml, hown, hts, hK, hN, hR⟩ := F
  obtain ⟨hP, hD, hS, hA⟩ := hwd
  exact va_put (D := D) (ci := 1) (v := .int v) (ty := .int) (C := R_Fo) (T := F_Fo) (N := 8) hx hb hts in_Fo t_Fo t_Fo_ok n_Fo hown hK hP hD hS 2 rfl rfl 7 (by decide) (hts _ kC_85) (fun _ h9 => h9) rfl (by decide +kernel) rfl rfl (Nat.le_of_ble_eq_true rfl) hdg (fun H locs h1 h2 h3 => k H locs ⟨h1, h2, h3, hA⟩)

theorem pfC_Cu_25 {v : Int32} (F : fxC D cI cZ p R s m args c cc nL R_Cu fr lr) (hwd : wdC D cI cZ ad A H0 g H locs) (hdg : decode cc pc = .ok (.putfield 25, 3)) (k : ∀ (H : Heap) (locs : List Loc), wdC D cI cZ ad A H0 (sc g 102 v) H locs → W p l e R s m args below meth c H locs 0 0 Q (F0 m (pc + 3) ls rest)) : W p l e R s m args below meth c H locs 0 0 Q (F0 m pc ls (.int v :: .ref (ad 11) :: rest)) := by
  obtain ⟨hx, hb, hml, hown, hts, hK, hN, hR⟩ := F
  obtain ⟨hP, hD, hS, hA⟩ := hwd
  exact va_put (D := D) (ci := 3) (v := .int v) (ty := .int) (C := R_Cu) (T := F_Cu) (N := 5) hx hb hts in_Cu t_Cu t_Cu_ok n_Cu hown hK hP hD hS 11 rfl rfl 4 (by decide) (hts _ kC_86) (fun _ h9 => h9) rfl (by decide +kernel) rfl rfl (Nat.le_of_ble_eq_true rfl) hdg (fun H locs h1 h2 h3 => k H locs ⟨h1, h2, h3, hA⟩)

theorem pfC_Ta_21 {v : Int32} (F : fxC D cI cZ p R s m args c cc nL R_Ta fr lr) (hwd : wdC D cI cZ ad A H0 g H locs) (hdg : decode cc pc = .ok (.putfield 21, 3)) (k : ∀ (H : Heap) (locs : List Loc), wdC D cI cZ ad A H0 (sc g 103 v) H locs → W p l e R s m args below meth c H locs 0 0 Q (F0 m (pc + 3) ls rest)) : W p l e R s m args below meth c H locs 0 0 Q (F0 m pc ls (.int v :: .ref (ad 15) :: rest)) := by
  obtain ⟨hx, hb, hml, hown, hts, hK, hN, hR⟩ := F
  obtain ⟨hP, hD, hS, hA⟩ := hwd
  exact va_put (D := D) (ci := 4) (v := .int v) (ty := .int) (C := R_Ta) (T := F_Ta) (N := 4) hx hb hts in_Ta t_Ta t_Ta_ok n_Ta hown hK hP hD hS 15 rfl rfl 3 (by decide) (hts _ kC_87) (fun _ h9 => h9) rfl (by decide +kernel) rfl rfl (Nat.le_of_ble_eq_true rfl) hdg (fun H locs h1 h2 h3 => k H locs ⟨h1, h2, h3, hA⟩)

theorem pfC_Co_40 {v : Int32} (F : fxC D cI cZ p R s m args c cc nL R_Co fr lr) (hwd : wdC D cI cZ ad A H0 g H locs) (hdg : decode cc pc = .ok (.putfield 40, 3)) (k : ∀ (H : Heap) (locs : List Loc), wdC D cI cZ ad A H0 (sc g 104 v) H locs → W p l e R s m args below meth c H locs 0 0 Q (F0 m (pc + 3) ls rest)) : W p l e R s m args below meth c H locs 0 0 Q (F0 m pc ls (.int v :: .ref (ad 19) :: rest)) := by
  obtain ⟨hx, hb, hml, hown, hts, hK, hN, hR⟩ := F
  obtain ⟨hP, hD, hS, hA⟩ := hwd
  exact va_put (D := D) (ci := 5) (v := .int v) (ty := .int) (C := R_Co) (T := F_Co) (N := 10) hx hb hts in_Co t_Co t_Co_ok n_Co hown hK hP hD hS 19 rfl rfl 7 (by decide) (hts _ kC_88) (fun _ h9 => h9) rfl (by decide +kernel) rfl rfl (Nat.le_of_ble_eq_true rfl) hdg (fun H locs h1 h2 h3 => k H locs ⟨h1, h2, h3, hA⟩)

theorem pfC_Co_63 {v : Int32} (F : fxC D cI cZ p R s m args c cc nL R_Co fr lr) (hwd : wdC D cI cZ ad A H0 g H locs) (hdg : decode cc pc = .ok (.putfield 63, 3)) (k : ∀ (H : Heap) (locs : List Loc), wdC D cI cZ ad A H0 (sc g 106 v) H locs → W p l e R s m args below meth c H locs 0 0 Q (F0 m (pc + 3) ls rest)) : W p l e R s m args below meth c H locs 0 0 Q (F0 m pc ls (.int v :: .ref (ad 19) :: rest)) := by
  obtain ⟨hx, hb, hml, hown, hts, hK, hN, hR⟩ := F
  obtain ⟨hP, hD, hS, hA⟩ := hwd
  exact va_put (D := D) (ci := 5) (v := .int v) (ty := .int) (C := R_Co) (T := F_Co) (N := 10) hx hb hts in_Co t_Co t_Co_ok n_Co hown hK hP hD hS 19 rfl rfl 9 (by decide) (hts _ kC_89) (fun _ h9 => h9) rfl (by decide +kernel) rfl rfl (Nat.le_of_ble_eq_true rfl) hdg (fun H locs h1 h2 h3 => k H locs ⟨h1, h2, h3, hA⟩)

theorem pfC_Co_36 {v : Int32} (F : fxC D cI cZ p R s m args c cc nL R_Co fr lr) (hwd : wdC D cI cZ ad A H0 g H locs) (hdg : decode cc pc = .ok (.putfield 36, 3)) (k : ∀ (H : Heap) (locs : List Loc), wdC D cI cZ ad A H0 (sc g 105 v) H locs → W p l e R s m args below meth c H locs 0 0 Q (F0 m (pc + 3) ls rest)) : W p l e R s m args below meth c H locs 0 0 Q (F0 m pc ls (.int v :: .ref (ad 19) :: rest)) := by
  obtain ⟨hx, hb, hml, hown, hts, hK, hN, hR⟩ := F
  obtain ⟨hP, hD, hS, hA⟩ := hwd
  exact va_put (D := D) (ci := 5) (v := .int v) (ty := .int) (C := R_Co) (T := F_Co) (N := 10) hx hb hts in_Co t_Co t_Co_ok n_Co hown hK hP hD hS 19 rfl rfl 8 (by decide) (hts _ kC_90) (fun _ h9 => h9) rfl (by decide +kernel) rfl rfl (Nat.le_of_ble_eq_true rfl) hdg (fun H locs h1 h2 h3 => k H locs ⟨h1, h2, h3, hA⟩)

theorem pfC_Ma_23 {v : Int32} (F : fxC D cI cZ p R s m args c cc nL R_Ma fr lr) (hwd : wdC D cI cZ ad A H0 g H locs) (hdg : decode cc pc = .ok (.putfield 23, 3)) (k : ∀ (H : Heap) (locs : List Loc), wdC D cI cZ ad A H0 (sc g 107 v) H locs → W p l e R s m args below meth c H locs 0 0 Q (F0 m (pc + 3) ls rest)) : W p l e R s m args below meth c H locs 0 0 Q (F0 m pc ls (.int v :: .ref (ad 24) :: rest)) := by
  obtain ⟨hx, hb, hml, hown, hts, hK, hN, hR⟩ := F
  obtain ⟨hP, hD, hS, hA⟩ := hwd
  exact va_put (D := D) (ci := 6) (v := .int v) (ty := .int) (C := R_Ma) (T := F_Ma) (N := 5) hx hb hts in_Ma t_Ma t_Ma_ok n_Ma hown hK hP hD hS 24 rfl rfl 3 (by decide) (hts _ kC_91) (fun _ h9 => h9) rfl (by decide +kernel) rfl rfl (Nat.le_of_ble_eq_true rfl) hdg (fun H locs h1 h2 h3 => k H locs ⟨h1, h2, h3, hA⟩)

theorem pfC_Ma_27 {v : Int32} (F : fxC D cI cZ p R s m args c cc nL R_Ma fr lr) (hwd : wdC D cI cZ ad A H0 g H locs) (hdg : decode cc pc = .ok (.putfield 27, 3)) (k : ∀ (H : Heap) (locs : List Loc), wdC D cI cZ ad A H0 (sc g 108 v) H locs → W p l e R s m args below meth c H locs 0 0 Q (F0 m (pc + 3) ls rest)) : W p l e R s m args below meth c H locs 0 0 Q (F0 m pc ls (.int v :: .ref (ad 24) :: rest)) := by
  obtain ⟨hx, hb, hml, hown, hts, hK, hN, hR⟩ := F
  obtain ⟨hP, hD, hS, hA⟩ := hwd
  exact va_put (D := D) (ci := 6) (v := .int v) (ty := .int) (C := R_Ma) (T := F_Ma) (N := 5) hx hb hts in_Ma t_Ma t_Ma_ok n_Ma hown hK hP hD hS 24 rfl rfl 4 (by decide) (hts _ kC_92) (fun _ h9 => h9) rfl (by decide +kernel) rfl rfl (Nat.le_of_ble_eq_true rfl) hdg (fun H locs h1 h2 h3 => k H locs ⟨h1, h2, h3, hA⟩)

theorem rdC_1 {i : Int32} (F : fxC D cI cZ p R s m args c cc nL own fr lr) (hwd : wdC D cI cZ ad A H0 g H locs) (hi : vp_in i 8) (hdg : decode cc pc = .ok (.iaload, 1)) (k : W p l e R s m args below meth c H locs 0 0 Q (F0 m (pc + 1) ls (.int (g 1 i.toNatClampNeg) :: rest))) : W p l e R s m args below meth c H locs 0 0 Q (F0 m pc ls (.int i :: .ref (ad 1) :: rest)) := by
  obtain ⟨hx, hb, hml, hown, hts, hK, hN, hR⟩ := F
  exact va_iald hx hb hK hwd.1 1 0 rfl rfl hi hdg k

theorem wrC_1 {i v : Int32} (F : fxC D cI cZ p R s m args c cc nL own fr lr) (hwd : wdC D cI cZ ad A H0 g H locs) (hi : vp_in i 8) (hdg : decode cc pc = .ok (.iastore, 1)) (k : ∀ (H : Heap) (locs : List Loc), wdC D cI cZ ad A H0 (ar g 1 i v) H locs → W p l e R s m args below meth c H locs 0 0 Q (F0 m (pc + 1) ls rest)) : W p l e R s m args below meth c H locs 0 0 Q (F0 m pc ls (.int v :: .int i :: .ref (ad 1) :: rest)) := by
  obtain ⟨hx, hb, hml, hown, hts, hK, hN, hR⟩ := F
  obtain ⟨hP, hD, hS, hA⟩ := hwd
  refine va_iast hx hb hK hP hD hS 1 0 rfl rfl hi hdg (fun H locs h1 h2 h3 => ?_)
  exact k H locs ⟨h1, h2, h3, hA⟩

theorem rdC_3 {i : Int32} (F : fxC D cI cZ p R s m args c cc nL own fr lr) (hwd : wdC D cI cZ ad A H0 g H locs) (hi : vp_in i 60) (hdg : decode cc pc = .ok (.iaload, 1)) (k : W p l e R s m args below meth c H locs 0 0 Q (F0 m (pc + 1) ls (.int (g 3 i.toNatClampNeg) :: rest))) : W p l e R s m args below meth c H locs 0 0 Q (F0 m pc ls (.int i :: .ref (ad 3) :: rest)) := by
  obtain ⟨hx, hb, hml, hown, hts, hK, hN, hR⟩ := F
  exact va_iald hx hb hK hwd.1 3 0 rfl rfl hi hdg k

theorem wrC_3 {i v : Int32} (F : fxC D cI cZ p R s m args c cc nL own fr lr) (hwd : wdC D cI cZ ad A H0 g H locs) (hi : vp_in i 60) (hdg : decode cc pc = .ok (.iastore, 1)) (k : ∀ (H : Heap) (locs : List Loc), wdC D cI cZ ad A H0 (ar g 3 i v) H locs → W p l e R s m args below meth c H locs 0 0 Q (F0 m (pc + 1) ls rest)) : W p l e R s m args below meth c H locs 0 0 Q (F0 m pc ls (.int v :: .int i :: .ref (ad 3) :: rest)) := by
  obtain ⟨hx, hb, hml, hown, hts, hK, hN, hR⟩ := F
  obtain ⟨hP, hD, hS, hA⟩ := hwd
  refine va_iast hx hb hK hP hD hS 3 0 rfl rfl hi hdg (fun H locs h1 h2 h3 => ?_)
  exact k H locs ⟨h1, h2, h3, hA⟩

theorem rdC_4 {i : Int32} (F : fxC D cI cZ p R s m args c cc nL own fr lr) (hwd : wdC D cI cZ ad A H0 g H locs) (hi : vp_in i 60) (hdg : decode cc pc = .ok (.iaload, 1)) (k : W p l e R s m args below meth c H locs 0 0 Q (F0 m (pc + 1) ls (.int (g 4 i.toNatClampNeg) :: rest))) : W p l e R s m args below meth c H locs 0 0 Q (F0 m pc ls (.int i :: .ref (ad 4) :: rest)) := by
  obtain ⟨hx, hb, hml, hown, hts, hK, hN, hR⟩ := F
  exact va_iald hx hb hK hwd.1 4 0 rfl rfl hi hdg k

theorem wrC_4 {i v : Int32} (F : fxC D cI cZ p R s m args c cc nL own fr lr) (hwd : wdC D cI cZ ad A H0 g H locs) (hi : vp_in i 60) (hdg : decode cc pc = .ok (.iastore, 1)) (k : ∀ (H : Heap) (locs : List Loc), wdC D cI cZ ad A H0 (ar g 4 i v) H locs → W p l e R s m args below meth c H locs 0 0 Q (F0 m (pc + 1) ls rest)) : W p l e R s m args below meth c H locs 0 0 Q (F0 m pc ls (.int v :: .int i :: .ref (ad 4) :: rest)) := by
  obtain ⟨hx, hb, hml, hown, hts, hK, hN, hR⟩ := F
  obtain ⟨hP, hD, hS, hA⟩ := hwd
  refine va_iast hx hb hK hP hD hS 4 0 rfl rfl hi hdg (fun H locs h1 h2 h3 => ?_)
  exact k H locs ⟨h1, h2, h3, hA⟩

theorem rdC_5 {i : Int32} (F : fxC D cI cZ p R s m args c cc nL own fr lr) (hwd : wdC D cI cZ ad A H0 g H locs) (hi : vp_in i 60) (hdg : decode cc pc = .ok (.iaload, 1)) (k : W p l e R s m args below meth c H locs 0 0 Q (F0 m (pc + 1) ls (.int (g 5 i.toNatClampNeg) :: rest))) : W p l e R s m args below meth c H locs 0 0 Q (F0 m pc ls (.int i :: .ref (ad 5) :: rest)) := by
  obtain ⟨hx, hb, hml, hown, hts, hK, hN, hR⟩ := F
  exact va_iald hx hb hK hwd.1 5 0 rfl rfl hi hdg k

theorem wrC_5 {i v : Int32} (F : fxC D cI cZ p R s m args c cc nL own fr lr) (hwd : wdC D cI cZ ad A H0 g H locs) (hi : vp_in i 60) (hdg : decode cc pc = .ok (.iastore, 1)) (k : ∀ (H : Heap) (locs : List Loc), wdC D cI cZ ad A H0 (ar g 5 i v) H locs → W p l e R s m args below meth c H locs 0 0 Q (F0 m (pc + 1) ls rest)) : W p l e R s m args below meth c H locs 0 0 Q (F0 m pc ls (.int v :: .int i :: .ref (ad 5) :: rest)) := by
  obtain ⟨hx, hb, hml, hown, hts, hK, hN, hR⟩ := F
  obtain ⟨hP, hD, hS, hA⟩ := hwd
  refine va_iast hx hb hK hP hD hS 5 0 rfl rfl hi hdg (fun H locs h1 h2 h3 => ?_)
  exact k H locs ⟨h1, h2, h3, hA⟩

theorem rdC_6 {i : Int32} (F : fxC D cI cZ p R s m args c cc nL own fr lr) (hwd : wdC D cI cZ ad A H0 g H locs) (hi : vp_in i 60) (hdg : decode cc pc = .ok (.iaload, 1)) (k : W p l e R s m args below meth c H locs 0 0 Q (F0 m (pc + 1) ls (.int (g 6 i.toNatClampNeg) :: rest))) : W p l e R s m args below meth c H locs 0 0 Q (F0 m pc ls (.int i :: .ref (ad 6) :: rest)) := by
  obtain ⟨hx, hb, hml, hown, hts, hK, hN, hR⟩ := F
  exact va_iald hx hb hK hwd.1 6 0 rfl rfl hi hdg k

theorem wrC_6 {i v : Int32} (F : fxC D cI cZ p R s m args c cc nL own fr lr) (hwd : wdC D cI cZ ad A H0 g H locs) (hi : vp_in i 60) (hdg : decode cc pc = .ok (.iastore, 1)) (k : ∀ (H : Heap) (locs : List Loc), wdC D cI cZ ad A H0 (ar g 6 i v) H locs → W p l e R s m args below meth c H locs 0 0 Q (F0 m (pc + 1) ls rest)) : W p l e R s m args below meth c H locs 0 0 Q (F0 m pc ls (.int v :: .int i :: .ref (ad 6) :: rest)) := by
  obtain ⟨hx, hb, hml, hown, hts, hK, hN, hR⟩ := F
  obtain ⟨hP, hD, hS, hA⟩ := hwd
  refine va_iast hx hb hK hP hD hS 6 0 rfl rfl hi hdg (fun H locs h1 h2 h3 => ?_)
  exact k H locs ⟨h1, h2, h3, hA⟩

theorem rdC_7 {i : Int32} (F : fxC D cI cZ p R s m args c cc nL own fr lr) (hwd : wdC D cI cZ ad A H0 g H locs) (hi : vp_in i 60) (hdg : decode cc pc = .ok (.iaload, 1)) (k : W p l e R s m args below meth c H locs 0 0 Q (F0 m (pc + 1) ls (.int (g 7 i.toNatClampNeg) :: rest))) : W p l e R s m args below meth c H locs 0 0 Q (F0 m pc ls (.int i :: .ref (ad 7) :: rest)) := by
  obtain ⟨hx, hb, hml, hown, hts, hK, hN, hR⟩ := F
  exact va_iald hx hb hK hwd.1 7 0 rfl rfl hi hdg k

theorem wrC_7 {i v : Int32} (F : fxC D cI cZ p R s m args c cc nL own fr lr) (hwd : wdC D cI cZ ad A H0 g H locs) (hi : vp_in i 60) (hdg : decode cc pc = .ok (.iastore, 1)) (k : ∀ (H : Heap) (locs : List Loc), wdC D cI cZ ad A H0 (ar g 7 i v) H locs → W p l e R s m args below meth c H locs 0 0 Q (F0 m (pc + 1) ls rest)) : W p l e R s m args below meth c H locs 0 0 Q (F0 m pc ls (.int v :: .int i :: .ref (ad 7) :: rest)) := by
  obtain ⟨hx, hb, hml, hown, hts, hK, hN, hR⟩ := F
  obtain ⟨hP, hD, hS, hA⟩ := hwd
  refine va_iast hx hb hK hP hD hS 7 0 rfl rfl hi hdg (fun H locs h1 h2 h3 => ?_)
  exact k H locs ⟨h1, h2, h3, hA⟩

theorem rdC_8 {i : Int32} (F : fxC D cI cZ p R s m args c cc nL own fr lr) (hwd : wdC D cI cZ ad A H0 g H locs) (hi : vp_in i 8) (hdg : decode cc pc = .ok (.iaload, 1)) (k : W p l e R s m args below meth c H locs 0 0 Q (F0 m (pc + 1) ls (.int (g 8 i.toNatClampNeg) :: rest))) : W p l e R s m args below meth c H locs 0 0 Q (F0 m pc ls (.int i :: .ref (ad 8) :: rest)) := by
  obtain ⟨hx, hb, hml, hown, hts, hK, hN, hR⟩ := F
  exact va_iald hx hb hK hwd.1 8 0 rfl rfl hi hdg k

theorem wrC_8 {i v : Int32} (F : fxC D cI cZ p R s m args c cc nL own fr lr) (hwd : wdC D cI cZ ad A H0 g H locs) (hi : vp_in i 8) (hdg : decode cc pc = .ok (.iastore, 1)) (k : ∀ (H : Heap) (locs : List Loc), wdC D cI cZ ad A H0 (ar g 8 i v) H locs → W p l e R s m args below meth c H locs 0 0 Q (F0 m (pc + 1) ls rest)) : W p l e R s m args below meth c H locs 0 0 Q (F0 m pc ls (.int v :: .int i :: .ref (ad 8) :: rest)) := by
  obtain ⟨hx, hb, hml, hown, hts, hK, hN, hR⟩ := F
  obtain ⟨hP, hD, hS, hA⟩ := hwd
  refine va_iast hx hb hK hP hD hS 8 0 rfl rfl hi hdg (fun H locs h1 h2 h3 => ?_)
  exact k H locs ⟨h1, h2, h3, hA⟩

theorem rdC_10 {i : Int32} (F : fxC D cI cZ p R s m args c cc nL own fr lr) (hwd : wdC D cI cZ ad A H0 g H locs) (hi : vp_in i 60) (hdg : decode cc pc = .ok (.baload, 1)) (k : W p l e R s m args below meth c H locs 0 0 Q (F0 m (pc + 1) ls (.int (g 10 i.toNatClampNeg) :: rest))) : W p l e R s m args below meth c H locs 0 0 Q (F0 m pc ls (.int i :: .ref (ad 10) :: rest)) := by
  obtain ⟨hx, hb, hml, hown, hts, hK, hN, hR⟩ := F
  exact va_zald hx hb hK hwd.1 10 1 rfl rfl hi hdg k

theorem wrC_10 {i v : Int32} (F : fxC D cI cZ p R s m args c cc nL own fr lr) (hwd : wdC D cI cZ ad A H0 g H locs) (hi : vp_in i 60) (hz : vp_nar .boolean v = v) (hdg : decode cc pc = .ok (.bastore, 1)) (k : ∀ (H : Heap) (locs : List Loc), wdC D cI cZ ad A H0 (ar g 10 i v) H locs → W p l e R s m args below meth c H locs 0 0 Q (F0 m (pc + 1) ls rest)) : W p l e R s m args below meth c H locs 0 0 Q (F0 m pc ls (.int v :: .int i :: .ref (ad 10) :: rest)) := by
  obtain ⟨hx, hb, hml, hown, hts, hK, hN, hR⟩ := F
  obtain ⟨hP, hD, hS, hA⟩ := hwd
  refine va_zast hx hb hK hP hD hS 10 1 rfl rfl hi hdg (fun H locs h1 h2 h3 => ?_)
  rw [hz] at h1 h2
  exact k H locs ⟨h1, h2, h3, hA⟩

theorem rdC_12 {i : Int32} (F : fxC D cI cZ p R s m args c cc nL own fr lr) (hwd : wdC D cI cZ ad A H0 g H locs) (hi : vp_in i 60) (hdg : decode cc pc = .ok (.iaload, 1)) (k : W p l e R s m args below meth c H locs 0 0 Q (F0 m (pc + 1) ls (.int (g 12 i.toNatClampNeg) :: rest))) : W p l e R s m args below meth c H locs 0 0 Q (F0 m pc ls (.int i :: .ref (ad 12) :: rest)) := by
  obtain ⟨hx, hb, hml, hown, hts, hK, hN, hR⟩ := F
  exact va_iald hx hb hK hwd.1 12 0 rfl rfl hi hdg k

theorem wrC_12 {i v : Int32} (F : fxC D cI cZ p R s m args c cc nL own fr lr) (hwd : wdC D cI cZ ad A H0 g H locs) (hi : vp_in i 60) (hdg : decode cc pc = .ok (.iastore, 1)) (k : ∀ (H : Heap) (locs : List Loc), wdC D cI cZ ad A H0 (ar g 12 i v) H locs → W p l e R s m args below meth c H locs 0 0 Q (F0 m (pc + 1) ls rest)) : W p l e R s m args below meth c H locs 0 0 Q (F0 m pc ls (.int v :: .int i :: .ref (ad 12) :: rest)) := by
  obtain ⟨hx, hb, hml, hown, hts, hK, hN, hR⟩ := F
  obtain ⟨hP, hD, hS, hA⟩ := hwd
  refine va_iast hx hb hK hP hD hS 12 0 rfl rfl hi hdg (fun H locs h1 h2 h3 => ?_)
  exact k H locs ⟨h1, h2, h3, hA⟩

theorem rdC_13 {i : Int32} (F : fxC D cI cZ p R s m args c cc nL own fr lr) (hwd : wdC D cI cZ ad A H0 g H locs) (hi : vp_in i 60) (hdg : decode cc pc = .ok (.iaload, 1)) (k : W p l e R s m args below meth c H locs 0 0 Q (F0 m (pc + 1) ls (.int (g 13 i.toNatClampNeg) :: rest))) : W p l e R s m args below meth c H locs 0 0 Q (F0 m pc ls (.int i :: .ref (ad 13) :: rest)) := by
  obtain ⟨hx, hb, hml, hown, hts, hK, hN, hR⟩ := F
  exact va_iald hx hb hK hwd.1 13 0 rfl rfl hi hdg k

theorem wrC_13 {i v : Int32} (F : fxC D cI cZ p R s m args c cc nL own fr lr) (hwd : wdC D cI cZ ad A H0 g H locs) (hi : vp_in i 60) (hdg : decode cc pc = .ok (.iastore, 1)) (k : ∀ (H : Heap) (locs : List Loc), wdC D cI cZ ad A H0 (ar g 13 i v) H locs → W p l e R s m args below meth c H locs 0 0 Q (F0 m (pc + 1) ls rest)) : W p l e R s m args below meth c H locs 0 0 Q (F0 m pc ls (.int v :: .int i :: .ref (ad 13) :: rest)) := by
  obtain ⟨hx, hb, hml, hown, hts, hK, hN, hR⟩ := F
  obtain ⟨hP, hD, hS, hA⟩ := hwd
  refine va_iast hx hb hK hP hD hS 13 0 rfl rfl hi hdg (fun H locs h1 h2 h3 => ?_)
  exact k H locs ⟨h1, h2, h3, hA⟩

theorem rdC_14 {i : Int32} (F : fxC D cI cZ p R s m args c cc nL own fr lr) (hwd : wdC D cI cZ ad A H0 g H locs) (hi : vp_in i 60) (hdg : decode cc pc = .ok (.iaload, 1)) (k : W p l e R s m args below meth c H locs 0 0 Q (F0 m (pc + 1) ls (.int (g 14 i.toNatClampNeg) :: rest))) : W p l e R s m args below meth c H locs 0 0 Q (F0 m pc ls (.int i :: .ref (ad 14) :: rest)) := by
  obtain ⟨hx, hb, hml, hown, hts, hK, hN, hR⟩ := F
  exact va_iald hx hb hK hwd.1 14 0 rfl rfl hi hdg k

theorem wrC_14 {i v : Int32} (F : fxC D cI cZ p R s m args c cc nL own fr lr) (hwd : wdC D cI cZ ad A H0 g H locs) (hi : vp_in i 60) (hdg : decode cc pc = .ok (.iastore, 1)) (k : ∀ (H : Heap) (locs : List Loc), wdC D cI cZ ad A H0 (ar g 14 i v) H locs → W p l e R s m args below meth c H locs 0 0 Q (F0 m (pc + 1) ls rest)) : W p l e R s m args below meth c H locs 0 0 Q (F0 m pc ls (.int v :: .int i :: .ref (ad 14) :: rest)) := by
  obtain ⟨hx, hb, hml, hown, hts, hK, hN, hR⟩ := F
  obtain ⟨hP, hD, hS, hA⟩ := hwd
  refine va_iast hx hb hK hP hD hS 14 0 rfl rfl hi hdg (fun H locs h1 h2 h3 => ?_)
  exact k H locs ⟨h1, h2, h3, hA⟩

theorem rdC_16 {i : Int32} (F : fxC D cI cZ p R s m args c cc nL own fr lr) (hwd : wdC D cI cZ ad A H0 g H locs) (hi : vp_in i 120) (hdg : decode cc pc = .ok (.iaload, 1)) (k : W p l e R s m args below meth c H locs 0 0 Q (F0 m (pc + 1) ls (.int (g 16 i.toNatClampNeg) :: rest))) : W p l e R s m args below meth c H locs 0 0 Q (F0 m pc ls (.int i :: .ref (ad 16) :: rest)) := by
  obtain ⟨hx, hb, hml, hown, hts, hK, hN, hR⟩ := F
  exact va_iald hx hb hK hwd.1 16 0 rfl rfl hi hdg k

theorem wrC_16 {i v : Int32} (F : fxC D cI cZ p R s m args c cc nL own fr lr) (hwd : wdC D cI cZ ad A H0 g H locs) (hi : vp_in i 120) (hdg : decode cc pc = .ok (.iastore, 1)) (k : ∀ (H : Heap) (locs : List Loc), wdC D cI cZ ad A H0 (ar g 16 i v) H locs → W p l e R s m args below meth c H locs 0 0 Q (F0 m (pc + 1) ls rest)) : W p l e R s m args below meth c H locs 0 0 Q (F0 m pc ls (.int v :: .int i :: .ref (ad 16) :: rest)) := by
  obtain ⟨hx, hb, hml, hown, hts, hK, hN, hR⟩ := F
  obtain ⟨hP, hD, hS, hA⟩ := hwd
  refine va_iast hx hb hK hP hD hS 16 0 rfl rfl hi hdg (fun H locs h1 h2 h3 => ?_)
  exact k H locs ⟨h1, h2, h3, hA⟩

theorem rdC_17 {i : Int32} (F : fxC D cI cZ p R s m args c cc nL own fr lr) (hwd : wdC D cI cZ ad A H0 g H locs) (hi : vp_in i 120) (hdg : decode cc pc = .ok (.iaload, 1)) (k : W p l e R s m args below meth c H locs 0 0 Q (F0 m (pc + 1) ls (.int (g 17 i.toNatClampNeg) :: rest))) : W p l e R s m args below meth c H locs 0 0 Q (F0 m pc ls (.int i :: .ref (ad 17) :: rest)) := by
  obtain ⟨hx, hb, hml, hown, hts, hK, hN, hR⟩ := F
  exact va_iald hx hb hK hwd.1 17 0 rfl rfl hi hdg k

theorem wrC_17 {i v : Int32} (F : fxC D cI cZ p R s m args c cc nL own fr lr) (hwd : wdC D cI cZ ad A H0 g H locs) (hi : vp_in i 120) (hdg : decode cc pc = .ok (.iastore, 1)) (k : ∀ (H : Heap) (locs : List Loc), wdC D cI cZ ad A H0 (ar g 17 i v) H locs → W p l e R s m args below meth c H locs 0 0 Q (F0 m (pc + 1) ls rest)) : W p l e R s m args below meth c H locs 0 0 Q (F0 m pc ls (.int v :: .int i :: .ref (ad 17) :: rest)) := by
  obtain ⟨hx, hb, hml, hown, hts, hK, hN, hR⟩ := F
  obtain ⟨hP, hD, hS, hA⟩ := hwd
  refine va_iast hx hb hK hP hD hS 17 0 rfl rfl hi hdg (fun H locs h1 h2 h3 => ?_)
  exact k H locs ⟨h1, h2, h3, hA⟩

theorem rdC_18 {i : Int32} (F : fxC D cI cZ p R s m args c cc nL own fr lr) (hwd : wdC D cI cZ ad A H0 g H locs) (hi : vp_in i 61) (hdg : decode cc pc = .ok (.iaload, 1)) (k : W p l e R s m args below meth c H locs 0 0 Q (F0 m (pc + 1) ls (.int (g 18 i.toNatClampNeg) :: rest))) : W p l e R s m args below meth c H locs 0 0 Q (F0 m pc ls (.int i :: .ref (ad 18) :: rest)) := by
  obtain ⟨hx, hb, hml, hown, hts, hK, hN, hR⟩ := F
  exact va_iald hx hb hK hwd.1 18 0 rfl rfl hi hdg k

theorem wrC_18 {i v : Int32} (F : fxC D cI cZ p R s m args c cc nL own fr lr) (hwd : wdC D cI cZ ad A H0 g H locs) (hi : vp_in i 61) (hdg : decode cc pc = .ok (.iastore, 1)) (k : ∀ (H : Heap) (locs : List Loc), wdC D cI cZ ad A H0 (ar g 18 i v) H locs → W p l e R s m args below meth c H locs 0 0 Q (F0 m (pc + 1) ls rest)) : W p l e R s m args below meth c H locs 0 0 Q (F0 m pc ls (.int v :: .int i :: .ref (ad 18) :: rest)) := by
  obtain ⟨hx, hb, hml, hown, hts, hK, hN, hR⟩ := F
  obtain ⟨hP, hD, hS, hA⟩ := hwd
  refine va_iast hx hb hK hP hD hS 18 0 rfl rfl hi hdg (fun H locs h1 h2 h3 => ?_)
  exact k H locs ⟨h1, h2, h3, hA⟩

theorem rdC_20 {i : Int32} (F : fxC D cI cZ p R s m args c cc nL own fr lr) (hwd : wdC D cI cZ ad A H0 g H locs) (hi : vp_in i 600) (hdg : decode cc pc = .ok (.iaload, 1)) (k : W p l e R s m args below meth c H locs 0 0 Q (F0 m (pc + 1) ls (.int (g 20 i.toNatClampNeg) :: rest))) : W p l e R s m args below meth c H locs 0 0 Q (F0 m pc ls (.int i :: .ref (ad 20) :: rest)) := by
  obtain ⟨hx, hb, hml, hown, hts, hK, hN, hR⟩ := F
  exact va_iald hx hb hK hwd.1 20 0 rfl rfl hi hdg k

theorem wrC_20 {i v : Int32} (F : fxC D cI cZ p R s m args c cc nL own fr lr) (hwd : wdC D cI cZ ad A H0 g H locs) (hi : vp_in i 600) (hdg : decode cc pc = .ok (.iastore, 1)) (k : ∀ (H : Heap) (locs : List Loc), wdC D cI cZ ad A H0 (ar g 20 i v) H locs → W p l e R s m args below meth c H locs 0 0 Q (F0 m (pc + 1) ls rest)) : W p l e R s m args below meth c H locs 0 0 Q (F0 m pc ls (.int v :: .int i :: .ref (ad 20) :: rest)) := by
  obtain ⟨hx, hb, hml, hown, hts, hK, hN, hR⟩ := F
  obtain ⟨hP, hD, hS, hA⟩ := hwd
  refine va_iast hx hb hK hP hD hS 20 0 rfl rfl hi hdg (fun H locs h1 h2 h3 => ?_)
  exact k H locs ⟨h1, h2, h3, hA⟩

theorem rdC_21 {i : Int32} (F : fxC D cI cZ p R s m args c cc nL own fr lr) (hwd : wdC D cI cZ ad A H0 g H locs) (hi : vp_in i 61) (hdg : decode cc pc = .ok (.iaload, 1)) (k : W p l e R s m args below meth c H locs 0 0 Q (F0 m (pc + 1) ls (.int (g 21 i.toNatClampNeg) :: rest))) : W p l e R s m args below meth c H locs 0 0 Q (F0 m pc ls (.int i :: .ref (ad 21) :: rest)) := by
  obtain ⟨hx, hb, hml, hown, hts, hK, hN, hR⟩ := F
  exact va_iald hx hb hK hwd.1 21 0 rfl rfl hi hdg k

theorem wrC_21 {i v : Int32} (F : fxC D cI cZ p R s m args c cc nL own fr lr) (hwd : wdC D cI cZ ad A H0 g H locs) (hi : vp_in i 61) (hdg : decode cc pc = .ok (.iastore, 1)) (k : ∀ (H : Heap) (locs : List Loc), wdC D cI cZ ad A H0 (ar g 21 i v) H locs → W p l e R s m args below meth c H locs 0 0 Q (F0 m (pc + 1) ls rest)) : W p l e R s m args below meth c H locs 0 0 Q (F0 m pc ls (.int v :: .int i :: .ref (ad 21) :: rest)) := by
  obtain ⟨hx, hb, hml, hown, hts, hK, hN, hR⟩ := F
  obtain ⟨hP, hD, hS, hA⟩ := hwd
  refine va_iast hx hb hK hP hD hS 21 0 rfl rfl hi hdg (fun H locs h1 h2 h3 => ?_)
  exact k H locs ⟨h1, h2, h3, hA⟩

theorem rdC_22 {i : Int32} (F : fxC D cI cZ p R s m args c cc nL own fr lr) (hwd : wdC D cI cZ ad A H0 g H locs) (hi : vp_in i 60) (hdg : decode cc pc = .ok (.iaload, 1)) (k : W p l e R s m args below meth c H locs 0 0 Q (F0 m (pc + 1) ls (.int (g 22 i.toNatClampNeg) :: rest))) : W p l e R s m args below meth c H locs 0 0 Q (F0 m pc ls (.int i :: .ref (ad 22) :: rest)) := by
  obtain ⟨hx, hb, hml, hown, hts, hK, hN, hR⟩ := F
  exact va_iald hx hb hK hwd.1 22 0 rfl rfl hi hdg k

theorem wrC_22 {i v : Int32} (F : fxC D cI cZ p R s m args c cc nL own fr lr) (hwd : wdC D cI cZ ad A H0 g H locs) (hi : vp_in i 60) (hdg : decode cc pc = .ok (.iastore, 1)) (k : ∀ (H : Heap) (locs : List Loc), wdC D cI cZ ad A H0 (ar g 22 i v) H locs → W p l e R s m args below meth c H locs 0 0 Q (F0 m (pc + 1) ls rest)) : W p l e R s m args below meth c H locs 0 0 Q (F0 m pc ls (.int v :: .int i :: .ref (ad 22) :: rest)) := by
  obtain ⟨hx, hb, hml, hown, hts, hK, hN, hR⟩ := F
  obtain ⟨hP, hD, hS, hA⟩ := hwd
  refine va_iast hx hb hK hP hD hS 22 0 rfl rfl hi hdg (fun H locs h1 h2 h3 => ?_)
  exact k H locs ⟨h1, h2, h3, hA⟩

theorem rdC_23 {i : Int32} (F : fxC D cI cZ p R s m args c cc nL own fr lr) (hwd : wdC D cI cZ ad A H0 g H locs) (hi : vp_in i 8) (hdg : decode cc pc = .ok (.iaload, 1)) (k : W p l e R s m args below meth c H locs 0 0 Q (F0 m (pc + 1) ls (.int (g 23 i.toNatClampNeg) :: rest))) : W p l e R s m args below meth c H locs 0 0 Q (F0 m pc ls (.int i :: .ref (ad 23) :: rest)) := by
  obtain ⟨hx, hb, hml, hown, hts, hK, hN, hR⟩ := F
  exact va_iald hx hb hK hwd.1 23 0 rfl rfl hi hdg k

theorem wrC_23 {i v : Int32} (F : fxC D cI cZ p R s m args c cc nL own fr lr) (hwd : wdC D cI cZ ad A H0 g H locs) (hi : vp_in i 8) (hdg : decode cc pc = .ok (.iastore, 1)) (k : ∀ (H : Heap) (locs : List Loc), wdC D cI cZ ad A H0 (ar g 23 i v) H locs → W p l e R s m args below meth c H locs 0 0 Q (F0 m (pc + 1) ls rest)) : W p l e R s m args below meth c H locs 0 0 Q (F0 m pc ls (.int v :: .int i :: .ref (ad 23) :: rest)) := by
  obtain ⟨hx, hb, hml, hown, hts, hK, hN, hR⟩ := F
  obtain ⟨hP, hD, hS, hA⟩ := hwd
  refine va_iast hx hb hK hP hD hS 23 0 rfl rfl hi hdg (fun H locs h1 h2 h3 => ?_)
  exact k H locs ⟨h1, h2, h3, hA⟩

theorem mcC_BF_61 {x1 x2 x3 x4 x5 : Int32} {K : Int32 → St → Prop} {f lo : Nat} (F : fxC D cI cZ p R s m args c cc nL R_BF fr lr) (hwd : wdC D cI cZ ad A H0 g H locs) (hM : ctCI l y_Fo_addNode b_Fo_addNode 6 f lo D cI cZ ad [.ref (ad 2), .int x1, .int x2, .int x3, .int x4, .int x5] g K) (hr : f + 1 ≤ R.frames ∧ 8 + (6 + 11) + lo ≤ R.locals) (hsz : ls.size = nL) (hW : (rest.map fun v => v.category).sum ≤ 8) (hdg : decode cc pc = .ok (.invokevirtual 61, 3)) (kk : ∀ (r : Int32) (g' : St) (H : Heap) (locs : List Loc), K r g' → wdC D cI cZ ad A H0 g' H locs → W p l e R s m args below meth c H locs 0 0 Q (F0 m (pc + 3) ls (.int r :: rest))) : W p l e R s m args below meth c H locs 0 0 Q (F0 m pc ls (.int x5 :: .int x4 :: .int x3 :: .int x2 :: .int x1 :: .ref (ad 2) :: rest)) := by
  obtain ⟨hx, hb, hml, hown, hts, hK, hN, hR⟩ := F
  exact afC_I hwd (va_runV (As := [.int x1, .int x2, .int x3, .int x4, .int x5]) (rest := rest) ⟨hx, hb, hml, hown, hts⟩ (hM H.size) ⟨callB_of 5 hts (goodC _ (List.forall_mem_cons.mpr ⟨kC_258, fun _ h => h⟩)) rfl rfl rfl (hts _ kC_51) (hts _ kC_93) (by decide +kernel) hr, (hts _ kC_94), (hts _ kC_95)⟩ (prC_V (k := 2) hK hN hwd (show clC[1]? = some (R_Fo, F_Fo, 8) from rfl) rfl) rfl rfl hsz rfl (lv_room hW) hdg ⟨Nat.zero_le _, Nat.zero_le _⟩) kk

theorem mcC_Ru_9 {x1 : Int32} {K : Int32 → St → Prop} {f lo : Nat} (F : fxC D cI cZ p R s m args c cc nL R_Ru fr lr) (hwd : wdC D cI cZ ad A H0 g H locs) (hM : ctCZ l y_Ru_isBitRule b_Ru_isBitRule 1 f lo D cI cZ ad [.int x1] g K) (hr : f + 1 ≤ R.frames ∧ 8 + (1 + 11) + lo ≤ R.locals) (hsz : ls.size = nL) (hW : (rest.map fun v => v.category).sum ≤ 8) (hdg : decode cc pc = .ok (.invokestatic 9, 3)) (kk : ∀ (r : Int32) (g' : St) (H : Heap) (locs : List Loc), K r g' → wdC D cI cZ ad A H0 g' H locs → W p l e R s m args below meth c H locs 0 0 Q (F0 m (pc + 3) ls (.int r :: rest))) : W p l e R s m args below meth c H locs 0 0 Q (F0 m pc ls (.int x1 :: rest)) := by
  obtain ⟨hx, hb, hml, hown, hts, hK, hN, hR⟩ := F
  exact afC_I hwd (va_runS (As := [.int x1]) (rest := rest) ⟨hx, hb, hml, hown, hts⟩ (hM H.size) ⟨callB_of 1 hts (goodC _ (List.forall_mem_cons.mpr ⟨kC_297, fun _ h => h⟩)) rfl rfl rfl (hts _ kC_98) (hts _ kC_96) (by decide +kernel) hr, (hts _ kC_97)⟩ (prC_S hK hN hwd) rfl rfl hsz rfl (lv_room hW) hdg ⟨Nat.zero_le _, Nat.zero_le _⟩) kk

theorem mcC_BF_65 {x1 : Int32} {K : Int32 → St → Prop} {f lo : Nat} (F : fxC D cI cZ p R s m args c cc nL R_BF fr lr) (hwd : wdC D cI cZ ad A H0 g H locs) (hM : ctCZ l y_BF_isFeature b_BF_isFeature 1 f lo D cI cZ ad [.int x1] g K) (hr : f + 1 ≤ R.frames ∧ 8 + (1 + 11) + lo ≤ R.locals) (hsz : ls.size = nL) (hW : (rest.map fun v => v.category).sum ≤ 8) (hdg : decode cc pc = .ok (.invokestatic 65, 3)) (kk : ∀ (r : Int32) (g' : St) (H : Heap) (locs : List Loc), K r g' → wdC D cI cZ ad A H0 g' H locs → W p l e R s m args below meth c H locs 0 0 Q (F0 m (pc + 3) ls (.int r :: rest))) : W p l e R s m args below meth c H locs 0 0 Q (F0 m pc ls (.int x1 :: rest)) := by
  obtain ⟨hx, hb, hml, hown, hts, hK, hN, hR⟩ := F
  exact afC_I hwd (va_runS (As := [.int x1]) (rest := rest) ⟨hx, hb, hml, hown, hts⟩ (hM H.size) ⟨callB_of 1 hts (goodC _ (List.forall_mem_cons.mpr ⟨kC_255, fun _ h => h⟩)) rfl rfl rfl (hts _ kC_101) (hts _ kC_99) (by decide +kernel) hr, (hts _ kC_100)⟩ (prC_S hK hN hwd) rfl rfl hsz rfl (lv_room hW) hdg ⟨Nat.zero_le _, Nat.zero_le _⟩) kk

theorem mcC_BF_69 {x1 x2 : Int32} {K : Int32 → St → Prop} {f lo : Nat} (F : fxC D cI cZ p R s m args c cc nL R_BF fr lr) (hwd : wdC D cI cZ ad A H0 g H locs) (hM : ctCZ l y_Ru_takesMark b_Ru_takesMark 2 f lo D cI cZ ad [.int x1, .int x2] g K) (hr : f + 1 ≤ R.frames ∧ 8 + (2 + 11) + lo ≤ R.locals) (hsz : ls.size = nL) (hW : (rest.map fun v => v.category).sum ≤ 8) (hdg : decode cc pc = .ok (.invokestatic 69, 3)) (kk : ∀ (r : Int32) (g' : St) (H : Heap) (locs : List Loc), K r g' → wdC D cI cZ ad A H0 g' H locs → W p l e R s m args below meth c H locs 0 0 Q (F0 m (pc + 3) ls (.int r :: rest))) : W p l e R s m args below meth c H locs 0 0 Q (F0 m pc ls (.int x2 :: .int x1 :: rest)) := by
  obtain ⟨hx, hb, hml, hown, hts, hK, hN, hR⟩ := F
  exact afC_I hwd (va_runS (As := [.int x1, .int x2]) (rest := rest) ⟨hx, hb, hml, hown, hts⟩ (hM H.size) ⟨callB_of 2 hts (goodC _ (List.forall_mem_cons.mpr ⟨kC_296, fun _ h => h⟩)) rfl rfl rfl (hts _ kC_98) (hts _ kC_102) (by decide +kernel) hr, (hts _ kC_103)⟩ (prC_S hK hN hwd) rfl rfl hsz rfl (lv_room hW) hdg ⟨Nat.zero_le _, Nat.zero_le _⟩) kk

theorem mcC_BF_75 {x1 : Int32} {K : Int32 → St → Prop} {f lo : Nat} (F : fxC D cI cZ p R s m args c cc nL R_BF fr lr) (hwd : wdC D cI cZ ad A H0 g H locs) (hM : ctCZ l y_BF_isNodeNumber b_BF_isNodeNumber 1 f lo D cI cZ ad [.int x1] g K) (hr : f + 1 ≤ R.frames ∧ 8 + (1 + 11) + lo ≤ R.locals) (hsz : ls.size = nL) (hW : (rest.map fun v => v.category).sum ≤ 8) (hdg : decode cc pc = .ok (.invokestatic 75, 3)) (kk : ∀ (r : Int32) (g' : St) (H : Heap) (locs : List Loc), K r g' → wdC D cI cZ ad A H0 g' H locs → W p l e R s m args below meth c H locs 0 0 Q (F0 m (pc + 3) ls (.int r :: rest))) : W p l e R s m args below meth c H locs 0 0 Q (F0 m pc ls (.int x1 :: rest)) := by
  obtain ⟨hx, hb, hml, hown, hts, hK, hN, hR⟩ := F
  exact afC_I hwd (va_runS (As := [.int x1]) (rest := rest) ⟨hx, hb, hml, hown, hts⟩ (hM H.size) ⟨callB_of 1 hts (goodC _ (List.forall_mem_cons.mpr ⟨kC_256, fun _ h => h⟩)) rfl rfl rfl (hts _ kC_101) (hts _ kC_104) (by decide +kernel) hr, (hts _ kC_105)⟩ (prC_S hK hN hwd) rfl rfl hsz rfl (lv_room hW) hdg ⟨Nat.zero_le _, Nat.zero_le _⟩) kk

theorem mcC_Fo_37 {x1 : Int32} {K : Int32 → St → Prop} {f lo : Nat} (F : fxC D cI cZ p R s m args c cc nL R_Fo fr lr) (hwd : wdC D cI cZ ad A H0 g H locs) (hM : ctCZ l y_Fo_isNode b_Fo_isNode 2 f lo D cI cZ ad [.ref (ad 2), .int x1] g K) (hr : f + 1 ≤ R.frames ∧ 8 + (2 + 11) + lo ≤ R.locals) (hsz : ls.size = nL) (hW : (rest.map fun v => v.category).sum ≤ 8) (hdg : decode cc pc = .ok (.invokevirtual 37, 3)) (kk : ∀ (r : Int32) (g' : St) (H : Heap) (locs : List Loc), K r g' → wdC D cI cZ ad A H0 g' H locs → W p l e R s m args below meth c H locs 0 0 Q (F0 m (pc + 3) ls (.int r :: rest))) : W p l e R s m args below meth c H locs 0 0 Q (F0 m pc ls (.int x1 :: .ref (ad 2) :: rest)) := by
  obtain ⟨hx, hb, hml, hown, hts, hK, hN, hR⟩ := F
  exact afC_I hwd (va_runV (As := [.int x1]) (rest := rest) ⟨hx, hb, hml, hown, hts⟩ (hM H.size) ⟨callB_of 1 hts (goodC _ (List.forall_mem_cons.mpr ⟨kC_260, fun _ h => h⟩)) rfl rfl rfl (hts _ kC_51) (hts _ kC_106) (by decide +kernel) hr, (hts _ kC_107), (hts _ kC_108)⟩ (prC_V (k := 2) hK hN hwd (show clC[1]? = some (R_Fo, F_Fo, 8) from rfl) rfl) rfl rfl hsz rfl (lv_room hW) hdg ⟨Nat.zero_le _, Nat.zero_le _⟩) kk

theorem mcC_BF_78 {x1 : Int32} {K : Int32 → St → Prop} {f lo : Nat} (F : fxC D cI cZ p R s m args c cc nL R_BF fr lr) (hwd : wdC D cI cZ ad A H0 g H locs) (hM : ctCI l y_Fo_addTree b_Fo_addTree 2 f lo D cI cZ ad [.ref (ad 2), .int x1] g K) (hr : f + 1 ≤ R.frames ∧ 8 + (2 + 11) + lo ≤ R.locals) (hsz : ls.size = nL) (hW : (rest.map fun v => v.category).sum ≤ 8) (hdg : decode cc pc = .ok (.invokevirtual 78, 3)) (kk : ∀ (r : Int32) (g' : St) (H : Heap) (locs : List Loc), K r g' → wdC D cI cZ ad A H0 g' H locs → W p l e R s m args below meth c H locs 0 0 Q (F0 m (pc + 3) ls (.int r :: rest))) : W p l e R s m args below meth c H locs 0 0 Q (F0 m pc ls (.int x1 :: .ref (ad 2) :: rest)) := by
  obtain ⟨hx, hb, hml, hown, hts, hK, hN, hR⟩ := F
  exact afC_I hwd (va_runV (As := [.int x1]) (rest := rest) ⟨hx, hb, hml, hown, hts⟩ (hM H.size) ⟨callB_of 1 hts (goodC _ (List.forall_mem_cons.mpr ⟨kC_259, fun _ h => h⟩)) rfl rfl rfl (hts _ kC_51) (hts _ kC_109) (by decide +kernel) hr, (hts _ kC_110), (hts _ kC_111)⟩ (prC_V (k := 2) hK hN hwd (show clC[1]? = some (R_Fo, F_Fo, 8) from rfl) rfl) rfl rfl hsz rfl (lv_room hW) hdg ⟨Nat.zero_le _, Nat.zero_le _⟩) kk

theorem mcC_Ch_36 {x1 : Int32} {K : Int32 → St → Prop} {f lo : Nat} (F : fxC D cI cZ p R s m args c cc nL R_Ch fr lr) (hwd : wdC D cI cZ ad A H0 g H locs) (hM : ctCZ l y_Fo_isLeaf b_Fo_isLeaf 2 f lo D cI cZ ad [.ref (ad 2), .int x1] g K) (hr : f + 1 ≤ R.frames ∧ 8 + (2 + 11) + lo ≤ R.locals) (hsz : ls.size = nL) (hW : (rest.map fun v => v.category).sum ≤ 8) (hdg : decode cc pc = .ok (.invokevirtual 36, 3)) (kk : ∀ (r : Int32) (g' : St) (H : Heap) (locs : List Loc), K r g' → wdC D cI cZ ad A H0 g' H locs → W p l e R s m args below meth c H locs 0 0 Q (F0 m (pc + 3) ls (.int r :: rest))) : W p l e R s m args below meth c H locs 0 0 Q (F0 m pc ls (.int x1 :: .ref (ad 2) :: rest)) := by
  obtain ⟨hx, hb, hml, hown, hts, hK, hN, hR⟩ := F
  exact afC_I hwd (va_runV (As := [.int x1]) (rest := rest) ⟨hx, hb, hml, hown, hts⟩ (hM H.size) ⟨callB_of 1 hts (goodC _ (List.forall_mem_cons.mpr ⟨kC_261, fun _ h => h⟩)) rfl rfl rfl (hts _ kC_51) (hts _ kC_112) (by decide +kernel) hr, (hts _ kC_113), (hts _ kC_114)⟩ (prC_V (k := 2) hK hN hwd (show clC[1]? = some (R_Fo, F_Fo, 8) from rfl) rfl) rfl rfl hsz rfl (lv_room hW) hdg ⟨Nat.zero_le _, Nat.zero_le _⟩) kk

theorem mcC_Ch_49 {x1 : Int32} {K : Int32 → St → Prop} {f lo : Nat} (F : fxC D cI cZ p R s m args c cc nL R_Ch fr lr) (hwd : wdC D cI cZ ad A H0 g H locs) (hM : ctCZ l y_Fo_isNode b_Fo_isNode 2 f lo D cI cZ ad [.ref (ad 2), .int x1] g K) (hr : f + 1 ≤ R.frames ∧ 8 + (2 + 11) + lo ≤ R.locals) (hsz : ls.size = nL) (hW : (rest.map fun v => v.category).sum ≤ 8) (hdg : decode cc pc = .ok (.invokevirtual 49, 3)) (kk : ∀ (r : Int32) (g' : St) (H : Heap) (locs : List Loc), K r g' → wdC D cI cZ ad A H0 g' H locs → W p l e R s m args below meth c H locs 0 0 Q (F0 m (pc + 3) ls (.int r :: rest))) : W p l e R s m args below meth c H locs 0 0 Q (F0 m pc ls (.int x1 :: .ref (ad 2) :: rest)) := by
  obtain ⟨hx, hb, hml, hown, hts, hK, hN, hR⟩ := F
  exact afC_I hwd (va_runV (As := [.int x1]) (rest := rest) ⟨hx, hb, hml, hown, hts⟩ (hM H.size) ⟨callB_of 1 hts (goodC _ (List.forall_mem_cons.mpr ⟨kC_260, fun _ h => h⟩)) rfl rfl rfl (hts _ kC_51) (hts _ kC_115) (by decide +kernel) hr, (hts _ kC_107), (hts _ kC_108)⟩ (prC_V (k := 2) hK hN hwd (show clC[1]? = some (R_Fo, F_Fo, 8) from rfl) rfl) rfl rfl hsz rfl (lv_room hW) hdg ⟨Nat.zero_le _, Nat.zero_le _⟩) kk

theorem mcC_Ch_46 {x1 : Int32} {K : Int32 → St → Prop} {f lo : Nat} (F : fxC D cI cZ p R s m args c cc nL R_Ch fr lr) (hwd : wdC D cI cZ ad A H0 g H locs) (hM : ctCZ l y_Ch_isDangling b_Ch_isDangling 2 f lo D cI cZ ad [.ref (ad 9), .int x1] g K) (hr : f + 1 ≤ R.frames ∧ 8 + (2 + 11) + lo ≤ R.locals) (hsz : ls.size = nL) (hW : (rest.map fun v => v.category).sum ≤ 8) (hdg : decode cc pc = .ok (.invokevirtual 46, 3)) (kk : ∀ (r : Int32) (g' : St) (H : Heap) (locs : List Loc), K r g' → wdC D cI cZ ad A H0 g' H locs → W p l e R s m args below meth c H locs 0 0 Q (F0 m (pc + 3) ls (.int r :: rest))) : W p l e R s m args below meth c H locs 0 0 Q (F0 m pc ls (.int x1 :: .ref (ad 9) :: rest)) := by
  obtain ⟨hx, hb, hml, hown, hts, hK, hN, hR⟩ := F
  exact afC_I hwd (va_runV (As := [.int x1]) (rest := rest) ⟨hx, hb, hml, hown, hts⟩ (hM H.size) ⟨callB_of 1 hts (goodC _ (List.forall_mem_cons.mpr ⟨kC_267, fun _ h => h⟩)) rfl rfl rfl (hts _ kC_56) (hts _ kC_116) (by decide +kernel) hr, (hts _ kC_117), (hts _ kC_118)⟩ (prC_V (k := 9) hK hN hwd (show clC[2]? = some (R_Ch, F_Ch, 2) from rfl) rfl) rfl rfl hsz rfl (lv_room hW) hdg ⟨Nat.zero_le _, Nat.zero_le _⟩) kk

theorem mcC_Ch_33 {x1 x2 : Int32} {K : Int32 → St → Prop} {f lo : Nat} (F : fxC D cI cZ p R s m args c cc nL R_Ch fr lr) (hwd : wdC D cI cZ ad A H0 g H locs) (hM : ctCI l y_Ch_faultAt b_Ch_faultAt 3 f lo D cI cZ ad [.ref (ad 9), .int x1, .int x2] g K) (hr : f + 1 ≤ R.frames ∧ 8 + (3 + 11) + lo ≤ R.locals) (hsz : ls.size = nL) (hW : (rest.map fun v => v.category).sum ≤ 8) (hdg : decode cc pc = .ok (.invokevirtual 33, 3)) (kk : ∀ (r : Int32) (g' : St) (H : Heap) (locs : List Loc), K r g' → wdC D cI cZ ad A H0 g' H locs → W p l e R s m args below meth c H locs 0 0 Q (F0 m (pc + 3) ls (.int r :: rest))) : W p l e R s m args below meth c H locs 0 0 Q (F0 m pc ls (.int x2 :: .int x1 :: .ref (ad 9) :: rest)) := by
  obtain ⟨hx, hb, hml, hown, hts, hK, hN, hR⟩ := F
  exact afC_I hwd (va_runV (As := [.int x1, .int x2]) (rest := rest) ⟨hx, hb, hml, hown, hts⟩ (hM H.size) ⟨callB_of 2 hts (goodC _ (List.forall_mem_cons.mpr ⟨kC_266, fun _ h => h⟩)) rfl rfl rfl (hts _ kC_56) (hts _ kC_119) (by decide +kernel) hr, (hts _ kC_120), (hts _ kC_121)⟩ (prC_V (k := 9) hK hN hwd (show clC[2]? = some (R_Ch, F_Ch, 2) from rfl) rfl) rfl rfl hsz rfl (lv_room hW) hdg ⟨Nat.zero_le _, Nat.zero_le _⟩) kk

theorem mcC_Ch_29 {x1 x2 : Int32} {K : Int32 → St → Prop} {f lo : Nat} (F : fxC D cI cZ p R s m args c cc nL R_Ch fr lr) (hwd : wdC D cI cZ ad A H0 g H locs) (hM : ctCI l y_Ch_faultFrom b_Ch_faultFrom 4 f lo D cI cZ ad [.ref (ad 9), .int x1, .int x2] g K) (hr : f + 1 ≤ R.frames ∧ 8 + (4 + 11) + lo ≤ R.locals) (hsz : ls.size = nL) (hW : (rest.map fun v => v.category).sum ≤ 8) (hdg : decode cc pc = .ok (.invokevirtual 29, 3)) (kk : ∀ (r : Int32) (g' : St) (H : Heap) (locs : List Loc), K r g' → wdC D cI cZ ad A H0 g' H locs → W p l e R s m args below meth c H locs 0 0 Q (F0 m (pc + 3) ls (.int r :: rest))) : W p l e R s m args below meth c H locs 0 0 Q (F0 m pc ls (.int x2 :: .int x1 :: .ref (ad 9) :: rest)) := by
  obtain ⟨hx, hb, hml, hown, hts, hK, hN, hR⟩ := F
  exact afC_I hwd (va_runV (As := [.int x1, .int x2]) (rest := rest) ⟨hx, hb, hml, hown, hts⟩ (hM H.size) ⟨callB_of 2 hts (goodC _ (List.forall_mem_cons.mpr ⟨kC_265, fun _ h => h⟩)) rfl rfl rfl (hts _ kC_56) (hts _ kC_122) (by decide +kernel) hr, (hts _ kC_123), (hts _ kC_124)⟩ (prC_V (k := 9) hK hN hwd (show clC[2]? = some (R_Ch, F_Ch, 2) from rfl) rfl) rfl rfl hsz rfl (lv_room hW) hdg ⟨Nat.zero_le _, Nat.zero_le _⟩) kk

theorem mcC_Cu_63 {x1 : Int32} {K : Int32 → St → Prop} {f lo : Nat} (F : fxC D cI cZ p R s m args c cc nL R_Cu fr lr) (hwd : wdC D cI cZ ad A H0 g H locs) (hM : ctCI l y_Cu_partLength b_Cu_partLength 2 f lo D cI cZ ad [.ref (ad 11), .int x1] g K) (hr : f + 1 ≤ R.frames ∧ 8 + (2 + 11) + lo ≤ R.locals) (hsz : ls.size = nL) (hW : (rest.map fun v => v.category).sum ≤ 8) (hdg : decode cc pc = .ok (.invokevirtual 63, 3)) (kk : ∀ (r : Int32) (g' : St) (H : Heap) (locs : List Loc), K r g' → wdC D cI cZ ad A H0 g' H locs → W p l e R s m args below meth c H locs 0 0 Q (F0 m (pc + 3) ls (.int r :: rest))) : W p l e R s m args below meth c H locs 0 0 Q (F0 m pc ls (.int x1 :: .ref (ad 11) :: rest)) := by
  obtain ⟨hx, hb, hml, hown, hts, hK, hN, hR⟩ := F
  exact afC_I hwd (va_runV (As := [.int x1]) (rest := rest) ⟨hx, hb, hml, hown, hts⟩ (hM H.size) ⟨callB_of 1 hts (goodC _ (List.forall_mem_cons.mpr ⟨kC_273, fun _ h => h⟩)) rfl rfl rfl (hts _ kC_62) (hts _ kC_125) (by decide +kernel) hr, (hts _ kC_126), (hts _ kC_127)⟩ (prC_V (k := 11) hK hN hwd (show clC[3]? = some (R_Cu, F_Cu, 5) from rfl) rfl) rfl rfl hsz rfl (lv_room hW) hdg ⟨Nat.zero_le _, Nat.zero_le _⟩) kk

theorem mcC_Cu_66 {x1 : Int32} {K : Int32 → St → Prop} {f lo : Nat} (F : fxC D cI cZ p R s m args c cc nL R_Cu fr lr) (hwd : wdC D cI cZ ad A H0 g H locs) (hM : ctCI l y_Cu_testLength b_Cu_testLength 1 f lo D cI cZ ad [.int x1] g K) (hr : f + 1 ≤ R.frames ∧ 8 + (1 + 11) + lo ≤ R.locals) (hsz : ls.size = nL) (hW : (rest.map fun v => v.category).sum ≤ 8) (hdg : decode cc pc = .ok (.invokestatic 66, 3)) (kk : ∀ (r : Int32) (g' : St) (H : Heap) (locs : List Loc), K r g' → wdC D cI cZ ad A H0 g' H locs → W p l e R s m args below meth c H locs 0 0 Q (F0 m (pc + 3) ls (.int r :: rest))) : W p l e R s m args below meth c H locs 0 0 Q (F0 m pc ls (.int x1 :: rest)) := by
  obtain ⟨hx, hb, hml, hown, hts, hK, hN, hR⟩ := F
  exact afC_I hwd (va_runS (As := [.int x1]) (rest := rest) ⟨hx, hb, hml, hown, hts⟩ (hM H.size) ⟨callB_of 1 hts (goodC _ (List.forall_mem_cons.mpr ⟨kC_274, fun _ h => h⟩)) rfl rfl rfl (hts _ kC_62) (hts _ kC_128) (by decide +kernel) hr, (hts _ kC_129)⟩ (prC_S hK hN hwd) rfl rfl hsz rfl (lv_room hW) hdg ⟨Nat.zero_le _, Nat.zero_le _⟩) kk

theorem mcC_Cu_41 {x1 : Int32} {K : St → Prop} {f lo : Nat} (F : fxC D cI cZ p R s m args c cc nL R_Cu fr lr) (hwd : wdC D cI cZ ad A H0 g H locs) (hM : ctCV l y_Cu_cutOut b_Cu_cutOut 2 f lo D cI cZ ad [.ref (ad 11), .int x1] g K) (hr : f + 1 ≤ R.frames ∧ 8 + (2 + 11) + lo ≤ R.locals) (hsz : ls.size = nL) (hW : (rest.map fun v => v.category).sum ≤ 8) (hdg : decode cc pc = .ok (.invokevirtual 41, 3)) (kk : ∀ (g' : St) (H : Heap) (locs : List Loc), K g' → wdC D cI cZ ad A H0 g' H locs → W p l e R s m args below meth c H locs 0 0 Q (F0 m (pc + 3) ls (rest))) : W p l e R s m args below meth c H locs 0 0 Q (F0 m pc ls (.int x1 :: .ref (ad 11) :: rest)) := by
  obtain ⟨hx, hb, hml, hown, hts, hK, hN, hR⟩ := F
  exact afC_V hwd (va_runV (As := [.int x1]) (rest := rest) ⟨hx, hb, hml, hown, hts⟩ (hM H.size) ⟨callB_of 1 hts (goodC _ (List.forall_mem_cons.mpr ⟨kC_271, fun _ h => h⟩)) rfl rfl rfl (hts _ kC_62) (hts _ kC_130) (by decide +kernel) hr, (hts _ kC_131), (hts _ kC_132)⟩ (prC_V (k := 11) hK hN hwd (show clC[3]? = some (R_Cu, F_Cu, 5) from rfl) rfl) rfl rfl hsz rfl (lv_room hW) hdg ⟨Nat.zero_le _, Nat.zero_le _⟩) kk

theorem mcC_Cu_59 {x1 : Int32} {K : Int32 → St → Prop} {f lo : Nat} (F : fxC D cI cZ p R s m args c cc nL R_Cu fr lr) (hwd : wdC D cI cZ ad A H0 g H locs) (hM : ctCI l y_Cu_splitLength b_Cu_splitLength 3 f lo D cI cZ ad [.ref (ad 11), .int x1] g K) (hr : f + 1 ≤ R.frames ∧ 8 + (3 + 11) + lo ≤ R.locals) (hsz : ls.size = nL) (hW : (rest.map fun v => v.category).sum ≤ 8) (hdg : decode cc pc = .ok (.invokevirtual 59, 3)) (kk : ∀ (r : Int32) (g' : St) (H : Heap) (locs : List Loc), K r g' → wdC D cI cZ ad A H0 g' H locs → W p l e R s m args below meth c H locs 0 0 Q (F0 m (pc + 3) ls (.int r :: rest))) : W p l e R s m args below meth c H locs 0 0 Q (F0 m pc ls (.int x1 :: .ref (ad 11) :: rest)) := by
  obtain ⟨hx, hb, hml, hown, hts, hK, hN, hR⟩ := F
  exact afC_I hwd (va_runV (As := [.int x1]) (rest := rest) ⟨hx, hb, hml, hown, hts⟩ (hM H.size) ⟨callB_of 1 hts (goodC _ (List.forall_mem_cons.mpr ⟨kC_272, fun _ h => h⟩)) rfl rfl rfl (hts _ kC_62) (hts _ kC_133) (by decide +kernel) hr, (hts _ kC_134), (hts _ kC_135)⟩ (prC_V (k := 11) hK hN hwd (show clC[3]? = some (R_Cu, F_Cu, 5) from rfl) rfl) rfl rfl hsz rfl (lv_room hW) hdg ⟨Nat.zero_le _, Nat.zero_le _⟩) kk

theorem mcC_Cu_45 {x1 : Int32} {K : Int32 → St → Prop} {f lo : Nat} (F : fxC D cI cZ p R s m args c cc nL R_Cu fr lr) (hwd : wdC D cI cZ ad A H0 g H locs) (hM : ctCZ l y_Fo_isLeaf b_Fo_isLeaf 2 f lo D cI cZ ad [.ref (ad 2), .int x1] g K) (hr : f + 1 ≤ R.frames ∧ 8 + (2 + 11) + lo ≤ R.locals) (hsz : ls.size = nL) (hW : (rest.map fun v => v.category).sum ≤ 8) (hdg : decode cc pc = .ok (.invokevirtual 45, 3)) (kk : ∀ (r : Int32) (g' : St) (H : Heap) (locs : List Loc), K r g' → wdC D cI cZ ad A H0 g' H locs → W p l e R s m args below meth c H locs 0 0 Q (F0 m (pc + 3) ls (.int r :: rest))) : W p l e R s m args below meth c H locs 0 0 Q (F0 m pc ls (.int x1 :: .ref (ad 2) :: rest)) := by
  obtain ⟨hx, hb, hml, hown, hts, hK, hN, hR⟩ := F
  exact afC_I hwd (va_runV (As := [.int x1]) (rest := rest) ⟨hx, hb, hml, hown, hts⟩ (hM H.size) ⟨callB_of 1 hts (goodC _ (List.forall_mem_cons.mpr ⟨kC_261, fun _ h => h⟩)) rfl rfl rfl (hts _ kC_51) (hts _ kC_136) (by decide +kernel) hr, (hts _ kC_113), (hts _ kC_114)⟩ (prC_V (k := 2) hK hN hwd (show clC[1]? = some (R_Fo, F_Fo, 8) from rfl) rfl) rfl rfl hsz rfl (lv_room hW) hdg ⟨Nat.zero_le _, Nat.zero_le _⟩) kk

theorem mcC_Cu_37 {x1 x2 x3 : Int32} {K : St → Prop} {f lo : Nat} (F : fxC D cI cZ p R s m args c cc nL R_Cu fr lr) (hwd : wdC D cI cZ ad A H0 g H locs) (hM : ctCV l y_Cu_cutFrom b_Cu_cutFrom 4 f lo D cI cZ ad [.ref (ad 11), .int x1, .int x2, .int x3] g K) (hr : f + 1 ≤ R.frames ∧ 8 + (4 + 11) + lo ≤ R.locals) (hsz : ls.size = nL) (hW : (rest.map fun v => v.category).sum ≤ 8) (hdg : decode cc pc = .ok (.invokevirtual 37, 3)) (kk : ∀ (g' : St) (H : Heap) (locs : List Loc), K g' → wdC D cI cZ ad A H0 g' H locs → W p l e R s m args below meth c H locs 0 0 Q (F0 m (pc + 3) ls (rest))) : W p l e R s m args below meth c H locs 0 0 Q (F0 m pc ls (.int x3 :: .int x2 :: .int x1 :: .ref (ad 11) :: rest)) := by
  obtain ⟨hx, hb, hml, hown, hts, hK, hN, hR⟩ := F
  exact afC_V hwd (va_runV (As := [.int x1, .int x2, .int x3]) (rest := rest) ⟨hx, hb, hml, hown, hts⟩ (hM H.size) ⟨callB_of 3 hts (goodC _ (List.forall_mem_cons.mpr ⟨kC_269, fun _ h => h⟩)) rfl rfl rfl (hts _ kC_62) (hts _ kC_137) (by decide +kernel) hr, (hts _ kC_138), (hts _ kC_139)⟩ (prC_V (k := 11) hK hN hwd (show clC[3]? = some (R_Cu, F_Cu, 5) from rfl) rfl) rfl rfl hsz rfl (lv_room hW) hdg ⟨Nat.zero_le _, Nat.zero_le _⟩) kk

theorem mcC_Cu_55 {x1 x2 : Int32} {K : St → Prop} {f lo : Nat} (F : fxC D cI cZ p R s m args c cc nL R_Cu fr lr) (hwd : wdC D cI cZ ad A H0 g H locs) (hM : ctCV l y_Cu_cutChildren b_Cu_cutChildren 6 f lo D cI cZ ad [.ref (ad 11), .int x1, .int x2] g K) (hr : f + 1 ≤ R.frames ∧ 8 + (6 + 11) + lo ≤ R.locals) (hsz : ls.size = nL) (hW : (rest.map fun v => v.category).sum ≤ 8) (hdg : decode cc pc = .ok (.invokevirtual 55, 3)) (kk : ∀ (g' : St) (H : Heap) (locs : List Loc), K g' → wdC D cI cZ ad A H0 g' H locs → W p l e R s m args below meth c H locs 0 0 Q (F0 m (pc + 3) ls (rest))) : W p l e R s m args below meth c H locs 0 0 Q (F0 m pc ls (.int x2 :: .int x1 :: .ref (ad 11) :: rest)) := by
  obtain ⟨hx, hb, hml, hown, hts, hK, hN, hR⟩ := F
  exact afC_V hwd (va_runV (As := [.int x1, .int x2]) (rest := rest) ⟨hx, hb, hml, hown, hts⟩ (hM H.size) ⟨callB_of 2 hts (goodC _ (List.forall_mem_cons.mpr ⟨kC_270, fun _ h => h⟩)) rfl rfl rfl (hts _ kC_62) (hts _ kC_140) (by decide +kernel) hr, (hts _ kC_141), (hts _ kC_142)⟩ (prC_V (k := 11) hK hN hwd (show clC[3]? = some (R_Cu, F_Cu, 5) from rfl) rfl) rfl rfl hsz rfl (lv_room hW) hdg ⟨Nat.zero_le _, Nat.zero_le _⟩) kk

theorem mcC_Ta_29 {x1 : Int32} {K : Int32 → St → Prop} {f lo : Nat} (F : fxC D cI cZ p R s m args c cc nL R_Ta fr lr) (hwd : wdC D cI cZ ad A H0 g H locs) (hM : ctCI l y_Ta_sizeOf b_Ta_sizeOf 2 f lo D cI cZ ad [.ref (ad 15), .int x1] g K) (hr : f + 1 ≤ R.frames ∧ 8 + (2 + 11) + lo ≤ R.locals) (hsz : ls.size = nL) (hW : (rest.map fun v => v.category).sum ≤ 8) (hdg : decode cc pc = .ok (.invokevirtual 29, 3)) (kk : ∀ (r : Int32) (g' : St) (H : Heap) (locs : List Loc), K r g' → wdC D cI cZ ad A H0 g' H locs → W p l e R s m args below meth c H locs 0 0 Q (F0 m (pc + 3) ls (.int r :: rest))) : W p l e R s m args below meth c H locs 0 0 Q (F0 m pc ls (.int x1 :: .ref (ad 15) :: rest)) := by
  obtain ⟨hx, hb, hml, hown, hts, hK, hN, hR⟩ := F
  exact afC_I hwd (va_runV (As := [.int x1]) (rest := rest) ⟨hx, hb, hml, hown, hts⟩ (hM H.size) ⟨callB_of 1 hts (goodC _ (List.forall_mem_cons.mpr ⟨kC_278, fun _ h => h⟩)) rfl rfl rfl (hts _ kC_68) (hts _ kC_143) (by decide +kernel) hr, (hts _ kC_144), (hts _ kC_145)⟩ (prC_V (k := 15) hK hN hwd (show clC[4]? = some (R_Ta, F_Ta, 4) from rfl) rfl) rfl rfl hsz rfl (lv_room hW) hdg ⟨Nat.zero_le _, Nat.zero_le _⟩) kk

theorem mcC_Co_108 {x1 : Int32} {K : St → Prop} {f lo : Nat} (F : fxC D cI cZ p R s m args c cc nL R_Co fr lr) (hwd : wdC D cI cZ ad A H0 g H locs) (hM : ctCV l y_Co_writeByte b_Co_writeByte 2 f lo D cI cZ ad [.ref (ad 19), .int x1] g K) (hr : f + 1 ≤ R.frames ∧ 8 + (2 + 11) + lo ≤ R.locals) (hsz : ls.size = nL) (hW : (rest.map fun v => v.category).sum ≤ 8) (hdg : decode cc pc = .ok (.invokevirtual 108, 3)) (kk : ∀ (g' : St) (H : Heap) (locs : List Loc), K g' → wdC D cI cZ ad A H0 g' H locs → W p l e R s m args below meth c H locs 0 0 Q (F0 m (pc + 3) ls (rest))) : W p l e R s m args below meth c H locs 0 0 Q (F0 m pc ls (.int x1 :: .ref (ad 19) :: rest)) := by
  obtain ⟨hx, hb, hml, hown, hts, hK, hN, hR⟩ := F
  exact afC_V hwd (va_runV (As := [.int x1]) (rest := rest) ⟨hx, hb, hml, hown, hts⟩ (hM H.size) ⟨callB_of 1 hts (goodC _ (List.forall_mem_cons.mpr ⟨kC_290, fun _ h => h⟩)) rfl rfl rfl (hts _ kC_73) (hts _ kC_146) (by decide +kernel) hr, (hts _ kC_147), (hts _ kC_148)⟩ (prC_V (k := 19) hK hN hwd (show clC[5]? = some (R_Co, F_Co, 10) from rfl) rfl) rfl rfl hsz rfl (lv_room hW) hdg ⟨Nat.zero_le _, Nat.zero_le _⟩) kk

theorem mcC_Fo_41 {x1 : Int32} {K : Int32 → St → Prop} {f lo : Nat} (F : fxC D cI cZ p R s m args c cc nL R_Fo fr lr) (hwd : wdC D cI cZ ad A H0 g H locs) (hM : ctCZ l y_Fo_isLeaf b_Fo_isLeaf 2 f lo D cI cZ ad [.ref (ad 2), .int x1] g K) (hr : f + 1 ≤ R.frames ∧ 8 + (2 + 11) + lo ≤ R.locals) (hsz : ls.size = nL) (hW : (rest.map fun v => v.category).sum ≤ 8) (hdg : decode cc pc = .ok (.invokevirtual 41, 3)) (kk : ∀ (r : Int32) (g' : St) (H : Heap) (locs : List Loc), K r g' → wdC D cI cZ ad A H0 g' H locs → W p l e R s m args below meth c H locs 0 0 Q (F0 m (pc + 3) ls (.int r :: rest))) : W p l e R s m args below meth c H locs 0 0 Q (F0 m pc ls (.int x1 :: .ref (ad 2) :: rest)) := by
  obtain ⟨hx, hb, hml, hown, hts, hK, hN, hR⟩ := F
  exact afC_I hwd (va_runV (As := [.int x1]) (rest := rest) ⟨hx, hb, hml, hown, hts⟩ (hM H.size) ⟨callB_of 1 hts (goodC _ (List.forall_mem_cons.mpr ⟨kC_261, fun _ h => h⟩)) rfl rfl rfl (hts _ kC_51) (hts _ kC_149) (by decide +kernel) hr, (hts _ kC_113), (hts _ kC_114)⟩ (prC_V (k := 2) hK hN hwd (show clC[1]? = some (R_Fo, F_Fo, 8) from rfl) rfl) rfl rfl hsz rfl (lv_room hW) hdg ⟨Nat.zero_le _, Nat.zero_le _⟩) kk

theorem mcC_Fo_44 {x1 : Int32} {K : Int32 → St → Prop} {f lo : Nat} (F : fxC D cI cZ p R s m args c cc nL R_Fo fr lr) (hwd : wdC D cI cZ ad A H0 g H locs) (hM : ctCZ l y_Ru_isBitRule b_Ru_isBitRule 1 f lo D cI cZ ad [.int x1] g K) (hr : f + 1 ≤ R.frames ∧ 8 + (1 + 11) + lo ≤ R.locals) (hsz : ls.size = nL) (hW : (rest.map fun v => v.category).sum ≤ 8) (hdg : decode cc pc = .ok (.invokestatic 44, 3)) (kk : ∀ (r : Int32) (g' : St) (H : Heap) (locs : List Loc), K r g' → wdC D cI cZ ad A H0 g' H locs → W p l e R s m args below meth c H locs 0 0 Q (F0 m (pc + 3) ls (.int r :: rest))) : W p l e R s m args below meth c H locs 0 0 Q (F0 m pc ls (.int x1 :: rest)) := by
  obtain ⟨hx, hb, hml, hown, hts, hK, hN, hR⟩ := F
  exact afC_I hwd (va_runS (As := [.int x1]) (rest := rest) ⟨hx, hb, hml, hown, hts⟩ (hM H.size) ⟨callB_of 1 hts (goodC _ (List.forall_mem_cons.mpr ⟨kC_297, fun _ h => h⟩)) rfl rfl rfl (hts _ kC_98) (hts _ kC_150) (by decide +kernel) hr, (hts _ kC_97)⟩ (prC_S hK hN hwd) rfl rfl hsz rfl (lv_room hW) hdg ⟨Nat.zero_le _, Nat.zero_le _⟩) kk

theorem mcC_Co_129 {x1 : Int32} {K : Int32 → St → Prop} {f lo : Nat} (F : fxC D cI cZ p R s m args c cc nL R_Co fr lr) (hwd : wdC D cI cZ ad A H0 g H locs) (hM : ctCI l y_Cu_testLength b_Cu_testLength 1 f lo D cI cZ ad [.int x1] g K) (hr : f + 1 ≤ R.frames ∧ 8 + (1 + 11) + lo ≤ R.locals) (hsz : ls.size = nL) (hW : (rest.map fun v => v.category).sum ≤ 8) (hdg : decode cc pc = .ok (.invokestatic 129, 3)) (kk : ∀ (r : Int32) (g' : St) (H : Heap) (locs : List Loc), K r g' → wdC D cI cZ ad A H0 g' H locs → W p l e R s m args below meth c H locs 0 0 Q (F0 m (pc + 3) ls (.int r :: rest))) : W p l e R s m args below meth c H locs 0 0 Q (F0 m pc ls (.int x1 :: rest)) := by
  obtain ⟨hx, hb, hml, hown, hts, hK, hN, hR⟩ := F
  exact afC_I hwd (va_runS (As := [.int x1]) (rest := rest) ⟨hx, hb, hml, hown, hts⟩ (hM H.size) ⟨callB_of 1 hts (goodC _ (List.forall_mem_cons.mpr ⟨kC_274, fun _ h => h⟩)) rfl rfl rfl (hts _ kC_62) (hts _ kC_151) (by decide +kernel) hr, (hts _ kC_129)⟩ (prC_S hK hN hwd) rfl rfl hsz rfl (lv_room hW) hdg ⟨Nat.zero_le _, Nat.zero_le _⟩) kk

theorem mcC_Co_94 {x1 x2 : Int32} {K : St → Prop} {f lo : Nat} (F : fxC D cI cZ p R s m args c cc nL R_Co fr lr) (hwd : wdC D cI cZ ad A H0 g H locs) (hM : ctCV l y_Co_writePair b_Co_writePair 3 f lo D cI cZ ad [.ref (ad 19), .int x1, .int x2] g K) (hr : f + 1 ≤ R.frames ∧ 8 + (3 + 11) + lo ≤ R.locals) (hsz : ls.size = nL) (hW : (rest.map fun v => v.category).sum ≤ 8) (hdg : decode cc pc = .ok (.invokevirtual 94, 3)) (kk : ∀ (g' : St) (H : Heap) (locs : List Loc), K g' → wdC D cI cZ ad A H0 g' H locs → W p l e R s m args below meth c H locs 0 0 Q (F0 m (pc + 3) ls (rest))) : W p l e R s m args below meth c H locs 0 0 Q (F0 m pc ls (.int x2 :: .int x1 :: .ref (ad 19) :: rest)) := by
  obtain ⟨hx, hb, hml, hown, hts, hK, hN, hR⟩ := F
  exact afC_V hwd (va_runV (As := [.int x1, .int x2]) (rest := rest) ⟨hx, hb, hml, hown, hts⟩ (hM H.size) ⟨callB_of 2 hts (goodC _ (List.forall_mem_cons.mpr ⟨kC_289, fun _ h => h⟩)) rfl rfl rfl (hts _ kC_73) (hts _ kC_152) (by decide +kernel) hr, (hts _ kC_153), (hts _ kC_154)⟩ (prC_V (k := 19) hK hN hwd (show clC[5]? = some (R_Co, F_Co, 10) from rfl) rfl) rfl rfl hsz rfl (lv_room hW) hdg ⟨Nat.zero_le _, Nat.zero_le _⟩) kk

theorem mcC_Co_104 {x1 x2 : Int32} {K : Int32 → St → Prop} {f lo : Nat} (F : fxC D cI cZ p R s m args c cc nL R_Co fr lr) (hwd : wdC D cI cZ ad A H0 g H locs) (hM : ctCI l y_Ta_numberFor b_Ta_numberFor 6 f lo D cI cZ ad [.ref (ad 15), .int x1, .int x2] g K) (hr : f + 1 ≤ R.frames ∧ 8 + (6 + 11) + lo ≤ R.locals) (hsz : ls.size = nL) (hW : (rest.map fun v => v.category).sum ≤ 8) (hdg : decode cc pc = .ok (.invokevirtual 104, 3)) (kk : ∀ (r : Int32) (g' : St) (H : Heap) (locs : List Loc), K r g' → wdC D cI cZ ad A H0 g' H locs → W p l e R s m args below meth c H locs 0 0 Q (F0 m (pc + 3) ls (.int r :: rest))) : W p l e R s m args below meth c H locs 0 0 Q (F0 m pc ls (.int x2 :: .int x1 :: .ref (ad 15) :: rest)) := by
  obtain ⟨hx, hb, hml, hown, hts, hK, hN, hR⟩ := F
  exact afC_I hwd (va_runV (As := [.int x1, .int x2]) (rest := rest) ⟨hx, hb, hml, hown, hts⟩ (hM H.size) ⟨callB_of 2 hts (goodC _ (List.forall_mem_cons.mpr ⟨kC_282, fun _ h => h⟩)) rfl rfl rfl (hts _ kC_68) (hts _ kC_155) (by decide +kernel) hr, (hts _ kC_156), (hts _ kC_157)⟩ (prC_V (k := 15) hK hN hwd (show clC[4]? = some (R_Ta, F_Ta, 4) from rfl) rfl) rfl rfl hsz rfl (lv_room hW) hdg ⟨Nat.zero_le _, Nat.zero_le _⟩) kk

theorem mcC_Co_77 {x1 x2 : Int32} {K : St → Prop} {f lo : Nat} (F : fxC D cI cZ p R s m args c cc nL R_Co fr lr) (hwd : wdC D cI cZ ad A H0 g H locs) (hM : ctCV l y_Co_writeCode b_Co_writeCode 4 f lo D cI cZ ad [.ref (ad 19), .int x1, .int x2] g K) (hr : f + 1 ≤ R.frames ∧ 8 + (4 + 11) + lo ≤ R.locals) (hsz : ls.size = nL) (hW : (rest.map fun v => v.category).sum ≤ 8) (hdg : decode cc pc = .ok (.invokevirtual 77, 3)) (kk : ∀ (g' : St) (H : Heap) (locs : List Loc), K g' → wdC D cI cZ ad A H0 g' H locs → W p l e R s m args below meth c H locs 0 0 Q (F0 m (pc + 3) ls (rest))) : W p l e R s m args below meth c H locs 0 0 Q (F0 m pc ls (.int x2 :: .int x1 :: .ref (ad 19) :: rest)) := by
  obtain ⟨hx, hb, hml, hown, hts, hK, hN, hR⟩ := F
  exact afC_V hwd (va_runV (As := [.int x1, .int x2]) (rest := rest) ⟨hx, hb, hml, hown, hts⟩ (hM H.size) ⟨callB_of 2 hts (goodC _ (List.forall_mem_cons.mpr ⟨kC_286, fun _ h => h⟩)) rfl rfl rfl (hts _ kC_73) (hts _ kC_158) (by decide +kernel) hr, (hts _ kC_159), (hts _ kC_160)⟩ (prC_V (k := 19) hK hN hwd (show clC[5]? = some (R_Co, F_Co, 10) from rfl) rfl) rfl rfl hsz rfl (lv_room hW) hdg ⟨Nat.zero_le _, Nat.zero_le _⟩) kk

theorem mcC_Co_97 {x1 : Int32} {K : Int32 → St → Prop} {f lo : Nat} (F : fxC D cI cZ p R s m args c cc nL R_Co fr lr) (hwd : wdC D cI cZ ad A H0 g H locs) (hM : ctCI l y_Fo_kindOfEntry b_Fo_kindOfEntry 2 f lo D cI cZ ad [.ref (ad 2), .int x1] g K) (hr : f + 1 ≤ R.frames ∧ 8 + (2 + 11) + lo ≤ R.locals) (hsz : ls.size = nL) (hW : (rest.map fun v => v.category).sum ≤ 8) (hdg : decode cc pc = .ok (.invokevirtual 97, 3)) (kk : ∀ (r : Int32) (g' : St) (H : Heap) (locs : List Loc), K r g' → wdC D cI cZ ad A H0 g' H locs → W p l e R s m args below meth c H locs 0 0 Q (F0 m (pc + 3) ls (.int r :: rest))) : W p l e R s m args below meth c H locs 0 0 Q (F0 m pc ls (.int x1 :: .ref (ad 2) :: rest)) := by
  obtain ⟨hx, hb, hml, hown, hts, hK, hN, hR⟩ := F
  exact afC_I hwd (va_runV (As := [.int x1]) (rest := rest) ⟨hx, hb, hml, hown, hts⟩ (hM H.size) ⟨callB_of 1 hts (goodC _ (List.forall_mem_cons.mpr ⟨kC_262, fun _ h => h⟩)) rfl rfl rfl (hts _ kC_51) (hts _ kC_161) (by decide +kernel) hr, (hts _ kC_162), (hts _ kC_163)⟩ (prC_V (k := 2) hK hN hwd (show clC[1]? = some (R_Fo, F_Fo, 8) from rfl) rfl) rfl rfl hsz rfl (lv_room hW) hdg ⟨Nat.zero_le _, Nat.zero_le _⟩) kk

theorem mcC_Co_117 {x1 : Int32} {K : Int32 → St → Prop} {f lo : Nat} (F : fxC D cI cZ p R s m args c cc nL R_Co fr lr) (hwd : wdC D cI cZ ad A H0 g H locs) (hM : ctCI l y_Cu_partLength b_Cu_partLength 2 f lo D cI cZ ad [.ref (ad 11), .int x1] g K) (hr : f + 1 ≤ R.frames ∧ 8 + (2 + 11) + lo ≤ R.locals) (hsz : ls.size = nL) (hW : (rest.map fun v => v.category).sum ≤ 8) (hdg : decode cc pc = .ok (.invokevirtual 117, 3)) (kk : ∀ (r : Int32) (g' : St) (H : Heap) (locs : List Loc), K r g' → wdC D cI cZ ad A H0 g' H locs → W p l e R s m args below meth c H locs 0 0 Q (F0 m (pc + 3) ls (.int r :: rest))) : W p l e R s m args below meth c H locs 0 0 Q (F0 m pc ls (.int x1 :: .ref (ad 11) :: rest)) := by
  obtain ⟨hx, hb, hml, hown, hts, hK, hN, hR⟩ := F
  exact afC_I hwd (va_runV (As := [.int x1]) (rest := rest) ⟨hx, hb, hml, hown, hts⟩ (hM H.size) ⟨callB_of 1 hts (goodC _ (List.forall_mem_cons.mpr ⟨kC_273, fun _ h => h⟩)) rfl rfl rfl (hts _ kC_62) (hts _ kC_164) (by decide +kernel) hr, (hts _ kC_126), (hts _ kC_127)⟩ (prC_V (k := 11) hK hN hwd (show clC[3]? = some (R_Cu, F_Cu, 5) from rfl) rfl) rfl rfl hsz rfl (lv_room hW) hdg ⟨Nat.zero_le _, Nat.zero_le _⟩) kk

theorem mcC_Co_120 {x1 x2 : Int32} {K : St → Prop} {f lo : Nat} (F : fxC D cI cZ p R s m args c cc nL R_Co fr lr) (hwd : wdC D cI cZ ad A H0 g H locs) (hM : ctCV l y_Co_writeTest b_Co_writeTest 5 f lo D cI cZ ad [.ref (ad 19), .int x1, .int x2] g K) (hr : f + 1 ≤ R.frames ∧ 8 + (5 + 11) + lo ≤ R.locals) (hsz : ls.size = nL) (hW : (rest.map fun v => v.category).sum ≤ 8) (hdg : decode cc pc = .ok (.invokevirtual 120, 3)) (kk : ∀ (g' : St) (H : Heap) (locs : List Loc), K g' → wdC D cI cZ ad A H0 g' H locs → W p l e R s m args below meth c H locs 0 0 Q (F0 m (pc + 3) ls (rest))) : W p l e R s m args below meth c H locs 0 0 Q (F0 m pc ls (.int x2 :: .int x1 :: .ref (ad 19) :: rest)) := by
  obtain ⟨hx, hb, hml, hown, hts, hK, hN, hR⟩ := F
  exact afC_V hwd (va_runV (As := [.int x1, .int x2]) (rest := rest) ⟨hx, hb, hml, hown, hts⟩ (hM H.size) ⟨callB_of 2 hts (goodC _ (List.forall_mem_cons.mpr ⟨kC_288, fun _ h => h⟩)) rfl rfl rfl (hts _ kC_73) (hts _ kC_165) (by decide +kernel) hr, (hts _ kC_166), (hts _ kC_167)⟩ (prC_V (k := 19) hK hN hwd (show clC[5]? = some (R_Co, F_Co, 10) from rfl) rfl) rfl rfl hsz rfl (lv_room hW) hdg ⟨Nat.zero_le _, Nat.zero_le _⟩) kk

theorem mcC_Co_123 {x1 x2 : Int32} {K : St → Prop} {f lo : Nat} (F : fxC D cI cZ p R s m args c cc nL R_Co fr lr) (hwd : wdC D cI cZ ad A H0 g H locs) (hM : ctCV l y_Co_writePart b_Co_writePart 4 f lo D cI cZ ad [.ref (ad 19), .int x1, .int x2] g K) (hr : f + 1 ≤ R.frames ∧ 8 + (4 + 11) + lo ≤ R.locals) (hsz : ls.size = nL) (hW : (rest.map fun v => v.category).sum ≤ 8) (hdg : decode cc pc = .ok (.invokevirtual 123, 3)) (kk : ∀ (g' : St) (H : Heap) (locs : List Loc), K g' → wdC D cI cZ ad A H0 g' H locs → W p l e R s m args below meth c H locs 0 0 Q (F0 m (pc + 3) ls (rest))) : W p l e R s m args below meth c H locs 0 0 Q (F0 m pc ls (.int x2 :: .int x1 :: .ref (ad 19) :: rest)) := by
  obtain ⟨hx, hb, hml, hown, hts, hK, hN, hR⟩ := F
  exact afC_V hwd (va_runV (As := [.int x1, .int x2]) (rest := rest) ⟨hx, hb, hml, hown, hts⟩ (hM H.size) ⟨callB_of 2 hts (goodC _ (List.forall_mem_cons.mpr ⟨kC_287, fun _ h => h⟩)) rfl rfl rfl (hts _ kC_73) (hts _ kC_168) (by decide +kernel) hr, (hts _ kC_169), (hts _ kC_170)⟩ (prC_V (k := 19) hK hN hwd (show clC[5]? = some (R_Co, F_Co, 10) from rfl) rfl) rfl rfl hsz rfl (lv_room hW) hdg ⟨Nat.zero_le _, Nat.zero_le _⟩) kk

theorem mcC_Co_87 {x1 : Int32} {K : Int32 → St → Prop} {f lo : Nat} (F : fxC D cI cZ p R s m args c cc nL R_Co fr lr) (hwd : wdC D cI cZ ad A H0 g H locs) (hM : ctCZ l y_Fo_isLeaf b_Fo_isLeaf 2 f lo D cI cZ ad [.ref (ad 2), .int x1] g K) (hr : f + 1 ≤ R.frames ∧ 8 + (2 + 11) + lo ≤ R.locals) (hsz : ls.size = nL) (hW : (rest.map fun v => v.category).sum ≤ 8) (hdg : decode cc pc = .ok (.invokevirtual 87, 3)) (kk : ∀ (r : Int32) (g' : St) (H : Heap) (locs : List Loc), K r g' → wdC D cI cZ ad A H0 g' H locs → W p l e R s m args below meth c H locs 0 0 Q (F0 m (pc + 3) ls (.int r :: rest))) : W p l e R s m args below meth c H locs 0 0 Q (F0 m pc ls (.int x1 :: .ref (ad 2) :: rest)) := by
  obtain ⟨hx, hb, hml, hown, hts, hK, hN, hR⟩ := F
  exact afC_I hwd (va_runV (As := [.int x1]) (rest := rest) ⟨hx, hb, hml, hown, hts⟩ (hM H.size) ⟨callB_of 1 hts (goodC _ (List.forall_mem_cons.mpr ⟨kC_261, fun _ h => h⟩)) rfl rfl rfl (hts _ kC_51) (hts _ kC_171) (by decide +kernel) hr, (hts _ kC_113), (hts _ kC_114)⟩ (prC_V (k := 2) hK hN hwd (show clC[1]? = some (R_Fo, F_Fo, 8) from rfl) rfl) rfl rfl hsz rfl (lv_room hW) hdg ⟨Nat.zero_le _, Nat.zero_le _⟩) kk

theorem mcC_Co_70 {K : Int32 → St → Prop} {f lo : Nat} (F : fxC D cI cZ p R s m args c cc nL R_Co fr lr) (hwd : wdC D cI cZ ad A H0 g H locs) (hM : ctCI l y_Ta_latestSize b_Ta_latestSize 1 f lo D cI cZ ad [.ref (ad 15)] g K) (hr : f + 1 ≤ R.frames ∧ 8 + (1 + 11) + lo ≤ R.locals) (hsz : ls.size = nL) (hW : (rest.map fun v => v.category).sum ≤ 8) (hdg : decode cc pc = .ok (.invokevirtual 70, 3)) (kk : ∀ (r : Int32) (g' : St) (H : Heap) (locs : List Loc), K r g' → wdC D cI cZ ad A H0 g' H locs → W p l e R s m args below meth c H locs 0 0 Q (F0 m (pc + 3) ls (.int r :: rest))) : W p l e R s m args below meth c H locs 0 0 Q (F0 m pc ls (.ref (ad 15) :: rest)) := by
  obtain ⟨hx, hb, hml, hown, hts, hK, hN, hR⟩ := F
  exact afC_I hwd (va_runV (As := []) (rest := rest) ⟨hx, hb, hml, hown, hts⟩ (hM H.size) ⟨callB_of 0 hts (goodC _ (List.forall_mem_cons.mpr ⟨kC_280, fun _ h => h⟩)) rfl rfl rfl (hts _ kC_68) (hts _ kC_172) (by decide +kernel) hr, (hts _ kC_173), (hts _ kC_174)⟩ (prC_V (k := 15) hK hN hwd (show clC[4]? = some (R_Ta, F_Ta, 4) from rfl) rfl) rfl rfl hsz rfl (lv_room hW) hdg ⟨Nat.zero_le _, Nat.zero_le _⟩) kk

theorem mcC_Co_80 {x1 : Int32} {K : St → Prop} {f lo : Nat} (F : fxC D cI cZ p R s m args c cc nL R_Co fr lr) (hwd : wdC D cI cZ ad A H0 g H locs) (hM : ctCV l y_Ta_shrinkLatest b_Ta_shrinkLatest 2 f lo D cI cZ ad [.ref (ad 15), .int x1] g K) (hr : f + 1 ≤ R.frames ∧ 8 + (2 + 11) + lo ≤ R.locals) (hsz : ls.size = nL) (hW : (rest.map fun v => v.category).sum ≤ 8) (hdg : decode cc pc = .ok (.invokevirtual 80, 3)) (kk : ∀ (g' : St) (H : Heap) (locs : List Loc), K g' → wdC D cI cZ ad A H0 g' H locs → W p l e R s m args below meth c H locs 0 0 Q (F0 m (pc + 3) ls (rest))) : W p l e R s m args below meth c H locs 0 0 Q (F0 m pc ls (.int x1 :: .ref (ad 15) :: rest)) := by
  obtain ⟨hx, hb, hml, hown, hts, hK, hN, hR⟩ := F
  exact afC_V hwd (va_runV (As := [.int x1]) (rest := rest) ⟨hx, hb, hml, hown, hts⟩ (hM H.size) ⟨callB_of 1 hts (goodC _ (List.forall_mem_cons.mpr ⟨kC_281, fun _ h => h⟩)) rfl rfl rfl (hts _ kC_68) (hts _ kC_175) (by decide +kernel) hr, (hts _ kC_176), (hts _ kC_177)⟩ (prC_V (k := 15) hK hN hwd (show clC[4]? = some (R_Ta, F_Ta, 4) from rfl) rfl) rfl rfl hsz rfl (lv_room hW) hdg ⟨Nat.zero_le _, Nat.zero_le _⟩) kk

theorem mcC_Co_48 {K : St → Prop} {f lo : Nat} (F : fxC D cI cZ p R s m args c cc nL R_Co fr lr) (hwd : wdC D cI cZ ad A H0 g H locs) (hM : ctCV l y_Ta_openClass b_Ta_openClass 1 f lo D cI cZ ad [.ref (ad 15)] g K) (hr : f + 1 ≤ R.frames ∧ 8 + (1 + 11) + lo ≤ R.locals) (hsz : ls.size = nL) (hW : (rest.map fun v => v.category).sum ≤ 8) (hdg : decode cc pc = .ok (.invokevirtual 48, 3)) (kk : ∀ (g' : St) (H : Heap) (locs : List Loc), K g' → wdC D cI cZ ad A H0 g' H locs → W p l e R s m args below meth c H locs 0 0 Q (F0 m (pc + 3) ls (rest))) : W p l e R s m args below meth c H locs 0 0 Q (F0 m pc ls (.ref (ad 15) :: rest)) := by
  obtain ⟨hx, hb, hml, hown, hts, hK, hN, hR⟩ := F
  exact afC_V hwd (va_runV (As := []) (rest := rest) ⟨hx, hb, hml, hown, hts⟩ (hM H.size) ⟨callB_of 0 hts (goodC _ (List.forall_mem_cons.mpr ⟨kC_276, fun _ h => h⟩)) rfl rfl rfl (hts _ kC_68) (hts _ kC_178) (by decide +kernel) hr, (hts _ kC_179), (hts _ kC_180)⟩ (prC_V (k := 15) hK hN hwd (show clC[4]? = some (R_Ta, F_Ta, 4) from rfl) rfl) rfl rfl hsz rfl (lv_room hW) hdg ⟨Nat.zero_le _, Nat.zero_le _⟩) kk

theorem mcC_Co_54 {x1 x2 : Int32} {K : St → Prop} {f lo : Nat} (F : fxC D cI cZ p R s m args c cc nL R_Co fr lr) (hwd : wdC D cI cZ ad A H0 g H locs) (hM : ctCV l y_Co_writeMethod b_Co_writeMethod 4 f lo D cI cZ ad [.ref (ad 19), .int x1, .int x2] g K) (hr : f + 1 ≤ R.frames ∧ 8 + (4 + 11) + lo ≤ R.locals) (hsz : ls.size = nL) (hW : (rest.map fun v => v.category).sum ≤ 8) (hdg : decode cc pc = .ok (.invokevirtual 54, 3)) (kk : ∀ (g' : St) (H : Heap) (locs : List Loc), K g' → wdC D cI cZ ad A H0 g' H locs → W p l e R s m args below meth c H locs 0 0 Q (F0 m (pc + 3) ls (rest))) : W p l e R s m args below meth c H locs 0 0 Q (F0 m pc ls (.int x2 :: .int x1 :: .ref (ad 19) :: rest)) := by
  obtain ⟨hx, hb, hml, hown, hts, hK, hN, hR⟩ := F
  exact afC_V hwd (va_runV (As := [.int x1, .int x2]) (rest := rest) ⟨hx, hb, hml, hown, hts⟩ (hM H.size) ⟨callB_of 2 hts (goodC _ (List.forall_mem_cons.mpr ⟨kC_285, fun _ h => h⟩)) rfl rfl rfl (hts _ kC_73) (hts _ kC_181) (by decide +kernel) hr, (hts _ kC_182), (hts _ kC_183)⟩ (prC_V (k := 19) hK hN hwd (show clC[5]? = some (R_Co, F_Co, 10) from rfl) rfl) rfl rfl hsz rfl (lv_room hW) hdg ⟨Nat.zero_le _, Nat.zero_le _⟩) kk

theorem mcC_Co_43 {K : St → Prop} {f lo : Nat} (F : fxC D cI cZ p R s m args c cc nL R_Co fr lr) (hwd : wdC D cI cZ ad A H0 g H locs) (hM : ctCV l y_Ta_forgetAll b_Ta_forgetAll 1 f lo D cI cZ ad [.ref (ad 15)] g K) (hr : f + 1 ≤ R.frames ∧ 8 + (1 + 11) + lo ≤ R.locals) (hsz : ls.size = nL) (hW : (rest.map fun v => v.category).sum ≤ 8) (hdg : decode cc pc = .ok (.invokevirtual 43, 3)) (kk : ∀ (g' : St) (H : Heap) (locs : List Loc), K g' → wdC D cI cZ ad A H0 g' H locs → W p l e R s m args below meth c H locs 0 0 Q (F0 m (pc + 3) ls (rest))) : W p l e R s m args below meth c H locs 0 0 Q (F0 m pc ls (.ref (ad 15) :: rest)) := by
  obtain ⟨hx, hb, hml, hown, hts, hK, hN, hR⟩ := F
  exact afC_V hwd (va_runV (As := []) (rest := rest) ⟨hx, hb, hml, hown, hts⟩ (hM H.size) ⟨callB_of 0 hts (goodC _ (List.forall_mem_cons.mpr ⟨kC_275, fun _ h => h⟩)) rfl rfl rfl (hts _ kC_68) (hts _ kC_184) (by decide +kernel) hr, (hts _ kC_185), (hts _ kC_186)⟩ (prC_V (k := 15) hK hN hwd (show clC[4]? = some (R_Ta, F_Ta, 4) from rfl) rfl) rfl rfl hsz rfl (lv_room hW) hdg ⟨Nat.zero_le _, Nat.zero_le _⟩) kk

theorem mcC_BF_82 {x1 x2 : Int32} {K : Int32 → St → Prop} {f lo : Nat} (F : fxC D cI cZ p R s m args c cc nL R_BF fr lr) (hwd : wdC D cI cZ ad A H0 g H locs) (hM : ctCZ l y_BF_isTableSize b_BF_isTableSize 2 f lo D cI cZ ad [.int x1, .int x2] g K) (hr : f + 1 ≤ R.frames ∧ 8 + (2 + 11) + lo ≤ R.locals) (hsz : ls.size = nL) (hW : (rest.map fun v => v.category).sum ≤ 8) (hdg : decode cc pc = .ok (.invokestatic 82, 3)) (kk : ∀ (r : Int32) (g' : St) (H : Heap) (locs : List Loc), K r g' → wdC D cI cZ ad A H0 g' H locs → W p l e R s m args below meth c H locs 0 0 Q (F0 m (pc + 3) ls (.int r :: rest))) : W p l e R s m args below meth c H locs 0 0 Q (F0 m pc ls (.int x2 :: .int x1 :: rest)) := by
  obtain ⟨hx, hb, hml, hown, hts, hK, hN, hR⟩ := F
  exact afC_I hwd (va_runS (As := [.int x1, .int x2]) (rest := rest) ⟨hx, hb, hml, hown, hts⟩ (hM H.size) ⟨callB_of 2 hts (goodC _ (List.forall_mem_cons.mpr ⟨kC_257, fun _ h => h⟩)) rfl rfl rfl (hts _ kC_101) (hts _ kC_187) (by decide +kernel) hr, (hts _ kC_188)⟩ (prC_S hK hN hwd) rfl rfl hsz rfl (lv_room hW) hdg ⟨Nat.zero_le _, Nat.zero_le _⟩) kk

theorem mcC_BF_89 {K : Int32 → St → Prop} {f lo : Nat} (F : fxC D cI cZ p R s m args c cc nL R_BF fr lr) (hwd : wdC D cI cZ ad A H0 g H locs) (hM : ctCI l y_Ch_firstFault b_Ch_firstFault 3 f lo D cI cZ ad [.ref (ad 9)] g K) (hr : f + 1 ≤ R.frames ∧ 8 + (3 + 11) + lo ≤ R.locals) (hsz : ls.size = nL) (hW : (rest.map fun v => v.category).sum ≤ 8) (hdg : decode cc pc = .ok (.invokevirtual 89, 3)) (kk : ∀ (r : Int32) (g' : St) (H : Heap) (locs : List Loc), K r g' → wdC D cI cZ ad A H0 g' H locs → W p l e R s m args below meth c H locs 0 0 Q (F0 m (pc + 3) ls (.int r :: rest))) : W p l e R s m args below meth c H locs 0 0 Q (F0 m pc ls (.ref (ad 9) :: rest)) := by
  obtain ⟨hx, hb, hml, hown, hts, hK, hN, hR⟩ := F
  exact afC_I hwd (va_runV (As := []) (rest := rest) ⟨hx, hb, hml, hown, hts⟩ (hM H.size) ⟨callB_of 0 hts (goodC _ (List.forall_mem_cons.mpr ⟨kC_264, fun _ h => h⟩)) rfl rfl rfl (hts _ kC_56) (hts _ kC_189) (by decide +kernel) hr, (hts _ kC_190), (hts _ kC_191)⟩ (prC_V (k := 9) hK hN hwd (show clC[2]? = some (R_Ch, F_Ch, 2) from rfl) rfl) rfl rfl hsz rfl (lv_room hW) hdg ⟨Nat.zero_le _, Nat.zero_le _⟩) kk

theorem mcC_BF_93 {x1 : Int32} {K : St → Prop} {f lo : Nat} (F : fxC D cI cZ p R s m args c cc nL R_BF fr lr) (hwd : wdC D cI cZ ad A H0 g H locs) (hM : ctCV l y_Cu_cutTrees b_Cu_cutTrees 3 f lo D cI cZ ad [.ref (ad 11), .int x1] g K) (hr : f + 1 ≤ R.frames ∧ 8 + (3 + 11) + lo ≤ R.locals) (hsz : ls.size = nL) (hW : (rest.map fun v => v.category).sum ≤ 8) (hdg : decode cc pc = .ok (.invokevirtual 93, 3)) (kk : ∀ (g' : St) (H : Heap) (locs : List Loc), K g' → wdC D cI cZ ad A H0 g' H locs → W p l e R s m args below meth c H locs 0 0 Q (F0 m (pc + 3) ls (rest))) : W p l e R s m args below meth c H locs 0 0 Q (F0 m pc ls (.int x1 :: .ref (ad 11) :: rest)) := by
  obtain ⟨hx, hb, hml, hown, hts, hK, hN, hR⟩ := F
  exact afC_V hwd (va_runV (As := [.int x1]) (rest := rest) ⟨hx, hb, hml, hown, hts⟩ (hM H.size) ⟨callB_of 1 hts (goodC _ (List.forall_mem_cons.mpr ⟨kC_268, fun _ h => h⟩)) rfl rfl rfl (hts _ kC_62) (hts _ kC_192) (by decide +kernel) hr, (hts _ kC_193), (hts _ kC_194)⟩ (prC_V (k := 11) hK hN hwd (show clC[3]? = some (R_Cu, F_Cu, 5) from rfl) rfl) rfl rfl hsz rfl (lv_room hW) hdg ⟨Nat.zero_le _, Nat.zero_le _⟩) kk

theorem mcC_BF_97 {x1 : Int32} {K : St → Prop} {f lo : Nat} (F : fxC D cI cZ p R s m args c cc nL R_BF fr lr) (hwd : wdC D cI cZ ad A H0 g H locs) (hM : ctCV l y_Co_writeMethods b_Co_writeMethods 3 f lo D cI cZ ad [.ref (ad 19), .int x1] g K) (hr : f + 1 ≤ R.frames ∧ 8 + (3 + 11) + lo ≤ R.locals) (hsz : ls.size = nL) (hW : (rest.map fun v => v.category).sum ≤ 8) (hdg : decode cc pc = .ok (.invokevirtual 97, 3)) (kk : ∀ (g' : St) (H : Heap) (locs : List Loc), K g' → wdC D cI cZ ad A H0 g' H locs → W p l e R s m args below meth c H locs 0 0 Q (F0 m (pc + 3) ls (rest))) : W p l e R s m args below meth c H locs 0 0 Q (F0 m pc ls (.int x1 :: .ref (ad 19) :: rest)) := by
  obtain ⟨hx, hb, hml, hown, hts, hK, hN, hR⟩ := F
  exact afC_V hwd (va_runV (As := [.int x1]) (rest := rest) ⟨hx, hb, hml, hown, hts⟩ (hM H.size) ⟨callB_of 1 hts (goodC _ (List.forall_mem_cons.mpr ⟨kC_284, fun _ h => h⟩)) rfl rfl rfl (hts _ kC_73) (hts _ kC_195) (by decide +kernel) hr, (hts _ kC_196), (hts _ kC_197)⟩ (prC_V (k := 19) hK hN hwd (show clC[5]? = some (R_Co, F_Co, 10) from rfl) rfl) rfl rfl hsz rfl (lv_room hW) hdg ⟨Nat.zero_le _, Nat.zero_le _⟩) kk

theorem mcC_BF_103 {x1 : Int32} {K : Int32 → St → Prop} {f lo : Nat} (F : fxC D cI cZ p R s m args c cc nL R_BF fr lr) (hwd : wdC D cI cZ ad A H0 g H locs) (hM : ctCZ l y_Co_isMethod b_Co_isMethod 2 f lo D cI cZ ad [.ref (ad 19), .int x1] g K) (hr : f + 1 ≤ R.frames ∧ 8 + (2 + 11) + lo ≤ R.locals) (hsz : ls.size = nL) (hW : (rest.map fun v => v.category).sum ≤ 8) (hdg : decode cc pc = .ok (.invokevirtual 103, 3)) (kk : ∀ (r : Int32) (g' : St) (H : Heap) (locs : List Loc), K r g' → wdC D cI cZ ad A H0 g' H locs → W p l e R s m args below meth c H locs 0 0 Q (F0 m (pc + 3) ls (.int r :: rest))) : W p l e R s m args below meth c H locs 0 0 Q (F0 m pc ls (.int x1 :: .ref (ad 19) :: rest)) := by
  obtain ⟨hx, hb, hml, hown, hts, hK, hN, hR⟩ := F
  exact afC_I hwd (va_runV (As := [.int x1]) (rest := rest) ⟨hx, hb, hml, hown, hts⟩ (hM H.size) ⟨callB_of 1 hts (goodC _ (List.forall_mem_cons.mpr ⟨kC_283, fun _ h => h⟩)) rfl rfl rfl (hts _ kC_73) (hts _ kC_198) (by decide +kernel) hr, (hts _ kC_199), (hts _ kC_200)⟩ (prC_V (k := 19) hK hN hwd (show clC[5]? = some (R_Co, F_Co, 10) from rfl) rfl) rfl rfl hsz rfl (lv_room hW) hdg ⟨Nat.zero_le _, Nat.zero_le _⟩) kk

theorem mcC_BF_109 {x1 : Int32} {K : Int32 → St → Prop} {f lo : Nat} (F : fxC D cI cZ p R s m args c cc nL R_BF fr lr) (hwd : wdC D cI cZ ad A H0 g H locs) (hM : ctCI l y_BF_length b_BF_length 2 f lo D cI cZ ad [.ref (ad 0), .int x1] g K) (hr : f + 1 ≤ R.frames ∧ 8 + (2 + 11) + lo ≤ R.locals) (hsz : ls.size = nL) (hW : (rest.map fun v => v.category).sum ≤ 8) (hdg : decode cc pc = .ok (.invokevirtual 109, 3)) (kk : ∀ (r : Int32) (g' : St) (H : Heap) (locs : List Loc), K r g' → wdC D cI cZ ad A H0 g' H locs → W p l e R s m args below meth c H locs 0 0 Q (F0 m (pc + 3) ls (.int r :: rest))) : W p l e R s m args below meth c H locs 0 0 Q (F0 m pc ls (.int x1 :: .ref (ad 0) :: rest)) := by
  obtain ⟨hx, hb, hml, hown, hts, hK, hN, hR⟩ := F
  exact afC_I hwd (va_runV (As := [.int x1]) (rest := rest) ⟨hx, hb, hml, hown, hts⟩ (hM H.size) ⟨callB_of 1 hts (goodC _ (List.forall_mem_cons.mpr ⟨kC_244, fun _ h => h⟩)) rfl rfl rfl (hts _ kC_101) (hts _ kC_201) (by decide +kernel) hr, (hts _ kC_202), (hts _ kC_203)⟩ (prC_V (k := 0) hK hN hwd (show clC[0]? = some (R_BF, F_BF, 7) from rfl) rfl) rfl rfl hsz rfl (lv_room hW) hdg ⟨Nat.zero_le _, Nat.zero_le _⟩) kk

theorem mcC_BF_121 {x1 : Int32} {K : Int32 → St → Prop} {f lo : Nat} (F : fxC D cI cZ p R s m args c cc nL R_BF fr lr) (hwd : wdC D cI cZ ad A H0 g H locs) (hM : ctCZ l y_Ta_isClass b_Ta_isClass 2 f lo D cI cZ ad [.ref (ad 15), .int x1] g K) (hr : f + 1 ≤ R.frames ∧ 8 + (2 + 11) + lo ≤ R.locals) (hsz : ls.size = nL) (hW : (rest.map fun v => v.category).sum ≤ 8) (hdg : decode cc pc = .ok (.invokevirtual 121, 3)) (kk : ∀ (r : Int32) (g' : St) (H : Heap) (locs : List Loc), K r g' → wdC D cI cZ ad A H0 g' H locs → W p l e R s m args below meth c H locs 0 0 Q (F0 m (pc + 3) ls (.int r :: rest))) : W p l e R s m args below meth c H locs 0 0 Q (F0 m pc ls (.int x1 :: .ref (ad 15) :: rest)) := by
  obtain ⟨hx, hb, hml, hown, hts, hK, hN, hR⟩ := F
  exact afC_I hwd (va_runV (As := [.int x1]) (rest := rest) ⟨hx, hb, hml, hown, hts⟩ (hM H.size) ⟨callB_of 1 hts (goodC _ (List.forall_mem_cons.mpr ⟨kC_277, fun _ h => h⟩)) rfl rfl rfl (hts _ kC_68) (hts _ kC_204) (by decide +kernel) hr, (hts _ kC_205), (hts _ kC_206)⟩ (prC_V (k := 15) hK hN hwd (show clC[4]? = some (R_Ta, F_Ta, 4) from rfl) rfl) rfl rfl hsz rfl (lv_room hW) hdg ⟨Nat.zero_le _, Nat.zero_le _⟩) kk

theorem mcC_BF_124 {x1 : Int32} {K : Int32 → St → Prop} {f lo : Nat} (F : fxC D cI cZ p R s m args c cc nL R_BF fr lr) (hwd : wdC D cI cZ ad A H0 g H locs) (hM : ctCI l y_Ta_sizeOf b_Ta_sizeOf 2 f lo D cI cZ ad [.ref (ad 15), .int x1] g K) (hr : f + 1 ≤ R.frames ∧ 8 + (2 + 11) + lo ≤ R.locals) (hsz : ls.size = nL) (hW : (rest.map fun v => v.category).sum ≤ 8) (hdg : decode cc pc = .ok (.invokevirtual 124, 3)) (kk : ∀ (r : Int32) (g' : St) (H : Heap) (locs : List Loc), K r g' → wdC D cI cZ ad A H0 g' H locs → W p l e R s m args below meth c H locs 0 0 Q (F0 m (pc + 3) ls (.int r :: rest))) : W p l e R s m args below meth c H locs 0 0 Q (F0 m pc ls (.int x1 :: .ref (ad 15) :: rest)) := by
  obtain ⟨hx, hb, hml, hown, hts, hK, hN, hR⟩ := F
  exact afC_I hwd (va_runV (As := [.int x1]) (rest := rest) ⟨hx, hb, hml, hown, hts⟩ (hM H.size) ⟨callB_of 1 hts (goodC _ (List.forall_mem_cons.mpr ⟨kC_278, fun _ h => h⟩)) rfl rfl rfl (hts _ kC_68) (hts _ kC_207) (by decide +kernel) hr, (hts _ kC_144), (hts _ kC_145)⟩ (prC_V (k := 15) hK hN hwd (show clC[4]? = some (R_Ta, F_Ta, 4) from rfl) rfl) rfl rfl hsz rfl (lv_room hW) hdg ⟨Nat.zero_le _, Nat.zero_le _⟩) kk

theorem mcC_Ta_25 {x1 : Int32} {K : Int32 → St → Prop} {f lo : Nat} (F : fxC D cI cZ p R s m args c cc nL R_Ta fr lr) (hwd : wdC D cI cZ ad A H0 g H locs) (hM : ctCZ l y_Ta_isClass b_Ta_isClass 2 f lo D cI cZ ad [.ref (ad 15), .int x1] g K) (hr : f + 1 ≤ R.frames ∧ 8 + (2 + 11) + lo ≤ R.locals) (hsz : ls.size = nL) (hW : (rest.map fun v => v.category).sum ≤ 8) (hdg : decode cc pc = .ok (.invokevirtual 25, 3)) (kk : ∀ (r : Int32) (g' : St) (H : Heap) (locs : List Loc), K r g' → wdC D cI cZ ad A H0 g' H locs → W p l e R s m args below meth c H locs 0 0 Q (F0 m (pc + 3) ls (.int r :: rest))) : W p l e R s m args below meth c H locs 0 0 Q (F0 m pc ls (.int x1 :: .ref (ad 15) :: rest)) := by
  obtain ⟨hx, hb, hml, hown, hts, hK, hN, hR⟩ := F
  exact afC_I hwd (va_runV (As := [.int x1]) (rest := rest) ⟨hx, hb, hml, hown, hts⟩ (hM H.size) ⟨callB_of 1 hts (goodC _ (List.forall_mem_cons.mpr ⟨kC_277, fun _ h => h⟩)) rfl rfl rfl (hts _ kC_68) (hts _ kC_208) (by decide +kernel) hr, (hts _ kC_205), (hts _ kC_206)⟩ (prC_V (k := 15) hK hN hwd (show clC[4]? = some (R_Ta, F_Ta, 4) from rfl) rfl) rfl rfl hsz rfl (lv_room hW) hdg ⟨Nat.zero_le _, Nat.zero_le _⟩) kk

theorem mcC_BF_127 {x1 x2 : Int32} {K : Int32 → St → Prop} {f lo : Nat} (F : fxC D cI cZ p R s m args c cc nL R_BF fr lr) (hwd : wdC D cI cZ ad A H0 g H locs) (hM : ctCZ l y_Ta_holds b_Ta_holds 3 f lo D cI cZ ad [.ref (ad 15), .int x1, .int x2] g K) (hr : f + 1 ≤ R.frames ∧ 8 + (3 + 11) + lo ≤ R.locals) (hsz : ls.size = nL) (hW : (rest.map fun v => v.category).sum ≤ 8) (hdg : decode cc pc = .ok (.invokevirtual 127, 3)) (kk : ∀ (r : Int32) (g' : St) (H : Heap) (locs : List Loc), K r g' → wdC D cI cZ ad A H0 g' H locs → W p l e R s m args below meth c H locs 0 0 Q (F0 m (pc + 3) ls (.int r :: rest))) : W p l e R s m args below meth c H locs 0 0 Q (F0 m pc ls (.int x2 :: .int x1 :: .ref (ad 15) :: rest)) := by
  obtain ⟨hx, hb, hml, hown, hts, hK, hN, hR⟩ := F
  exact afC_I hwd (va_runV (As := [.int x1, .int x2]) (rest := rest) ⟨hx, hb, hml, hown, hts⟩ (hM H.size) ⟨callB_of 2 hts (goodC _ (List.forall_mem_cons.mpr ⟨kC_279, fun _ h => h⟩)) rfl rfl rfl (hts _ kC_68) (hts _ kC_209) (by decide +kernel) hr, (hts _ kC_210), (hts _ kC_211)⟩ (prC_V (k := 15) hK hN hwd (show clC[4]? = some (R_Ta, F_Ta, 4) from rfl) rfl) rfl rfl hsz rfl (lv_room hW) hdg ⟨Nat.zero_le _, Nat.zero_le _⟩) kk

theorem mcC_Ru_21 {x1 : Int32} {K : Int32 → St → Prop} {f lo : Nat} (F : fxC D cI cZ p R s m args c cc nL R_Ru fr lr) (hwd : wdC D cI cZ ad A H0 g H locs) (hM : ctCI l y_Ru_orderOf b_Ru_orderOf 1 f lo D cI cZ ad [.int x1] g K) (hr : f + 1 ≤ R.frames ∧ 8 + (1 + 11) + lo ≤ R.locals) (hsz : ls.size = nL) (hW : (rest.map fun v => v.category).sum ≤ 8) (hdg : decode cc pc = .ok (.invokestatic 21, 3)) (kk : ∀ (r : Int32) (g' : St) (H : Heap) (locs : List Loc), K r g' → wdC D cI cZ ad A H0 g' H locs → W p l e R s m args below meth c H locs 0 0 Q (F0 m (pc + 3) ls (.int r :: rest))) : W p l e R s m args below meth c H locs 0 0 Q (F0 m pc ls (.int x1 :: rest)) := by
  obtain ⟨hx, hb, hml, hown, hts, hK, hN, hR⟩ := F
  exact afC_I hwd (va_runS (As := [.int x1]) (rest := rest) ⟨hx, hb, hml, hown, hts⟩ (hM H.size) ⟨callB_of 1 hts (goodC _ (List.forall_mem_cons.mpr ⟨kC_299, fun _ h => h⟩)) rfl rfl rfl (hts _ kC_98) (hts _ kC_212) (by decide +kernel) hr, (hts _ kC_213)⟩ (prC_S hK hN hwd) rfl rfl hsz rfl (lv_room hW) hdg ⟨Nat.zero_le _, Nat.zero_le _⟩) kk

theorem mcC_Ru_17 {x1 : Int32} {K : Int32 → St → Prop} {f lo : Nat} (F : fxC D cI cZ p R s m args c cc nL R_Ru fr lr) (hwd : wdC D cI cZ ad A H0 g H locs) (hM : ctCI l y_Ru_wholeOf b_Ru_wholeOf 4 f lo D cI cZ ad [.int x1] g K) (hr : f + 1 ≤ R.frames ∧ 8 + (4 + 11) + lo ≤ R.locals) (hsz : ls.size = nL) (hW : (rest.map fun v => v.category).sum ≤ 8) (hdg : decode cc pc = .ok (.invokestatic 17, 3)) (kk : ∀ (r : Int32) (g' : St) (H : Heap) (locs : List Loc), K r g' → wdC D cI cZ ad A H0 g' H locs → W p l e R s m args below meth c H locs 0 0 Q (F0 m (pc + 3) ls (.int r :: rest))) : W p l e R s m args below meth c H locs 0 0 Q (F0 m pc ls (.int x1 :: rest)) := by
  obtain ⟨hx, hb, hml, hown, hts, hK, hN, hR⟩ := F
  exact afC_I hwd (va_runS (As := [.int x1]) (rest := rest) ⟨hx, hb, hml, hown, hts⟩ (hM H.size) ⟨callB_of 1 hts (goodC _ (List.forall_mem_cons.mpr ⟨kC_300, fun _ h => h⟩)) rfl rfl rfl (hts _ kC_98) (hts _ kC_214) (by decide +kernel) hr, (hts _ kC_215)⟩ (prC_S hK hN hwd) rfl rfl hsz rfl (lv_room hW) hdg ⟨Nat.zero_le _, Nat.zero_le _⟩) kk

theorem mcC_Ma_76 {x1 x2 x3 : Int32} {K : Int32 → St → Prop} {f lo : Nat} (F : fxC D cI cZ p R s m args c cc nL R_Ma fr lr) (hwd : wdC D cI cZ ad A H0 g H locs) (hM : ctCZ l y_Ru_goesToYes b_Ru_goesToYes 4 f lo D cI cZ ad [.int x1, .int x2, .int x3] g K) (hr : f + 1 ≤ R.frames ∧ 8 + (4 + 11) + lo ≤ R.locals) (hsz : ls.size = nL) (hW : (rest.map fun v => v.category).sum ≤ 8) (hdg : decode cc pc = .ok (.invokestatic 76, 3)) (kk : ∀ (r : Int32) (g' : St) (H : Heap) (locs : List Loc), K r g' → wdC D cI cZ ad A H0 g' H locs → W p l e R s m args below meth c H locs 0 0 Q (F0 m (pc + 3) ls (.int r :: rest))) : W p l e R s m args below meth c H locs 0 0 Q (F0 m pc ls (.int x3 :: .int x2 :: .int x1 :: rest)) := by
  obtain ⟨hx, hb, hml, hown, hts, hK, hN, hR⟩ := F
  exact afC_I hwd (va_runS (As := [.int x1, .int x2, .int x3]) (rest := rest) ⟨hx, hb, hml, hown, hts⟩ (hM H.size) ⟨callB_of 3 hts (goodC _ (List.forall_mem_cons.mpr ⟨kC_298, fun _ h => h⟩)) rfl rfl rfl (hts _ kC_98) (hts _ kC_216) (by decide +kernel) hr, (hts _ kC_217)⟩ (prC_S hK hN hwd) rfl rfl hsz rfl (lv_room hW) hdg ⟨Nat.zero_le _, Nat.zero_le _⟩) kk

theorem mcC_Ma_49 {x1 : Int32} {K : Int32 → St → Prop} {f lo : Nat} (F : fxC D cI cZ p R s m args c cc nL R_Ma fr lr) (hwd : wdC D cI cZ ad A H0 g H locs) (hM : ctCI l y_Co_byteOfAll b_Co_byteOfAll 2 f lo D cI cZ ad [.ref (ad 19), .int x1] g K) (hr : f + 1 ≤ R.frames ∧ 8 + (2 + 11) + lo ≤ R.locals) (hsz : ls.size = nL) (hW : (rest.map fun v => v.category).sum ≤ 8) (hdg : decode cc pc = .ok (.invokevirtual 49, 3)) (kk : ∀ (r : Int32) (g' : St) (H : Heap) (locs : List Loc), K r g' → wdC D cI cZ ad A H0 g' H locs → W p l e R s m args below meth c H locs 0 0 Q (F0 m (pc + 3) ls (.int r :: rest))) : W p l e R s m args below meth c H locs 0 0 Q (F0 m pc ls (.int x1 :: .ref (ad 19) :: rest)) := by
  obtain ⟨hx, hb, hml, hown, hts, hK, hN, hR⟩ := F
  exact afC_I hwd (va_runV (As := [.int x1]) (rest := rest) ⟨hx, hb, hml, hown, hts⟩ (hM H.size) ⟨callB_of 1 hts (goodC _ (List.forall_mem_cons.mpr ⟨kC_291, fun _ h => h⟩)) rfl rfl rfl (hts _ kC_73) (hts _ kC_218) (by decide +kernel) hr, (hts _ kC_219), (hts _ kC_220)⟩ (prC_V (k := 19) hK hN hwd (show clC[5]? = some (R_Co, F_Co, 10) from rfl) rfl) rfl rfl hsz rfl (lv_room hW) hdg ⟨Nat.zero_le _, Nat.zero_le _⟩) kk

theorem mcC_Ma_66 {x1 x2 : Int32} {K : Int32 → St → Prop} {f lo : Nat} (F : fxC D cI cZ p R s m args c cc nL R_Ma fr lr) (hwd : wdC D cI cZ ad A H0 g H locs) (hM : ctCZ l y_Ta_holds b_Ta_holds 3 f lo D cI cZ ad [.ref (ad 15), .int x1, .int x2] g K) (hr : f + 1 ≤ R.frames ∧ 8 + (3 + 11) + lo ≤ R.locals) (hsz : ls.size = nL) (hW : (rest.map fun v => v.category).sum ≤ 8) (hdg : decode cc pc = .ok (.invokevirtual 66, 3)) (kk : ∀ (r : Int32) (g' : St) (H : Heap) (locs : List Loc), K r g' → wdC D cI cZ ad A H0 g' H locs → W p l e R s m args below meth c H locs 0 0 Q (F0 m (pc + 3) ls (.int r :: rest))) : W p l e R s m args below meth c H locs 0 0 Q (F0 m pc ls (.int x2 :: .int x1 :: .ref (ad 15) :: rest)) := by
  obtain ⟨hx, hb, hml, hown, hts, hK, hN, hR⟩ := F
  exact afC_I hwd (va_runV (As := [.int x1, .int x2]) (rest := rest) ⟨hx, hb, hml, hown, hts⟩ (hM H.size) ⟨callB_of 2 hts (goodC _ (List.forall_mem_cons.mpr ⟨kC_279, fun _ h => h⟩)) rfl rfl rfl (hts _ kC_68) (hts _ kC_221) (by decide +kernel) hr, (hts _ kC_210), (hts _ kC_211)⟩ (prC_V (k := 15) hK hN hwd (show clC[4]? = some (R_Ta, F_Ta, 4) from rfl) rfl) rfl rfl hsz rfl (lv_room hW) hdg ⟨Nat.zero_le _, Nat.zero_le _⟩) kk

theorem mcC_Ma_63 {x1 : Int32} {K : Int32 → St → Prop} {f lo : Nat} (F : fxC D cI cZ p R s m args c cc nL R_Ma fr lr) (hwd : wdC D cI cZ ad A H0 g H locs) (hM : ctCZ l y_BF_isFeature b_BF_isFeature 1 f lo D cI cZ ad [.int x1] g K) (hr : f + 1 ≤ R.frames ∧ 8 + (1 + 11) + lo ≤ R.locals) (hsz : ls.size = nL) (hW : (rest.map fun v => v.category).sum ≤ 8) (hdg : decode cc pc = .ok (.invokestatic 63, 3)) (kk : ∀ (r : Int32) (g' : St) (H : Heap) (locs : List Loc), K r g' → wdC D cI cZ ad A H0 g' H locs → W p l e R s m args below meth c H locs 0 0 Q (F0 m (pc + 3) ls (.int r :: rest))) : W p l e R s m args below meth c H locs 0 0 Q (F0 m pc ls (.int x1 :: rest)) := by
  obtain ⟨hx, hb, hml, hown, hts, hK, hN, hR⟩ := F
  exact afC_I hwd (va_runSN (As := [.int x1]) (rest := rest) ⟨hx, hb, hml, hown, hts⟩ (hM H.size) ⟨va_cnB 1 hts (goodC _ (List.forall_mem_cons.mpr ⟨kC_255, fun _ h => h⟩)) rfl rfl rfl (show va_Nw (.methodLinkNest R_Ma 63 y_BF_isFeature "BranchForge") s from nwC_m hN nyC_2) (hts _ kC_101) (by decide +kernel) hr, (hts _ kC_100), trivial⟩ (prC_S hK hN hwd) rfl rfl hsz rfl (lv_room hW) hdg ⟨Nat.zero_le _, Nat.zero_le _⟩) kk

theorem mcC_Ma_60 {x1 x2 x3 : Int32} {K : Int32 → St → Prop} {f lo : Nat} (F : fxC D cI cZ p R s m args c cc nL R_Ma fr lr) (hwd : wdC D cI cZ ad A H0 g H locs) (hM : ctCI l y_Ma_operand b_Ma_operand 4 f lo D cI cZ ad [.ref (ad 24), .int x1, .int x2, .int x3] g K) (hr : f + 1 ≤ R.frames ∧ 8 + (4 + 11) + lo ≤ R.locals) (hsz : ls.size = nL) (hW : (rest.map fun v => v.category).sum ≤ 8) (hdg : decode cc pc = .ok (.invokevirtual 60, 3)) (kk : ∀ (r : Int32) (g' : St) (H : Heap) (locs : List Loc), K r g' → wdC D cI cZ ad A H0 g' H locs → W p l e R s m args below meth c H locs 0 0 Q (F0 m (pc + 3) ls (.int r :: rest))) : W p l e R s m args below meth c H locs 0 0 Q (F0 m pc ls (.int x3 :: .int x2 :: .int x1 :: .ref (ad 24) :: rest)) := by
  obtain ⟨hx, hb, hml, hown, hts, hK, hN, hR⟩ := F
  exact afC_I hwd (va_runV (As := [.int x1, .int x2, .int x3]) (rest := rest) ⟨hx, hb, hml, hown, hts⟩ (hM H.size) ⟨callB_of 3 hts (goodC _ (List.forall_mem_cons.mpr ⟨kC_294, fun _ h => h⟩)) rfl rfl rfl (hts _ kC_79) (hts _ kC_222) (by decide +kernel) hr, (hts _ kC_223), (hts _ kC_224)⟩ (prC_V (k := 24) hK hN hwd (show clC[6]? = some (R_Ma, F_Ma, 5) from rfl) rfl) rfl rfl hsz rfl (lv_room hW) hdg ⟨Nat.zero_le _, Nat.zero_le _⟩) kk

theorem mcC_Ma_38 {x1 x2 : Int32} {K : Int32 → St → Prop} {f lo : Nat} (F : fxC D cI cZ p R s m args c cc nL R_Ma fr lr) (hwd : wdC D cI cZ ad A H0 g H locs) (hM : ctCI l y_Ma_runMethod b_Ma_runMethod 8 f lo D cI cZ ad [.ref (ad 24), .int x1, .int x2] g K) (hr : f + 1 ≤ R.frames ∧ 8 + (8 + 11) + lo ≤ R.locals) (hsz : ls.size = nL) (hW : (rest.map fun v => v.category).sum ≤ 8) (hdg : decode cc pc = .ok (.invokevirtual 38, 3)) (kk : ∀ (r : Int32) (g' : St) (H : Heap) (locs : List Loc), K r g' → wdC D cI cZ ad A H0 g' H locs → W p l e R s m args below meth c H locs 0 0 Q (F0 m (pc + 3) ls (.int r :: rest))) : W p l e R s m args below meth c H locs 0 0 Q (F0 m pc ls (.int x2 :: .int x1 :: .ref (ad 24) :: rest)) := by
  obtain ⟨hx, hb, hml, hown, hts, hK, hN, hR⟩ := F
  exact afC_I hwd (va_runV (As := [.int x1, .int x2]) (rest := rest) ⟨hx, hb, hml, hown, hts⟩ (hM H.size) ⟨callB_of 2 hts (goodC _ (List.forall_mem_cons.mpr ⟨kC_293, fun _ h => h⟩)) rfl rfl rfl (hts _ kC_79) (hts _ kC_225) (by decide +kernel) hr, (hts _ kC_226), (hts _ kC_227)⟩ (prC_V (k := 24) hK hN hwd (show clC[6]? = some (R_Ma, F_Ma, 5) from rfl) rfl) rfl rfl hsz rfl (lv_room hW) hdg ⟨Nat.zero_le _, Nat.zero_le _⟩) kk

theorem mcC_Ma_53 {x1 x2 x3 : Int32} {K : Int32 → St → Prop} {f lo : Nat} (F : fxC D cI cZ p R s m args c cc nL R_Ma fr lr) (hwd : wdC D cI cZ ad A H0 g H locs) (hM : ctCI l y_Ma_testMove b_Ma_testMove 8 f lo D cI cZ ad [.ref (ad 24), .int x1, .int x2, .int x3] g K) (hr : f + 1 ≤ R.frames ∧ 8 + (8 + 11) + lo ≤ R.locals) (hsz : ls.size = nL) (hW : (rest.map fun v => v.category).sum ≤ 8) (hdg : decode cc pc = .ok (.invokevirtual 53, 3)) (kk : ∀ (r : Int32) (g' : St) (H : Heap) (locs : List Loc), K r g' → wdC D cI cZ ad A H0 g' H locs → W p l e R s m args below meth c H locs 0 0 Q (F0 m (pc + 3) ls (.int r :: rest))) : W p l e R s m args below meth c H locs 0 0 Q (F0 m pc ls (.int x3 :: .int x2 :: .int x1 :: .ref (ad 24) :: rest)) := by
  obtain ⟨hx, hb, hml, hown, hts, hK, hN, hR⟩ := F
  exact afC_I hwd (va_runV (As := [.int x1, .int x2, .int x3]) (rest := rest) ⟨hx, hb, hml, hown, hts⟩ (hM H.size) ⟨callB_of 3 hts (goodC _ (List.forall_mem_cons.mpr ⟨kC_295, fun _ h => h⟩)) rfl rfl rfl (hts _ kC_79) (hts _ kC_228) (by decide +kernel) hr, (hts _ kC_229), (hts _ kC_230)⟩ (prC_V (k := 24) hK hN hwd (show clC[6]? = some (R_Ma, F_Ma, 5) from rfl) rfl) rfl rfl hsz rfl (lv_room hW) hdg ⟨Nat.zero_le _, Nat.zero_le _⟩) kk

theorem mcC_Ma_42 {x1 : Int32} {K : Int32 → St → Prop} {f lo : Nat} (F : fxC D cI cZ p R s m args c cc nL R_Ma fr lr) (hwd : wdC D cI cZ ad A H0 g H locs) (hM : ctCZ l y_Co_isMethod b_Co_isMethod 2 f lo D cI cZ ad [.ref (ad 19), .int x1] g K) (hr : f + 1 ≤ R.frames ∧ 8 + (2 + 11) + lo ≤ R.locals) (hsz : ls.size = nL) (hW : (rest.map fun v => v.category).sum ≤ 8) (hdg : decode cc pc = .ok (.invokevirtual 42, 3)) (kk : ∀ (r : Int32) (g' : St) (H : Heap) (locs : List Loc), K r g' → wdC D cI cZ ad A H0 g' H locs → W p l e R s m args below meth c H locs 0 0 Q (F0 m (pc + 3) ls (.int r :: rest))) : W p l e R s m args below meth c H locs 0 0 Q (F0 m pc ls (.int x1 :: .ref (ad 19) :: rest)) := by
  obtain ⟨hx, hb, hml, hown, hts, hK, hN, hR⟩ := F
  exact afC_I hwd (va_runV (As := [.int x1]) (rest := rest) ⟨hx, hb, hml, hown, hts⟩ (hM H.size) ⟨callB_of 1 hts (goodC _ (List.forall_mem_cons.mpr ⟨kC_283, fun _ h => h⟩)) rfl rfl rfl (hts _ kC_73) (hts _ kC_231) (by decide +kernel) hr, (hts _ kC_199), (hts _ kC_200)⟩ (prC_V (k := 19) hK hN hwd (show clC[5]? = some (R_Co, F_Co, 10) from rfl) rfl) rfl rfl hsz rfl (lv_room hW) hdg ⟨Nat.zero_le _, Nat.zero_le _⟩) kk

theorem mcC_BF_141 {K : Int64 → St → Prop} {f lo : Nat} (F : fxC D cI cZ p R s m args c cc nL R_BF fr lr) (hwd : wdC D cI cZ ad A H0 g H locs) (hM : ctCJ l y_Ma_runTrees b_Ma_runTrees 4 f lo D cI cZ ad [.ref (ad 24)] g K) (hr : f + 1 ≤ R.frames ∧ 8 + (4 + 11) + lo ≤ R.locals) (hsz : ls.size = nL) (hW : (rest.map fun v => v.category).sum ≤ 8) (hdg : decode cc pc = .ok (.invokevirtual 141, 3)) (kk : ∀ (r : Int64) (g' : St) (H : Heap) (locs : List Loc), K r g' → wdC D cI cZ ad A H0 g' H locs → W p l e R s m args below meth c H locs 0 0 Q (F0 m (pc + 3) ls (.long r :: rest))) : W p l e R s m args below meth c H locs 0 0 Q (F0 m pc ls (.ref (ad 24) :: rest)) := by
  obtain ⟨hx, hb, hml, hown, hts, hK, hN, hR⟩ := F
  exact afC_J hwd (va_runV (As := []) (rest := rest) ⟨hx, hb, hml, hown, hts⟩ (hM H.size) ⟨callB_of 0 hts (goodC _ (List.forall_mem_cons.mpr ⟨kC_292, fun _ h => h⟩)) rfl rfl rfl (hts _ kC_79) (hts _ kC_232) (by decide +kernel) hr, (hts _ kC_233), (hts _ kC_234)⟩ (prC_V (k := 24) hK hN hwd (show clC[6]? = some (R_Ma, F_Ma, 5) from rfl) rfl) rfl rfl hsz rfl (lv_room hW) hdg ⟨Nat.zero_le _, Nat.zero_le _⟩) kk

theorem mcC_Fo_49 {x1 x2 x3 : Int32} {K : Int32 → St → Prop} {f lo : Nat} (F : fxC D cI cZ p R s m args c cc nL R_Fo fr lr) (hwd : wdC D cI cZ ad A H0 g H locs) (hM : ctCZ l y_Ru_goesToYes b_Ru_goesToYes 4 f lo D cI cZ ad [.int x1, .int x2, .int x3] g K) (hr : f + 1 ≤ R.frames ∧ 8 + (4 + 11) + lo ≤ R.locals) (hsz : ls.size = nL) (hW : (rest.map fun v => v.category).sum ≤ 8) (hdg : decode cc pc = .ok (.invokestatic 49, 3)) (kk : ∀ (r : Int32) (g' : St) (H : Heap) (locs : List Loc), K r g' → wdC D cI cZ ad A H0 g' H locs → W p l e R s m args below meth c H locs 0 0 Q (F0 m (pc + 3) ls (.int r :: rest))) : W p l e R s m args below meth c H locs 0 0 Q (F0 m pc ls (.int x3 :: .int x2 :: .int x1 :: rest)) := by
  obtain ⟨hx, hb, hml, hown, hts, hK, hN, hR⟩ := F
  exact afC_I hwd (va_runS (As := [.int x1, .int x2, .int x3]) (rest := rest) ⟨hx, hb, hml, hown, hts⟩ (hM H.size) ⟨callB_of 3 hts (goodC _ (List.forall_mem_cons.mpr ⟨kC_298, fun _ h => h⟩)) rfl rfl rfl (hts _ kC_98) (hts _ kC_235) (by decide +kernel) hr, (hts _ kC_217)⟩ (prC_S hK hN hwd) rfl rfl hsz rfl (lv_room hW) hdg ⟨Nat.zero_le _, Nat.zero_le _⟩) kk

theorem mcC_BF_155 {x1 : Int32} {K : Int32 → St → Prop} {f lo : Nat} (F : fxC D cI cZ p R s m args c cc nL R_BF fr lr) (hwd : wdC D cI cZ ad A H0 g H locs) (hM : ctCI l y_Fo_leafFor b_Fo_leafFor 6 f lo D cI cZ ad [.ref (ad 2), .int x1, .ref (ad 1)] g K) (hr : f + 1 ≤ R.frames ∧ 8 + (6 + 11) + lo ≤ R.locals) (hsz : ls.size = nL) (hW : (rest.map fun v => v.category).sum ≤ 8) (hdg : decode cc pc = .ok (.invokevirtual 155, 3)) (kk : ∀ (r : Int32) (g' : St) (H : Heap) (locs : List Loc), K r g' → wdC D cI cZ ad A H0 g' H locs → W p l e R s m args below meth c H locs 0 0 Q (F0 m (pc + 3) ls (.int r :: rest))) : W p l e R s m args below meth c H locs 0 0 Q (F0 m pc ls (.ref (ad 1) :: .int x1 :: .ref (ad 2) :: rest)) := by
  obtain ⟨hx, hb, hml, hown, hts, hK, hN, hR⟩ := F
  exact afC_I hwd (va_runV (As := [.int x1, .ref (ad 1)]) (rest := rest) ⟨hx, hb, hml, hown, hts⟩ (hM H.size) ⟨callB_of 2 hts (goodC _ (List.forall_mem_cons.mpr ⟨kC_263, fun _ h => h⟩)) rfl rfl rfl (hts _ kC_51) (hts _ kC_236) (by decide +kernel) hr, (hts _ kC_237), (hts _ kC_238)⟩ (prC_V (k := 2) hK hN hwd (show clC[1]? = some (R_Fo, F_Fo, 8) from rfl) rfl) rfl rfl hsz rfl (lv_room hW) hdg ⟨Nat.zero_le _, Nat.zero_le _⟩) kk
end ROWSC
theorem enCI {l : Launch} {y : MethodName} {cc : ByteArray} {nL f lo : Nat} {D : va_G} {cI cZ : ClassId} {ad : Nat → Nat} {av : List Value} {g : St} {K : Int32 → St → Prop} (hy : plainName y.cls = true) (hlen : (lg_sl av).length ≤ nL)
    (body : ∀ (p : Program) (e : Env) (s : State) (m : MethodId) (args : Array Value) (below : List Frame) (meth : Method) (c : Code) (A : Nat → Prop) (H0 : Heap) (ls : Array Slot) (Q : State → Prop), fxC D cI cZ p { frames := f, cells := 0, slots := 0, locals := lo } s m args c cc nL y.cls f lo → wdC D cI cZ ad A H0 g H0 [] → lv_has ls nL (lv_args 0 av) → rtCI D cI cZ ad p l e { frames := f, cells := 0, slots := 0, locals := lo } s m args below meth c cc A H0 Q K → W p l e { frames := f, cells := 0, slots := 0, locals := lo } s m args below meth c H0 [] 0 0 Q (F0 m 0 ls [])) : ctCI l y cc nL f lo D cI cZ ad av g K := by
  intro sz
  refine Met.ofW (cc := cc) (maxL := nL) (ret := (some .int)) hy rfl ?_
  intro p e s m args below meth c s₁ B hml hv
  obtain ⟨rfl, hsz, hP, hK, hD0, hN⟩ := hv
  have hx := B.exec
  have hb := B.bytes
  have hr := B.returns
  have hts := atoms_spec (ws := .code y cc nL (some .int) :: wGC) B.pre
  have hown : s.vm.findClass y.cls = some m.cls := findClass_of_methodNamed B.named
  have hlocks := B.notSynchronized
  subst hsz
  have hD := hD0.self (sz := s.heap.size)
  have hl := lv_entry av (n := nL) hlen
  rw [lg_entry_eq]
  refine body p e s m _ below meth c _ s.heap _ _ ⟨hx, hb, hml, hown, fun w h => hts w (List.mem_cons_of_mem _ h), hK, hN, Nat.le_refl _, Nat.le_refl _⟩ ⟨hP, hD, va_S.rf, fun q h => Or.inr h⟩ hl ?_
  intro r g' H' locs' hk hwd pc' ls' hdg
  obtain ⟨hP9, hD9, hS9, -⟩ := hwd
  exact W.iret (v := r) hx hb hr (fun t ht hW => ⟨⟨r, g', rfl, hk, by rw [ht]; exact hP9, va_K.moved hW.alike hK, hD9⟩, hS9.F ht⟩) hS9.2.2 hdg
theorem enCZ {l : Launch} {y : MethodName} {cc : ByteArray} {nL f lo : Nat} {D : va_G} {cI cZ : ClassId} {ad : Nat → Nat} {av : List Value} {g : St} {K : Int32 → St → Prop} (hy : plainName y.cls = true) (hlen : (lg_sl av).length ≤ nL)
    (body : ∀ (p : Program) (e : Env) (s : State) (m : MethodId) (args : Array Value) (below : List Frame) (meth : Method) (c : Code) (A : Nat → Prop) (H0 : Heap) (ls : Array Slot) (Q : State → Prop), fxC D cI cZ p { frames := f, cells := 0, slots := 0, locals := lo } s m args c cc nL y.cls f lo → wdC D cI cZ ad A H0 g H0 [] → lv_has ls nL (lv_args 0 av) → rtCZ D cI cZ ad p l e { frames := f, cells := 0, slots := 0, locals := lo } s m args below meth c cc A H0 Q K → W p l e { frames := f, cells := 0, slots := 0, locals := lo } s m args below meth c H0 [] 0 0 Q (F0 m 0 ls [])) : ctCZ l y cc nL f lo D cI cZ ad av g K := by
  intro sz
  refine Met.ofW (cc := cc) (maxL := nL) (ret := (some .boolean)) hy rfl ?_
  intro p e s m args below meth c s₁ B hml hv
  obtain ⟨rfl, hsz, hP, hK, hD0, hN⟩ := hv
  have hx := B.exec
  have hb := B.bytes
  have hr := B.returns
  have hts := atoms_spec (ws := .code y cc nL (some .boolean) :: wGC) B.pre
  have hown : s.vm.findClass y.cls = some m.cls := findClass_of_methodNamed B.named
  have hlocks := B.notSynchronized
  subst hsz
  have hD := hD0.self (sz := s.heap.size)
  have hl := lv_entry av (n := nL) hlen
  rw [lg_entry_eq]
  refine body p e s m _ below meth c _ s.heap _ _ ⟨hx, hb, hml, hown, fun w h => hts w (List.mem_cons_of_mem _ h), hK, hN, Nat.le_refl _, Nat.le_refl _⟩ ⟨hP, hD, va_S.rf, fun q h => Or.inr h⟩ hl ?_
  intro r g' H' locs' hk h01 hwd pc' ls' hdg
  obtain ⟨hP9, hD9, hS9, -⟩ := hwd
  exact W.zret (v := r) hx hb hr (by rcases h01 with rfl | rfl <;> rfl) (fun t ht hW => ⟨⟨r, g', rfl, hk, by rw [ht]; exact hP9, va_K.moved hW.alike hK, hD9⟩, hS9.F ht⟩) hS9.2.2 hdg
theorem enCJ {l : Launch} {y : MethodName} {cc : ByteArray} {nL f lo : Nat} {D : va_G} {cI cZ : ClassId} {ad : Nat → Nat} {av : List Value} {g : St} {K : Int64 → St → Prop} (hy : plainName y.cls = true) (hlen : (lg_sl av).length ≤ nL)
    (body : ∀ (p : Program) (e : Env) (s : State) (m : MethodId) (args : Array Value) (below : List Frame) (meth : Method) (c : Code) (A : Nat → Prop) (H0 : Heap) (ls : Array Slot) (Q : State → Prop), fxC D cI cZ p { frames := f, cells := 0, slots := 0, locals := lo } s m args c cc nL y.cls f lo → wdC D cI cZ ad A H0 g H0 [] → lv_has ls nL (lv_args 0 av) → rtCJ D cI cZ ad p l e { frames := f, cells := 0, slots := 0, locals := lo } s m args below meth c cc A H0 Q K → W p l e { frames := f, cells := 0, slots := 0, locals := lo } s m args below meth c H0 [] 0 0 Q (F0 m 0 ls [])) : ctCJ l y cc nL f lo D cI cZ ad av g K := by
  intro sz
  refine Met.ofW (cc := cc) (maxL := nL) (ret := (some .long)) hy rfl ?_
  intro p e s m args below meth c s₁ B hml hv
  obtain ⟨rfl, hsz, hP, hK, hD0, hN⟩ := hv
  have hx := B.exec
  have hb := B.bytes
  have hr := B.returns
  have hts := atoms_spec (ws := .code y cc nL (some .long) :: wGC) B.pre
  have hown : s.vm.findClass y.cls = some m.cls := findClass_of_methodNamed B.named
  have hlocks := B.notSynchronized
  subst hsz
  have hD := hD0.self (sz := s.heap.size)
  have hl := lv_entry av (n := nL) hlen
  rw [lg_entry_eq]
  refine body p e s m _ below meth c _ s.heap _ _ ⟨hx, hb, hml, hown, fun w h => hts w (List.mem_cons_of_mem _ h), hK, hN, Nat.le_refl _, Nat.le_refl _⟩ ⟨hP, hD, va_S.rf, fun q h => Or.inr h⟩ hl ?_
  intro r g' H' locs' hk hwd pc' ls' hdg
  obtain ⟨hP9, hD9, hS9, -⟩ := hwd
  exact W.lret (v := r) hx hb hr (fun t ht hW => ⟨⟨r, g', rfl, hk, by rw [ht]; exact hP9, va_K.moved hW.alike hK, hD9⟩, hS9.F ht⟩) hS9.2.2 hdg
theorem enCV {l : Launch} {y : MethodName} {cc : ByteArray} {nL f lo : Nat} {D : va_G} {cI cZ : ClassId} {ad : Nat → Nat} {av : List Value} {g : St} {K : St → Prop} (hy : plainName y.cls = true) (hlen : (lg_sl av).length ≤ nL)
    (body : ∀ (p : Program) (e : Env) (s : State) (m : MethodId) (args : Array Value) (below : List Frame) (meth : Method) (c : Code) (A : Nat → Prop) (H0 : Heap) (ls : Array Slot) (Q : State → Prop), fxC D cI cZ p { frames := f, cells := 0, slots := 0, locals := lo } s m args c cc nL y.cls f lo → wdC D cI cZ ad A H0 g H0 [] → lv_has ls nL (lv_args 0 av) → rtCV D cI cZ ad p l e { frames := f, cells := 0, slots := 0, locals := lo } s m args below meth c cc A H0 Q K → W p l e { frames := f, cells := 0, slots := 0, locals := lo } s m args below meth c H0 [] 0 0 Q (F0 m 0 ls [])) : ctCV l y cc nL f lo D cI cZ ad av g K := by
  intro sz
  refine Met.ofW (cc := cc) (maxL := nL) (ret := none) hy rfl ?_
  intro p e s m args below meth c s₁ B hml hv
  obtain ⟨rfl, hsz, hP, hK, hD0, hN⟩ := hv
  have hx := B.exec
  have hb := B.bytes
  have hr := B.returns
  have hts := atoms_spec (ws := .code y cc nL none :: wGC) B.pre
  have hown : s.vm.findClass y.cls = some m.cls := findClass_of_methodNamed B.named
  have hlocks := B.notSynchronized
  subst hsz
  have hD := hD0.self (sz := s.heap.size)
  have hl := lv_entry av (n := nL) hlen
  rw [lg_entry_eq]
  refine body p e s m _ below meth c _ s.heap _ _ ⟨hx, hb, hml, hown, fun w h => hts w (List.mem_cons_of_mem _ h), hK, hN, Nat.le_refl _, Nat.le_refl _⟩ ⟨hP, hD, va_S.rf, fun q h => Or.inr h⟩ hl ?_
  intro g' H' locs' hk hwd pc' ls' hdg
  obtain ⟨hP9, hD9, hS9, -⟩ := hwd
  exact W.vret hx hb hr (fun t ht hW => ⟨⟨g', rfl, hk, by rw [ht]; exact hP9, va_K.moved hW.alike hK, hD9⟩, hS9.F ht⟩) hS9.2.2 hdg
end
section
section WALKC0
variable {p : Program} {l : Launch} {e : Env} {R : Room} {s : State} {m : MethodId} {args : Array Value} {below : List Frame} {meth : Method} {c : Code} {H : Heap} {locs : List Loc} {Q : State → Prop}
variable {D : va_G} {cI cZ : ClassId} {ad : Nat → Nat} {A : Nat → Prop} {H0 : Heap} {ls : Array Slot}
set_option maxHeartbeats 4000000 in
set_option maxRecDepth 100000 in
theorem wb_Fo_addNode_0 {K : Int32 → St → Prop} {x1 : Int32} {x2 : Int32} {x3 : Int32} {x4 : Int32} {x5 : Int32} {g : St} (F : fxC D cI cZ p R s m args c b_Fo_addNode 6 R_Fo 0 0)
    (hret : rtCI D cI cZ ad p l e R s m args below meth c b_Fo_addNode A H0 Q K)
    (hw : pb_Fo_addNode_0 K x1 x2 x3 x4 x5 g)
    (hwd : wdC D cI cZ ad A H0 g H locs) (hl : lv_has ls 6 [(0, .ref (ad 2)), (1, .int x1), (2, .int x2), (3, .int x3), (4, .int x4), (5, .int x5)]) : W p l e R s m args below meth c H locs 0 0 Q (F0 m 0 ls []) := by
  obtain ⟨hx, hb, hml, hown, hts, hK, hN, hR⟩ := F
  have F : fxC D cI cZ p R s m args c b_Fo_addNode 6 R_Fo 0 0 := ⟨hx, hb, hml, hown, hts, hK, hN, hR⟩
  refine lv_aload_n hx hb d_Fo_addNode_0 rfl (lv_at hl 0 rfl) ?_
  refine gfC_Fo_30 F hwd d_Fo_addNode_1 ?_
  refine lv_bipush (v := 60) hx hb d_Fo_addNode_4 (by decide) ?_
  refine lv_icmp_lt (tgt := 11) hx hb d_Fo_addNode_6 (by decide) (fun hc => ?_) (fun hc => ?_)
  · have hw := hw.1 hc
    refine lv_aload_n hx hb d_Fo_addNode_11 rfl (lv_at hl 0 rfl) ?_
    refine gfC_Fo_9 F hwd d_Fo_addNode_12 ?_
    refine lv_aload_n hx hb d_Fo_addNode_15 rfl (lv_at hl 0 rfl) ?_
    refine gfC_Fo_30 F hwd d_Fo_addNode_16 ?_
    refine lv_iload_n hx hb d_Fo_addNode_19 rfl (lv_at hl 1 rfl) ?_
    obtain ⟨hi, hw⟩ := hw
    refine wrC_3 F hwd hi d_Fo_addNode_20 (fun H locs hwd => ?_)
    obtain ⟨g1, e_g1⟩ : ∃ z : St, z = ar g 3 (g 100 0) x1 := ⟨_, rfl⟩
    have hwd : wdC D cI cZ ad A H0 g1 H locs := by rw [e_g1]; exact hwd
    have hw := hw g1 e_g1
    refine lv_aload_n hx hb d_Fo_addNode_21 rfl (lv_at hl 0 rfl) ?_
    refine gfC_Fo_15 F hwd d_Fo_addNode_22 ?_
    refine lv_aload_n hx hb d_Fo_addNode_25 rfl (lv_at hl 0 rfl) ?_
    refine gfC_Fo_30 F hwd d_Fo_addNode_26 ?_
    refine lv_iload_n hx hb d_Fo_addNode_29 rfl (lv_at hl 2 rfl) ?_
    obtain ⟨hi, hw⟩ := hw
    refine wrC_4 F hwd hi d_Fo_addNode_30 (fun H locs hwd => ?_)
    obtain ⟨g2, e_g2⟩ : ∃ z : St, z = ar g1 4 (g1 100 0) x2 := ⟨_, rfl⟩
    have hwd : wdC D cI cZ ad A H0 g2 H locs := by rw [e_g2]; exact hwd
    have hw := hw g2 e_g2
    refine lv_aload_n hx hb d_Fo_addNode_31 rfl (lv_at hl 0 rfl) ?_
    refine gfC_Fo_18 F hwd d_Fo_addNode_32 ?_
    refine lv_aload_n hx hb d_Fo_addNode_35 rfl (lv_at hl 0 rfl) ?_
    refine gfC_Fo_30 F hwd d_Fo_addNode_36 ?_
    refine lv_iload_n hx hb d_Fo_addNode_39 rfl (lv_at hl 3 rfl) ?_
    obtain ⟨hi, hw⟩ := hw
    refine wrC_5 F hwd hi d_Fo_addNode_40 (fun H locs hwd => ?_)
    obtain ⟨g3, e_g3⟩ : ∃ z : St, z = ar g2 5 (g2 100 0) x3 := ⟨_, rfl⟩
    have hwd : wdC D cI cZ ad A H0 g3 H locs := by rw [e_g3]; exact hwd
    have hw := hw g3 e_g3
    refine lv_aload_n hx hb d_Fo_addNode_41 rfl (lv_at hl 0 rfl) ?_
    refine gfC_Fo_21 F hwd d_Fo_addNode_42 ?_
    refine lv_aload_n hx hb d_Fo_addNode_45 rfl (lv_at hl 0 rfl) ?_
    refine gfC_Fo_30 F hwd d_Fo_addNode_46 ?_
    refine lv_iload hx hb d_Fo_addNode_49 (lv_at hl 4 rfl) ?_
    obtain ⟨hi, hw⟩ := hw
    refine wrC_6 F hwd hi d_Fo_addNode_51 (fun H locs hwd => ?_)
    obtain ⟨g4, e_g4⟩ : ∃ z : St, z = ar g3 6 (g3 100 0) x4 := ⟨_, rfl⟩
    have hwd : wdC D cI cZ ad A H0 g4 H locs := by rw [e_g4]; exact hwd
    have hw := hw g4 e_g4
    refine lv_aload_n hx hb d_Fo_addNode_52 rfl (lv_at hl 0 rfl) ?_
    refine gfC_Fo_24 F hwd d_Fo_addNode_53 ?_
    refine lv_aload_n hx hb d_Fo_addNode_56 rfl (lv_at hl 0 rfl) ?_
    refine gfC_Fo_30 F hwd d_Fo_addNode_57 ?_
    refine lv_iload hx hb d_Fo_addNode_60 (lv_at hl 5 rfl) ?_
    obtain ⟨hi, hw⟩ := hw
    refine wrC_7 F hwd hi d_Fo_addNode_62 (fun H locs hwd => ?_)
    obtain ⟨g5, e_g5⟩ : ∃ z : St, z = ar g4 7 (g4 100 0) x5 := ⟨_, rfl⟩
    have hwd : wdC D cI cZ ad A H0 g5 H locs := by rw [e_g5]; exact hwd
    have hw := hw g5 e_g5
    refine lv_aload_n hx hb d_Fo_addNode_63 rfl (lv_at hl 0 rfl) ?_
    refine lv_dup hx hb d_Fo_addNode_64 rfl ?_
    refine gfC_Fo_30 F hwd d_Fo_addNode_65 ?_
    refine lv_iconst (v := 1) hx hb d_Fo_addNode_68 (by decide) ?_
    refine lv_iadd hx hb d_Fo_addNode_69 ?_
    refine pfC_Fo_30 F hwd d_Fo_addNode_70 (fun H locs hwd => ?_)
    obtain ⟨g6, e_g6⟩ : ∃ z : St, z = sc g5 100 ((g5 100 0) + (1 : Int32)) := ⟨_, rfl⟩
    have hwd : wdC D cI cZ ad A H0 g6 H locs := by rw [e_g6]; exact hwd
    have hw := hw g6 e_g6
    refine lv_aload_n hx hb d_Fo_addNode_73 rfl (lv_at hl 0 rfl) ?_
    refine gfC_Fo_30 F hwd d_Fo_addNode_74 ?_
    refine lv_iconst (v := 1) hx hb d_Fo_addNode_77 (by decide) ?_
    refine lv_isub hx hb d_Fo_addNode_78 ?_
    exact hret _ _ _ _ hw hwd _ _ d_Fo_addNode_79
  · have hw := hw.2 hc
    refine lv_iconst (v := -1) hx hb d_Fo_addNode_9 (by decide) ?_
    exact hret _ _ _ _ hw hwd _ _ d_Fo_addNode_10

theorem ct_Fo_addNode {l : Launch} {D : va_G} {cI cZ : ClassId} {ad : Nat → Nat} (x1 : Int32) (x2 : Int32) (x3 : Int32) (x4 : Int32) (x5 : Int32) (g : St) (K : Int32 → St → Prop) (h : pc_Fo_addNode x1 x2 x3 x4 x5 g K) : ctCI l y_Fo_addNode b_Fo_addNode 6 0 0 D cI cZ ad [.ref (ad 2), .int x1, .int x2, .int x3, .int x4, .int x5] g K :=
  enCI (by decide) (Nat.le_of_ble_eq_true rfl) (fun p e s m args below meth c A H0 ls Q F hwd hl hret => wb_Fo_addNode_0 F hret h hwd hl)

set_option maxHeartbeats 4000000 in
set_option maxRecDepth 100000 in
theorem wb_BF_leaf_0 {K : Int32 → St → Prop} {x1 : Int32} {g : St} (F : fxC D cI cZ p R s m args c b_BF_leaf 2 R_BF 1 25)
    (hret : rtCI D cI cZ ad p l e R s m args below meth c b_BF_leaf A H0 Q K)
    (hw : pb_BF_leaf_0 K x1 g)
    (hwd : wdC D cI cZ ad A H0 g H locs) (hl : lv_has ls 2 [(0, .ref (ad 0)), (1, .int x1)]) : W p l e R s m args below meth c H locs 0 0 Q (F0 m 0 ls []) := by
  obtain ⟨hx, hb, hml, hown, hts, hK, hN, hR⟩ := F
  have F : fxC D cI cZ p R s m args c b_BF_leaf 2 R_BF 1 25 := ⟨hx, hb, hml, hown, hts, hK, hN, hR⟩
  refine lv_aload_n hx hb d_BF_leaf_0 rfl (lv_at hl 0 rfl) ?_
  refine gfC_BF_16 F hwd d_BF_leaf_1 ?_
  refine lv_iconst (v := -1) hx hb d_BF_leaf_4 (by decide) ?_
  refine lv_iconst (v := 0) hx hb d_BF_leaf_5 (by decide) ?_
  refine lv_iload_n hx hb d_BF_leaf_6 rfl (lv_at hl 1 rfl) ?_
  refine lv_iconst (v := -1) hx hb d_BF_leaf_7 (by decide) ?_
  refine lv_iconst (v := -1) hx hb d_BF_leaf_8 (by decide) ?_
  refine mcC_BF_61 F hwd (ct_Fo_addNode _ _ _ _ _ _ _ hw) ⟨Nat.le_trans (by decide) hR.1, Nat.le_trans (by decide) hR.2⟩ hl.1 (Nat.le_of_ble_eq_true rfl) d_BF_leaf_9 (fun v2 g1 H locs hw hwd => ?_)
  exact hret _ _ _ _ hw hwd _ _ d_BF_leaf_12

theorem ct_BF_leaf {l : Launch} {D : va_G} {cI cZ : ClassId} {ad : Nat → Nat} (x1 : Int32) (g : St) (K : Int32 → St → Prop) (h : pc_BF_leaf x1 g K) : ctCI l y_BF_leaf b_BF_leaf 2 1 25 D cI cZ ad [.ref (ad 0), .int x1] g K :=
  enCI (by decide) (Nat.le_of_ble_eq_true rfl) (fun p e s m args below meth c A H0 ls Q F hwd hl hret => wb_BF_leaf_0 F hret h hwd hl)

set_option maxHeartbeats 4000000 in
set_option maxRecDepth 100000 in
theorem wb_BF_isFeature_0 {K : Int32 → St → Prop} {x0 : Int32} {g : St} (F : fxC D cI cZ p R s m args c b_BF_isFeature 1 R_BF 0 0)
    (hret : rtCZ D cI cZ ad p l e R s m args below meth c b_BF_isFeature A H0 Q K)
    (hw : pb_BF_isFeature_0 K x0 g)
    (hwd : wdC D cI cZ ad A H0 g H locs) (hl : lv_has ls 1 [(0, .int x0)]) : W p l e R s m args below meth c H locs 0 0 Q (F0 m 0 ls []) := by
  obtain ⟨hx, hb, hml, hown, hts, hK, hN, hR⟩ := F
  have F : fxC D cI cZ p R s m args c b_BF_isFeature 1 R_BF 0 0 := ⟨hx, hb, hml, hown, hts, hK, hN, hR⟩
  refine lv_iload_n hx hb d_BF_isFeature_0 rfl (lv_at hl 0 rfl) ?_
  refine lv_if_lt (tgt := 14) hx hb d_BF_isFeature_1 (by decide) (fun hc => ?_) (fun hc => ?_)
  · have hw := hw.1 hc
    refine lv_iconst (v := 0) hx hb d_BF_isFeature_14 (by decide) ?_
    exact hret _ _ _ _ hw (by decide) hwd _ _ d_BF_isFeature_15
  · have hw := hw.2 hc
    refine lv_iload_n hx hb d_BF_isFeature_4 rfl (lv_at hl 0 rfl) ?_
    refine lv_bipush (v := 8) hx hb d_BF_isFeature_5 (by decide) ?_
    refine lv_icmp_ge (tgt := 14) hx hb d_BF_isFeature_7 (by decide) (fun hc => ?_) (fun hc => ?_)
    · have hw := hw.1 hc
      refine lv_iconst (v := 0) hx hb d_BF_isFeature_14 (by decide) ?_
      exact hret _ _ _ _ hw (by decide) hwd _ _ d_BF_isFeature_15
    · have hw := hw.2 hc
      refine lv_iconst (v := 1) hx hb d_BF_isFeature_10 (by decide) ?_
      refine lv_goto (tgt := 15) hx hb d_BF_isFeature_11 (by decide) ?_
      exact hret _ _ _ _ hw (by decide) hwd _ _ d_BF_isFeature_15

theorem ct_BF_isFeature {l : Launch} {D : va_G} {cI cZ : ClassId} {ad : Nat → Nat} (x0 : Int32) (g : St) (K : Int32 → St → Prop) (h : pc_BF_isFeature x0 g K) : ctCZ l y_BF_isFeature b_BF_isFeature 1 0 0 D cI cZ ad [.int x0] g K :=
  enCZ (by decide) (Nat.le_of_ble_eq_true rfl) (fun p e s m args below meth c A H0 ls Q F hwd hl hret => wb_BF_isFeature_0 F hret h hwd hl)

set_option maxHeartbeats 4000000 in
set_option maxRecDepth 100000 in
theorem wb_Ru_isBitRule_0 {K : Int32 → St → Prop} {x0 : Int32} {g : St} (F : fxC D cI cZ p R s m args c b_Ru_isBitRule 1 R_Ru 0 0)
    (hret : rtCZ D cI cZ ad p l e R s m args below meth c b_Ru_isBitRule A H0 Q K)
    (hw : pb_Ru_isBitRule_0 K x0 g)
    (hwd : wdC D cI cZ ad A H0 g H locs) (hl : lv_has ls 1 [(0, .int x0)]) : W p l e R s m args below meth c H locs 0 0 Q (F0 m 0 ls []) := by
  obtain ⟨hx, hb, hml, hown, hts, hK, hN, hR⟩ := F
  have F : fxC D cI cZ p R s m args c b_Ru_isBitRule 1 R_Ru 0 0 := ⟨hx, hb, hml, hown, hts, hK, hN, hR⟩
  refine lv_iload_n hx hb d_Ru_isBitRule_0 rfl (lv_at hl 0 rfl) ?_
  refine lv_iconst (v := 4) hx hb d_Ru_isBitRule_1 (by decide) ?_
  refine lv_icmp_lt (tgt := 9) hx hb d_Ru_isBitRule_2 (by decide) (fun hc => ?_) (fun hc => ?_)
  · have hw := hw.1 hc
    refine lv_iconst (v := 0) hx hb d_Ru_isBitRule_9 (by decide) ?_
    exact hret _ _ _ _ hw (by decide) hwd _ _ d_Ru_isBitRule_10
  · have hw := hw.2 hc
    refine lv_iconst (v := 1) hx hb d_Ru_isBitRule_5 (by decide) ?_
    refine lv_goto (tgt := 10) hx hb d_Ru_isBitRule_6 (by decide) ?_
    exact hret _ _ _ _ hw (by decide) hwd _ _ d_Ru_isBitRule_10

theorem ct_Ru_isBitRule {l : Launch} {D : va_G} {cI cZ : ClassId} {ad : Nat → Nat} (x0 : Int32) (g : St) (K : Int32 → St → Prop) (h : pc_Ru_isBitRule x0 g K) : ctCZ l y_Ru_isBitRule b_Ru_isBitRule 1 0 0 D cI cZ ad [.int x0] g K :=
  enCZ (by decide) (Nat.le_of_ble_eq_true rfl) (fun p e s m args below meth c A H0 ls Q F hwd hl hret => wb_Ru_isBitRule_0 F hret h hwd hl)

set_option maxHeartbeats 4000000 in
set_option maxRecDepth 100000 in
theorem wb_Ru_takesMark_0 {K : Int32 → St → Prop} {x0 : Int32} {x1 : Int32} {g : St} (F : fxC D cI cZ p R s m args c b_Ru_takesMark 2 R_Ru 1 20)
    (hret : rtCZ D cI cZ ad p l e R s m args below meth c b_Ru_takesMark A H0 Q K)
    (hw : pb_Ru_takesMark_0 K x0 x1 g)
    (hwd : wdC D cI cZ ad A H0 g H locs) (hl : lv_has ls 2 [(0, .int x0), (1, .int x1)]) : W p l e R s m args below meth c H locs 0 0 Q (F0 m 0 ls []) := by
  obtain ⟨hx, hb, hml, hown, hts, hK, hN, hR⟩ := F
  have F : fxC D cI cZ p R s m args c b_Ru_takesMark 2 R_Ru 1 20 := ⟨hx, hb, hml, hown, hts, hK, hN, hR⟩
  refine lv_iload_n hx hb d_Ru_takesMark_0 rfl (lv_at hl 0 rfl) ?_
  refine mcC_Ru_9 F hwd (ct_Ru_isBitRule _ _ _ hw) ⟨Nat.le_trans (by decide) hR.1, Nat.le_trans (by decide) hR.2⟩ hl.1 (Nat.le_of_ble_eq_true rfl) d_Ru_takesMark_1 (fun v2 g1 H locs hw hwd => ?_)
  refine lv_if_ne (tgt := 16) hx hb d_Ru_takesMark_4 (by decide) (fun hc => ?_) (fun hc => ?_)
  · have hw := hw.1 hc
    refine lv_iconst (v := 1) hx hb d_Ru_takesMark_16 (by decide) ?_
    refine lv_goto (tgt := 21) hx hb d_Ru_takesMark_17 (by decide) ?_
    exact hret _ _ _ _ hw (by decide) hwd _ _ d_Ru_takesMark_21
  · have hw := hw.2 hc
    refine lv_iload_n hx hb d_Ru_takesMark_7 rfl (lv_at hl 1 rfl) ?_
    refine lv_ldc (v := 2147483647) hx hb hown (hts _ kC_0) d_Ru_takesMark_8 ?_
    refine lv_iand hx hb d_Ru_takesMark_10 ?_
    refine lv_ldc (v := 2139095040) hx hb hown (hts _ kC_1) d_Ru_takesMark_11 ?_
    refine lv_icmp_ge (tgt := 20) hx hb d_Ru_takesMark_13 (by decide) (fun hc => ?_) (fun hc => ?_)
    · have hw := hw.1 hc
      refine lv_iconst (v := 0) hx hb d_Ru_takesMark_20 (by decide) ?_
      exact hret _ _ _ _ hw (by decide) hwd _ _ d_Ru_takesMark_21
    · have hw := hw.2 hc
      refine lv_iconst (v := 1) hx hb d_Ru_takesMark_16 (by decide) ?_
      refine lv_goto (tgt := 21) hx hb d_Ru_takesMark_17 (by decide) ?_
      exact hret _ _ _ _ hw (by decide) hwd _ _ d_Ru_takesMark_21

theorem ct_Ru_takesMark {l : Launch} {D : va_G} {cI cZ : ClassId} {ad : Nat → Nat} (x0 : Int32) (x1 : Int32) (g : St) (K : Int32 → St → Prop) (h : pc_Ru_takesMark x0 x1 g K) : ctCZ l y_Ru_takesMark b_Ru_takesMark 2 1 20 D cI cZ ad [.int x0, .int x1] g K :=
  enCZ (by decide) (Nat.le_of_ble_eq_true rfl) (fun p e s m args below meth c A H0 ls Q F hwd hl hret => wb_Ru_takesMark_0 F hret h hwd hl)

set_option maxHeartbeats 4000000 in
set_option maxRecDepth 100000 in
theorem wb_BF_isNodeNumber_0 {K : Int32 → St → Prop} {x0 : Int32} {g : St} (F : fxC D cI cZ p R s m args c b_BF_isNodeNumber 1 R_BF 0 0)
    (hret : rtCZ D cI cZ ad p l e R s m args below meth c b_BF_isNodeNumber A H0 Q K)
    (hw : pb_BF_isNodeNumber_0 K x0 g)
    (hwd : wdC D cI cZ ad A H0 g H locs) (hl : lv_has ls 1 [(0, .int x0)]) : W p l e R s m args below meth c H locs 0 0 Q (F0 m 0 ls []) := by
  obtain ⟨hx, hb, hml, hown, hts, hK, hN, hR⟩ := F
  have F : fxC D cI cZ p R s m args c b_BF_isNodeNumber 1 R_BF 0 0 := ⟨hx, hb, hml, hown, hts, hK, hN, hR⟩
  refine lv_iload_n hx hb d_BF_isNodeNumber_0 rfl (lv_at hl 0 rfl) ?_
  refine lv_if_lt (tgt := 14) hx hb d_BF_isNodeNumber_1 (by decide) (fun hc => ?_) (fun hc => ?_)
  · have hw := hw.1 hc
    refine lv_iconst (v := 0) hx hb d_BF_isNodeNumber_14 (by decide) ?_
    exact hret _ _ _ _ hw (by decide) hwd _ _ d_BF_isNodeNumber_15
  · have hw := hw.2 hc
    refine lv_iload_n hx hb d_BF_isNodeNumber_4 rfl (lv_at hl 0 rfl) ?_
    refine lv_bipush (v := 60) hx hb d_BF_isNodeNumber_5 (by decide) ?_
    refine lv_icmp_ge (tgt := 14) hx hb d_BF_isNodeNumber_7 (by decide) (fun hc => ?_) (fun hc => ?_)
    · have hw := hw.1 hc
      refine lv_iconst (v := 0) hx hb d_BF_isNodeNumber_14 (by decide) ?_
      exact hret _ _ _ _ hw (by decide) hwd _ _ d_BF_isNodeNumber_15
    · have hw := hw.2 hc
      refine lv_iconst (v := 1) hx hb d_BF_isNodeNumber_10 (by decide) ?_
      refine lv_goto (tgt := 15) hx hb d_BF_isNodeNumber_11 (by decide) ?_
      exact hret _ _ _ _ hw (by decide) hwd _ _ d_BF_isNodeNumber_15

theorem ct_BF_isNodeNumber {l : Launch} {D : va_G} {cI cZ : ClassId} {ad : Nat → Nat} (x0 : Int32) (g : St) (K : Int32 → St → Prop) (h : pc_BF_isNodeNumber x0 g K) : ctCZ l y_BF_isNodeNumber b_BF_isNodeNumber 1 0 0 D cI cZ ad [.int x0] g K :=
  enCZ (by decide) (Nat.le_of_ble_eq_true rfl) (fun p e s m args below meth c A H0 ls Q F hwd hl hret => wb_BF_isNodeNumber_0 F hret h hwd hl)

set_option maxHeartbeats 4000000 in
set_option maxRecDepth 100000 in
theorem wb_BF_split_0 {K : Int32 → St → Prop} {x1 : Int32} {x2 : Int32} {x3 : Int32} {x4 : Int32} {x5 : Int32} {g : St} (F : fxC D cI cZ p R s m args c b_BF_split 6 R_BF 2 41)
    (hret : rtCI D cI cZ ad p l e R s m args below meth c b_BF_split A H0 Q K)
    (hw : pb_BF_split_0 K x1 x2 x3 x4 x5 g)
    (hwd : wdC D cI cZ ad A H0 g H locs) (hl : lv_has ls 6 [(0, .ref (ad 0)), (1, .int x1), (2, .int x2), (3, .int x3), (4, .int x4), (5, .int x5)]) : W p l e R s m args below meth c H locs 0 0 Q (F0 m 0 ls []) := by
  obtain ⟨hx, hb, hml, hown, hts, hK, hN, hR⟩ := F
  have F : fxC D cI cZ p R s m args c b_BF_split 6 R_BF 2 41 := ⟨hx, hb, hml, hown, hts, hK, hN, hR⟩
  refine lv_iload_n hx hb d_BF_split_0 rfl (lv_at hl 1 rfl) ?_
  refine lv_if_lt (tgt := 25) hx hb d_BF_split_1 (by decide) (fun hc => ?_) (fun hc => ?_)
  · have hw := hw.1 hc
    refine lv_iconst (v := -1) hx hb d_BF_split_25 (by decide) ?_
    exact hret _ _ _ _ hw hwd _ _ d_BF_split_26
  · have hw := hw.2 hc
    refine lv_iload_n hx hb d_BF_split_4 rfl (lv_at hl 1 rfl) ?_
    refine lv_bipush (v := 6) hx hb d_BF_split_5 (by decide) ?_
    refine lv_icmp_ge (tgt := 25) hx hb d_BF_split_7 (by decide) (fun hc => ?_) (fun hc => ?_)
    · have hw := hw.1 hc
      refine lv_iconst (v := -1) hx hb d_BF_split_25 (by decide) ?_
      exact hret _ _ _ _ hw hwd _ _ d_BF_split_26
    · have hw := hw.2 hc
      refine lv_iload_n hx hb d_BF_split_10 rfl (lv_at hl 2 rfl) ?_
      refine mcC_BF_65 F hwd (ct_BF_isFeature _ _ _ hw) ⟨Nat.le_trans (by decide) hR.1, Nat.le_trans (by decide) hR.2⟩ hl.1 (Nat.le_of_ble_eq_true rfl) d_BF_split_11 (fun v2 g1 H locs hw hwd => ?_)
      refine lv_if_eq (tgt := 25) hx hb d_BF_split_14 (by decide) (fun hc => ?_) (fun hc => ?_)
      · have hw := hw.1 hc
        refine lv_iconst (v := -1) hx hb d_BF_split_25 (by decide) ?_
        exact hret _ _ _ _ hw hwd _ _ d_BF_split_26
      · have hw := hw.2 hc
        refine lv_iload_n hx hb d_BF_split_17 rfl (lv_at hl 1 rfl) ?_
        refine lv_iload_n hx hb d_BF_split_18 rfl (lv_at hl 3 rfl) ?_
        refine mcC_BF_69 F hwd (ct_Ru_takesMark _ _ _ _ hw) ⟨Nat.le_trans (by decide) hR.1, Nat.le_trans (by decide) hR.2⟩ hl.1 (Nat.le_of_ble_eq_true rfl) d_BF_split_19 (fun v4 g3 H locs hw hwd => ?_)
        refine lv_if_ne (tgt := 27) hx hb d_BF_split_22 (by decide) (fun hc => ?_) (fun hc => ?_)
        · have hw := hw.1 hc
          refine lv_iload hx hb d_BF_split_27 (lv_at hl 4 rfl) ?_
          refine mcC_BF_75 F hwd (ct_BF_isNodeNumber _ _ _ hw) ⟨Nat.le_trans (by decide) hR.1, Nat.le_trans (by decide) hR.2⟩ hl.1 (Nat.le_of_ble_eq_true rfl) d_BF_split_29 (fun v6 g5 H locs hw hwd => ?_)
          refine lv_if_eq (tgt := 43) hx hb d_BF_split_32 (by decide) (fun hc => ?_) (fun hc => ?_)
          · have hw := hw.1 hc
            refine lv_iconst (v := -1) hx hb d_BF_split_43 (by decide) ?_
            exact hret _ _ _ _ hw hwd _ _ d_BF_split_44
          · have hw := hw.2 hc
            refine lv_iload hx hb d_BF_split_35 (lv_at hl 5 rfl) ?_
            refine mcC_BF_75 F hwd (ct_BF_isNodeNumber _ _ _ hw) ⟨Nat.le_trans (by decide) hR.1, Nat.le_trans (by decide) hR.2⟩ hl.1 (Nat.le_of_ble_eq_true rfl) d_BF_split_37 (fun v8 g7 H locs hw hwd => ?_)
            refine lv_if_ne (tgt := 45) hx hb d_BF_split_40 (by decide) (fun hc => ?_) (fun hc => ?_)
            · have hw := hw.1 hc
              refine lv_aload_n hx hb d_BF_split_45 rfl (lv_at hl 0 rfl) ?_
              refine gfC_BF_16 F hwd d_BF_split_46 ?_
              refine lv_iload_n hx hb d_BF_split_49 rfl (lv_at hl 1 rfl) ?_
              refine lv_iload_n hx hb d_BF_split_50 rfl (lv_at hl 2 rfl) ?_
              refine lv_iload_n hx hb d_BF_split_51 rfl (lv_at hl 3 rfl) ?_
              refine lv_iload hx hb d_BF_split_52 (lv_at hl 4 rfl) ?_
              refine lv_iload hx hb d_BF_split_54 (lv_at hl 5 rfl) ?_
              refine mcC_BF_61 F hwd (ct_Fo_addNode _ _ _ _ _ _ _ hw) ⟨Nat.le_trans (by decide) hR.1, Nat.le_trans (by decide) hR.2⟩ hl.1 (Nat.le_of_ble_eq_true rfl) d_BF_split_56 (fun v10 g9 H locs hw hwd => ?_)
              exact hret _ _ _ _ hw hwd _ _ d_BF_split_59
            · have hw := hw.2 hc
              refine lv_iconst (v := -1) hx hb d_BF_split_43 (by decide) ?_
              exact hret _ _ _ _ hw hwd _ _ d_BF_split_44
        · have hw := hw.2 hc
          refine lv_iconst (v := -1) hx hb d_BF_split_25 (by decide) ?_
          exact hret _ _ _ _ hw hwd _ _ d_BF_split_26

theorem ct_BF_split {l : Launch} {D : va_G} {cI cZ : ClassId} {ad : Nat → Nat} (x1 : Int32) (x2 : Int32) (x3 : Int32) (x4 : Int32) (x5 : Int32) (g : St) (K : Int32 → St → Prop) (h : pc_BF_split x1 x2 x3 x4 x5 g K) : ctCI l y_BF_split b_BF_split 6 2 41 D cI cZ ad [.ref (ad 0), .int x1, .int x2, .int x3, .int x4, .int x5] g K :=
  enCI (by decide) (Nat.le_of_ble_eq_true rfl) (fun p e s m args below meth c A H0 ls Q F hwd hl hret => wb_BF_split_0 F hret h hwd hl)

set_option maxHeartbeats 4000000 in
set_option maxRecDepth 100000 in
theorem wb_Fo_isNode_0 {K : Int32 → St → Prop} {x1 : Int32} {g : St} (F : fxC D cI cZ p R s m args c b_Fo_isNode 2 R_Fo 0 0)
    (hret : rtCZ D cI cZ ad p l e R s m args below meth c b_Fo_isNode A H0 Q K)
    (hw : pb_Fo_isNode_0 K x1 g)
    (hwd : wdC D cI cZ ad A H0 g H locs) (hl : lv_has ls 2 [(0, .ref (ad 2)), (1, .int x1)]) : W p l e R s m args below meth c H locs 0 0 Q (F0 m 0 ls []) := by
  obtain ⟨hx, hb, hml, hown, hts, hK, hN, hR⟩ := F
  have F : fxC D cI cZ p R s m args c b_Fo_isNode 2 R_Fo 0 0 := ⟨hx, hb, hml, hown, hts, hK, hN, hR⟩
  refine lv_iload_n hx hb d_Fo_isNode_0 rfl (lv_at hl 1 rfl) ?_
  refine lv_if_lt (tgt := 16) hx hb d_Fo_isNode_1 (by decide) (fun hc => ?_) (fun hc => ?_)
  · have hw := hw.1 hc
    refine lv_iconst (v := 0) hx hb d_Fo_isNode_16 (by decide) ?_
    exact hret _ _ _ _ hw (by decide) hwd _ _ d_Fo_isNode_17
  · have hw := hw.2 hc
    refine lv_iload_n hx hb d_Fo_isNode_4 rfl (lv_at hl 1 rfl) ?_
    refine lv_aload_n hx hb d_Fo_isNode_5 rfl (lv_at hl 0 rfl) ?_
    refine gfC_Fo_30 F hwd d_Fo_isNode_6 ?_
    refine lv_icmp_ge (tgt := 16) hx hb d_Fo_isNode_9 (by decide) (fun hc => ?_) (fun hc => ?_)
    · have hw := hw.1 hc
      refine lv_iconst (v := 0) hx hb d_Fo_isNode_16 (by decide) ?_
      exact hret _ _ _ _ hw (by decide) hwd _ _ d_Fo_isNode_17
    · have hw := hw.2 hc
      refine lv_iconst (v := 1) hx hb d_Fo_isNode_12 (by decide) ?_
      refine lv_goto (tgt := 17) hx hb d_Fo_isNode_13 (by decide) ?_
      exact hret _ _ _ _ hw (by decide) hwd _ _ d_Fo_isNode_17

theorem ct_Fo_isNode {l : Launch} {D : va_G} {cI cZ : ClassId} {ad : Nat → Nat} (x1 : Int32) (g : St) (K : Int32 → St → Prop) (h : pc_Fo_isNode x1 g K) : ctCZ l y_Fo_isNode b_Fo_isNode 2 0 0 D cI cZ ad [.ref (ad 2), .int x1] g K :=
  enCZ (by decide) (Nat.le_of_ble_eq_true rfl) (fun p e s m args below meth c A H0 ls Q F hwd hl hret => wb_Fo_isNode_0 F hret h hwd hl)

set_option maxHeartbeats 4000000 in
set_option maxRecDepth 100000 in
theorem wb_Fo_addTree_0 {K : Int32 → St → Prop} {x1 : Int32} {g : St} (F : fxC D cI cZ p R s m args c b_Fo_addTree 2 R_Fo 1 21)
    (hret : rtCI D cI cZ ad p l e R s m args below meth c b_Fo_addTree A H0 Q K)
    (hw : pb_Fo_addTree_0 K x1 g)
    (hwd : wdC D cI cZ ad A H0 g H locs) (hl : lv_has ls 2 [(0, .ref (ad 2)), (1, .int x1)]) : W p l e R s m args below meth c H locs 0 0 Q (F0 m 0 ls []) := by
  obtain ⟨hx, hb, hml, hown, hts, hK, hN, hR⟩ := F
  have F : fxC D cI cZ p R s m args c b_Fo_addTree 2 R_Fo 1 21 := ⟨hx, hb, hml, hown, hts, hK, hN, hR⟩
  refine lv_aload_n hx hb d_Fo_addTree_0 rfl (lv_at hl 0 rfl) ?_
  refine gfC_Fo_34 F hwd d_Fo_addTree_1 ?_
  refine lv_bipush (v := 8) hx hb d_Fo_addTree_4 (by decide) ?_
  refine lv_icmp_ge (tgt := 17) hx hb d_Fo_addTree_6 (by decide) (fun hc => ?_) (fun hc => ?_)
  · have hw := hw.1 hc
    refine lv_iconst (v := -1) hx hb d_Fo_addTree_17 (by decide) ?_
    exact hret _ _ _ _ hw hwd _ _ d_Fo_addTree_18
  · have hw := hw.2 hc
    refine lv_aload_n hx hb d_Fo_addTree_9 rfl (lv_at hl 0 rfl) ?_
    refine lv_iload_n hx hb d_Fo_addTree_10 rfl (lv_at hl 1 rfl) ?_
    refine mcC_Fo_37 F hwd (ct_Fo_isNode _ _ _ hw) ⟨Nat.le_trans (by decide) hR.1, Nat.le_trans (by decide) hR.2⟩ hl.1 (Nat.le_of_ble_eq_true rfl) d_Fo_addTree_11 (fun v2 g1 H locs hw hwd => ?_)
    refine lv_if_ne (tgt := 19) hx hb d_Fo_addTree_14 (by decide) (fun hc => ?_) (fun hc => ?_)
    · have hw := hw.1 hc
      refine lv_aload_n hx hb d_Fo_addTree_19 rfl (lv_at hl 0 rfl) ?_
      refine gfC_Fo_27 F hwd d_Fo_addTree_20 ?_
      refine lv_aload_n hx hb d_Fo_addTree_23 rfl (lv_at hl 0 rfl) ?_
      refine gfC_Fo_34 F hwd d_Fo_addTree_24 ?_
      refine lv_iload_n hx hb d_Fo_addTree_27 rfl (lv_at hl 1 rfl) ?_
      obtain ⟨hi, hw⟩ := hw
      refine wrC_8 F hwd hi d_Fo_addTree_28 (fun H locs hwd => ?_)
      obtain ⟨g3, e_g3⟩ : ∃ z : St, z = ar g1 8 (g1 101 0) x1 := ⟨_, rfl⟩
      have hwd : wdC D cI cZ ad A H0 g3 H locs := by rw [e_g3]; exact hwd
      have hw := hw g3 e_g3
      refine lv_aload_n hx hb d_Fo_addTree_29 rfl (lv_at hl 0 rfl) ?_
      refine lv_dup hx hb d_Fo_addTree_30 rfl ?_
      refine gfC_Fo_34 F hwd d_Fo_addTree_31 ?_
      refine lv_iconst (v := 1) hx hb d_Fo_addTree_34 (by decide) ?_
      refine lv_iadd hx hb d_Fo_addTree_35 ?_
      refine pfC_Fo_34 F hwd d_Fo_addTree_36 (fun H locs hwd => ?_)
      obtain ⟨g4, e_g4⟩ : ∃ z : St, z = sc g3 101 ((g3 101 0) + (1 : Int32)) := ⟨_, rfl⟩
      have hwd : wdC D cI cZ ad A H0 g4 H locs := by rw [e_g4]; exact hwd
      have hw := hw g4 e_g4
      refine lv_aload_n hx hb d_Fo_addTree_39 rfl (lv_at hl 0 rfl) ?_
      refine gfC_Fo_34 F hwd d_Fo_addTree_40 ?_
      refine lv_iconst (v := 1) hx hb d_Fo_addTree_43 (by decide) ?_
      refine lv_isub hx hb d_Fo_addTree_44 ?_
      exact hret _ _ _ _ hw hwd _ _ d_Fo_addTree_45
    · have hw := hw.2 hc
      refine lv_iconst (v := -1) hx hb d_Fo_addTree_17 (by decide) ?_
      exact hret _ _ _ _ hw hwd _ _ d_Fo_addTree_18

theorem ct_Fo_addTree {l : Launch} {D : va_G} {cI cZ : ClassId} {ad : Nat → Nat} (x1 : Int32) (g : St) (K : Int32 → St → Prop) (h : pc_Fo_addTree x1 g K) : ctCI l y_Fo_addTree b_Fo_addTree 2 1 21 D cI cZ ad [.ref (ad 2), .int x1] g K :=
  enCI (by decide) (Nat.le_of_ble_eq_true rfl) (fun p e s m args below meth c A H0 ls Q F hwd hl hret => wb_Fo_addTree_0 F hret h hwd hl)

set_option maxHeartbeats 4000000 in
set_option maxRecDepth 100000 in
theorem wb_BF_tree_0 {K : Int32 → St → Prop} {x1 : Int32} {g : St} (F : fxC D cI cZ p R s m args c b_BF_tree 2 R_BF 2 42)
    (hret : rtCI D cI cZ ad p l e R s m args below meth c b_BF_tree A H0 Q K)
    (hw : pb_BF_tree_0 K x1 g)
    (hwd : wdC D cI cZ ad A H0 g H locs) (hl : lv_has ls 2 [(0, .ref (ad 0)), (1, .int x1)]) : W p l e R s m args below meth c H locs 0 0 Q (F0 m 0 ls []) := by
  obtain ⟨hx, hb, hml, hown, hts, hK, hN, hR⟩ := F
  have F : fxC D cI cZ p R s m args c b_BF_tree 2 R_BF 2 42 := ⟨hx, hb, hml, hown, hts, hK, hN, hR⟩
  refine lv_aload_n hx hb d_BF_tree_0 rfl (lv_at hl 0 rfl) ?_
  refine gfC_BF_16 F hwd d_BF_tree_1 ?_
  refine lv_iload_n hx hb d_BF_tree_4 rfl (lv_at hl 1 rfl) ?_
  refine mcC_BF_78 F hwd (ct_Fo_addTree _ _ _ hw) ⟨Nat.le_trans (by decide) hR.1, Nat.le_trans (by decide) hR.2⟩ hl.1 (Nat.le_of_ble_eq_true rfl) d_BF_tree_5 (fun v2 g1 H locs hw hwd => ?_)
  exact hret _ _ _ _ hw hwd _ _ d_BF_tree_8

theorem ct_BF_tree {l : Launch} {D : va_G} {cI cZ : ClassId} {ad : Nat → Nat} (x1 : Int32) (g : St) (K : Int32 → St → Prop) (h : pc_BF_tree x1 g K) : ctCI l y_BF_tree b_BF_tree 2 2 42 D cI cZ ad [.ref (ad 0), .int x1] g K :=
  enCI (by decide) (Nat.le_of_ble_eq_true rfl) (fun p e s m args below meth c A H0 ls Q F hwd hl hret => wb_BF_tree_0 F hret h hwd hl)

set_option maxHeartbeats 4000000 in
set_option maxRecDepth 100000 in
theorem wb_BF_isTableSize_0 {K : Int32 → St → Prop} {x0 : Int32} {x1 : Int32} {g : St} (F : fxC D cI cZ p R s m args c b_BF_isTableSize 2 R_BF 0 0)
    (hret : rtCZ D cI cZ ad p l e R s m args below meth c b_BF_isTableSize A H0 Q K)
    (hw : pb_BF_isTableSize_0 K x0 x1 g)
    (hwd : wdC D cI cZ ad A H0 g H locs) (hl : lv_has ls 2 [(0, .int x0), (1, .int x1)]) : W p l e R s m args below meth c H locs 0 0 Q (F0 m 0 ls []) := by
  obtain ⟨hx, hb, hml, hown, hts, hK, hN, hR⟩ := F
  have F : fxC D cI cZ p R s m args c b_BF_isTableSize 2 R_BF 0 0 := ⟨hx, hb, hml, hown, hts, hK, hN, hR⟩
  refine lv_iload_n hx hb d_BF_isTableSize_0 rfl (lv_at hl 0 rfl) ?_
  refine lv_bipush (v := 60) hx hb d_BF_isTableSize_1 (by decide) ?_
  refine lv_icmp_eq (tgt := 19) hx hb d_BF_isTableSize_3 (by decide) (fun hc => ?_) (fun hc => ?_)
  · have hw := hw.1 hc
    refine lv_iconst (v := 1) hx hb d_BF_isTableSize_19 (by decide) ?_
    refine lv_goto (tgt := 24) hx hb d_BF_isTableSize_20 (by decide) ?_
    exact hret _ _ _ _ hw (by decide) hwd _ _ d_BF_isTableSize_24
  · have hw := hw.2 hc
    refine lv_iload_n hx hb d_BF_isTableSize_6 rfl (lv_at hl 0 rfl) ?_
    refine lv_bipush (v := 60) hx hb d_BF_isTableSize_7 (by decide) ?_
    refine lv_icmp_ge (tgt := 23) hx hb d_BF_isTableSize_9 (by decide) (fun hc => ?_) (fun hc => ?_)
    · have hw := hw.1 hc
      refine lv_iconst (v := 0) hx hb d_BF_isTableSize_23 (by decide) ?_
      exact hret _ _ _ _ hw (by decide) hwd _ _ d_BF_isTableSize_24
    · have hw := hw.2 hc
      refine lv_iload_n hx hb d_BF_isTableSize_12 rfl (lv_at hl 0 rfl) ?_
      refine lv_iload_n hx hb d_BF_isTableSize_13 rfl (lv_at hl 1 rfl) ?_
      refine lv_iconst (v := 4) hx hb d_BF_isTableSize_14 (by decide) ?_
      obtain ⟨hne, hw⟩ := hw
      refine lv_idiv hx hb d_BF_isTableSize_15 hne ?_
      refine lv_icmp_lt (tgt := 23) hx hb d_BF_isTableSize_16 (by decide) (fun hc => ?_) (fun hc => ?_)
      · have hw := hw.1 hc
        refine lv_iconst (v := 0) hx hb d_BF_isTableSize_23 (by decide) ?_
        exact hret _ _ _ _ hw (by decide) hwd _ _ d_BF_isTableSize_24
      · have hw := hw.2 hc
        refine lv_iconst (v := 1) hx hb d_BF_isTableSize_19 (by decide) ?_
        refine lv_goto (tgt := 24) hx hb d_BF_isTableSize_20 (by decide) ?_
        exact hret _ _ _ _ hw (by decide) hwd _ _ d_BF_isTableSize_24

theorem ct_BF_isTableSize {l : Launch} {D : va_G} {cI cZ : ClassId} {ad : Nat → Nat} (x0 : Int32) (x1 : Int32) (g : St) (K : Int32 → St → Prop) (h : pc_BF_isTableSize x0 x1 g K) : ctCZ l y_BF_isTableSize b_BF_isTableSize 2 0 0 D cI cZ ad [.int x0, .int x1] g K :=
  enCZ (by decide) (Nat.le_of_ble_eq_true rfl) (fun p e s m args below meth c A H0 ls Q F hwd hl hret => wb_BF_isTableSize_0 F hret h hwd hl)

set_option maxHeartbeats 4000000 in
set_option maxRecDepth 100000 in
theorem wb_Fo_isLeaf_0 {K : Int32 → St → Prop} {x1 : Int32} {g : St} (F : fxC D cI cZ p R s m args c b_Fo_isLeaf 2 R_Fo 0 0)
    (hret : rtCZ D cI cZ ad p l e R s m args below meth c b_Fo_isLeaf A H0 Q K)
    (hw : pb_Fo_isLeaf_0 K x1 g)
    (hwd : wdC D cI cZ ad A H0 g H locs) (hl : lv_has ls 2 [(0, .ref (ad 2)), (1, .int x1)]) : W p l e R s m args below meth c H locs 0 0 Q (F0 m 0 ls []) := by
  obtain ⟨hx, hb, hml, hown, hts, hK, hN, hR⟩ := F
  have F : fxC D cI cZ p R s m args c b_Fo_isLeaf 2 R_Fo 0 0 := ⟨hx, hb, hml, hown, hts, hK, hN, hR⟩
  refine lv_aload_n hx hb d_Fo_isLeaf_0 rfl (lv_at hl 0 rfl) ?_
  refine gfC_Fo_9 F hwd d_Fo_isLeaf_1 ?_
  refine lv_iload_n hx hb d_Fo_isLeaf_4 rfl (lv_at hl 1 rfl) ?_
  obtain ⟨hi, hw⟩ := hw
  refine rdC_3 F hwd hi d_Fo_isLeaf_5 ?_
  refine lv_iconst (v := -1) hx hb d_Fo_isLeaf_6 (by decide) ?_
  refine lv_icmp_ne (tgt := 14) hx hb d_Fo_isLeaf_7 (by decide) (fun hc => ?_) (fun hc => ?_)
  · have hw := hw.1 hc
    refine lv_iconst (v := 0) hx hb d_Fo_isLeaf_14 (by decide) ?_
    exact hret _ _ _ _ hw (by decide) hwd _ _ d_Fo_isLeaf_15
  · have hw := hw.2 hc
    refine lv_iconst (v := 1) hx hb d_Fo_isLeaf_10 (by decide) ?_
    refine lv_goto (tgt := 15) hx hb d_Fo_isLeaf_11 (by decide) ?_
    exact hret _ _ _ _ hw (by decide) hwd _ _ d_Fo_isLeaf_15

theorem ct_Fo_isLeaf {l : Launch} {D : va_G} {cI cZ : ClassId} {ad : Nat → Nat} (x1 : Int32) (g : St) (K : Int32 → St → Prop) (h : pc_Fo_isLeaf x1 g K) : ctCZ l y_Fo_isLeaf b_Fo_isLeaf 2 0 0 D cI cZ ad [.ref (ad 2), .int x1] g K :=
  enCZ (by decide) (Nat.le_of_ble_eq_true rfl) (fun p e s m args below meth c A H0 ls Q F hwd hl hret => wb_Fo_isLeaf_0 F hret h hwd hl)

set_option maxHeartbeats 4000000 in
set_option maxRecDepth 100000 in
theorem wb_Ch_isDangling_0 {K : Int32 → St → Prop} {x1 : Int32} {g : St} (F : fxC D cI cZ p R s m args c b_Ch_isDangling 2 R_Ch 1 21)
    (hret : rtCZ D cI cZ ad p l e R s m args below meth c b_Ch_isDangling A H0 Q K)
    (hw : pb_Ch_isDangling_0 K x1 g)
    (hwd : wdC D cI cZ ad A H0 g H locs) (hl : lv_has ls 2 [(0, .ref (ad 9)), (1, .int x1)]) : W p l e R s m args below meth c H locs 0 0 Q (F0 m 0 ls []) := by
  obtain ⟨hx, hb, hml, hown, hts, hK, hN, hR⟩ := F
  have F : fxC D cI cZ p R s m args c b_Ch_isDangling 2 R_Ch 1 21 := ⟨hx, hb, hml, hown, hts, hK, hN, hR⟩
  refine lv_aload_n hx hb d_Ch_isDangling_0 rfl (lv_at hl 0 rfl) ?_
  refine gfC_Ch_15 F hwd d_Ch_isDangling_1 ?_
  refine lv_iload_n hx hb d_Ch_isDangling_4 rfl (lv_at hl 1 rfl) ?_
  refine mcC_Ch_36 F hwd (ct_Fo_isLeaf _ _ _ hw) ⟨Nat.le_trans (by decide) hR.1, Nat.le_trans (by decide) hR.2⟩ hl.1 (Nat.le_of_ble_eq_true rfl) d_Ch_isDangling_5 (fun v2 g1 H locs hw hwd => ?_)
  refine lv_if_ne (tgt := 53) hx hb d_Ch_isDangling_8 (by decide) (fun hc => ?_) (fun hc => ?_)
  · have hw := hw.1 hc
    refine lv_iconst (v := 0) hx hb d_Ch_isDangling_53 (by decide) ?_
    exact hret _ _ _ _ hw (by decide) hwd _ _ d_Ch_isDangling_54
  · have hw := hw.2 hc
    refine lv_aload_n hx hb d_Ch_isDangling_11 rfl (lv_at hl 0 rfl) ?_
    refine gfC_Ch_15 F hwd d_Ch_isDangling_12 ?_
    refine lv_aload_n hx hb d_Ch_isDangling_15 rfl (lv_at hl 0 rfl) ?_
    refine gfC_Ch_15 F hwd d_Ch_isDangling_16 ?_
    refine gfC_Ch_40 F hwd d_Ch_isDangling_19 ?_
    refine lv_iload_n hx hb d_Ch_isDangling_22 rfl (lv_at hl 1 rfl) ?_
    obtain ⟨hi, hw⟩ := hw
    refine rdC_6 F hwd hi d_Ch_isDangling_23 ?_
    refine mcC_Ch_49 F hwd (ct_Fo_isNode _ _ _ hw) ⟨Nat.le_trans (by decide) hR.1, Nat.le_trans (by decide) hR.2⟩ hl.1 (Nat.le_of_ble_eq_true rfl) d_Ch_isDangling_24 (fun v4 g3 H locs hw hwd => ?_)
    refine lv_if_eq (tgt := 49) hx hb d_Ch_isDangling_27 (by decide) (fun hc => ?_) (fun hc => ?_)
    · have hw := hw.1 hc
      refine lv_iconst (v := 1) hx hb d_Ch_isDangling_49 (by decide) ?_
      refine lv_goto (tgt := 54) hx hb d_Ch_isDangling_50 (by decide) ?_
      exact hret _ _ _ _ hw (by decide) hwd _ _ d_Ch_isDangling_54
    · have hw := hw.2 hc
      refine lv_aload_n hx hb d_Ch_isDangling_30 rfl (lv_at hl 0 rfl) ?_
      refine gfC_Ch_15 F hwd d_Ch_isDangling_31 ?_
      refine lv_aload_n hx hb d_Ch_isDangling_34 rfl (lv_at hl 0 rfl) ?_
      refine gfC_Ch_15 F hwd d_Ch_isDangling_35 ?_
      refine gfC_Ch_43 F hwd d_Ch_isDangling_38 ?_
      refine lv_iload_n hx hb d_Ch_isDangling_41 rfl (lv_at hl 1 rfl) ?_
      obtain ⟨hi, hw⟩ := hw
      refine rdC_7 F hwd hi d_Ch_isDangling_42 ?_
      refine mcC_Ch_49 F hwd (ct_Fo_isNode _ _ _ hw) ⟨Nat.le_trans (by decide) hR.1, Nat.le_trans (by decide) hR.2⟩ hl.1 (Nat.le_of_ble_eq_true rfl) d_Ch_isDangling_43 (fun v6 g5 H locs hw hwd => ?_)
      refine lv_if_ne (tgt := 53) hx hb d_Ch_isDangling_46 (by decide) (fun hc => ?_) (fun hc => ?_)
      · have hw := hw.1 hc
        refine lv_iconst (v := 0) hx hb d_Ch_isDangling_53 (by decide) ?_
        exact hret _ _ _ _ hw (by decide) hwd _ _ d_Ch_isDangling_54
      · have hw := hw.2 hc
        refine lv_iconst (v := 1) hx hb d_Ch_isDangling_49 (by decide) ?_
        refine lv_goto (tgt := 54) hx hb d_Ch_isDangling_50 (by decide) ?_
        exact hret _ _ _ _ hw (by decide) hwd _ _ d_Ch_isDangling_54

theorem ct_Ch_isDangling {l : Launch} {D : va_G} {cI cZ : ClassId} {ad : Nat → Nat} (x1 : Int32) (g : St) (K : Int32 → St → Prop) (h : pc_Ch_isDangling x1 g K) : ctCZ l y_Ch_isDangling b_Ch_isDangling 2 1 21 D cI cZ ad [.ref (ad 9), .int x1] g K :=
  enCZ (by decide) (Nat.le_of_ble_eq_true rfl) (fun p e s m args below meth c A H0 ls Q F hwd hl hret => wb_Ch_isDangling_0 F hret h hwd hl)

set_option maxHeartbeats 4000000 in
set_option maxRecDepth 100000 in
theorem wb_Ch_faultAt_0 {K : Int32 → St → Prop} {x1 : Int32} {x2 : Int32} {g : St} (F : fxC D cI cZ p R s m args c b_Ch_faultAt 3 R_Ch 2 42)
    (hret : rtCI D cI cZ ad p l e R s m args below meth c b_Ch_faultAt A H0 Q K)
    (hw : pb_Ch_faultAt_0 K x1 x2 g)
    (hwd : wdC D cI cZ ad A H0 g H locs) (hl : lv_has ls 3 [(0, .ref (ad 9)), (1, .int x1), (2, .int x2)]) : W p l e R s m args below meth c H locs 0 0 Q (F0 m 0 ls []) := by
  obtain ⟨hx, hb, hml, hown, hts, hK, hN, hR⟩ := F
  have F : fxC D cI cZ p R s m args c b_Ch_faultAt 3 R_Ch 2 42 := ⟨hx, hb, hml, hown, hts, hK, hN, hR⟩
  refine lv_aload_n hx hb d_Ch_faultAt_0 rfl (lv_at hl 0 rfl) ?_
  refine gfC_Ch_9 F hwd d_Ch_faultAt_1 ?_
  refine lv_iload_n hx hb d_Ch_faultAt_4 rfl (lv_at hl 1 rfl) ?_
  obtain ⟨hi, hw⟩ := hw
  refine rdC_10 F hwd hi d_Ch_faultAt_5 ?_
  refine lv_if_eq (tgt := 15) hx hb d_Ch_faultAt_6 (by decide) (fun hc => ?_) (fun hc => ?_)
  · have hw := hw.1 hc
    refine lv_aload_n hx hb d_Ch_faultAt_15 rfl (lv_at hl 0 rfl) ?_
    refine gfC_Ch_9 F hwd d_Ch_faultAt_16 ?_
    refine lv_iload_n hx hb d_Ch_faultAt_19 rfl (lv_at hl 1 rfl) ?_
    refine lv_iconst (v := 1) hx hb d_Ch_faultAt_20 (by decide) ?_
    obtain ⟨hi, hw⟩ := hw
    refine wrC_10 F hwd hi rfl d_Ch_faultAt_21 (fun H locs hwd => ?_)
    obtain ⟨g1, e_g1⟩ : ∃ z : St, z = ar g 10 x1 (1 : Int32) := ⟨_, rfl⟩
    have hwd : wdC D cI cZ ad A H0 g1 H locs := by rw [e_g1]; exact hwd
    have hw := hw g1 e_g1
    refine lv_iload_n hx hb d_Ch_faultAt_22 rfl (lv_at hl 2 rfl) ?_
    refine lv_bipush (v := 12) hx hb d_Ch_faultAt_23 (by decide) ?_
    refine lv_icmp_le (tgt := 34) hx hb d_Ch_faultAt_25 (by decide) (fun hc => ?_) (fun hc => ?_)
    · have hw := hw.1 hc
      refine lv_aload_n hx hb d_Ch_faultAt_34 rfl (lv_at hl 0 rfl) ?_
      refine lv_iload_n hx hb d_Ch_faultAt_35 rfl (lv_at hl 1 rfl) ?_
      refine mcC_Ch_46 F hwd (ct_Ch_isDangling _ _ _ hw) ⟨Nat.le_trans (by decide) hR.1, Nat.le_trans (by decide) hR.2⟩ hl.1 (Nat.le_of_ble_eq_true rfl) d_Ch_faultAt_36 (fun v3 g2 H locs hw hwd => ?_)
      refine lv_if_eq (tgt := 49) hx hb d_Ch_faultAt_39 (by decide) (fun hc => ?_) (fun hc => ?_)
      · have hw := hw.1 hc
        refine lv_iconst (v := 0) hx hb d_Ch_faultAt_49 (by decide) ?_
        exact hret _ _ _ _ hw hwd _ _ d_Ch_faultAt_50
      · have hw := hw.2 hc
        refine lv_bipush (v := 100) hx hb d_Ch_faultAt_42 (by decide) ?_
        refine lv_iload_n hx hb d_Ch_faultAt_44 rfl (lv_at hl 1 rfl) ?_
        refine lv_iadd hx hb d_Ch_faultAt_45 ?_
        refine lv_goto (tgt := 50) hx hb d_Ch_faultAt_46 (by decide) ?_
        exact hret _ _ _ _ hw hwd _ _ d_Ch_faultAt_50
    · have hw := hw.2 hc
      refine lv_sipush (v := 300) hx hb d_Ch_faultAt_28 (by decide) ?_
      refine lv_iload_n hx hb d_Ch_faultAt_31 rfl (lv_at hl 1 rfl) ?_
      refine lv_iadd hx hb d_Ch_faultAt_32 ?_
      exact hret _ _ _ _ hw hwd _ _ d_Ch_faultAt_33
  · have hw := hw.2 hc
    refine lv_sipush (v := 200) hx hb d_Ch_faultAt_9 (by decide) ?_
    refine lv_iload_n hx hb d_Ch_faultAt_12 rfl (lv_at hl 1 rfl) ?_
    refine lv_iadd hx hb d_Ch_faultAt_13 ?_
    exact hret _ _ _ _ hw hwd _ _ d_Ch_faultAt_14

theorem ct_Ch_faultAt {l : Launch} {D : va_G} {cI cZ : ClassId} {ad : Nat → Nat} (x1 : Int32) (x2 : Int32) (g : St) (K : Int32 → St → Prop) (h : pc_Ch_faultAt x1 x2 g K) : ctCI l y_Ch_faultAt b_Ch_faultAt 3 2 42 D cI cZ ad [.ref (ad 9), .int x1, .int x2] g K :=
  enCI (by decide) (Nat.le_of_ble_eq_true rfl) (fun p e s m args below meth c A H0 ls Q F hwd hl hret => wb_Ch_faultAt_0 F hret h hwd hl)

set_option maxHeartbeats 4000000 in
set_option maxRecDepth 100000 in
theorem wb_Ch_faultFrom_0 {rc : Int32 → Int32 → St → (Int32 → St → Prop) → Prop} {K : Int32 → St → Prop} {x1 : Int32} {x2 : Int32} {g : St} (F : fxC D cI cZ p R s m args c b_Ch_faultFrom 4 R_Ch 3 64)
    (hret : rtCI D cI cZ ad p l e R s m args below meth c b_Ch_faultFrom A H0 Q K) {f lo : Nat} (hrc : ∀ (y1 y2 : Int32) (g : St) (K : Int32 → St → Prop), rc y1 y2 g K → ctCI l y_Ch_faultFrom b_Ch_faultFrom 4 f lo D cI cZ ad [.ref (ad 9), .int y1, .int y2] g K) (hf0 : 3 ≤ f ∧ 64 ≤ lo) (hRr : f + 1 ≤ R.frames ∧ lo + 23 ≤ R.locals)
    (hw : pb_Ch_faultFrom_0 rc K x1 x2 g)
    (hwd : wdC D cI cZ ad A H0 g H locs) (hl : lv_has ls 4 [(0, .ref (ad 9)), (1, .int x1), (2, .int x2)]) : W p l e R s m args below meth c H locs 0 0 Q (F0 m 0 ls []) := by
  obtain ⟨hx, hb, hml, hown, hts, hK, hN, hR⟩ := F
  have F : fxC D cI cZ p R s m args c b_Ch_faultFrom 4 R_Ch 3 64 := ⟨hx, hb, hml, hown, hts, hK, hN, hR⟩
  refine lv_aload_n hx hb d_Ch_faultFrom_0 rfl (lv_at hl 0 rfl) ?_
  refine lv_iload_n hx hb d_Ch_faultFrom_1 rfl (lv_at hl 1 rfl) ?_
  refine lv_iload_n hx hb d_Ch_faultFrom_2 rfl (lv_at hl 2 rfl) ?_
  refine mcC_Ch_33 F hwd (ct_Ch_faultAt _ _ _ _ hw) ⟨Nat.le_trans (by decide) hR.1, Nat.le_trans (by decide) hR.2⟩ hl.1 (Nat.le_of_ble_eq_true rfl) d_Ch_faultFrom_3 (fun v2 g1 H locs hw hwd => ?_)
  refine lv_topi (fun v3 e_v3 => ?_)
  have hw := hw v3 e_v3
  refine lv_istore_n (lv' := [(3, .int v3), (0, .ref (ad 9)), (1, .int x1), (2, .int x2)]) hx hb d_Ch_faultFrom_6 rfl hl (by decide) rfl (fun ls hl => ?_)
  refine lv_iload_n hx hb d_Ch_faultFrom_7 rfl (lv_at hl 0 rfl) ?_
  refine lv_if_ne (tgt := 22) hx hb d_Ch_faultFrom_8 (by decide) (fun hc => ?_) (fun hc => ?_)
  · have hw := hw.1 hc
    refine lv_iload_n hx hb d_Ch_faultFrom_22 rfl (lv_at hl 0 rfl) ?_
    exact hret _ _ _ _ hw hwd _ _ d_Ch_faultFrom_23
  · have hw := hw.2 hc
    refine lv_aload_n hx hb d_Ch_faultFrom_11 rfl (lv_at hl 1 rfl) ?_
    refine gfC_Ch_15 F hwd d_Ch_faultFrom_12 ?_
    refine lv_iload_n hx hb d_Ch_faultFrom_15 rfl (lv_at hl 2 rfl) ?_
    refine mcC_Ch_36 F hwd (ct_Fo_isLeaf _ _ _ hw) ⟨Nat.le_trans (by decide) hR.1, Nat.le_trans (by decide) hR.2⟩ hl.1 (Nat.le_of_ble_eq_true rfl) d_Ch_faultFrom_16 (fun v5 g4 H locs hw hwd => ?_)
    refine lv_if_eq (tgt := 24) hx hb d_Ch_faultFrom_19 (by decide) (fun hc => ?_) (fun hc => ?_)
    · have hw := hw.1 hc
      refine lv_aload_n hx hb d_Ch_faultFrom_24 rfl (lv_at hl 1 rfl) ?_
      refine lv_aload_n hx hb d_Ch_faultFrom_25 rfl (lv_at hl 1 rfl) ?_
      refine gfC_Ch_15 F hwd d_Ch_faultFrom_26 ?_
      refine gfC_Ch_40 F hwd d_Ch_faultFrom_29 ?_
      refine lv_iload_n hx hb d_Ch_faultFrom_32 rfl (lv_at hl 2 rfl) ?_
      obtain ⟨hi, hw⟩ := hw
      refine rdC_6 F hwd hi d_Ch_faultFrom_33 ?_
      refine lv_iload_n hx hb d_Ch_faultFrom_34 rfl (lv_at hl 3 rfl) ?_
      refine lv_iconst (v := 1) hx hb d_Ch_faultFrom_35 (by decide) ?_
      refine lv_iadd hx hb d_Ch_faultFrom_36 ?_
      refine mcC_Ch_29 F hwd (hrc _ _ _ _ hw) ⟨by have := hRr.1; omega, by have := hRr.2; omega⟩ hl.1 (Nat.le_of_ble_eq_true rfl) d_Ch_faultFrom_37 (fun v7 g6 H locs hw hwd => ?_)
      refine lv_topi (fun v8 e_v8 => ?_)
      have hw := hw v8 e_v8
      refine lv_istore_n (lv' := [(3, .int v8), (0, .ref (ad 9)), (1, .int x1), (2, .int x2)]) hx hb d_Ch_faultFrom_40 rfl hl (by decide) rfl (fun ls hl => ?_)
      refine lv_iload_n hx hb d_Ch_faultFrom_41 rfl (lv_at hl 0 rfl) ?_
      refine lv_if_eq (tgt := 49) hx hb d_Ch_faultFrom_42 (by decide) (fun hc => ?_) (fun hc => ?_)
      · have hw := hw.1 hc
        refine lv_aload_n hx hb d_Ch_faultFrom_49 rfl (lv_at hl 1 rfl) ?_
        refine lv_aload_n hx hb d_Ch_faultFrom_50 rfl (lv_at hl 1 rfl) ?_
        refine gfC_Ch_15 F hwd d_Ch_faultFrom_51 ?_
        refine gfC_Ch_43 F hwd d_Ch_faultFrom_54 ?_
        refine lv_iload_n hx hb d_Ch_faultFrom_57 rfl (lv_at hl 2 rfl) ?_
        obtain ⟨hi, hw⟩ := hw
        refine rdC_7 F hwd hi d_Ch_faultFrom_58 ?_
        refine lv_iload_n hx hb d_Ch_faultFrom_59 rfl (lv_at hl 3 rfl) ?_
        refine lv_iconst (v := 1) hx hb d_Ch_faultFrom_60 (by decide) ?_
        refine lv_iadd hx hb d_Ch_faultFrom_61 ?_
        refine mcC_Ch_29 F hwd (hrc _ _ _ _ hw) ⟨by have := hRr.1; omega, by have := hRr.2; omega⟩ hl.1 (Nat.le_of_ble_eq_true rfl) d_Ch_faultFrom_62 (fun v10 g9 H locs hw hwd => ?_)
        exact hret _ _ _ _ hw hwd _ _ d_Ch_faultFrom_65
      · have hw := hw.2 hc
        refine lv_iload_n hx hb d_Ch_faultFrom_45 rfl (lv_at hl 0 rfl) ?_
        refine lv_goto (tgt := 65) hx hb d_Ch_faultFrom_46 (by decide) ?_
        exact hret _ _ _ _ hw hwd _ _ d_Ch_faultFrom_65
    · have hw := hw.2 hc
      refine lv_iload_n hx hb d_Ch_faultFrom_22 rfl (lv_at hl 0 rfl) ?_
      exact hret _ _ _ _ hw hwd _ _ d_Ch_faultFrom_23

theorem ct_Ch_faultFrom {l : Launch} {D : va_G} {cI cZ : ClassId} {ad : Nat → Nat} : ∀ (d : Nat) (x1 : Int32) (x2 : Int32) (g : St) (K : Int32 → St → Prop), pc_Ch_faultFrom d x1 x2 g K → ctCI l y_Ch_faultFrom b_Ch_faultFrom 4 (3 + d * 1) (64 + d * 23) D cI cZ ad [.ref (ad 9), .int x1, .int x2] g K := by
  intro d
  induction d with
  | zero => intro x1 x2 g K h; exact h.elim
  | succ d ih =>
    intro x1 x2 g K h
    refine enCI (by decide) (Nat.le_of_ble_eq_true rfl) (fun p e s m args below meth c A H0 ls Q F hwd hl hret => ?_)
    have F : fxC D cI cZ p { frames := 3 + (d + 1) * 1, cells := 0, slots := 0, locals := 64 + (d + 1) * 23 } s m args c b_Ch_faultFrom 4 R_Ch 3 64 := ⟨F.1, F.2.1, F.2.2.1, F.2.2.2.1, F.2.2.2.2.1, F.2.2.2.2.2.1, F.2.2.2.2.2.2.1, by show 3 ≤ 3 + (d + 1) * 1; omega, by show 64 ≤ 64 + (d + 1) * 23; omega⟩
    exact wb_Ch_faultFrom_0 F hret (f := 3 + d * 1) (lo := 64 + d * 23) ih ⟨by omega, by omega⟩ ⟨by show 3 + d * 1 + 1 ≤ 3 + (d + 1) * 1; omega, by show 64 + d * 23 + 23 ≤ 64 + (d + 1) * 23; omega⟩ h hwd hl

set_option maxHeartbeats 4000000 in
set_option maxRecDepth 100000 in
theorem wb_Ch_firstFault_25 {K : Int32 → St → Prop} {P25 : Int32 → Int32 → St → Prop} {x1 : Int32} {x2 : Int32} {g : St} (F : fxC D cI cZ p R s m args c b_Ch_firstFault 3 R_Ch 18 409)
    (hret : rtCI D cI cZ ad p l e R s m args below meth c b_Ch_firstFault A H0 Q K) (hp25 : ∀ (x1 : Int32) (x2 : Int32) (g : St) (H : Heap) (locs : List Loc) (ls : Array Slot), P25 x1 x2 g → wdC D cI cZ ad A H0 g H locs → lv_has ls 3 [(0, .ref (ad 9)), (1, .int x1), (2, .int x2)] → W p l e R s m args below meth c H locs 0 0 Q (F0 m 25 ls []))
    (hw : pb_Ch_firstFault_25 K P25 x1 x2 g)
    (hwd : wdC D cI cZ ad A H0 g H locs) (hl : lv_has ls 3 [(0, .ref (ad 9)), (1, .int x1), (2, .int x2)]) : W p l e R s m args below meth c H locs 0 0 Q (F0 m 25 ls []) := by
  obtain ⟨hx, hb, hml, hown, hts, hK, hN, hR⟩ := F
  have F : fxC D cI cZ p R s m args c b_Ch_firstFault 3 R_Ch 18 409 := ⟨hx, hb, hml, hown, hts, hK, hN, hR⟩
  refine lv_iload_n hx hb d_Ch_firstFault_25 rfl (lv_at hl 2 rfl) ?_
  refine lv_aload_n hx hb d_Ch_firstFault_26 rfl (lv_at hl 0 rfl) ?_
  refine gfC_Ch_15 F hwd d_Ch_firstFault_27 ?_
  refine gfC_Ch_19 F hwd d_Ch_firstFault_30 ?_
  refine lv_icmp_ge (tgt := 61) hx hb d_Ch_firstFault_33 (by decide) (fun hc => ?_) (fun hc => ?_)
  · have hw := hw.1 hc
    refine lv_iload_n hx hb d_Ch_firstFault_61 rfl (lv_at hl 1 rfl) ?_
    exact hret _ _ _ _ hw hwd _ _ d_Ch_firstFault_62
  · have hw := hw.2 hc
    refine lv_iload_n hx hb d_Ch_firstFault_36 rfl (lv_at hl 1 rfl) ?_
    refine lv_if_ne (tgt := 61) hx hb d_Ch_firstFault_37 (by decide) (fun hc => ?_) (fun hc => ?_)
    · have hw := hw.1 hc
      refine lv_iload_n hx hb d_Ch_firstFault_61 rfl (lv_at hl 1 rfl) ?_
      exact hret _ _ _ _ hw hwd _ _ d_Ch_firstFault_62
    · have hw := hw.2 hc
      refine lv_aload_n hx hb d_Ch_firstFault_40 rfl (lv_at hl 0 rfl) ?_
      refine lv_aload_n hx hb d_Ch_firstFault_41 rfl (lv_at hl 0 rfl) ?_
      refine gfC_Ch_15 F hwd d_Ch_firstFault_42 ?_
      refine gfC_Ch_25 F hwd d_Ch_firstFault_45 ?_
      refine lv_iload_n hx hb d_Ch_firstFault_48 rfl (lv_at hl 2 rfl) ?_
      obtain ⟨hi, hw⟩ := hw
      refine rdC_8 F hwd hi d_Ch_firstFault_49 ?_
      refine lv_iconst (v := 0) hx hb d_Ch_firstFault_50 (by decide) ?_
      refine mcC_Ch_29 F hwd (ct_Ch_faultFrom 14 _ _ _ _ hw) ⟨Nat.le_trans (by decide) hR.1, Nat.le_trans (by decide) hR.2⟩ hl.1 (Nat.le_of_ble_eq_true rfl) d_Ch_firstFault_51 (fun v2 g1 H locs hw hwd => ?_)
      refine lv_topi (fun v3 e_v3 => ?_)
      have hw := hw v3 e_v3
      refine lv_istore_n (lv' := [(1, .int v3), (0, .ref (ad 9)), (2, .int x2)]) hx hb d_Ch_firstFault_54 rfl hl (by decide) rfl (fun ls hl => ?_)
      obtain ⟨v4, e_v4⟩ : ∃ z, z = x2 + (1 : Int32) := ⟨_, rfl⟩
      have hw := hw v4 e_v4
      refine lv_iinc (k := 2) (lv' := [(2, .int v4), (1, .int v3), (0, .ref (ad 9))]) hx hb d_Ch_firstFault_55 hl rfl e_v4.symm (by decide) rfl (fun ls hl => ?_)
      refine lv_goto (tgt := 25) hx hb d_Ch_firstFault_58 (by decide) ?_
      exact hp25 _ _ _ H locs ls hw hwd (lv_sub hl [2, 1, 0] rfl)

set_option maxHeartbeats 4000000 in
theorem wl_Ch_firstFault_25 {K : Int32 → St → Prop} {x1 : Int32} {x2 : Int32} {g : St} (F : fxC D cI cZ p R s m args c b_Ch_firstFault 3 R_Ch 18 409)
    (hret : rtCI D cI cZ ad p l e R s m args below meth c b_Ch_firstFault A H0 Q K)
    (hw : pl_Ch_firstFault_25 K x1 x2 g)
    (hwd : wdC D cI cZ ad A H0 g H locs) (hl : lv_has ls 3 [(0, .ref (ad 9)), (1, .int x1), (2, .int x2)]) : W p l e R s m args below meth c H locs 0 0 Q (F0 m 25 ls []) := by
  refine hw (fun x1 x2 g => ∀ (H : Heap) (locs : List Loc) (ls : Array Slot), wdC D cI cZ ad A H0 g H locs → lv_has ls 3 [(0, .ref (ad 9)), (1, .int x1), (2, .int x2)] → W p l e R s m args below meth c H locs 0 0 Q (F0 m 25 ls [])) ?_ H locs ls hwd hl
  intro x1 x2 g hw H locs ls hwd hl
  exact wb_Ch_firstFault_25 F hret (fun x1 x2 g H locs ls h hwd hl => h H locs ls hwd hl) hw hwd hl

set_option maxHeartbeats 4000000 in
set_option maxRecDepth 100000 in
theorem wb_Ch_firstFault_2 {K : Int32 → St → Prop} {P2 : Int32 → St → Prop} {x1 : Int32} {g : St} (F : fxC D cI cZ p R s m args c b_Ch_firstFault 3 R_Ch 18 409)
    (hret : rtCI D cI cZ ad p l e R s m args below meth c b_Ch_firstFault A H0 Q K) (hp2 : ∀ (x1 : Int32) (g : St) (H : Heap) (locs : List Loc) (ls : Array Slot), P2 x1 g → wdC D cI cZ ad A H0 g H locs → lv_has ls 3 [(0, .ref (ad 9)), (1, .int x1)] → W p l e R s m args below meth c H locs 0 0 Q (F0 m 2 ls []))
    (hw : pb_Ch_firstFault_2 K P2 x1 g)
    (hwd : wdC D cI cZ ad A H0 g H locs) (hl : lv_has ls 3 [(0, .ref (ad 9)), (1, .int x1)]) : W p l e R s m args below meth c H locs 0 0 Q (F0 m 2 ls []) := by
  obtain ⟨hx, hb, hml, hown, hts, hK, hN, hR⟩ := F
  have F : fxC D cI cZ p R s m args c b_Ch_firstFault 3 R_Ch 18 409 := ⟨hx, hb, hml, hown, hts, hK, hN, hR⟩
  refine lv_iload_n hx hb d_Ch_firstFault_2 rfl (lv_at hl 1 rfl) ?_
  refine lv_bipush (v := 60) hx hb d_Ch_firstFault_3 (by decide) ?_
  refine lv_icmp_ge (tgt := 21) hx hb d_Ch_firstFault_5 (by decide) (fun hc => ?_) (fun hc => ?_)
  · have hw := hw.1 hc
    refine lv_iconst (v := 0) hx hb d_Ch_firstFault_21 (by decide) ?_
    refine lv_topi (fun v1 e_v1 => ?_)
    have hw := hw v1 e_v1
    refine lv_istore_n (lv' := [(1, .int v1), (0, .ref (ad 9))]) hx hb d_Ch_firstFault_22 rfl hl (by decide) rfl (fun ls hl => ?_)
    refine lv_iconst (v := 0) hx hb d_Ch_firstFault_23 (by decide) ?_
    refine lv_topi (fun v2 e_v2 => ?_)
    have hw := hw v2 e_v2
    refine lv_istore_n (lv' := [(2, .int v2), (1, .int v1), (0, .ref (ad 9))]) hx hb d_Ch_firstFault_24 rfl hl (by decide) rfl (fun ls hl => ?_)
    exact wl_Ch_firstFault_25 F hret hw hwd (lv_sub hl [2, 1, 0] rfl)
  · have hw := hw.2 hc
    refine lv_aload_n hx hb d_Ch_firstFault_8 rfl (lv_at hl 0 rfl) ?_
    refine gfC_Ch_9 F hwd d_Ch_firstFault_9 ?_
    refine lv_iload_n hx hb d_Ch_firstFault_12 rfl (lv_at hl 1 rfl) ?_
    refine lv_iconst (v := 0) hx hb d_Ch_firstFault_13 (by decide) ?_
    obtain ⟨hi, hw⟩ := hw
    refine wrC_10 F hwd hi rfl d_Ch_firstFault_14 (fun H locs hwd => ?_)
    obtain ⟨g3, e_g3⟩ : ∃ z : St, z = ar g 10 x1 (0 : Int32) := ⟨_, rfl⟩
    have hwd : wdC D cI cZ ad A H0 g3 H locs := by rw [e_g3]; exact hwd
    have hw := hw g3 e_g3
    obtain ⟨v4, e_v4⟩ : ∃ z, z = x1 + (1 : Int32) := ⟨_, rfl⟩
    have hw := hw v4 e_v4
    refine lv_iinc (k := 1) (lv' := [(1, .int v4), (0, .ref (ad 9))]) hx hb d_Ch_firstFault_15 hl rfl e_v4.symm (by decide) rfl (fun ls hl => ?_)
    refine lv_goto (tgt := 2) hx hb d_Ch_firstFault_18 (by decide) ?_
    exact hp2 _ _ H locs ls hw hwd (lv_sub hl [1, 0] rfl)

set_option maxHeartbeats 4000000 in
theorem wl_Ch_firstFault_2 {K : Int32 → St → Prop} {x1 : Int32} {g : St} (F : fxC D cI cZ p R s m args c b_Ch_firstFault 3 R_Ch 18 409)
    (hret : rtCI D cI cZ ad p l e R s m args below meth c b_Ch_firstFault A H0 Q K)
    (hw : pl_Ch_firstFault_2 K x1 g)
    (hwd : wdC D cI cZ ad A H0 g H locs) (hl : lv_has ls 3 [(0, .ref (ad 9)), (1, .int x1)]) : W p l e R s m args below meth c H locs 0 0 Q (F0 m 2 ls []) := by
  refine hw (fun x1 g => ∀ (H : Heap) (locs : List Loc) (ls : Array Slot), wdC D cI cZ ad A H0 g H locs → lv_has ls 3 [(0, .ref (ad 9)), (1, .int x1)] → W p l e R s m args below meth c H locs 0 0 Q (F0 m 2 ls [])) ?_ H locs ls hwd hl
  intro x1 g hw H locs ls hwd hl
  exact wb_Ch_firstFault_2 F hret (fun x1 g H locs ls h hwd hl => h H locs ls hwd hl) hw hwd hl

set_option maxHeartbeats 4000000 in
set_option maxRecDepth 100000 in
theorem wb_Ch_firstFault_0 {K : Int32 → St → Prop} {g : St} (F : fxC D cI cZ p R s m args c b_Ch_firstFault 3 R_Ch 18 409)
    (hret : rtCI D cI cZ ad p l e R s m args below meth c b_Ch_firstFault A H0 Q K)
    (hw : pb_Ch_firstFault_0 K g)
    (hwd : wdC D cI cZ ad A H0 g H locs) (hl : lv_has ls 3 [(0, .ref (ad 9))]) : W p l e R s m args below meth c H locs 0 0 Q (F0 m 0 ls []) := by
  obtain ⟨hx, hb, hml, hown, hts, hK, hN, hR⟩ := F
  have F : fxC D cI cZ p R s m args c b_Ch_firstFault 3 R_Ch 18 409 := ⟨hx, hb, hml, hown, hts, hK, hN, hR⟩
  refine lv_iconst (v := 0) hx hb d_Ch_firstFault_0 (by decide) ?_
  refine lv_topi (fun v1 e_v1 => ?_)
  have hw := hw v1 e_v1
  refine lv_istore_n (lv' := [(1, .int v1), (0, .ref (ad 9))]) hx hb d_Ch_firstFault_1 rfl hl (by decide) rfl (fun ls hl => ?_)
  exact wl_Ch_firstFault_2 F hret hw hwd (lv_sub hl [1, 0] rfl)

theorem ct_Ch_firstFault {l : Launch} {D : va_G} {cI cZ : ClassId} {ad : Nat → Nat} (g : St) (K : Int32 → St → Prop) (h : pc_Ch_firstFault g K) : ctCI l y_Ch_firstFault b_Ch_firstFault 3 18 409 D cI cZ ad [.ref (ad 9)] g K :=
  enCI (by decide) (Nat.le_of_ble_eq_true rfl) (fun p e s m args below meth c A H0 ls Q F hwd hl hret => wb_Ch_firstFault_0 F hret h hwd hl)

set_option maxHeartbeats 4000000 in
set_option maxRecDepth 100000 in
theorem wb_Cu_partLength_0 {K : Int32 → St → Prop} {x1 : Int32} {g : St} (F : fxC D cI cZ p R s m args c b_Cu_partLength 2 R_Cu 0 0)
    (hret : rtCI D cI cZ ad p l e R s m args below meth c b_Cu_partLength A H0 Q K)
    (hw : pb_Cu_partLength_0 K x1 g)
    (hwd : wdC D cI cZ ad A H0 g H locs) (hl : lv_has ls 2 [(0, .ref (ad 11)), (1, .int x1)]) : W p l e R s m args below meth c H locs 0 0 Q (F0 m 0 ls []) := by
  obtain ⟨hx, hb, hml, hown, hts, hK, hN, hR⟩ := F
  have F : fxC D cI cZ p R s m args c b_Cu_partLength 2 R_Cu 0 0 := ⟨hx, hb, hml, hown, hts, hK, hN, hR⟩
  refine lv_aload_n hx hb d_Cu_partLength_0 rfl (lv_at hl 0 rfl) ?_
  refine gfC_Cu_15 F hwd d_Cu_partLength_1 ?_
  refine lv_iload_n hx hb d_Cu_partLength_4 rfl (lv_at hl 1 rfl) ?_
  obtain ⟨hi, hw⟩ := hw
  refine rdC_13 F hwd hi d_Cu_partLength_5 ?_
  refine lv_iconst (v := -1) hx hb d_Cu_partLength_6 (by decide) ?_
  refine lv_icmp_ne (tgt := 19) hx hb d_Cu_partLength_7 (by decide) (fun hc => ?_) (fun hc => ?_)
  · have hw := hw.1 hc
    refine lv_iconst (v := 3) hx hb d_Cu_partLength_19 (by decide) ?_
    exact hret _ _ _ _ hw hwd _ _ d_Cu_partLength_20
  · have hw := hw.2 hc
    refine lv_aload_n hx hb d_Cu_partLength_10 rfl (lv_at hl 0 rfl) ?_
    refine gfC_Cu_9 F hwd d_Cu_partLength_11 ?_
    refine lv_iload_n hx hb d_Cu_partLength_14 rfl (lv_at hl 1 rfl) ?_
    obtain ⟨hi, hw⟩ := hw
    refine rdC_12 F hwd hi d_Cu_partLength_15 ?_
    refine lv_goto (tgt := 20) hx hb d_Cu_partLength_16 (by decide) ?_
    exact hret _ _ _ _ hw hwd _ _ d_Cu_partLength_20

theorem ct_Cu_partLength {l : Launch} {D : va_G} {cI cZ : ClassId} {ad : Nat → Nat} (x1 : Int32) (g : St) (K : Int32 → St → Prop) (h : pc_Cu_partLength x1 g K) : ctCI l y_Cu_partLength b_Cu_partLength 2 0 0 D cI cZ ad [.ref (ad 11), .int x1] g K :=
  enCI (by decide) (Nat.le_of_ble_eq_true rfl) (fun p e s m args below meth c A H0 ls Q F hwd hl hret => wb_Cu_partLength_0 F hret h hwd hl)

set_option maxHeartbeats 4000000 in
set_option maxRecDepth 100000 in
theorem wb_Cu_testLength_0 {K : Int32 → St → Prop} {x0 : Int32} {g : St} (F : fxC D cI cZ p R s m args c b_Cu_testLength 1 R_Cu 0 0)
    (hret : rtCI D cI cZ ad p l e R s m args below meth c b_Cu_testLength A H0 Q K)
    (hw : pb_Cu_testLength_0 K x0 g)
    (hwd : wdC D cI cZ ad A H0 g H locs) (hl : lv_has ls 1 [(0, .int x0)]) : W p l e R s m args below meth c H locs 0 0 Q (F0 m 0 ls []) := by
  obtain ⟨hx, hb, hml, hown, hts, hK, hN, hR⟩ := F
  have F : fxC D cI cZ p R s m args c b_Cu_testLength 1 R_Cu 0 0 := ⟨hx, hb, hml, hown, hts, hK, hN, hR⟩
  refine lv_iconst (v := 2) hx hb d_Cu_testLength_0 (by decide) ?_
  refine lv_iload_n hx hb d_Cu_testLength_1 rfl (lv_at hl 0 rfl) ?_
  refine lv_iadd hx hb d_Cu_testLength_2 ?_
  refine lv_bipush (v := 63) hx hb d_Cu_testLength_3 (by decide) ?_
  refine lv_icmp_gt (tgt := 12) hx hb d_Cu_testLength_5 (by decide) (fun hc => ?_) (fun hc => ?_)
  · have hw := hw.1 hc
    refine lv_iconst (v := 3) hx hb d_Cu_testLength_12 (by decide) ?_
    exact hret _ _ _ _ hw hwd _ _ d_Cu_testLength_13
  · have hw := hw.2 hc
    refine lv_iconst (v := 2) hx hb d_Cu_testLength_8 (by decide) ?_
    refine lv_goto (tgt := 13) hx hb d_Cu_testLength_9 (by decide) ?_
    exact hret _ _ _ _ hw hwd _ _ d_Cu_testLength_13

theorem ct_Cu_testLength {l : Launch} {D : va_G} {cI cZ : ClassId} {ad : Nat → Nat} (x0 : Int32) (g : St) (K : Int32 → St → Prop) (h : pc_Cu_testLength x0 g K) : ctCI l y_Cu_testLength b_Cu_testLength 1 0 0 D cI cZ ad [.int x0] g K :=
  enCI (by decide) (Nat.le_of_ble_eq_true rfl) (fun p e s m args below meth c A H0 ls Q F hwd hl hret => wb_Cu_testLength_0 F hret h hwd hl)

set_option maxHeartbeats 4000000 in
set_option maxRecDepth 100000 in
theorem wb_Cu_splitLength_0 {K : Int32 → St → Prop} {x1 : Int32} {g : St} (F : fxC D cI cZ p R s m args c b_Cu_splitLength 3 R_Cu 1 21)
    (hret : rtCI D cI cZ ad p l e R s m args below meth c b_Cu_splitLength A H0 Q K)
    (hw : pb_Cu_splitLength_0 K x1 g)
    (hwd : wdC D cI cZ ad A H0 g H locs) (hl : lv_has ls 3 [(0, .ref (ad 11)), (1, .int x1)]) : W p l e R s m args below meth c H locs 0 0 Q (F0 m 0 ls []) := by
  obtain ⟨hx, hb, hml, hown, hts, hK, hN, hR⟩ := F
  have F : fxC D cI cZ p R s m args c b_Cu_splitLength 3 R_Cu 1 21 := ⟨hx, hb, hml, hown, hts, hK, hN, hR⟩
  refine lv_aload_n hx hb d_Cu_splitLength_0 rfl (lv_at hl 0 rfl) ?_
  refine lv_aload_n hx hb d_Cu_splitLength_1 rfl (lv_at hl 0 rfl) ?_
  refine gfC_Cu_21 F hwd d_Cu_splitLength_2 ?_
  refine gfC_Cu_49 F hwd d_Cu_splitLength_5 ?_
  refine lv_iload_n hx hb d_Cu_splitLength_8 rfl (lv_at hl 1 rfl) ?_
  obtain ⟨hi, hw⟩ := hw
  refine rdC_6 F hwd hi d_Cu_splitLength_9 ?_
  refine mcC_Cu_63 F hwd (ct_Cu_partLength _ _ _ hw) ⟨Nat.le_trans (by decide) hR.1, Nat.le_trans (by decide) hR.2⟩ hl.1 (Nat.le_of_ble_eq_true rfl) d_Cu_splitLength_10 (fun v2 g1 H locs hw hwd => ?_)
  refine lv_topi (fun v3 e_v3 => ?_)
  have hw := hw v3 e_v3
  refine lv_istore_n (lv' := [(2, .int v3), (0, .ref (ad 11)), (1, .int x1)]) hx hb d_Cu_splitLength_13 rfl hl (by decide) rfl (fun ls hl => ?_)
  refine lv_iconst (v := 4) hx hb d_Cu_splitLength_14 (by decide) ?_
  refine lv_iload_n hx hb d_Cu_splitLength_15 rfl (lv_at hl 0 rfl) ?_
  refine mcC_Cu_66 F hwd (ct_Cu_testLength _ _ _ hw) ⟨Nat.le_trans (by decide) hR.1, Nat.le_trans (by decide) hR.2⟩ hl.1 (Nat.le_of_ble_eq_true rfl) d_Cu_splitLength_16 (fun v5 g4 H locs hw hwd => ?_)
  refine lv_iadd hx hb d_Cu_splitLength_19 ?_
  refine lv_iload_n hx hb d_Cu_splitLength_20 rfl (lv_at hl 0 rfl) ?_
  refine lv_iadd hx hb d_Cu_splitLength_21 ?_
  refine lv_aload_n hx hb d_Cu_splitLength_22 rfl (lv_at hl 1 rfl) ?_
  refine lv_aload_n hx hb d_Cu_splitLength_23 rfl (lv_at hl 1 rfl) ?_
  refine gfC_Cu_21 F hwd d_Cu_splitLength_24 ?_
  refine gfC_Cu_52 F hwd d_Cu_splitLength_27 ?_
  refine lv_iload_n hx hb d_Cu_splitLength_30 rfl (lv_at hl 2 rfl) ?_
  obtain ⟨hi, hw⟩ := hw
  refine rdC_7 F hwd hi d_Cu_splitLength_31 ?_
  refine mcC_Cu_63 F hwd (ct_Cu_partLength _ _ _ hw) ⟨Nat.le_trans (by decide) hR.1, Nat.le_trans (by decide) hR.2⟩ hl.1 (Nat.le_of_ble_eq_true rfl) d_Cu_splitLength_32 (fun v7 g6 H locs hw hwd => ?_)
  refine lv_iadd hx hb d_Cu_splitLength_35 ?_
  exact hret _ _ _ _ hw hwd _ _ d_Cu_splitLength_36

theorem ct_Cu_splitLength {l : Launch} {D : va_G} {cI cZ : ClassId} {ad : Nat → Nat} (x1 : Int32) (g : St) (K : Int32 → St → Prop) (h : pc_Cu_splitLength x1 g K) : ctCI l y_Cu_splitLength b_Cu_splitLength 3 1 21 D cI cZ ad [.ref (ad 11), .int x1] g K :=
  enCI (by decide) (Nat.le_of_ble_eq_true rfl) (fun p e s m args below meth c A H0 ls Q F hwd hl hret => wb_Cu_splitLength_0 F hret h hwd hl)

set_option maxHeartbeats 4000000 in
set_option maxRecDepth 100000 in
theorem wb_Cu_cutOut_0 {K : St → Prop} {x1 : Int32} {g : St} (F : fxC D cI cZ p R s m args c b_Cu_cutOut 2 R_Cu 0 0)
    (hret : rtCV D cI cZ ad p l e R s m args below meth c b_Cu_cutOut A H0 Q K)
    (hw : pb_Cu_cutOut_0 K x1 g)
    (hwd : wdC D cI cZ ad A H0 g H locs) (hl : lv_has ls 2 [(0, .ref (ad 11)), (1, .int x1)]) : W p l e R s m args below meth c H locs 0 0 Q (F0 m 0 ls []) := by
  obtain ⟨hx, hb, hml, hown, hts, hK, hN, hR⟩ := F
  have F : fxC D cI cZ p R s m args c b_Cu_cutOut 2 R_Cu 0 0 := ⟨hx, hb, hml, hown, hts, hK, hN, hR⟩
  refine lv_aload_n hx hb d_Cu_cutOut_0 rfl (lv_at hl 0 rfl) ?_
  refine gfC_Cu_25 F hwd d_Cu_cutOut_1 ?_
  refine lv_bipush (v := 60) hx hb d_Cu_cutOut_4 (by decide) ?_
  refine lv_icmp_ge (tgt := 39) hx hb d_Cu_cutOut_6 (by decide) (fun hc => ?_) (fun hc => ?_)
  · have hw := hw.1 hc
    exact hret _ _ _ hw hwd _ _ d_Cu_cutOut_39
  · have hw := hw.2 hc
    refine lv_aload_n hx hb d_Cu_cutOut_9 rfl (lv_at hl 0 rfl) ?_
    refine gfC_Cu_15 F hwd d_Cu_cutOut_10 ?_
    refine lv_iload_n hx hb d_Cu_cutOut_13 rfl (lv_at hl 1 rfl) ?_
    refine lv_aload_n hx hb d_Cu_cutOut_14 rfl (lv_at hl 0 rfl) ?_
    refine gfC_Cu_25 F hwd d_Cu_cutOut_15 ?_
    obtain ⟨hi, hw⟩ := hw
    refine wrC_13 F hwd hi d_Cu_cutOut_18 (fun H locs hwd => ?_)
    obtain ⟨g1, e_g1⟩ : ∃ z : St, z = ar g 13 x1 (g 102 0) := ⟨_, rfl⟩
    have hwd : wdC D cI cZ ad A H0 g1 H locs := by rw [e_g1]; exact hwd
    have hw := hw g1 e_g1
    refine lv_aload_n hx hb d_Cu_cutOut_19 rfl (lv_at hl 0 rfl) ?_
    refine gfC_Cu_18 F hwd d_Cu_cutOut_20 ?_
    refine lv_aload_n hx hb d_Cu_cutOut_23 rfl (lv_at hl 0 rfl) ?_
    refine gfC_Cu_25 F hwd d_Cu_cutOut_24 ?_
    refine lv_iload_n hx hb d_Cu_cutOut_27 rfl (lv_at hl 1 rfl) ?_
    obtain ⟨hi, hw⟩ := hw
    refine wrC_14 F hwd hi d_Cu_cutOut_28 (fun H locs hwd => ?_)
    obtain ⟨g2, e_g2⟩ : ∃ z : St, z = ar g1 14 (g1 102 0) x1 := ⟨_, rfl⟩
    have hwd : wdC D cI cZ ad A H0 g2 H locs := by rw [e_g2]; exact hwd
    have hw := hw g2 e_g2
    refine lv_aload_n hx hb d_Cu_cutOut_29 rfl (lv_at hl 0 rfl) ?_
    refine lv_dup hx hb d_Cu_cutOut_30 rfl ?_
    refine gfC_Cu_25 F hwd d_Cu_cutOut_31 ?_
    refine lv_iconst (v := 1) hx hb d_Cu_cutOut_34 (by decide) ?_
    refine lv_iadd hx hb d_Cu_cutOut_35 ?_
    refine pfC_Cu_25 F hwd d_Cu_cutOut_36 (fun H locs hwd => ?_)
    obtain ⟨g3, e_g3⟩ : ∃ z : St, z = sc g2 102 ((g2 102 0) + (1 : Int32)) := ⟨_, rfl⟩
    have hwd : wdC D cI cZ ad A H0 g3 H locs := by rw [e_g3]; exact hwd
    have hw := hw g3 e_g3
    exact hret _ _ _ hw hwd _ _ d_Cu_cutOut_39

theorem ct_Cu_cutOut {l : Launch} {D : va_G} {cI cZ : ClassId} {ad : Nat → Nat} (x1 : Int32) (g : St) (K : St → Prop) (h : pc_Cu_cutOut x1 g K) : ctCV l y_Cu_cutOut b_Cu_cutOut 2 0 0 D cI cZ ad [.ref (ad 11), .int x1] g K :=
  enCV (by decide) (Nat.le_of_ble_eq_true rfl) (fun p e s m args below meth c A H0 ls Q F hwd hl hret => wb_Cu_cutOut_0 F hret h hwd hl)
end WALKC0
end
section
section WALKC1
variable {p : Program} {l : Launch} {e : Env} {R : Room} {s : State} {m : MethodId} {args : Array Value} {below : List Frame} {meth : Method} {c : Code} {H : Heap} {locs : List Loc} {Q : State → Prop}
variable {D : va_G} {cI cZ : ClassId} {ad : Nat → Nat} {A : Nat → Prop} {H0 : Heap} {ls : Array Slot}
set_option maxHeartbeats 4000000 in
set_option maxRecDepth 100000 in
theorem wb_Cu_cutChildren_88 {K : St → Prop} {x1 : Int32} {x2 : Int32} {x3 : Int32} {x4 : Int32} {x5 : Int32} {t1 : Int32} {g : St} (F : fxC D cI cZ p R s m args c b_Cu_cutChildren 6 R_Cu 2 43)
    (hret : rtCV D cI cZ ad p l e R s m args below meth c b_Cu_cutChildren A H0 Q K)
    (hw : pb_Cu_cutChildren_88 K x1 x2 x3 x4 x5 t1 g)
    (hwd : wdC D cI cZ ad A H0 g H locs) (hl : lv_has ls 6 [(0, .ref (ad 11)), (1, .int x1), (2, .int x2), (3, .int x3), (4, .int x4), (5, .int x5)]) : W p l e R s m args below meth c H locs 0 0 Q (F0 m 88 ls [.int t1, .ref (ad 11)]) := by
  obtain ⟨hx, hb, hml, hown, hts, hK, hN, hR⟩ := F
  have F : fxC D cI cZ p R s m args c b_Cu_cutChildren 6 R_Cu 2 43 := ⟨hx, hb, hml, hown, hts, hK, hN, hR⟩
  refine mcC_Cu_41 F hwd (ct_Cu_cutOut _ _ _ hw) ⟨Nat.le_trans (by decide) hR.1, Nat.le_trans (by decide) hR.2⟩ hl.1 (Nat.le_of_ble_eq_true rfl) d_Cu_cutChildren_88 (fun g1 H locs hw hwd => ?_)
  exact hret _ _ _ hw hwd _ _ d_Cu_cutChildren_91

set_option maxHeartbeats 4000000 in
set_option maxRecDepth 100000 in
theorem wb_Cu_cutChildren_64 {K : St → Prop} {x1 : Int32} {x2 : Int32} {x3 : Int32} {x4 : Int32} {x5 : Int32} {t1 : Int32} {g : St} (F : fxC D cI cZ p R s m args c b_Cu_cutChildren 6 R_Cu 2 43)
    (hret : rtCV D cI cZ ad p l e R s m args below meth c b_Cu_cutChildren A H0 Q K)
    (hw : pb_Cu_cutChildren_64 K x1 x2 x3 x4 x5 t1 g)
    (hwd : wdC D cI cZ ad A H0 g H locs) (hl : lv_has ls 6 [(0, .ref (ad 11)), (1, .int x1), (2, .int x2), (3, .int x3), (4, .int x4), (5, .int x5)]) : W p l e R s m args below meth c H locs 0 0 Q (F0 m 64 ls [.int t1, .ref (ad 11)]) := by
  obtain ⟨hx, hb, hml, hown, hts, hK, hN, hR⟩ := F
  have F : fxC D cI cZ p R s m args c b_Cu_cutChildren 6 R_Cu 2 43 := ⟨hx, hb, hml, hown, hts, hK, hN, hR⟩
  refine mcC_Cu_41 F hwd (ct_Cu_cutOut _ _ _ hw) ⟨Nat.le_trans (by decide) hR.1, Nat.le_trans (by decide) hR.2⟩ hl.1 (Nat.le_of_ble_eq_true rfl) d_Cu_cutChildren_64 (fun g1 H locs hw hwd => ?_)
  refine lv_aload_n hx hb d_Cu_cutChildren_67 rfl (lv_at hl 0 rfl) ?_
  refine lv_iload_n hx hb d_Cu_cutChildren_68 rfl (lv_at hl 1 rfl) ?_
  refine mcC_Cu_59 F hwd (ct_Cu_splitLength _ _ _ hw) ⟨Nat.le_trans (by decide) hR.1, Nat.le_trans (by decide) hR.2⟩ hl.1 (Nat.le_of_ble_eq_true rfl) d_Cu_cutChildren_69 (fun v3 g2 H locs hw hwd => ?_)
  refine lv_iload_n hx hb d_Cu_cutChildren_72 rfl (lv_at hl 2 rfl) ?_
  refine lv_icmp_le (tgt := 91) hx hb d_Cu_cutChildren_73 (by decide) (fun hc => ?_) (fun hc => ?_)
  · have hw := hw.1 hc
    exact hret _ _ _ hw hwd _ _ d_Cu_cutChildren_91
  · have hw := hw.2 hc
    refine lv_aload_n hx hb d_Cu_cutChildren_76 rfl (lv_at hl 0 rfl) ?_
    refine lv_iload hx hb d_Cu_cutChildren_77 (lv_at hl 5 rfl) ?_
    refine lv_if_eq (tgt := 87) hx hb d_Cu_cutChildren_79 (by decide) (fun hc => ?_) (fun hc => ?_)
    · have hw := hw.1 hc
      refine lv_iload_n hx hb d_Cu_cutChildren_87 rfl (lv_at hl 3 rfl) ?_
      exact wb_Cu_cutChildren_88 F hret hw hwd (lv_sub hl [0, 1, 2, 3, 4, 5] rfl)
    · have hw := hw.2 hc
      refine lv_iload hx hb d_Cu_cutChildren_82 (lv_at hl 4 rfl) ?_
      refine lv_goto (tgt := 88) hx hb d_Cu_cutChildren_84 (by decide) ?_
      exact wb_Cu_cutChildren_88 F hret hw hwd (lv_sub hl [0, 1, 2, 3, 4, 5] rfl)

set_option maxHeartbeats 4000000 in
set_option maxRecDepth 100000 in
theorem wb_Cu_cutChildren_50 {K : St → Prop} {x1 : Int32} {x2 : Int32} {x3 : Int32} {x4 : Int32} {t0 : Int32} {g : St} (F : fxC D cI cZ p R s m args c b_Cu_cutChildren 6 R_Cu 2 43)
    (hret : rtCV D cI cZ ad p l e R s m args below meth c b_Cu_cutChildren A H0 Q K)
    (hw : pb_Cu_cutChildren_50 K x1 x2 x3 x4 t0 g)
    (hwd : wdC D cI cZ ad A H0 g H locs) (hl : lv_has ls 6 [(0, .ref (ad 11)), (1, .int x1), (2, .int x2), (3, .int x3), (4, .int x4)]) : W p l e R s m args below meth c H locs 0 0 Q (F0 m 50 ls [.int t0]) := by
  obtain ⟨hx, hb, hml, hown, hts, hK, hN, hR⟩ := F
  have F : fxC D cI cZ p R s m args c b_Cu_cutChildren 6 R_Cu 2 43 := ⟨hx, hb, hml, hown, hts, hK, hN, hR⟩
  refine lv_topi (fun v1 e_v1 => ?_)
  have hw := hw v1 e_v1
  refine lv_istore (lv' := [(5, .int v1), (0, .ref (ad 11)), (1, .int x1), (2, .int x2), (3, .int x3), (4, .int x4)]) hx hb d_Cu_cutChildren_50 hl (by decide) rfl (fun ls hl => ?_)
  refine lv_aload_n hx hb d_Cu_cutChildren_52 rfl (lv_at hl 1 rfl) ?_
  refine lv_iload hx hb d_Cu_cutChildren_53 (lv_at hl 0 rfl) ?_
  refine lv_if_eq (tgt := 62) hx hb d_Cu_cutChildren_55 (by decide) (fun hc => ?_) (fun hc => ?_)
  · have hw := hw.1 hc
    refine lv_iload hx hb d_Cu_cutChildren_62 (lv_at hl 5 rfl) ?_
    exact wb_Cu_cutChildren_64 F hret hw hwd (lv_sub hl [1, 2, 3, 4, 5, 0] rfl)
  · have hw := hw.2 hc
    refine lv_iload_n hx hb d_Cu_cutChildren_58 rfl (lv_at hl 4 rfl) ?_
    refine lv_goto (tgt := 64) hx hb d_Cu_cutChildren_59 (by decide) ?_
    exact wb_Cu_cutChildren_64 F hret hw hwd (lv_sub hl [1, 2, 3, 4, 5, 0] rfl)

set_option maxHeartbeats 4000000 in
set_option maxRecDepth 100000 in
theorem wb_Cu_cutChildren_0 {K : St → Prop} {x1 : Int32} {x2 : Int32} {g : St} (F : fxC D cI cZ p R s m args c b_Cu_cutChildren 6 R_Cu 2 43)
    (hret : rtCV D cI cZ ad p l e R s m args below meth c b_Cu_cutChildren A H0 Q K)
    (hw : pb_Cu_cutChildren_0 K x1 x2 g)
    (hwd : wdC D cI cZ ad A H0 g H locs) (hl : lv_has ls 6 [(0, .ref (ad 11)), (1, .int x1), (2, .int x2)]) : W p l e R s m args below meth c H locs 0 0 Q (F0 m 0 ls []) := by
  obtain ⟨hx, hb, hml, hown, hts, hK, hN, hR⟩ := F
  have F : fxC D cI cZ p R s m args c b_Cu_cutChildren 6 R_Cu 2 43 := ⟨hx, hb, hml, hown, hts, hK, hN, hR⟩
  refine lv_aload_n hx hb d_Cu_cutChildren_0 rfl (lv_at hl 0 rfl) ?_
  refine gfC_Cu_21 F hwd d_Cu_cutChildren_1 ?_
  refine gfC_Cu_49 F hwd d_Cu_cutChildren_4 ?_
  refine lv_iload_n hx hb d_Cu_cutChildren_7 rfl (lv_at hl 1 rfl) ?_
  obtain ⟨hi, hw⟩ := hw
  refine rdC_6 F hwd hi d_Cu_cutChildren_8 ?_
  refine lv_topi (fun v1 e_v1 => ?_)
  have hw := hw v1 e_v1
  refine lv_istore_n (lv' := [(3, .int v1), (0, .ref (ad 11)), (1, .int x1), (2, .int x2)]) hx hb d_Cu_cutChildren_9 rfl hl (by decide) rfl (fun ls hl => ?_)
  refine lv_aload_n hx hb d_Cu_cutChildren_10 rfl (lv_at hl 1 rfl) ?_
  refine gfC_Cu_21 F hwd d_Cu_cutChildren_11 ?_
  refine gfC_Cu_52 F hwd d_Cu_cutChildren_14 ?_
  refine lv_iload_n hx hb d_Cu_cutChildren_17 rfl (lv_at hl 2 rfl) ?_
  obtain ⟨hi, hw⟩ := hw
  refine rdC_7 F hwd hi d_Cu_cutChildren_18 ?_
  refine lv_topi (fun v2 e_v2 => ?_)
  have hw := hw v2 e_v2
  refine lv_istore (lv' := [(4, .int v2), (3, .int v1), (0, .ref (ad 11)), (1, .int x1), (2, .int x2)]) hx hb d_Cu_cutChildren_19 hl (by decide) rfl (fun ls hl => ?_)
  refine lv_aload_n hx hb d_Cu_cutChildren_21 rfl (lv_at hl 2 rfl) ?_
  refine lv_iload_n hx hb d_Cu_cutChildren_22 rfl (lv_at hl 3 rfl) ?_
  refine mcC_Cu_59 F hwd (ct_Cu_splitLength _ _ _ hw) ⟨Nat.le_trans (by decide) hR.1, Nat.le_trans (by decide) hR.2⟩ hl.1 (Nat.le_of_ble_eq_true rfl) d_Cu_cutChildren_23 (fun v4 g3 H locs hw hwd => ?_)
  refine lv_iload_n hx hb d_Cu_cutChildren_26 rfl (lv_at hl 4 rfl) ?_
  refine lv_icmp_gt (tgt := 31) hx hb d_Cu_cutChildren_27 (by decide) (fun hc => ?_) (fun hc => ?_)
  · have hw := hw.1 hc
    refine lv_aload_n hx hb d_Cu_cutChildren_31 rfl (lv_at hl 2 rfl) ?_
    refine lv_iload_n hx hb d_Cu_cutChildren_32 rfl (lv_at hl 1 rfl) ?_
    refine mcC_Cu_63 F hwd (ct_Cu_partLength _ _ _ hw) ⟨Nat.le_trans (by decide) hR.1, Nat.le_trans (by decide) hR.2⟩ hl.1 (Nat.le_of_ble_eq_true rfl) d_Cu_cutChildren_33 (fun v6 g5 H locs hw hwd => ?_)
    refine lv_aload_n hx hb d_Cu_cutChildren_36 rfl (lv_at hl 2 rfl) ?_
    refine lv_iload hx hb d_Cu_cutChildren_37 (lv_at hl 0 rfl) ?_
    refine mcC_Cu_63 F hwd (ct_Cu_partLength _ _ _ hw) ⟨Nat.le_trans (by decide) hR.1, Nat.le_trans (by decide) hR.2⟩ hl.1 (Nat.le_of_ble_eq_true rfl) d_Cu_cutChildren_39 (fun v8 g7 H locs hw hwd => ?_)
    refine lv_icmp_lt (tgt := 49) hx hb d_Cu_cutChildren_42 (by decide) (fun hc => ?_) (fun hc => ?_)
    · have hw := hw.1 hc
      refine lv_iconst (v := 0) hx hb d_Cu_cutChildren_49 (by decide) ?_
      exact wb_Cu_cutChildren_50 F hret hw hwd (lv_sub hl [2, 3, 4, 1, 0] rfl)
    · have hw := hw.2 hc
      refine lv_iconst (v := 1) hx hb d_Cu_cutChildren_45 (by decide) ?_
      refine lv_goto (tgt := 50) hx hb d_Cu_cutChildren_46 (by decide) ?_
      exact wb_Cu_cutChildren_50 F hret hw hwd (lv_sub hl [2, 3, 4, 1, 0] rfl)
  · have hw := hw.2 hc
    exact hret _ _ _ hw hwd _ _ d_Cu_cutChildren_30

theorem ct_Cu_cutChildren {l : Launch} {D : va_G} {cI cZ : ClassId} {ad : Nat → Nat} (x1 : Int32) (x2 : Int32) (g : St) (K : St → Prop) (h : pc_Cu_cutChildren x1 x2 g K) : ctCV l y_Cu_cutChildren b_Cu_cutChildren 6 2 43 D cI cZ ad [.ref (ad 11), .int x1, .int x2] g K :=
  enCV (by decide) (Nat.le_of_ble_eq_true rfl) (fun p e s m args below meth c A H0 ls Q F hwd hl hret => wb_Cu_cutChildren_0 F hret h hwd hl)

set_option maxHeartbeats 4000000 in
set_option maxRecDepth 100000 in
theorem wb_Cu_cutFrom_17 {rc : Int32 → Int32 → Int32 → St → (St → Prop) → Prop} {K : St → Prop} {x1 : Int32} {x2 : Int32} {x3 : Int32} {g : St} (F : fxC D cI cZ p R s m args c b_Cu_cutFrom 4 R_Cu 3 68)
    (hret : rtCV D cI cZ ad p l e R s m args below meth c b_Cu_cutFrom A H0 Q K) {f lo : Nat} (hrc : ∀ (y1 y2 y3 : Int32) (g : St) (K : St → Prop), rc y1 y2 y3 g K → ctCV l y_Cu_cutFrom b_Cu_cutFrom 4 f lo D cI cZ ad [.ref (ad 11), .int y1, .int y2, .int y3] g K) (hf0 : 3 ≤ f ∧ 68 ≤ lo) (hRr : f + 1 ≤ R.frames ∧ lo + 23 ≤ R.locals)
    (hw : pb_Cu_cutFrom_17 rc K x1 x2 x3 g)
    (hwd : wdC D cI cZ ad A H0 g H locs) (hl : lv_has ls 4 [(0, .ref (ad 11)), (1, .int x1), (2, .int x2), (3, .int x3)]) : W p l e R s m args below meth c H locs 0 0 Q (F0 m 17 ls []) := by
  obtain ⟨hx, hb, hml, hown, hts, hK, hN, hR⟩ := F
  have F : fxC D cI cZ p R s m args c b_Cu_cutFrom 4 R_Cu 3 68 := ⟨hx, hb, hml, hown, hts, hK, hN, hR⟩
  refine lv_aload_n hx hb d_Cu_cutFrom_17 rfl (lv_at hl 0 rfl) ?_
  refine gfC_Cu_9 F hwd d_Cu_cutFrom_18 ?_
  refine lv_iload_n hx hb d_Cu_cutFrom_21 rfl (lv_at hl 1 rfl) ?_
  refine lv_iconst (v := 3) hx hb d_Cu_cutFrom_22 (by decide) ?_
  obtain ⟨hi, hw⟩ := hw
  refine wrC_12 F hwd hi d_Cu_cutFrom_23 (fun H locs hwd => ?_)
  obtain ⟨g1, e_g1⟩ : ∃ z : St, z = ar g 12 x1 (3 : Int32) := ⟨_, rfl⟩
  have hwd : wdC D cI cZ ad A H0 g1 H locs := by rw [e_g1]; exact hwd
  have hw := hw g1 e_g1
  exact hret _ _ _ hw hwd _ _ d_Cu_cutFrom_24

set_option maxHeartbeats 4000000 in
set_option maxRecDepth 100000 in
theorem wb_Cu_cutFrom_0 {rc : Int32 → Int32 → Int32 → St → (St → Prop) → Prop} {K : St → Prop} {x1 : Int32} {x2 : Int32} {x3 : Int32} {g : St} (F : fxC D cI cZ p R s m args c b_Cu_cutFrom 4 R_Cu 3 68)
    (hret : rtCV D cI cZ ad p l e R s m args below meth c b_Cu_cutFrom A H0 Q K) {f lo : Nat} (hrc : ∀ (y1 y2 y3 : Int32) (g : St) (K : St → Prop), rc y1 y2 y3 g K → ctCV l y_Cu_cutFrom b_Cu_cutFrom 4 f lo D cI cZ ad [.ref (ad 11), .int y1, .int y2, .int y3] g K) (hf0 : 3 ≤ f ∧ 68 ≤ lo) (hRr : f + 1 ≤ R.frames ∧ lo + 23 ≤ R.locals)
    (hw : pb_Cu_cutFrom_0 rc K x1 x2 x3 g)
    (hwd : wdC D cI cZ ad A H0 g H locs) (hl : lv_has ls 4 [(0, .ref (ad 11)), (1, .int x1), (2, .int x2), (3, .int x3)]) : W p l e R s m args below meth c H locs 0 0 Q (F0 m 0 ls []) := by
  obtain ⟨hx, hb, hml, hown, hts, hK, hN, hR⟩ := F
  have F : fxC D cI cZ p R s m args c b_Cu_cutFrom 4 R_Cu 3 68 := ⟨hx, hb, hml, hown, hts, hK, hN, hR⟩
  refine lv_aload_n hx hb d_Cu_cutFrom_0 rfl (lv_at hl 0 rfl) ?_
  refine gfC_Cu_21 F hwd d_Cu_cutFrom_1 ?_
  refine lv_iload_n hx hb d_Cu_cutFrom_4 rfl (lv_at hl 1 rfl) ?_
  refine mcC_Cu_45 F hwd (ct_Fo_isLeaf _ _ _ hw) ⟨Nat.le_trans (by decide) hR.1, Nat.le_trans (by decide) hR.2⟩ hl.1 (Nat.le_of_ble_eq_true rfl) d_Cu_cutFrom_5 (fun v2 g1 H locs hw hwd => ?_)
  refine lv_if_ne (tgt := 17) hx hb d_Cu_cutFrom_8 (by decide) (fun hc => ?_) (fun hc => ?_)
  · have hw := hw.1 hc
    exact wb_Cu_cutFrom_17 F hret hrc hf0 hRr hw hwd (lv_sub hl [0, 1, 2, 3] rfl)
  · have hw := hw.2 hc
    refine lv_iload_n hx hb d_Cu_cutFrom_11 rfl (lv_at hl 3 rfl) ?_
    refine lv_bipush (v := 12) hx hb d_Cu_cutFrom_12 (by decide) ?_
    refine lv_icmp_le (tgt := 25) hx hb d_Cu_cutFrom_14 (by decide) (fun hc => ?_) (fun hc => ?_)
    · have hw := hw.1 hc
      refine lv_aload_n hx hb d_Cu_cutFrom_25 rfl (lv_at hl 0 rfl) ?_
      refine lv_aload_n hx hb d_Cu_cutFrom_26 rfl (lv_at hl 0 rfl) ?_
      refine gfC_Cu_21 F hwd d_Cu_cutFrom_27 ?_
      refine gfC_Cu_49 F hwd d_Cu_cutFrom_30 ?_
      refine lv_iload_n hx hb d_Cu_cutFrom_33 rfl (lv_at hl 1 rfl) ?_
      obtain ⟨hi, hw⟩ := hw
      refine rdC_6 F hwd hi d_Cu_cutFrom_34 ?_
      refine lv_iload_n hx hb d_Cu_cutFrom_35 rfl (lv_at hl 2 rfl) ?_
      refine lv_iload_n hx hb d_Cu_cutFrom_36 rfl (lv_at hl 3 rfl) ?_
      refine lv_iconst (v := 1) hx hb d_Cu_cutFrom_37 (by decide) ?_
      refine lv_iadd hx hb d_Cu_cutFrom_38 ?_
      refine mcC_Cu_37 F hwd (hrc _ _ _ _ _ hw) ⟨by have := hRr.1; omega, by have := hRr.2; omega⟩ hl.1 (Nat.le_of_ble_eq_true rfl) d_Cu_cutFrom_39 (fun g3 H locs hw hwd => ?_)
      refine lv_aload_n hx hb d_Cu_cutFrom_42 rfl (lv_at hl 0 rfl) ?_
      refine lv_aload_n hx hb d_Cu_cutFrom_43 rfl (lv_at hl 0 rfl) ?_
      refine gfC_Cu_21 F hwd d_Cu_cutFrom_44 ?_
      refine gfC_Cu_52 F hwd d_Cu_cutFrom_47 ?_
      refine lv_iload_n hx hb d_Cu_cutFrom_50 rfl (lv_at hl 1 rfl) ?_
      obtain ⟨hi, hw⟩ := hw
      refine rdC_7 F hwd hi d_Cu_cutFrom_51 ?_
      refine lv_iload_n hx hb d_Cu_cutFrom_52 rfl (lv_at hl 2 rfl) ?_
      refine lv_iload_n hx hb d_Cu_cutFrom_53 rfl (lv_at hl 3 rfl) ?_
      refine lv_iconst (v := 1) hx hb d_Cu_cutFrom_54 (by decide) ?_
      refine lv_iadd hx hb d_Cu_cutFrom_55 ?_
      refine mcC_Cu_37 F hwd (hrc _ _ _ _ _ hw) ⟨by have := hRr.1; omega, by have := hRr.2; omega⟩ hl.1 (Nat.le_of_ble_eq_true rfl) d_Cu_cutFrom_56 (fun g4 H locs hw hwd => ?_)
      refine lv_aload_n hx hb d_Cu_cutFrom_59 rfl (lv_at hl 0 rfl) ?_
      refine lv_iload_n hx hb d_Cu_cutFrom_60 rfl (lv_at hl 1 rfl) ?_
      refine lv_iload_n hx hb d_Cu_cutFrom_61 rfl (lv_at hl 2 rfl) ?_
      refine mcC_Cu_55 F hwd (ct_Cu_cutChildren _ _ _ _ hw) ⟨Nat.le_trans (by decide) hR.1, Nat.le_trans (by decide) hR.2⟩ hl.1 (Nat.le_of_ble_eq_true rfl) d_Cu_cutFrom_62 (fun g5 H locs hw hwd => ?_)
      refine lv_aload_n hx hb d_Cu_cutFrom_65 rfl (lv_at hl 0 rfl) ?_
      refine gfC_Cu_9 F hwd d_Cu_cutFrom_66 ?_
      refine lv_iload_n hx hb d_Cu_cutFrom_69 rfl (lv_at hl 1 rfl) ?_
      refine lv_aload_n hx hb d_Cu_cutFrom_70 rfl (lv_at hl 0 rfl) ?_
      refine lv_iload_n hx hb d_Cu_cutFrom_71 rfl (lv_at hl 1 rfl) ?_
      refine mcC_Cu_59 F hwd (ct_Cu_splitLength _ _ _ hw) ⟨Nat.le_trans (by decide) hR.1, Nat.le_trans (by decide) hR.2⟩ hl.1 (Nat.le_of_ble_eq_true rfl) d_Cu_cutFrom_72 (fun v7 g6 H locs hw hwd => ?_)
      obtain ⟨hi, hw⟩ := hw
      refine wrC_12 F hwd hi d_Cu_cutFrom_75 (fun H locs hwd => ?_)
      obtain ⟨g8, e_g8⟩ : ∃ z : St, z = ar g6 12 x1 v7 := ⟨_, rfl⟩
      have hwd : wdC D cI cZ ad A H0 g8 H locs := by rw [e_g8]; exact hwd
      have hw := hw g8 e_g8
      exact hret _ _ _ hw hwd _ _ d_Cu_cutFrom_76
    · have hw := hw.2 hc
      exact wb_Cu_cutFrom_17 F hret hrc hf0 hRr hw hwd (lv_sub hl [0, 1, 2, 3] rfl)

theorem ct_Cu_cutFrom {l : Launch} {D : va_G} {cI cZ : ClassId} {ad : Nat → Nat} : ∀ (d : Nat) (x1 : Int32) (x2 : Int32) (x3 : Int32) (g : St) (K : St → Prop), pc_Cu_cutFrom d x1 x2 x3 g K → ctCV l y_Cu_cutFrom b_Cu_cutFrom 4 (3 + d * 1) (68 + d * 23) D cI cZ ad [.ref (ad 11), .int x1, .int x2, .int x3] g K := by
  intro d
  induction d with
  | zero => intro x1 x2 x3 g K h; exact h.elim
  | succ d ih =>
    intro x1 x2 x3 g K h
    refine enCV (by decide) (Nat.le_of_ble_eq_true rfl) (fun p e s m args below meth c A H0 ls Q F hwd hl hret => ?_)
    have F : fxC D cI cZ p { frames := 3 + (d + 1) * 1, cells := 0, slots := 0, locals := 68 + (d + 1) * 23 } s m args c b_Cu_cutFrom 4 R_Cu 3 68 := ⟨F.1, F.2.1, F.2.2.1, F.2.2.2.1, F.2.2.2.2.1, F.2.2.2.2.2.1, F.2.2.2.2.2.2.1, by show 3 ≤ 3 + (d + 1) * 1; omega, by show 68 ≤ 68 + (d + 1) * 23; omega⟩
    exact wb_Cu_cutFrom_0 F hret (f := 3 + d * 1) (lo := 68 + d * 23) ih ⟨by omega, by omega⟩ ⟨by show 3 + d * 1 + 1 ≤ 3 + (d + 1) * 1; omega, by show 68 + d * 23 + 23 ≤ 68 + (d + 1) * 23; omega⟩ h hwd hl

set_option maxHeartbeats 4000000 in
set_option maxRecDepth 100000 in
theorem wb_Cu_cutTrees_28 {K : St → Prop} {P28 : Int32 → Int32 → St → Prop} {x1 : Int32} {x2 : Int32} {g : St} (F : fxC D cI cZ p R s m args c b_Cu_cutTrees 3 R_Cu 18 413)
    (hret : rtCV D cI cZ ad p l e R s m args below meth c b_Cu_cutTrees A H0 Q K) (hp28 : ∀ (x1 : Int32) (x2 : Int32) (g : St) (H : Heap) (locs : List Loc) (ls : Array Slot), P28 x1 x2 g → wdC D cI cZ ad A H0 g H locs → lv_has ls 3 [(0, .ref (ad 11)), (1, .int x1), (2, .int x2)] → W p l e R s m args below meth c H locs 0 0 Q (F0 m 28 ls []))
    (hw : pb_Cu_cutTrees_28 K P28 x1 x2 g)
    (hwd : wdC D cI cZ ad A H0 g H locs) (hl : lv_has ls 3 [(0, .ref (ad 11)), (1, .int x1), (2, .int x2)]) : W p l e R s m args below meth c H locs 0 0 Q (F0 m 28 ls []) := by
  obtain ⟨hx, hb, hml, hown, hts, hK, hN, hR⟩ := F
  have F : fxC D cI cZ p R s m args c b_Cu_cutTrees 3 R_Cu 18 413 := ⟨hx, hb, hml, hown, hts, hK, hN, hR⟩
  refine lv_iload_n hx hb d_Cu_cutTrees_28 rfl (lv_at hl 2 rfl) ?_
  refine lv_aload_n hx hb d_Cu_cutTrees_29 rfl (lv_at hl 0 rfl) ?_
  refine gfC_Cu_21 F hwd d_Cu_cutTrees_30 ?_
  refine gfC_Cu_29 F hwd d_Cu_cutTrees_33 ?_
  refine lv_icmp_ge (tgt := 73) hx hb d_Cu_cutTrees_36 (by decide) (fun hc => ?_) (fun hc => ?_)
  · have hw := hw.1 hc
    exact hret _ _ _ hw hwd _ _ d_Cu_cutTrees_73
  · have hw := hw.2 hc
    refine lv_aload_n hx hb d_Cu_cutTrees_39 rfl (lv_at hl 0 rfl) ?_
    refine lv_aload_n hx hb d_Cu_cutTrees_40 rfl (lv_at hl 0 rfl) ?_
    refine gfC_Cu_21 F hwd d_Cu_cutTrees_41 ?_
    refine gfC_Cu_34 F hwd d_Cu_cutTrees_44 ?_
    refine lv_iload_n hx hb d_Cu_cutTrees_47 rfl (lv_at hl 2 rfl) ?_
    obtain ⟨hi, hw⟩ := hw
    refine rdC_8 F hwd hi d_Cu_cutTrees_48 ?_
    refine lv_iload_n hx hb d_Cu_cutTrees_49 rfl (lv_at hl 1 rfl) ?_
    refine lv_iconst (v := 0) hx hb d_Cu_cutTrees_50 (by decide) ?_
    refine mcC_Cu_37 F hwd (ct_Cu_cutFrom 14 _ _ _ _ _ hw) ⟨Nat.le_trans (by decide) hR.1, Nat.le_trans (by decide) hR.2⟩ hl.1 (Nat.le_of_ble_eq_true rfl) d_Cu_cutTrees_51 (fun g1 H locs hw hwd => ?_)
    refine lv_aload_n hx hb d_Cu_cutTrees_54 rfl (lv_at hl 0 rfl) ?_
    refine lv_aload_n hx hb d_Cu_cutTrees_55 rfl (lv_at hl 0 rfl) ?_
    refine gfC_Cu_21 F hwd d_Cu_cutTrees_56 ?_
    refine gfC_Cu_34 F hwd d_Cu_cutTrees_59 ?_
    refine lv_iload_n hx hb d_Cu_cutTrees_62 rfl (lv_at hl 2 rfl) ?_
    obtain ⟨hi, hw⟩ := hw
    refine rdC_8 F hwd hi d_Cu_cutTrees_63 ?_
    refine mcC_Cu_41 F hwd (ct_Cu_cutOut _ _ _ hw) ⟨Nat.le_trans (by decide) hR.1, Nat.le_trans (by decide) hR.2⟩ hl.1 (Nat.le_of_ble_eq_true rfl) d_Cu_cutTrees_64 (fun g2 H locs hw hwd => ?_)
    obtain ⟨v3, e_v3⟩ : ∃ z, z = x2 + (1 : Int32) := ⟨_, rfl⟩
    have hw := hw v3 e_v3
    refine lv_iinc (k := 2) (lv' := [(2, .int v3), (0, .ref (ad 11)), (1, .int x1)]) hx hb d_Cu_cutTrees_67 hl rfl e_v3.symm (by decide) rfl (fun ls hl => ?_)
    refine lv_goto (tgt := 28) hx hb d_Cu_cutTrees_70 (by decide) ?_
    exact hp28 _ _ _ H locs ls hw hwd (lv_sub hl [1, 2, 0] rfl)

set_option maxHeartbeats 4000000 in
theorem wl_Cu_cutTrees_28 {K : St → Prop} {x1 : Int32} {x2 : Int32} {g : St} (F : fxC D cI cZ p R s m args c b_Cu_cutTrees 3 R_Cu 18 413)
    (hret : rtCV D cI cZ ad p l e R s m args below meth c b_Cu_cutTrees A H0 Q K)
    (hw : pl_Cu_cutTrees_28 K x1 x2 g)
    (hwd : wdC D cI cZ ad A H0 g H locs) (hl : lv_has ls 3 [(0, .ref (ad 11)), (1, .int x1), (2, .int x2)]) : W p l e R s m args below meth c H locs 0 0 Q (F0 m 28 ls []) := by
  refine hw (fun x1 x2 g => ∀ (H : Heap) (locs : List Loc) (ls : Array Slot), wdC D cI cZ ad A H0 g H locs → lv_has ls 3 [(0, .ref (ad 11)), (1, .int x1), (2, .int x2)] → W p l e R s m args below meth c H locs 0 0 Q (F0 m 28 ls [])) ?_ H locs ls hwd hl
  intro x1 x2 g hw H locs ls hwd hl
  exact wb_Cu_cutTrees_28 F hret (fun x1 x2 g H locs ls h hwd hl => h H locs ls hwd hl) hw hwd hl

set_option maxHeartbeats 4000000 in
set_option maxRecDepth 100000 in
theorem wb_Cu_cutTrees_7 {K : St → Prop} {P7 : Int32 → Int32 → St → Prop} {x1 : Int32} {x2 : Int32} {g : St} (F : fxC D cI cZ p R s m args c b_Cu_cutTrees 3 R_Cu 18 413)
    (hret : rtCV D cI cZ ad p l e R s m args below meth c b_Cu_cutTrees A H0 Q K) (hp7 : ∀ (x1 : Int32) (x2 : Int32) (g : St) (H : Heap) (locs : List Loc) (ls : Array Slot), P7 x1 x2 g → wdC D cI cZ ad A H0 g H locs → lv_has ls 3 [(0, .ref (ad 11)), (1, .int x1), (2, .int x2)] → W p l e R s m args below meth c H locs 0 0 Q (F0 m 7 ls []))
    (hw : pb_Cu_cutTrees_7 K P7 x1 x2 g)
    (hwd : wdC D cI cZ ad A H0 g H locs) (hl : lv_has ls 3 [(0, .ref (ad 11)), (1, .int x1), (2, .int x2)]) : W p l e R s m args below meth c H locs 0 0 Q (F0 m 7 ls []) := by
  obtain ⟨hx, hb, hml, hown, hts, hK, hN, hR⟩ := F
  have F : fxC D cI cZ p R s m args c b_Cu_cutTrees 3 R_Cu 18 413 := ⟨hx, hb, hml, hown, hts, hK, hN, hR⟩
  refine lv_iload_n hx hb d_Cu_cutTrees_7 rfl (lv_at hl 2 rfl) ?_
  refine lv_bipush (v := 60) hx hb d_Cu_cutTrees_8 (by decide) ?_
  refine lv_icmp_ge (tgt := 26) hx hb d_Cu_cutTrees_10 (by decide) (fun hc => ?_) (fun hc => ?_)
  · have hw := hw.1 hc
    refine lv_iconst (v := 0) hx hb d_Cu_cutTrees_26 (by decide) ?_
    refine lv_topi (fun v1 e_v1 => ?_)
    have hw := hw v1 e_v1
    refine lv_istore_n (lv' := [(2, .int v1), (0, .ref (ad 11)), (1, .int x1)]) hx hb d_Cu_cutTrees_27 rfl hl (by decide) rfl (fun ls hl => ?_)
    exact wl_Cu_cutTrees_28 F hret hw hwd (lv_sub hl [1, 2, 0] rfl)
  · have hw := hw.2 hc
    refine lv_aload_n hx hb d_Cu_cutTrees_13 rfl (lv_at hl 0 rfl) ?_
    refine gfC_Cu_15 F hwd d_Cu_cutTrees_14 ?_
    refine lv_iload_n hx hb d_Cu_cutTrees_17 rfl (lv_at hl 2 rfl) ?_
    refine lv_iconst (v := -1) hx hb d_Cu_cutTrees_18 (by decide) ?_
    obtain ⟨hi, hw⟩ := hw
    refine wrC_13 F hwd hi d_Cu_cutTrees_19 (fun H locs hwd => ?_)
    obtain ⟨g2, e_g2⟩ : ∃ z : St, z = ar g 13 x2 (-1 : Int32) := ⟨_, rfl⟩
    have hwd : wdC D cI cZ ad A H0 g2 H locs := by rw [e_g2]; exact hwd
    have hw := hw g2 e_g2
    obtain ⟨v3, e_v3⟩ : ∃ z, z = x2 + (1 : Int32) := ⟨_, rfl⟩
    have hw := hw v3 e_v3
    refine lv_iinc (k := 2) (lv' := [(2, .int v3), (0, .ref (ad 11)), (1, .int x1)]) hx hb d_Cu_cutTrees_20 hl rfl e_v3.symm (by decide) rfl (fun ls hl => ?_)
    refine lv_goto (tgt := 7) hx hb d_Cu_cutTrees_23 (by decide) ?_
    exact hp7 _ _ _ H locs ls hw hwd (lv_sub hl [1, 2, 0] rfl)

set_option maxHeartbeats 4000000 in
theorem wl_Cu_cutTrees_7 {K : St → Prop} {x1 : Int32} {x2 : Int32} {g : St} (F : fxC D cI cZ p R s m args c b_Cu_cutTrees 3 R_Cu 18 413)
    (hret : rtCV D cI cZ ad p l e R s m args below meth c b_Cu_cutTrees A H0 Q K)
    (hw : pl_Cu_cutTrees_7 K x1 x2 g)
    (hwd : wdC D cI cZ ad A H0 g H locs) (hl : lv_has ls 3 [(0, .ref (ad 11)), (1, .int x1), (2, .int x2)]) : W p l e R s m args below meth c H locs 0 0 Q (F0 m 7 ls []) := by
  refine hw (fun x1 x2 g => ∀ (H : Heap) (locs : List Loc) (ls : Array Slot), wdC D cI cZ ad A H0 g H locs → lv_has ls 3 [(0, .ref (ad 11)), (1, .int x1), (2, .int x2)] → W p l e R s m args below meth c H locs 0 0 Q (F0 m 7 ls [])) ?_ H locs ls hwd hl
  intro x1 x2 g hw H locs ls hwd hl
  exact wb_Cu_cutTrees_7 F hret (fun x1 x2 g H locs ls h hwd hl => h H locs ls hwd hl) hw hwd hl

set_option maxHeartbeats 4000000 in
set_option maxRecDepth 100000 in
theorem wb_Cu_cutTrees_0 {K : St → Prop} {x1 : Int32} {g : St} (F : fxC D cI cZ p R s m args c b_Cu_cutTrees 3 R_Cu 18 413)
    (hret : rtCV D cI cZ ad p l e R s m args below meth c b_Cu_cutTrees A H0 Q K)
    (hw : pb_Cu_cutTrees_0 K x1 g)
    (hwd : wdC D cI cZ ad A H0 g H locs) (hl : lv_has ls 3 [(0, .ref (ad 11)), (1, .int x1)]) : W p l e R s m args below meth c H locs 0 0 Q (F0 m 0 ls []) := by
  obtain ⟨hx, hb, hml, hown, hts, hK, hN, hR⟩ := F
  have F : fxC D cI cZ p R s m args c b_Cu_cutTrees 3 R_Cu 18 413 := ⟨hx, hb, hml, hown, hts, hK, hN, hR⟩
  refine lv_aload_n hx hb d_Cu_cutTrees_0 rfl (lv_at hl 0 rfl) ?_
  refine lv_iconst (v := 0) hx hb d_Cu_cutTrees_1 (by decide) ?_
  refine pfC_Cu_25 F hwd d_Cu_cutTrees_2 (fun H locs hwd => ?_)
  obtain ⟨g1, e_g1⟩ : ∃ z : St, z = sc g 102 (0 : Int32) := ⟨_, rfl⟩
  have hwd : wdC D cI cZ ad A H0 g1 H locs := by rw [e_g1]; exact hwd
  have hw := hw g1 e_g1
  refine lv_iconst (v := 0) hx hb d_Cu_cutTrees_5 (by decide) ?_
  refine lv_topi (fun v2 e_v2 => ?_)
  have hw := hw v2 e_v2
  refine lv_istore_n (lv' := [(2, .int v2), (0, .ref (ad 11)), (1, .int x1)]) hx hb d_Cu_cutTrees_6 rfl hl (by decide) rfl (fun ls hl => ?_)
  exact wl_Cu_cutTrees_7 F hret hw hwd (lv_sub hl [1, 2, 0] rfl)

theorem ct_Cu_cutTrees {l : Launch} {D : va_G} {cI cZ : ClassId} {ad : Nat → Nat} (x1 : Int32) (g : St) (K : St → Prop) (h : pc_Cu_cutTrees x1 g K) : ctCV l y_Cu_cutTrees b_Cu_cutTrees 3 18 413 D cI cZ ad [.ref (ad 11), .int x1] g K :=
  enCV (by decide) (Nat.le_of_ble_eq_true rfl) (fun p e s m args below meth c A H0 ls Q F hwd hl hret => wb_Cu_cutTrees_0 F hret h hwd hl)

set_option maxHeartbeats 4000000 in
set_option maxRecDepth 100000 in
theorem wb_Ta_forgetAll_0 {K : St → Prop} {g : St} (F : fxC D cI cZ p R s m args c b_Ta_forgetAll 1 R_Ta 0 0)
    (hret : rtCV D cI cZ ad p l e R s m args below meth c b_Ta_forgetAll A H0 Q K)
    (hw : pb_Ta_forgetAll_0 K g)
    (hwd : wdC D cI cZ ad A H0 g H locs) (hl : lv_has ls 1 [(0, .ref (ad 15))]) : W p l e R s m args below meth c H locs 0 0 Q (F0 m 0 ls []) := by
  obtain ⟨hx, hb, hml, hown, hts, hK, hN, hR⟩ := F
  have F : fxC D cI cZ p R s m args c b_Ta_forgetAll 1 R_Ta 0 0 := ⟨hx, hb, hml, hown, hts, hK, hN, hR⟩
  refine lv_aload_n hx hb d_Ta_forgetAll_0 rfl (lv_at hl 0 rfl) ?_
  refine lv_iconst (v := 0) hx hb d_Ta_forgetAll_1 (by decide) ?_
  refine pfC_Ta_21 F hwd d_Ta_forgetAll_2 (fun H locs hwd => ?_)
  obtain ⟨g1, e_g1⟩ : ∃ z : St, z = sc g 103 (0 : Int32) := ⟨_, rfl⟩
  have hwd : wdC D cI cZ ad A H0 g1 H locs := by rw [e_g1]; exact hwd
  have hw := hw g1 e_g1
  refine lv_aload_n hx hb d_Ta_forgetAll_5 rfl (lv_at hl 0 rfl) ?_
  refine gfC_Ta_18 F hwd d_Ta_forgetAll_6 ?_
  refine lv_iconst (v := 0) hx hb d_Ta_forgetAll_9 (by decide) ?_
  refine lv_iconst (v := 0) hx hb d_Ta_forgetAll_10 (by decide) ?_
  obtain ⟨hi, hw⟩ := hw
  refine wrC_18 F hwd hi d_Ta_forgetAll_11 (fun H locs hwd => ?_)
  obtain ⟨g2, e_g2⟩ : ∃ z : St, z = ar g1 18 (0 : Int32) (0 : Int32) := ⟨_, rfl⟩
  have hwd : wdC D cI cZ ad A H0 g2 H locs := by rw [e_g2]; exact hwd
  have hw := hw g2 e_g2
  exact hret _ _ _ hw hwd _ _ d_Ta_forgetAll_12

theorem ct_Ta_forgetAll {l : Launch} {D : va_G} {cI cZ : ClassId} {ad : Nat → Nat} (g : St) (K : St → Prop) (h : pc_Ta_forgetAll g K) : ctCV l y_Ta_forgetAll b_Ta_forgetAll 1 0 0 D cI cZ ad [.ref (ad 15)] g K :=
  enCV (by decide) (Nat.le_of_ble_eq_true rfl) (fun p e s m args below meth c A H0 ls Q F hwd hl hret => wb_Ta_forgetAll_0 F hret h hwd hl)

set_option maxHeartbeats 4000000 in
set_option maxRecDepth 100000 in
theorem wb_Ta_openClass_0 {K : St → Prop} {g : St} (F : fxC D cI cZ p R s m args c b_Ta_openClass 1 R_Ta 0 0)
    (hret : rtCV D cI cZ ad p l e R s m args below meth c b_Ta_openClass A H0 Q K)
    (hw : pb_Ta_openClass_0 K g)
    (hwd : wdC D cI cZ ad A H0 g H locs) (hl : lv_has ls 1 [(0, .ref (ad 15))]) : W p l e R s m args below meth c H locs 0 0 Q (F0 m 0 ls []) := by
  obtain ⟨hx, hb, hml, hown, hts, hK, hN, hR⟩ := F
  have F : fxC D cI cZ p R s m args c b_Ta_openClass 1 R_Ta 0 0 := ⟨hx, hb, hml, hown, hts, hK, hN, hR⟩
  refine lv_aload_n hx hb d_Ta_openClass_0 rfl (lv_at hl 0 rfl) ?_
  refine gfC_Ta_21 F hwd d_Ta_openClass_1 ?_
  refine lv_bipush (v := 60) hx hb d_Ta_openClass_4 (by decide) ?_
  refine lv_icmp_ge (tgt := 39) hx hb d_Ta_openClass_6 (by decide) (fun hc => ?_) (fun hc => ?_)
  · have hw := hw.1 hc
    exact hret _ _ _ hw hwd _ _ d_Ta_openClass_39
  · have hw := hw.2 hc
    refine lv_aload_n hx hb d_Ta_openClass_9 rfl (lv_at hl 0 rfl) ?_
    refine gfC_Ta_18 F hwd d_Ta_openClass_10 ?_
    refine lv_aload_n hx hb d_Ta_openClass_13 rfl (lv_at hl 0 rfl) ?_
    refine gfC_Ta_21 F hwd d_Ta_openClass_14 ?_
    refine lv_iconst (v := 1) hx hb d_Ta_openClass_17 (by decide) ?_
    refine lv_iadd hx hb d_Ta_openClass_18 ?_
    refine lv_aload_n hx hb d_Ta_openClass_19 rfl (lv_at hl 0 rfl) ?_
    refine gfC_Ta_18 F hwd d_Ta_openClass_20 ?_
    refine lv_aload_n hx hb d_Ta_openClass_23 rfl (lv_at hl 0 rfl) ?_
    refine gfC_Ta_21 F hwd d_Ta_openClass_24 ?_
    obtain ⟨hi, hw⟩ := hw
    refine rdC_18 F hwd hi d_Ta_openClass_27 ?_
    obtain ⟨hi, hw⟩ := hw
    refine wrC_18 F hwd hi d_Ta_openClass_28 (fun H locs hwd => ?_)
    obtain ⟨g1, e_g1⟩ : ∃ z : St, z = ar g 18 ((g 103 0) + (1 : Int32)) (g 18 ((g 103 0)).toNatClampNeg) := ⟨_, rfl⟩
    have hwd : wdC D cI cZ ad A H0 g1 H locs := by rw [e_g1]; exact hwd
    have hw := hw g1 e_g1
    refine lv_aload_n hx hb d_Ta_openClass_29 rfl (lv_at hl 0 rfl) ?_
    refine lv_dup hx hb d_Ta_openClass_30 rfl ?_
    refine gfC_Ta_21 F hwd d_Ta_openClass_31 ?_
    refine lv_iconst (v := 1) hx hb d_Ta_openClass_34 (by decide) ?_
    refine lv_iadd hx hb d_Ta_openClass_35 ?_
    refine pfC_Ta_21 F hwd d_Ta_openClass_36 (fun H locs hwd => ?_)
    obtain ⟨g2, e_g2⟩ : ∃ z : St, z = sc g1 103 ((g1 103 0) + (1 : Int32)) := ⟨_, rfl⟩
    have hwd : wdC D cI cZ ad A H0 g2 H locs := by rw [e_g2]; exact hwd
    have hw := hw g2 e_g2
    exact hret _ _ _ hw hwd _ _ d_Ta_openClass_39

theorem ct_Ta_openClass {l : Launch} {D : va_G} {cI cZ : ClassId} {ad : Nat → Nat} (g : St) (K : St → Prop) (h : pc_Ta_openClass g K) : ctCV l y_Ta_openClass b_Ta_openClass 1 0 0 D cI cZ ad [.ref (ad 15)] g K :=
  enCV (by decide) (Nat.le_of_ble_eq_true rfl) (fun p e s m args below meth c A H0 ls Q F hwd hl hret => wb_Ta_openClass_0 F hret h hwd hl)

set_option maxHeartbeats 4000000 in
set_option maxRecDepth 100000 in
theorem wb_Ta_sizeOf_0 {K : Int32 → St → Prop} {x1 : Int32} {g : St} (F : fxC D cI cZ p R s m args c b_Ta_sizeOf 2 R_Ta 0 0)
    (hret : rtCI D cI cZ ad p l e R s m args below meth c b_Ta_sizeOf A H0 Q K)
    (hw : pb_Ta_sizeOf_0 K x1 g)
    (hwd : wdC D cI cZ ad A H0 g H locs) (hl : lv_has ls 2 [(0, .ref (ad 15)), (1, .int x1)]) : W p l e R s m args below meth c H locs 0 0 Q (F0 m 0 ls []) := by
  obtain ⟨hx, hb, hml, hown, hts, hK, hN, hR⟩ := F
  have F : fxC D cI cZ p R s m args c b_Ta_sizeOf 2 R_Ta 0 0 := ⟨hx, hb, hml, hown, hts, hK, hN, hR⟩
  refine lv_aload_n hx hb d_Ta_sizeOf_0 rfl (lv_at hl 0 rfl) ?_
  refine gfC_Ta_18 F hwd d_Ta_sizeOf_1 ?_
  refine lv_iload_n hx hb d_Ta_sizeOf_4 rfl (lv_at hl 1 rfl) ?_
  refine lv_iconst (v := 1) hx hb d_Ta_sizeOf_5 (by decide) ?_
  refine lv_iadd hx hb d_Ta_sizeOf_6 ?_
  obtain ⟨hi, hw⟩ := hw
  refine rdC_18 F hwd hi d_Ta_sizeOf_7 ?_
  refine lv_aload_n hx hb d_Ta_sizeOf_8 rfl (lv_at hl 0 rfl) ?_
  refine gfC_Ta_18 F hwd d_Ta_sizeOf_9 ?_
  refine lv_iload_n hx hb d_Ta_sizeOf_12 rfl (lv_at hl 1 rfl) ?_
  obtain ⟨hi, hw⟩ := hw
  refine rdC_18 F hwd hi d_Ta_sizeOf_13 ?_
  refine lv_isub hx hb d_Ta_sizeOf_14 ?_
  exact hret _ _ _ _ hw hwd _ _ d_Ta_sizeOf_15

theorem ct_Ta_sizeOf {l : Launch} {D : va_G} {cI cZ : ClassId} {ad : Nat → Nat} (x1 : Int32) (g : St) (K : Int32 → St → Prop) (h : pc_Ta_sizeOf x1 g K) : ctCI l y_Ta_sizeOf b_Ta_sizeOf 2 0 0 D cI cZ ad [.ref (ad 15), .int x1] g K :=
  enCI (by decide) (Nat.le_of_ble_eq_true rfl) (fun p e s m args below meth c A H0 ls Q F hwd hl hret => wb_Ta_sizeOf_0 F hret h hwd hl)

set_option maxHeartbeats 4000000 in
set_option maxRecDepth 100000 in
theorem wb_Ta_latestSize_0 {K : Int32 → St → Prop} {g : St} (F : fxC D cI cZ p R s m args c b_Ta_latestSize 1 R_Ta 1 21)
    (hret : rtCI D cI cZ ad p l e R s m args below meth c b_Ta_latestSize A H0 Q K)
    (hw : pb_Ta_latestSize_0 K g)
    (hwd : wdC D cI cZ ad A H0 g H locs) (hl : lv_has ls 1 [(0, .ref (ad 15))]) : W p l e R s m args below meth c H locs 0 0 Q (F0 m 0 ls []) := by
  obtain ⟨hx, hb, hml, hown, hts, hK, hN, hR⟩ := F
  have F : fxC D cI cZ p R s m args c b_Ta_latestSize 1 R_Ta 1 21 := ⟨hx, hb, hml, hown, hts, hK, hN, hR⟩
  refine lv_aload_n hx hb d_Ta_latestSize_0 rfl (lv_at hl 0 rfl) ?_
  refine gfC_Ta_21 F hwd d_Ta_latestSize_1 ?_
  refine lv_if_le (tgt := 20) hx hb d_Ta_latestSize_4 (by decide) (fun hc => ?_) (fun hc => ?_)
  · have hw := hw.1 hc
    refine lv_iconst (v := 0) hx hb d_Ta_latestSize_20 (by decide) ?_
    exact hret _ _ _ _ hw hwd _ _ d_Ta_latestSize_21
  · have hw := hw.2 hc
    refine lv_aload_n hx hb d_Ta_latestSize_7 rfl (lv_at hl 0 rfl) ?_
    refine lv_aload_n hx hb d_Ta_latestSize_8 rfl (lv_at hl 0 rfl) ?_
    refine gfC_Ta_21 F hwd d_Ta_latestSize_9 ?_
    refine lv_iconst (v := 1) hx hb d_Ta_latestSize_12 (by decide) ?_
    refine lv_isub hx hb d_Ta_latestSize_13 ?_
    refine mcC_Ta_29 F hwd (ct_Ta_sizeOf _ _ _ hw) ⟨Nat.le_trans (by decide) hR.1, Nat.le_trans (by decide) hR.2⟩ hl.1 (Nat.le_of_ble_eq_true rfl) d_Ta_latestSize_14 (fun v2 g1 H locs hw hwd => ?_)
    refine lv_goto (tgt := 21) hx hb d_Ta_latestSize_17 (by decide) ?_
    exact hret _ _ _ _ hw hwd _ _ d_Ta_latestSize_21

theorem ct_Ta_latestSize {l : Launch} {D : va_G} {cI cZ : ClassId} {ad : Nat → Nat} (g : St) (K : Int32 → St → Prop) (h : pc_Ta_latestSize g K) : ctCI l y_Ta_latestSize b_Ta_latestSize 1 1 21 D cI cZ ad [.ref (ad 15)] g K :=
  enCI (by decide) (Nat.le_of_ble_eq_true rfl) (fun p e s m args below meth c A H0 ls Q F hwd hl hret => wb_Ta_latestSize_0 F hret h hwd hl)

set_option maxHeartbeats 4000000 in
set_option maxRecDepth 100000 in
theorem wb_Co_writeByte_0 {K : St → Prop} {x1 : Int32} {g : St} (F : fxC D cI cZ p R s m args c b_Co_writeByte 2 R_Co 0 0)
    (hret : rtCV D cI cZ ad p l e R s m args below meth c b_Co_writeByte A H0 Q K)
    (hw : pb_Co_writeByte_0 K x1 g)
    (hwd : wdC D cI cZ ad A H0 g H locs) (hl : lv_has ls 2 [(0, .ref (ad 19)), (1, .int x1)]) : W p l e R s m args below meth c H locs 0 0 Q (F0 m 0 ls []) := by
  obtain ⟨hx, hb, hml, hown, hts, hK, hN, hR⟩ := F
  have F : fxC D cI cZ p R s m args c b_Co_writeByte 2 R_Co 0 0 := ⟨hx, hb, hml, hown, hts, hK, hN, hR⟩
  refine lv_aload_n hx hb d_Co_writeByte_0 rfl (lv_at hl 0 rfl) ?_
  refine gfC_Co_40 F hwd d_Co_writeByte_1 ?_
  refine lv_sipush (v := 600) hx hb d_Co_writeByte_4 (by decide) ?_
  refine lv_icmp_ge (tgt := 30) hx hb d_Co_writeByte_7 (by decide) (fun hc => ?_) (fun hc => ?_)
  · have hw := hw.1 hc
    exact hret _ _ _ hw hwd _ _ d_Co_writeByte_30
  · have hw := hw.2 hc
    refine lv_aload_n hx hb d_Co_writeByte_10 rfl (lv_at hl 0 rfl) ?_
    refine gfC_Co_9 F hwd d_Co_writeByte_11 ?_
    refine lv_aload_n hx hb d_Co_writeByte_14 rfl (lv_at hl 0 rfl) ?_
    refine gfC_Co_40 F hwd d_Co_writeByte_15 ?_
    refine lv_iload_n hx hb d_Co_writeByte_18 rfl (lv_at hl 1 rfl) ?_
    obtain ⟨hi, hw⟩ := hw
    refine wrC_20 F hwd hi d_Co_writeByte_19 (fun H locs hwd => ?_)
    obtain ⟨g1, e_g1⟩ : ∃ z : St, z = ar g 20 (g 104 0) x1 := ⟨_, rfl⟩
    have hwd : wdC D cI cZ ad A H0 g1 H locs := by rw [e_g1]; exact hwd
    have hw := hw g1 e_g1
    refine lv_aload_n hx hb d_Co_writeByte_20 rfl (lv_at hl 0 rfl) ?_
    refine lv_dup hx hb d_Co_writeByte_21 rfl ?_
    refine gfC_Co_40 F hwd d_Co_writeByte_22 ?_
    refine lv_iconst (v := 1) hx hb d_Co_writeByte_25 (by decide) ?_
    refine lv_iadd hx hb d_Co_writeByte_26 ?_
    refine pfC_Co_40 F hwd d_Co_writeByte_27 (fun H locs hwd => ?_)
    obtain ⟨g2, e_g2⟩ : ∃ z : St, z = sc g1 104 ((g1 104 0) + (1 : Int32)) := ⟨_, rfl⟩
    have hwd : wdC D cI cZ ad A H0 g2 H locs := by rw [e_g2]; exact hwd
    have hw := hw g2 e_g2
    exact hret _ _ _ hw hwd _ _ d_Co_writeByte_30

theorem ct_Co_writeByte {l : Launch} {D : va_G} {cI cZ : ClassId} {ad : Nat → Nat} (x1 : Int32) (g : St) (K : St → Prop) (h : pc_Co_writeByte x1 g K) : ctCV l y_Co_writeByte b_Co_writeByte 2 0 0 D cI cZ ad [.ref (ad 19), .int x1] g K :=
  enCV (by decide) (Nat.le_of_ble_eq_true rfl) (fun p e s m args below meth c A H0 ls Q F hwd hl hret => wb_Co_writeByte_0 F hret h hwd hl)

set_option maxHeartbeats 4000000 in
set_option maxRecDepth 100000 in
theorem wb_Co_writePair_0 {K : St → Prop} {x1 : Int32} {x2 : Int32} {g : St} (F : fxC D cI cZ p R s m args c b_Co_writePair 3 R_Co 1 21)
    (hret : rtCV D cI cZ ad p l e R s m args below meth c b_Co_writePair A H0 Q K)
    (hw : pb_Co_writePair_0 K x1 x2 g)
    (hwd : wdC D cI cZ ad A H0 g H locs) (hl : lv_has ls 3 [(0, .ref (ad 19)), (1, .int x1), (2, .int x2)]) : W p l e R s m args below meth c H locs 0 0 Q (F0 m 0 ls []) := by
  obtain ⟨hx, hb, hml, hown, hts, hK, hN, hR⟩ := F
  have F : fxC D cI cZ p R s m args c b_Co_writePair 3 R_Co 1 21 := ⟨hx, hb, hml, hown, hts, hK, hN, hR⟩
  refine lv_aload_n hx hb d_Co_writePair_0 rfl (lv_at hl 0 rfl) ?_
  refine lv_iload_n hx hb d_Co_writePair_1 rfl (lv_at hl 1 rfl) ?_
  refine mcC_Co_108 F hwd (ct_Co_writeByte _ _ _ hw) ⟨Nat.le_trans (by decide) hR.1, Nat.le_trans (by decide) hR.2⟩ hl.1 (Nat.le_of_ble_eq_true rfl) d_Co_writePair_2 (fun g1 H locs hw hwd => ?_)
  refine lv_aload_n hx hb d_Co_writePair_5 rfl (lv_at hl 0 rfl) ?_
  refine lv_iload_n hx hb d_Co_writePair_6 rfl (lv_at hl 2 rfl) ?_
  refine mcC_Co_108 F hwd (ct_Co_writeByte _ _ _ hw) ⟨Nat.le_trans (by decide) hR.1, Nat.le_trans (by decide) hR.2⟩ hl.1 (Nat.le_of_ble_eq_true rfl) d_Co_writePair_7 (fun g2 H locs hw hwd => ?_)
  exact hret _ _ _ hw hwd _ _ d_Co_writePair_10

theorem ct_Co_writePair {l : Launch} {D : va_G} {cI cZ : ClassId} {ad : Nat → Nat} (x1 : Int32) (x2 : Int32) (g : St) (K : St → Prop) (h : pc_Co_writePair x1 x2 g K) : ctCV l y_Co_writePair b_Co_writePair 3 1 21 D cI cZ ad [.ref (ad 19), .int x1, .int x2] g K :=
  enCV (by decide) (Nat.le_of_ble_eq_true rfl) (fun p e s m args below meth c A H0 ls Q F hwd hl hret => wb_Co_writePair_0 F hret h hwd hl)

set_option maxHeartbeats 4000000 in
set_option maxRecDepth 100000 in
theorem wb_Fo_kindOfEntry_0 {K : Int32 → St → Prop} {x1 : Int32} {g : St} (F : fxC D cI cZ p R s m args c b_Fo_kindOfEntry 2 R_Fo 1 21)
    (hret : rtCI D cI cZ ad p l e R s m args below meth c b_Fo_kindOfEntry A H0 Q K)
    (hw : pb_Fo_kindOfEntry_0 K x1 g)
    (hwd : wdC D cI cZ ad A H0 g H locs) (hl : lv_has ls 2 [(0, .ref (ad 2)), (1, .int x1)]) : W p l e R s m args below meth c H locs 0 0 Q (F0 m 0 ls []) := by
  obtain ⟨hx, hb, hml, hown, hts, hK, hN, hR⟩ := F
  have F : fxC D cI cZ p R s m args c b_Fo_kindOfEntry 2 R_Fo 1 21 := ⟨hx, hb, hml, hown, hts, hK, hN, hR⟩
  refine lv_aload_n hx hb d_Fo_kindOfEntry_0 rfl (lv_at hl 0 rfl) ?_
  refine lv_iload_n hx hb d_Fo_kindOfEntry_1 rfl (lv_at hl 1 rfl) ?_
  refine mcC_Fo_41 F hwd (ct_Fo_isLeaf _ _ _ hw) ⟨Nat.le_trans (by decide) hR.1, Nat.le_trans (by decide) hR.2⟩ hl.1 (Nat.le_of_ble_eq_true rfl) d_Fo_kindOfEntry_2 (fun v2 g1 H locs hw hwd => ?_)
  refine lv_if_eq (tgt := 10) hx hb d_Fo_kindOfEntry_5 (by decide) (fun hc => ?_) (fun hc => ?_)
  · have hw := hw.1 hc
    refine lv_aload_n hx hb d_Fo_kindOfEntry_10 rfl (lv_at hl 0 rfl) ?_
    refine gfC_Fo_9 F hwd d_Fo_kindOfEntry_11 ?_
    refine lv_iload_n hx hb d_Fo_kindOfEntry_14 rfl (lv_at hl 1 rfl) ?_
    obtain ⟨hi, hw⟩ := hw
    refine rdC_3 F hwd hi d_Fo_kindOfEntry_15 ?_
    refine mcC_Fo_44 F hwd (ct_Ru_isBitRule _ _ _ hw) ⟨Nat.le_trans (by decide) hR.1, Nat.le_trans (by decide) hR.2⟩ hl.1 (Nat.le_of_ble_eq_true rfl) d_Fo_kindOfEntry_16 (fun v4 g3 H locs hw hwd => ?_)
    refine lv_if_eq (tgt := 26) hx hb d_Fo_kindOfEntry_19 (by decide) (fun hc => ?_) (fun hc => ?_)
    · have hw := hw.1 hc
      refine lv_iconst (v := 1) hx hb d_Fo_kindOfEntry_26 (by decide) ?_
      exact hret _ _ _ _ hw hwd _ _ d_Fo_kindOfEntry_27
    · have hw := hw.2 hc
      refine lv_iconst (v := 3) hx hb d_Fo_kindOfEntry_22 (by decide) ?_
      refine lv_goto (tgt := 27) hx hb d_Fo_kindOfEntry_23 (by decide) ?_
      exact hret _ _ _ _ hw hwd _ _ d_Fo_kindOfEntry_27
  · have hw := hw.2 hc
    refine lv_iconst (v := 2) hx hb d_Fo_kindOfEntry_8 (by decide) ?_
    exact hret _ _ _ _ hw hwd _ _ d_Fo_kindOfEntry_9

theorem ct_Fo_kindOfEntry {l : Launch} {D : va_G} {cI cZ : ClassId} {ad : Nat → Nat} (x1 : Int32) (g : St) (K : Int32 → St → Prop) (h : pc_Fo_kindOfEntry x1 g K) : ctCI l y_Fo_kindOfEntry b_Fo_kindOfEntry 2 1 21 D cI cZ ad [.ref (ad 2), .int x1] g K :=
  enCI (by decide) (Nat.le_of_ble_eq_true rfl) (fun p e s m args below meth c A H0 ls Q F hwd hl hret => wb_Fo_kindOfEntry_0 F hret h hwd hl)

set_option maxHeartbeats 4000000 in
set_option maxRecDepth 100000 in
theorem wb_Ta_numberFor_71 {K : Int32 → St → Prop} {P37 : Int32 → Int32 → Int32 → Int32 → Int32 → St → Prop} {x1 : Int32} {x2 : Int32} {x3 : Int32} {x4 : Int32} {x5 : Int32} {g : St} (F : fxC D cI cZ p R s m args c b_Ta_numberFor 6 R_Ta 0 0)
    (hret : rtCI D cI cZ ad p l e R s m args below meth c b_Ta_numberFor A H0 Q K) (hp37 : ∀ (x1 : Int32) (x2 : Int32) (x3 : Int32) (x4 : Int32) (x5 : Int32) (g : St) (H : Heap) (locs : List Loc) (ls : Array Slot), P37 x1 x2 x3 x4 x5 g → wdC D cI cZ ad A H0 g H locs → lv_has ls 6 [(0, .ref (ad 15)), (1, .int x1), (2, .int x2), (3, .int x3), (4, .int x4), (5, .int x5)] → W p l e R s m args below meth c H locs 0 0 Q (F0 m 37 ls []))
    (hw : pb_Ta_numberFor_71 K P37 x1 x2 x3 x4 x5 g)
    (hwd : wdC D cI cZ ad A H0 g H locs) (hl : lv_has ls 6 [(0, .ref (ad 15)), (1, .int x1), (2, .int x2), (3, .int x3), (4, .int x4), (5, .int x5)]) : W p l e R s m args below meth c H locs 0 0 Q (F0 m 71 ls []) := by
  obtain ⟨hx, hb, hml, hown, hts, hK, hN, hR⟩ := F
  have F : fxC D cI cZ p R s m args c b_Ta_numberFor 6 R_Ta 0 0 := ⟨hx, hb, hml, hown, hts, hK, hN, hR⟩
  obtain ⟨v1, e_v1⟩ : ∃ z, z = x5 + (1 : Int32) := ⟨_, rfl⟩
  have hw := hw v1 e_v1
  refine lv_iinc (k := 5) (lv' := [(5, .int v1), (0, .ref (ad 15)), (1, .int x1), (2, .int x2), (3, .int x3), (4, .int x4)]) hx hb d_Ta_numberFor_71 hl rfl e_v1.symm (by decide) rfl (fun ls hl => ?_)
  refine lv_goto (tgt := 37) hx hb d_Ta_numberFor_74 (by decide) ?_
  exact hp37 _ _ _ _ _ _ H locs ls hw hwd (lv_sub hl [1, 2, 3, 4, 5, 0] rfl)

set_option maxHeartbeats 4000000 in
set_option maxRecDepth 100000 in
theorem wb_Ta_numberFor_113 {K : Int32 → St → Prop} {x1 : Int32} {x2 : Int32} {x3 : Int32} {x4 : Int32} {x5 : Int32} {g : St} (F : fxC D cI cZ p R s m args c b_Ta_numberFor 6 R_Ta 0 0)
    (hret : rtCI D cI cZ ad p l e R s m args below meth c b_Ta_numberFor A H0 Q K)
    (hw : pb_Ta_numberFor_113 K x1 x2 x3 x4 x5 g)
    (hwd : wdC D cI cZ ad A H0 g H locs) (hl : lv_has ls 6 [(0, .ref (ad 15)), (1, .int x1), (2, .int x2), (3, .int x3), (4, .int x4), (5, .int x5)]) : W p l e R s m args below meth c H locs 0 0 Q (F0 m 113 ls []) := by
  obtain ⟨hx, hb, hml, hown, hts, hK, hN, hR⟩ := F
  have F : fxC D cI cZ p R s m args c b_Ta_numberFor 6 R_Ta 0 0 := ⟨hx, hb, hml, hown, hts, hK, hN, hR⟩
  refine lv_iload hx hb d_Ta_numberFor_113 (lv_at hl 4 rfl) ?_
  refine lv_iload_n hx hb d_Ta_numberFor_115 rfl (lv_at hl 3 rfl) ?_
  refine lv_isub hx hb d_Ta_numberFor_116 ?_
  exact hret _ _ _ _ hw hwd _ _ d_Ta_numberFor_117

set_option maxHeartbeats 4000000 in
set_option maxRecDepth 100000 in
theorem wb_Ta_numberFor_37 {K : Int32 → St → Prop} {P37 : Int32 → Int32 → Int32 → Int32 → Int32 → St → Prop} {x1 : Int32} {x2 : Int32} {x3 : Int32} {x4 : Int32} {x5 : Int32} {g : St} (F : fxC D cI cZ p R s m args c b_Ta_numberFor 6 R_Ta 0 0)
    (hret : rtCI D cI cZ ad p l e R s m args below meth c b_Ta_numberFor A H0 Q K) (hp37 : ∀ (x1 : Int32) (x2 : Int32) (x3 : Int32) (x4 : Int32) (x5 : Int32) (g : St) (H : Heap) (locs : List Loc) (ls : Array Slot), P37 x1 x2 x3 x4 x5 g → wdC D cI cZ ad A H0 g H locs → lv_has ls 6 [(0, .ref (ad 15)), (1, .int x1), (2, .int x2), (3, .int x3), (4, .int x4), (5, .int x5)] → W p l e R s m args below meth c H locs 0 0 Q (F0 m 37 ls []))
    (hw : pb_Ta_numberFor_37 K P37 x1 x2 x3 x4 x5 g)
    (hwd : wdC D cI cZ ad A H0 g H locs) (hl : lv_has ls 6 [(0, .ref (ad 15)), (1, .int x1), (2, .int x2), (3, .int x3), (4, .int x4), (5, .int x5)]) : W p l e R s m args below meth c H locs 0 0 Q (F0 m 37 ls []) := by
  obtain ⟨hx, hb, hml, hown, hts, hK, hN, hR⟩ := F
  have F : fxC D cI cZ p R s m args c b_Ta_numberFor 6 R_Ta 0 0 := ⟨hx, hb, hml, hown, hts, hK, hN, hR⟩
  refine lv_iload hx hb d_Ta_numberFor_37 (lv_at hl 5 rfl) ?_
  refine lv_iload hx hb d_Ta_numberFor_39 (lv_at hl 4 rfl) ?_
  refine lv_icmp_ge (tgt := 77) hx hb d_Ta_numberFor_41 (by decide) (fun hc => ?_) (fun hc => ?_)
  · have hw := hw.1 hc
    refine lv_iload hx hb d_Ta_numberFor_77 (lv_at hl 4 rfl) ?_
    refine lv_bipush (v := 120) hx hb d_Ta_numberFor_79 (by decide) ?_
    refine lv_icmp_ge (tgt := 113) hx hb d_Ta_numberFor_81 (by decide) (fun hc => ?_) (fun hc => ?_)
    · have hw := hw.1 hc
      exact wb_Ta_numberFor_113 F hret hw hwd (lv_sub hl [0, 1, 2, 3, 4, 5] rfl)
    · have hw := hw.2 hc
      refine lv_aload_n hx hb d_Ta_numberFor_84 rfl (lv_at hl 0 rfl) ?_
      refine gfC_Ta_9 F hwd d_Ta_numberFor_85 ?_
      refine lv_iload hx hb d_Ta_numberFor_88 (lv_at hl 4 rfl) ?_
      refine lv_iload_n hx hb d_Ta_numberFor_90 rfl (lv_at hl 1 rfl) ?_
      obtain ⟨hi, hw⟩ := hw
      refine wrC_16 F hwd hi d_Ta_numberFor_91 (fun H locs hwd => ?_)
      obtain ⟨g1, e_g1⟩ : ∃ z : St, z = ar g 16 x4 x1 := ⟨_, rfl⟩
      have hwd : wdC D cI cZ ad A H0 g1 H locs := by rw [e_g1]; exact hwd
      have hw := hw g1 e_g1
      refine lv_aload_n hx hb d_Ta_numberFor_92 rfl (lv_at hl 0 rfl) ?_
      refine gfC_Ta_15 F hwd d_Ta_numberFor_93 ?_
      refine lv_iload hx hb d_Ta_numberFor_96 (lv_at hl 4 rfl) ?_
      refine lv_iload_n hx hb d_Ta_numberFor_98 rfl (lv_at hl 2 rfl) ?_
      obtain ⟨hi, hw⟩ := hw
      refine wrC_17 F hwd hi d_Ta_numberFor_99 (fun H locs hwd => ?_)
      obtain ⟨g2, e_g2⟩ : ∃ z : St, z = ar g1 17 x4 x2 := ⟨_, rfl⟩
      have hwd : wdC D cI cZ ad A H0 g2 H locs := by rw [e_g2]; exact hwd
      have hw := hw g2 e_g2
      refine lv_aload_n hx hb d_Ta_numberFor_100 rfl (lv_at hl 0 rfl) ?_
      refine gfC_Ta_18 F hwd d_Ta_numberFor_101 ?_
      refine lv_aload_n hx hb d_Ta_numberFor_104 rfl (lv_at hl 0 rfl) ?_
      refine gfC_Ta_21 F hwd d_Ta_numberFor_105 ?_
      refine lv_iload hx hb d_Ta_numberFor_108 (lv_at hl 4 rfl) ?_
      refine lv_iconst (v := 1) hx hb d_Ta_numberFor_110 (by decide) ?_
      refine lv_iadd hx hb d_Ta_numberFor_111 ?_
      obtain ⟨hi, hw⟩ := hw
      refine wrC_18 F hwd hi d_Ta_numberFor_112 (fun H locs hwd => ?_)
      obtain ⟨g3, e_g3⟩ : ∃ z : St, z = ar g2 18 (g2 103 0) (x4 + (1 : Int32)) := ⟨_, rfl⟩
      have hwd : wdC D cI cZ ad A H0 g3 H locs := by rw [e_g3]; exact hwd
      have hw := hw g3 e_g3
      exact wb_Ta_numberFor_113 F hret hw hwd (lv_sub hl [0, 1, 2, 3, 4, 5] rfl)
  · have hw := hw.2 hc
    refine lv_aload_n hx hb d_Ta_numberFor_44 rfl (lv_at hl 0 rfl) ?_
    refine gfC_Ta_9 F hwd d_Ta_numberFor_45 ?_
    refine lv_iload hx hb d_Ta_numberFor_48 (lv_at hl 5 rfl) ?_
    obtain ⟨hi, hw⟩ := hw
    refine rdC_16 F hwd hi d_Ta_numberFor_50 ?_
    refine lv_iload_n hx hb d_Ta_numberFor_51 rfl (lv_at hl 1 rfl) ?_
    refine lv_icmp_ne (tgt := 71) hx hb d_Ta_numberFor_52 (by decide) (fun hc => ?_) (fun hc => ?_)
    · have hw := hw.1 hc
      exact wb_Ta_numberFor_71 F hret hp37 hw hwd (lv_sub hl [0, 1, 2, 3, 4, 5] rfl)
    · have hw := hw.2 hc
      refine lv_aload_n hx hb d_Ta_numberFor_55 rfl (lv_at hl 0 rfl) ?_
      refine gfC_Ta_15 F hwd d_Ta_numberFor_56 ?_
      refine lv_iload hx hb d_Ta_numberFor_59 (lv_at hl 5 rfl) ?_
      obtain ⟨hi, hw⟩ := hw
      refine rdC_17 F hwd hi d_Ta_numberFor_61 ?_
      refine lv_iload_n hx hb d_Ta_numberFor_62 rfl (lv_at hl 2 rfl) ?_
      refine lv_icmp_ne (tgt := 71) hx hb d_Ta_numberFor_63 (by decide) (fun hc => ?_) (fun hc => ?_)
      · have hw := hw.1 hc
        exact wb_Ta_numberFor_71 F hret hp37 hw hwd (lv_sub hl [0, 1, 2, 3, 4, 5] rfl)
      · have hw := hw.2 hc
        refine lv_iload hx hb d_Ta_numberFor_66 (lv_at hl 5 rfl) ?_
        refine lv_iload_n hx hb d_Ta_numberFor_68 rfl (lv_at hl 3 rfl) ?_
        refine lv_isub hx hb d_Ta_numberFor_69 ?_
        exact hret _ _ _ _ hw hwd _ _ d_Ta_numberFor_70

set_option maxHeartbeats 4000000 in
theorem wl_Ta_numberFor_37 {K : Int32 → St → Prop} {x1 : Int32} {x2 : Int32} {x3 : Int32} {x4 : Int32} {x5 : Int32} {g : St} (F : fxC D cI cZ p R s m args c b_Ta_numberFor 6 R_Ta 0 0)
    (hret : rtCI D cI cZ ad p l e R s m args below meth c b_Ta_numberFor A H0 Q K)
    (hw : pl_Ta_numberFor_37 K x1 x2 x3 x4 x5 g)
    (hwd : wdC D cI cZ ad A H0 g H locs) (hl : lv_has ls 6 [(0, .ref (ad 15)), (1, .int x1), (2, .int x2), (3, .int x3), (4, .int x4), (5, .int x5)]) : W p l e R s m args below meth c H locs 0 0 Q (F0 m 37 ls []) := by
  refine hw (fun x1 x2 x3 x4 x5 g => ∀ (H : Heap) (locs : List Loc) (ls : Array Slot), wdC D cI cZ ad A H0 g H locs → lv_has ls 6 [(0, .ref (ad 15)), (1, .int x1), (2, .int x2), (3, .int x3), (4, .int x4), (5, .int x5)] → W p l e R s m args below meth c H locs 0 0 Q (F0 m 37 ls [])) ?_ H locs ls hwd hl
  intro x1 x2 x3 x4 x5 g hw H locs ls hwd hl
  exact wb_Ta_numberFor_37 F hret (fun x1 x2 x3 x4 x5 g H locs ls h hwd hl => h H locs ls hwd hl) hw hwd hl

set_option maxHeartbeats 4000000 in
set_option maxRecDepth 100000 in
theorem wb_Ta_numberFor_22 {K : Int32 → St → Prop} {x1 : Int32} {x2 : Int32} {t0 : Int32} {g : St} (F : fxC D cI cZ p R s m args c b_Ta_numberFor 6 R_Ta 0 0)
    (hret : rtCI D cI cZ ad p l e R s m args below meth c b_Ta_numberFor A H0 Q K)
    (hw : pb_Ta_numberFor_22 K x1 x2 t0 g)
    (hwd : wdC D cI cZ ad A H0 g H locs) (hl : lv_has ls 6 [(0, .ref (ad 15)), (1, .int x1), (2, .int x2)]) : W p l e R s m args below meth c H locs 0 0 Q (F0 m 22 ls [.int t0]) := by
  obtain ⟨hx, hb, hml, hown, hts, hK, hN, hR⟩ := F
  have F : fxC D cI cZ p R s m args c b_Ta_numberFor 6 R_Ta 0 0 := ⟨hx, hb, hml, hown, hts, hK, hN, hR⟩
  refine lv_topi (fun v1 e_v1 => ?_)
  have hw := hw v1 e_v1
  refine lv_istore_n (lv' := [(3, .int v1), (0, .ref (ad 15)), (1, .int x1), (2, .int x2)]) hx hb d_Ta_numberFor_22 rfl hl (by decide) rfl (fun ls hl => ?_)
  refine lv_aload_n hx hb d_Ta_numberFor_23 rfl (lv_at hl 1 rfl) ?_
  refine gfC_Ta_18 F hwd d_Ta_numberFor_24 ?_
  refine lv_aload_n hx hb d_Ta_numberFor_27 rfl (lv_at hl 1 rfl) ?_
  refine gfC_Ta_21 F hwd d_Ta_numberFor_28 ?_
  obtain ⟨hi, hw⟩ := hw
  refine rdC_18 F hwd hi d_Ta_numberFor_31 ?_
  refine lv_topi (fun v2 e_v2 => ?_)
  have hw := hw v2 e_v2
  refine lv_istore (lv' := [(4, .int v2), (3, .int v1), (0, .ref (ad 15)), (1, .int x1), (2, .int x2)]) hx hb d_Ta_numberFor_32 hl (by decide) rfl (fun ls hl => ?_)
  refine lv_iload_n hx hb d_Ta_numberFor_34 rfl (lv_at hl 1 rfl) ?_
  refine lv_topi (fun v3 e_v3 => ?_)
  have hw := hw v3 e_v3
  refine lv_istore (lv' := [(5, .int v3), (4, .int v2), (3, .int v1), (0, .ref (ad 15)), (1, .int x1), (2, .int x2)]) hx hb d_Ta_numberFor_35 hl (by decide) rfl (fun ls hl => ?_)
  exact wl_Ta_numberFor_37 F hret hw hwd (lv_sub hl [3, 4, 5, 2, 1, 0] rfl)

set_option maxHeartbeats 4000000 in
set_option maxRecDepth 100000 in
theorem wb_Ta_numberFor_0 {K : Int32 → St → Prop} {x1 : Int32} {x2 : Int32} {g : St} (F : fxC D cI cZ p R s m args c b_Ta_numberFor 6 R_Ta 0 0)
    (hret : rtCI D cI cZ ad p l e R s m args below meth c b_Ta_numberFor A H0 Q K)
    (hw : pb_Ta_numberFor_0 K x1 x2 g)
    (hwd : wdC D cI cZ ad A H0 g H locs) (hl : lv_has ls 6 [(0, .ref (ad 15)), (1, .int x1), (2, .int x2)]) : W p l e R s m args below meth c H locs 0 0 Q (F0 m 0 ls []) := by
  obtain ⟨hx, hb, hml, hown, hts, hK, hN, hR⟩ := F
  have F : fxC D cI cZ p R s m args c b_Ta_numberFor 6 R_Ta 0 0 := ⟨hx, hb, hml, hown, hts, hK, hN, hR⟩
  refine lv_aload_n hx hb d_Ta_numberFor_0 rfl (lv_at hl 0 rfl) ?_
  refine gfC_Ta_21 F hwd d_Ta_numberFor_1 ?_
  refine lv_if_le (tgt := 21) hx hb d_Ta_numberFor_4 (by decide) (fun hc => ?_) (fun hc => ?_)
  · have hw := hw.1 hc
    refine lv_iconst (v := 0) hx hb d_Ta_numberFor_21 (by decide) ?_
    exact wb_Ta_numberFor_22 F hret hw hwd (lv_sub hl [0, 1, 2] rfl)
  · have hw := hw.2 hc
    refine lv_aload_n hx hb d_Ta_numberFor_7 rfl (lv_at hl 0 rfl) ?_
    refine gfC_Ta_18 F hwd d_Ta_numberFor_8 ?_
    refine lv_aload_n hx hb d_Ta_numberFor_11 rfl (lv_at hl 0 rfl) ?_
    refine gfC_Ta_21 F hwd d_Ta_numberFor_12 ?_
    refine lv_iconst (v := 1) hx hb d_Ta_numberFor_15 (by decide) ?_
    refine lv_isub hx hb d_Ta_numberFor_16 ?_
    obtain ⟨hi, hw⟩ := hw
    refine rdC_18 F hwd hi d_Ta_numberFor_17 ?_
    refine lv_goto (tgt := 22) hx hb d_Ta_numberFor_18 (by decide) ?_
    exact wb_Ta_numberFor_22 F hret hw hwd (lv_sub hl [0, 1, 2] rfl)

theorem ct_Ta_numberFor {l : Launch} {D : va_G} {cI cZ : ClassId} {ad : Nat → Nat} (x1 : Int32) (x2 : Int32) (g : St) (K : Int32 → St → Prop) (h : pc_Ta_numberFor x1 x2 g K) : ctCI l y_Ta_numberFor b_Ta_numberFor 6 0 0 D cI cZ ad [.ref (ad 15), .int x1, .int x2] g K :=
  enCI (by decide) (Nat.le_of_ble_eq_true rfl) (fun p e s m args below meth c A H0 ls Q F hwd hl hret => wb_Ta_numberFor_0 F hret h hwd hl)

set_option maxHeartbeats 4000000 in
set_option maxRecDepth 100000 in
theorem wb_Co_writeTest_0 {K : St → Prop} {x1 : Int32} {x2 : Int32} {g : St} (F : fxC D cI cZ p R s m args c b_Co_writeTest 5 R_Co 2 43)
    (hret : rtCV D cI cZ ad p l e R s m args below meth c b_Co_writeTest A H0 Q K)
    (hw : pb_Co_writeTest_0 K x1 x2 g)
    (hwd : wdC D cI cZ ad A H0 g H locs) (hl : lv_has ls 5 [(0, .ref (ad 19)), (1, .int x1), (2, .int x2)]) : W p l e R s m args below meth c H locs 0 0 Q (F0 m 0 ls []) := by
  obtain ⟨hx, hb, hml, hown, hts, hK, hN, hR⟩ := F
  have F : fxC D cI cZ p R s m args c b_Co_writeTest 5 R_Co 2 43 := ⟨hx, hb, hml, hown, hts, hK, hN, hR⟩
  refine lv_iload_n hx hb d_Co_writeTest_0 rfl (lv_at hl 2 rfl) ?_
  refine mcC_Co_129 F hwd (ct_Cu_testLength _ _ _ hw) ⟨Nat.le_trans (by decide) hR.1, Nat.le_trans (by decide) hR.2⟩ hl.1 (Nat.le_of_ble_eq_true rfl) d_Co_writeTest_1 (fun v2 g1 H locs hw hwd => ?_)
  refine lv_topi (fun v3 e_v3 => ?_)
  have hw := hw v3 e_v3
  refine lv_istore_n (lv' := [(3, .int v3), (0, .ref (ad 19)), (1, .int x1), (2, .int x2)]) hx hb d_Co_writeTest_4 rfl hl (by decide) rfl (fun ls hl => ?_)
  refine lv_iload_n hx hb d_Co_writeTest_5 rfl (lv_at hl 0 rfl) ?_
  refine lv_iload_n hx hb d_Co_writeTest_6 rfl (lv_at hl 3 rfl) ?_
  refine lv_iadd hx hb d_Co_writeTest_7 ?_
  refine lv_topi (fun v4 e_v4 => ?_)
  have hw := hw v4 e_v4
  refine lv_istore (lv' := [(4, .int v4), (3, .int v3), (0, .ref (ad 19)), (1, .int x1), (2, .int x2)]) hx hb d_Co_writeTest_8 hl (by decide) rfl (fun ls hl => ?_)
  refine lv_iload_n hx hb d_Co_writeTest_10 rfl (lv_at hl 1 rfl) ?_
  refine lv_iconst (v := 2) hx hb d_Co_writeTest_11 (by decide) ?_
  refine lv_icmp_ne (tgt := 26) hx hb d_Co_writeTest_12 (by decide) (fun hc => ?_) (fun hc => ?_)
  · have hw := hw.1 hc
    refine lv_aload_n hx hb d_Co_writeTest_26 rfl (lv_at hl 2 rfl) ?_
    refine lv_bipush (v := 20) hx hb d_Co_writeTest_27 (by decide) ?_
    refine lv_iload_n hx hb d_Co_writeTest_29 rfl (lv_at hl 3 rfl) ?_
    refine lv_iadd hx hb d_Co_writeTest_30 ?_
    refine lv_iload hx hb d_Co_writeTest_31 (lv_at hl 0 rfl) ?_
    refine lv_bipush (v := 8) hx hb d_Co_writeTest_33 (by decide) ?_
    refine lv_ishr hx hb d_Co_writeTest_35 ?_
    refine mcC_Co_94 F hwd (ct_Co_writePair _ _ _ _ hw) ⟨Nat.le_trans (by decide) hR.1, Nat.le_trans (by decide) hR.2⟩ hl.1 (Nat.le_of_ble_eq_true rfl) d_Co_writeTest_36 (fun g5 H locs hw hwd => ?_)
    refine lv_aload_n hx hb d_Co_writeTest_39 rfl (lv_at hl 2 rfl) ?_
    refine lv_iload hx hb d_Co_writeTest_40 (lv_at hl 0 rfl) ?_
    refine lv_sipush (v := 255) hx hb d_Co_writeTest_42 (by decide) ?_
    refine lv_iand hx hb d_Co_writeTest_45 ?_
    refine mcC_Co_108 F hwd (ct_Co_writeByte _ _ _ hw) ⟨Nat.le_trans (by decide) hR.1, Nat.le_trans (by decide) hR.2⟩ hl.1 (Nat.le_of_ble_eq_true rfl) d_Co_writeTest_46 (fun g6 H locs hw hwd => ?_)
    exact hret _ _ _ hw hwd _ _ d_Co_writeTest_49
  · have hw := hw.2 hc
    refine lv_aload_n hx hb d_Co_writeTest_15 rfl (lv_at hl 2 rfl) ?_
    refine lv_bipush (v := 10) hx hb d_Co_writeTest_16 (by decide) ?_
    refine lv_iload_n hx hb d_Co_writeTest_18 rfl (lv_at hl 3 rfl) ?_
    refine lv_iadd hx hb d_Co_writeTest_19 ?_
    refine lv_iload hx hb d_Co_writeTest_20 (lv_at hl 0 rfl) ?_
    refine mcC_Co_94 F hwd (ct_Co_writePair _ _ _ _ hw) ⟨Nat.le_trans (by decide) hR.1, Nat.le_trans (by decide) hR.2⟩ hl.1 (Nat.le_of_ble_eq_true rfl) d_Co_writeTest_22 (fun g7 H locs hw hwd => ?_)
    exact hret _ _ _ hw hwd _ _ d_Co_writeTest_25

theorem ct_Co_writeTest {l : Launch} {D : va_G} {cI cZ : ClassId} {ad : Nat → Nat} (x1 : Int32) (x2 : Int32) (g : St) (K : St → Prop) (h : pc_Co_writeTest x1 x2 g K) : ctCV l y_Co_writeTest b_Co_writeTest 5 2 43 D cI cZ ad [.ref (ad 19), .int x1, .int x2] g K :=
  enCV (by decide) (Nat.le_of_ble_eq_true rfl) (fun p e s m args below meth c A H0 ls Q F hwd hl hret => wb_Co_writeTest_0 F hret h hwd hl)

set_option maxHeartbeats 4000000 in
set_option maxRecDepth 100000 in
theorem wb_Co_writePart_0 {rc : Int32 → Int32 → St → (St → Prop) → Prop} {K : St → Prop} {x1 : Int32} {x2 : Int32} {g : St} (F : fxC D cI cZ p R s m args c b_Co_writePart 4 R_Co 2 43)
    (hret : rtCV D cI cZ ad p l e R s m args below meth c b_Co_writePart A H0 Q K) {f lo : Nat} (hrc : ∀ (y1 y2 : Int32) (g : St) (K : St → Prop), rc y1 y2 g K → ctCV l y_Co_writeCode b_Co_writeCode 4 f lo D cI cZ ad [.ref (ad 19), .int y1, .int y2] g K) (hf0 : 3 ≤ f ∧ 67 ≤ lo) (hRr : f + 1 ≤ R.frames ∧ lo + 23 ≤ R.locals)
    (hw : pb_Co_writePart_0 rc K x1 x2 g)
    (hwd : wdC D cI cZ ad A H0 g H locs) (hl : lv_has ls 4 [(0, .ref (ad 19)), (1, .int x1), (2, .int x2)]) : W p l e R s m args below meth c H locs 0 0 Q (F0 m 0 ls []) := by
  obtain ⟨hx, hb, hml, hown, hts, hK, hN, hR⟩ := F
  have F : fxC D cI cZ p R s m args c b_Co_writePart 4 R_Co 2 43 := ⟨hx, hb, hml, hown, hts, hK, hN, hR⟩
  refine lv_aload_n hx hb d_Co_writePart_0 rfl (lv_at hl 0 rfl) ?_
  refine gfC_Co_28 F hwd d_Co_writePart_1 ?_
  refine gfC_Co_64 F hwd d_Co_writePart_4 ?_
  refine lv_iload_n hx hb d_Co_writePart_7 rfl (lv_at hl 1 rfl) ?_
  obtain ⟨hi, hw⟩ := hw
  refine rdC_13 F hwd hi d_Co_writePart_8 ?_
  refine lv_topi (fun v1 e_v1 => ?_)
  have hw := hw v1 e_v1
  refine lv_istore_n (lv' := [(3, .int v1), (0, .ref (ad 19)), (1, .int x1), (2, .int x2)]) hx hb d_Co_writePart_9 rfl hl (by decide) rfl (fun ls hl => ?_)
  refine lv_iload_n hx hb d_Co_writePart_10 rfl (lv_at hl 0 rfl) ?_
  refine lv_iconst (v := -1) hx hb d_Co_writePart_11 (by decide) ?_
  refine lv_icmp_ne (tgt := 22) hx hb d_Co_writePart_12 (by decide) (fun hc => ?_) (fun hc => ?_)
  · have hw := hw.1 hc
    refine lv_aload_n hx hb d_Co_writePart_22 rfl (lv_at hl 1 rfl) ?_
    refine lv_iconst (v := 4) hx hb d_Co_writePart_23 (by decide) ?_
    refine lv_aload_n hx hb d_Co_writePart_24 rfl (lv_at hl 1 rfl) ?_
    refine gfC_Co_32 F hwd d_Co_writePart_25 ?_
    refine lv_iconst (v := 4) hx hb d_Co_writePart_28 (by decide) ?_
    refine lv_iload_n hx hb d_Co_writePart_29 rfl (lv_at hl 0 rfl) ?_
    refine mcC_Co_104 F hwd (ct_Ta_numberFor _ _ _ _ hw) ⟨Nat.le_trans (by decide) hR.1, Nat.le_trans (by decide) hR.2⟩ hl.1 (Nat.le_of_ble_eq_true rfl) d_Co_writePart_30 (fun v3 g2 H locs hw hwd => ?_)
    refine mcC_Co_94 F hwd (ct_Co_writePair _ _ _ _ hw) ⟨Nat.le_trans (by decide) hR.1, Nat.le_trans (by decide) hR.2⟩ hl.1 (Nat.le_of_ble_eq_true rfl) d_Co_writePart_33 (fun g4 H locs hw hwd => ?_)
    refine lv_aload_n hx hb d_Co_writePart_36 rfl (lv_at hl 1 rfl) ?_
    refine lv_iconst (v := 3) hx hb d_Co_writePart_37 (by decide) ?_
    refine mcC_Co_108 F hwd (ct_Co_writeByte _ _ _ hw) ⟨Nat.le_trans (by decide) hR.1, Nat.le_trans (by decide) hR.2⟩ hl.1 (Nat.le_of_ble_eq_true rfl) d_Co_writePart_38 (fun g5 H locs hw hwd => ?_)
    exact hret _ _ _ hw hwd _ _ d_Co_writePart_41
  · have hw := hw.2 hc
    refine lv_aload_n hx hb d_Co_writePart_15 rfl (lv_at hl 1 rfl) ?_
    refine lv_iload_n hx hb d_Co_writePart_16 rfl (lv_at hl 2 rfl) ?_
    refine lv_iload_n hx hb d_Co_writePart_17 rfl (lv_at hl 3 rfl) ?_
    refine mcC_Co_77 F hwd (hrc _ _ _ _ hw) ⟨by have := hRr.1; omega, by have := hRr.2; omega⟩ hl.1 (Nat.le_of_ble_eq_true rfl) d_Co_writePart_18 (fun g6 H locs hw hwd => ?_)
    exact hret _ _ _ hw hwd _ _ d_Co_writePart_21

theorem ct_Co_writePart {l : Launch} {D : va_G} {cI cZ : ClassId} {ad : Nat → Nat} {rc : Int32 → Int32 → St → (St → Prop) → Prop} {f lo : Nat} (hrc : ∀ (y1 y2 : Int32) (g : St) (K : St → Prop), rc y1 y2 g K → ctCV l y_Co_writeCode b_Co_writeCode 4 f lo D cI cZ ad [.ref (ad 19), .int y1, .int y2] g K) (hf0 : 3 ≤ f ∧ 67 ≤ lo) (x1 : Int32) (x2 : Int32) (g : St) (K : St → Prop) (h : pc_Co_writePart rc x1 x2 g K) : ctCV l y_Co_writePart b_Co_writePart 4 (f + 1) (lo + 23) D cI cZ ad [.ref (ad 19), .int x1, .int x2] g K := by
  refine enCV (by decide) (Nat.le_of_ble_eq_true rfl) (fun p e s m args below meth c A H0 ls Q F hwd hl hret => ?_)
  have F : fxC D cI cZ p { frames := f + 1, cells := 0, slots := 0, locals := lo + 23 } s m args c b_Co_writePart 4 R_Co 2 43 := ⟨F.1, F.2.1, F.2.2.1, F.2.2.2.1, F.2.2.2.2.1, F.2.2.2.2.2.1, F.2.2.2.2.2.2.1, by show 2 ≤ f + 1; omega, by show 43 ≤ lo + 23; omega⟩
  exact wb_Co_writePart_0 F hret hrc hf0 ⟨Nat.le_refl _, Nat.le_refl _⟩ h hwd hl
end WALKC1
end
section
section WALKC2
variable {p : Program} {l : Launch} {e : Env} {R : Room} {s : State} {m : MethodId} {args : Array Value} {below : List Frame} {meth : Method} {c : Code} {H : Heap} {locs : List Loc} {Q : State → Prop}
variable {D : va_G} {cI cZ : ClassId} {ad : Nat → Nat} {A : Nat → Prop} {H0 : Heap} {ls : Array Slot}
set_option maxHeartbeats 4000000 in
set_option maxRecDepth 100000 in
theorem wb_Co_writeCode_34 {rc : Int32 → Int32 → St → (St → Prop) → Prop} {K : St → Prop} {x1 : Int32} {x2 : Int32} {x3 : Int32} {g : St} (F : fxC D cI cZ p R s m args c b_Co_writeCode 4 R_Co 3 67)
    (hret : rtCV D cI cZ ad p l e R s m args below meth c b_Co_writeCode A H0 Q K) {f lo : Nat} (hrc : ∀ (y1 y2 : Int32) (g : St) (K : St → Prop), rc y1 y2 g K → ctCV l y_Co_writeCode b_Co_writeCode 4 f lo D cI cZ ad [.ref (ad 19), .int y1, .int y2] g K) (hf0 : 3 ≤ f ∧ 67 ≤ lo) (hRr : f + 2 ≤ R.frames ∧ lo + 46 ≤ R.locals)
    (hw : pb_Co_writeCode_34 rc K x1 x2 x3 g)
    (hwd : wdC D cI cZ ad A H0 g H locs) (hl : lv_has ls 4 [(0, .ref (ad 19)), (1, .int x1), (2, .int x2), (3, .int x3)]) : W p l e R s m args below meth c H locs 0 0 Q (F0 m 34 ls []) := by
  obtain ⟨hx, hb, hml, hown, hts, hK, hN, hR⟩ := F
  have F : fxC D cI cZ p R s m args c b_Co_writeCode 4 R_Co 3 67 := ⟨hx, hb, hml, hown, hts, hK, hN, hR⟩
  refine lv_aload_n hx hb d_Co_writeCode_34 rfl (lv_at hl 0 rfl) ?_
  refine lv_iconst (v := 2) hx hb d_Co_writeCode_35 (by decide) ?_
  refine lv_aload_n hx hb d_Co_writeCode_36 rfl (lv_at hl 0 rfl) ?_
  refine gfC_Co_32 F hwd d_Co_writeCode_37 ?_
  refine lv_aload_n hx hb d_Co_writeCode_40 rfl (lv_at hl 0 rfl) ?_
  refine gfC_Co_24 F hwd d_Co_writeCode_41 ?_
  refine lv_iload_n hx hb d_Co_writeCode_44 rfl (lv_at hl 1 rfl) ?_
  refine mcC_Co_97 F hwd (ct_Fo_kindOfEntry _ _ _ hw) ⟨Nat.le_trans (by decide) hR.1, Nat.le_trans (by decide) hR.2⟩ hl.1 (Nat.le_of_ble_eq_true rfl) d_Co_writeCode_45 (fun v2 g1 H locs hw hwd => ?_)
  refine lv_aload_n hx hb d_Co_writeCode_48 rfl (lv_at hl 0 rfl) ?_
  refine gfC_Co_24 F hwd d_Co_writeCode_49 ?_
  refine gfC_Co_101 F hwd d_Co_writeCode_52 ?_
  refine lv_iload_n hx hb d_Co_writeCode_55 rfl (lv_at hl 1 rfl) ?_
  obtain ⟨hi, hw⟩ := hw
  refine rdC_5 F hwd hi d_Co_writeCode_56 ?_
  refine mcC_Co_104 F hwd (ct_Ta_numberFor _ _ _ _ hw) ⟨Nat.le_trans (by decide) hR.1, Nat.le_trans (by decide) hR.2⟩ hl.1 (Nat.le_of_ble_eq_true rfl) d_Co_writeCode_57 (fun v4 g3 H locs hw hwd => ?_)
  refine mcC_Co_94 F hwd (ct_Co_writePair _ _ _ _ hw) ⟨Nat.le_trans (by decide) hR.1, Nat.le_trans (by decide) hR.2⟩ hl.1 (Nat.le_of_ble_eq_true rfl) d_Co_writeCode_60 (fun g5 H locs hw hwd => ?_)
  refine lv_iload_n hx hb d_Co_writeCode_63 rfl (lv_at hl 3 rfl) ?_
  refine lv_if_eq (tgt := 73) hx hb d_Co_writeCode_64 (by decide) (fun hc => ?_) (fun hc => ?_)
  · have hw := hw.1 hc
    refine lv_aload_n hx hb d_Co_writeCode_73 rfl (lv_at hl 0 rfl) ?_
    refine lv_aload_n hx hb d_Co_writeCode_74 rfl (lv_at hl 0 rfl) ?_
    refine gfC_Co_24 F hwd d_Co_writeCode_75 ?_
    refine gfC_Co_111 F hwd d_Co_writeCode_78 ?_
    refine lv_iload_n hx hb d_Co_writeCode_81 rfl (lv_at hl 1 rfl) ?_
    obtain ⟨hi, hw⟩ := hw
    refine rdC_3 F hwd hi d_Co_writeCode_82 ?_
    refine lv_aload_n hx hb d_Co_writeCode_83 rfl (lv_at hl 0 rfl) ?_
    refine gfC_Co_28 F hwd d_Co_writeCode_84 ?_
    refine lv_aload_n hx hb d_Co_writeCode_87 rfl (lv_at hl 0 rfl) ?_
    refine gfC_Co_24 F hwd d_Co_writeCode_88 ?_
    refine gfC_Co_114 F hwd d_Co_writeCode_91 ?_
    refine lv_iload_n hx hb d_Co_writeCode_94 rfl (lv_at hl 1 rfl) ?_
    obtain ⟨hi, hw⟩ := hw
    refine rdC_6 F hwd hi d_Co_writeCode_95 ?_
    refine mcC_Co_117 F hwd (ct_Cu_partLength _ _ _ hw) ⟨Nat.le_trans (by decide) hR.1, Nat.le_trans (by decide) hR.2⟩ hl.1 (Nat.le_of_ble_eq_true rfl) d_Co_writeCode_96 (fun v7 g6 H locs hw hwd => ?_)
    refine mcC_Co_120 F hwd (ct_Co_writeTest _ _ _ _ hw) ⟨Nat.le_trans (by decide) hR.1, Nat.le_trans (by decide) hR.2⟩ hl.1 (Nat.le_of_ble_eq_true rfl) d_Co_writeCode_99 (fun g8 H locs hw hwd => ?_)
    refine lv_aload_n hx hb d_Co_writeCode_102 rfl (lv_at hl 0 rfl) ?_
    refine lv_aload_n hx hb d_Co_writeCode_103 rfl (lv_at hl 0 rfl) ?_
    refine gfC_Co_24 F hwd d_Co_writeCode_104 ?_
    refine gfC_Co_114 F hwd d_Co_writeCode_107 ?_
    refine lv_iload_n hx hb d_Co_writeCode_110 rfl (lv_at hl 1 rfl) ?_
    obtain ⟨hi, hw⟩ := hw
    refine rdC_6 F hwd hi d_Co_writeCode_111 ?_
    refine lv_iload_n hx hb d_Co_writeCode_112 rfl (lv_at hl 2 rfl) ?_
    refine lv_iconst (v := 1) hx hb d_Co_writeCode_113 (by decide) ?_
    refine lv_iadd hx hb d_Co_writeCode_114 ?_
    refine mcC_Co_123 F hwd (ct_Co_writePart hrc hf0 _ _ _ _ hw) ⟨by have := hRr.1; omega, by have := hRr.2; omega⟩ hl.1 (Nat.le_of_ble_eq_true rfl) d_Co_writeCode_115 (fun g9 H locs hw hwd => ?_)
    refine lv_aload_n hx hb d_Co_writeCode_118 rfl (lv_at hl 0 rfl) ?_
    refine lv_aload_n hx hb d_Co_writeCode_119 rfl (lv_at hl 0 rfl) ?_
    refine gfC_Co_24 F hwd d_Co_writeCode_120 ?_
    refine gfC_Co_126 F hwd d_Co_writeCode_123 ?_
    refine lv_iload_n hx hb d_Co_writeCode_126 rfl (lv_at hl 1 rfl) ?_
    obtain ⟨hi, hw⟩ := hw
    refine rdC_7 F hwd hi d_Co_writeCode_127 ?_
    refine lv_iload_n hx hb d_Co_writeCode_128 rfl (lv_at hl 2 rfl) ?_
    refine lv_iconst (v := 1) hx hb d_Co_writeCode_129 (by decide) ?_
    refine lv_iadd hx hb d_Co_writeCode_130 ?_
    refine mcC_Co_123 F hwd (ct_Co_writePart hrc hf0 _ _ _ _ hw) ⟨by have := hRr.1; omega, by have := hRr.2; omega⟩ hl.1 (Nat.le_of_ble_eq_true rfl) d_Co_writeCode_131 (fun g10 H locs hw hwd => ?_)
    exact hret _ _ _ hw hwd _ _ d_Co_writeCode_134
  · have hw := hw.2 hc
    refine lv_aload_n hx hb d_Co_writeCode_67 rfl (lv_at hl 0 rfl) ?_
    refine lv_iconst (v := 3) hx hb d_Co_writeCode_68 (by decide) ?_
    refine mcC_Co_108 F hwd (ct_Co_writeByte _ _ _ hw) ⟨Nat.le_trans (by decide) hR.1, Nat.le_trans (by decide) hR.2⟩ hl.1 (Nat.le_of_ble_eq_true rfl) d_Co_writeCode_69 (fun g11 H locs hw hwd => ?_)
    exact hret _ _ _ hw hwd _ _ d_Co_writeCode_72

set_option maxHeartbeats 4000000 in
set_option maxRecDepth 100000 in
theorem wb_Co_writeCode_0 {rc : Int32 → Int32 → St → (St → Prop) → Prop} {K : St → Prop} {x1 : Int32} {x2 : Int32} {g : St} (F : fxC D cI cZ p R s m args c b_Co_writeCode 4 R_Co 3 67)
    (hret : rtCV D cI cZ ad p l e R s m args below meth c b_Co_writeCode A H0 Q K) {f lo : Nat} (hrc : ∀ (y1 y2 : Int32) (g : St) (K : St → Prop), rc y1 y2 g K → ctCV l y_Co_writeCode b_Co_writeCode 4 f lo D cI cZ ad [.ref (ad 19), .int y1, .int y2] g K) (hf0 : 3 ≤ f ∧ 67 ≤ lo) (hRr : f + 2 ≤ R.frames ∧ lo + 46 ≤ R.locals)
    (hw : pb_Co_writeCode_0 rc K x1 x2 g)
    (hwd : wdC D cI cZ ad A H0 g H locs) (hl : lv_has ls 4 [(0, .ref (ad 19)), (1, .int x1), (2, .int x2)]) : W p l e R s m args below meth c H locs 0 0 Q (F0 m 0 ls []) := by
  obtain ⟨hx, hb, hml, hown, hts, hK, hN, hR⟩ := F
  have F : fxC D cI cZ p R s m args c b_Co_writeCode 4 R_Co 3 67 := ⟨hx, hb, hml, hown, hts, hK, hN, hR⟩
  refine lv_iload_n hx hb d_Co_writeCode_0 rfl (lv_at hl 2 rfl) ?_
  refine lv_bipush (v := 12) hx hb d_Co_writeCode_1 (by decide) ?_
  refine lv_icmp_le (tgt := 7) hx hb d_Co_writeCode_3 (by decide) (fun hc => ?_) (fun hc => ?_)
  · have hw := hw.1 hc
    refine lv_aload_n hx hb d_Co_writeCode_7 rfl (lv_at hl 0 rfl) ?_
    refine gfC_Co_24 F hwd d_Co_writeCode_8 ?_
    refine lv_iload_n hx hb d_Co_writeCode_11 rfl (lv_at hl 1 rfl) ?_
    refine mcC_Co_87 F hwd (ct_Fo_isLeaf _ _ _ hw) ⟨Nat.le_trans (by decide) hR.1, Nat.le_trans (by decide) hR.2⟩ hl.1 (Nat.le_of_ble_eq_true rfl) d_Co_writeCode_12 (fun v2 g1 H locs hw hwd => ?_)
    refine lv_topi (fun v3 e_v3 => ?_)
    have hw := hw v3 e_v3
    refine lv_istore_n (lv' := [(3, .int v3), (0, .ref (ad 19)), (1, .int x1), (2, .int x2)]) hx hb d_Co_writeCode_15 rfl hl (by decide) rfl (fun ls hl => ?_)
    refine lv_iload_n hx hb d_Co_writeCode_16 rfl (lv_at hl 0 rfl) ?_
    refine lv_if_ne (tgt := 34) hx hb d_Co_writeCode_17 (by decide) (fun hc => ?_) (fun hc => ?_)
    · have hw := hw.1 hc
      exact wb_Co_writeCode_34 F hret hrc hf0 hRr hw hwd (lv_sub hl [1, 2, 3, 0] rfl)
    · have hw := hw.2 hc
      refine lv_aload_n hx hb d_Co_writeCode_20 rfl (lv_at hl 1 rfl) ?_
      refine lv_iconst (v := 1) hx hb d_Co_writeCode_21 (by decide) ?_
      refine lv_aload_n hx hb d_Co_writeCode_22 rfl (lv_at hl 1 rfl) ?_
      refine gfC_Co_24 F hwd d_Co_writeCode_23 ?_
      refine gfC_Co_91 F hwd d_Co_writeCode_26 ?_
      refine lv_iload_n hx hb d_Co_writeCode_29 rfl (lv_at hl 2 rfl) ?_
      obtain ⟨hi, hw⟩ := hw
      refine rdC_4 F hwd hi d_Co_writeCode_30 ?_
      refine mcC_Co_94 F hwd (ct_Co_writePair _ _ _ _ hw) ⟨Nat.le_trans (by decide) hR.1, Nat.le_trans (by decide) hR.2⟩ hl.1 (Nat.le_of_ble_eq_true rfl) d_Co_writeCode_31 (fun g4 H locs hw hwd => ?_)
      exact wb_Co_writeCode_34 F hret hrc hf0 hRr hw hwd (lv_sub hl [1, 2, 3, 0] rfl)
  · have hw := hw.2 hc
    exact hret _ _ _ hw hwd _ _ d_Co_writeCode_6

theorem ct_Co_writeCode {l : Launch} {D : va_G} {cI cZ : ClassId} {ad : Nat → Nat} : ∀ (d : Nat) (x1 : Int32) (x2 : Int32) (g : St) (K : St → Prop), pc_Co_writeCode d x1 x2 g K → ctCV l y_Co_writeCode b_Co_writeCode 4 (3 + d * 2) (67 + d * 46) D cI cZ ad [.ref (ad 19), .int x1, .int x2] g K := by
  intro d
  induction d with
  | zero => intro x1 x2 g K h; exact h.elim
  | succ d ih =>
    intro x1 x2 g K h
    refine enCV (by decide) (Nat.le_of_ble_eq_true rfl) (fun p e s m args below meth c A H0 ls Q F hwd hl hret => ?_)
    have F : fxC D cI cZ p { frames := 3 + (d + 1) * 2, cells := 0, slots := 0, locals := 67 + (d + 1) * 46 } s m args c b_Co_writeCode 4 R_Co 3 67 := ⟨F.1, F.2.1, F.2.2.1, F.2.2.2.1, F.2.2.2.2.1, F.2.2.2.2.2.1, F.2.2.2.2.2.2.1, by show 3 ≤ 3 + (d + 1) * 2; omega, by show 67 ≤ 67 + (d + 1) * 46; omega⟩
    exact wb_Co_writeCode_0 F hret (f := 3 + d * 2) (lo := 67 + d * 46) ih ⟨by omega, by omega⟩ ⟨by show 3 + d * 2 + 2 ≤ 3 + (d + 1) * 2; omega, by show 67 + d * 46 + 46 ≤ 67 + (d + 1) * 46; omega⟩ h hwd hl

set_option maxHeartbeats 4000000 in
set_option maxRecDepth 100000 in
theorem wb_Ta_shrinkLatest_0 {K : St → Prop} {x1 : Int32} {g : St} (F : fxC D cI cZ p R s m args c b_Ta_shrinkLatest 2 R_Ta 0 0)
    (hret : rtCV D cI cZ ad p l e R s m args below meth c b_Ta_shrinkLatest A H0 Q K)
    (hw : pb_Ta_shrinkLatest_0 K x1 g)
    (hwd : wdC D cI cZ ad A H0 g H locs) (hl : lv_has ls 2 [(0, .ref (ad 15)), (1, .int x1)]) : W p l e R s m args below meth c H locs 0 0 Q (F0 m 0 ls []) := by
  obtain ⟨hx, hb, hml, hown, hts, hK, hN, hR⟩ := F
  have F : fxC D cI cZ p R s m args c b_Ta_shrinkLatest 2 R_Ta 0 0 := ⟨hx, hb, hml, hown, hts, hK, hN, hR⟩
  refine lv_aload_n hx hb d_Ta_shrinkLatest_0 rfl (lv_at hl 0 rfl) ?_
  refine gfC_Ta_21 F hwd d_Ta_shrinkLatest_1 ?_
  refine lv_if_le (tgt := 29) hx hb d_Ta_shrinkLatest_4 (by decide) (fun hc => ?_) (fun hc => ?_)
  · have hw := hw.1 hc
    exact hret _ _ _ hw hwd _ _ d_Ta_shrinkLatest_29
  · have hw := hw.2 hc
    refine lv_aload_n hx hb d_Ta_shrinkLatest_7 rfl (lv_at hl 0 rfl) ?_
    refine gfC_Ta_18 F hwd d_Ta_shrinkLatest_8 ?_
    refine lv_aload_n hx hb d_Ta_shrinkLatest_11 rfl (lv_at hl 0 rfl) ?_
    refine gfC_Ta_21 F hwd d_Ta_shrinkLatest_12 ?_
    refine lv_aload_n hx hb d_Ta_shrinkLatest_15 rfl (lv_at hl 0 rfl) ?_
    refine gfC_Ta_18 F hwd d_Ta_shrinkLatest_16 ?_
    refine lv_aload_n hx hb d_Ta_shrinkLatest_19 rfl (lv_at hl 0 rfl) ?_
    refine gfC_Ta_21 F hwd d_Ta_shrinkLatest_20 ?_
    refine lv_iconst (v := 1) hx hb d_Ta_shrinkLatest_23 (by decide) ?_
    refine lv_isub hx hb d_Ta_shrinkLatest_24 ?_
    obtain ⟨hi, hw⟩ := hw
    refine rdC_18 F hwd hi d_Ta_shrinkLatest_25 ?_
    refine lv_iload_n hx hb d_Ta_shrinkLatest_26 rfl (lv_at hl 1 rfl) ?_
    refine lv_iadd hx hb d_Ta_shrinkLatest_27 ?_
    obtain ⟨hi, hw⟩ := hw
    refine wrC_18 F hwd hi d_Ta_shrinkLatest_28 (fun H locs hwd => ?_)
    obtain ⟨g1, e_g1⟩ : ∃ z : St, z = ar g 18 (g 103 0) ((g 18 (((g 103 0) - (1 : Int32))).toNatClampNeg) + x1) := ⟨_, rfl⟩
    have hwd : wdC D cI cZ ad A H0 g1 H locs := by rw [e_g1]; exact hwd
    have hw := hw g1 e_g1
    exact hret _ _ _ hw hwd _ _ d_Ta_shrinkLatest_29

theorem ct_Ta_shrinkLatest {l : Launch} {D : va_G} {cI cZ : ClassId} {ad : Nat → Nat} (x1 : Int32) (g : St) (K : St → Prop) (h : pc_Ta_shrinkLatest x1 g K) : ctCV l y_Ta_shrinkLatest b_Ta_shrinkLatest 2 0 0 D cI cZ ad [.ref (ad 15), .int x1] g K :=
  enCV (by decide) (Nat.le_of_ble_eq_true rfl) (fun p e s m args below meth c A H0 ls Q F hwd hl hret => wb_Ta_shrinkLatest_0 F hret h hwd hl)

set_option maxHeartbeats 4000000 in
set_option maxRecDepth 100000 in
theorem wb_Co_writeMethod_82 {K : St → Prop} {x1 : Int32} {x2 : Int32} {x3 : Int32} {g : St} (F : fxC D cI cZ p R s m args c b_Co_writeMethod 4 R_Co 32 734)
    (hret : rtCV D cI cZ ad p l e R s m args below meth c b_Co_writeMethod A H0 Q K)
    (hw : pb_Co_writeMethod_82 K x1 x2 x3 g)
    (hwd : wdC D cI cZ ad A H0 g H locs) (hl : lv_has ls 4 [(0, .ref (ad 19)), (1, .int x1), (2, .int x2), (3, .int x3)]) : W p l e R s m args below meth c H locs 0 0 Q (F0 m 82 ls []) := by
  obtain ⟨hx, hb, hml, hown, hts, hK, hN, hR⟩ := F
  have F : fxC D cI cZ p R s m args c b_Co_writeMethod 4 R_Co 32 734 := ⟨hx, hb, hml, hown, hts, hK, hN, hR⟩
  refine lv_aload_n hx hb d_Co_writeMethod_82 rfl (lv_at hl 0 rfl) ?_
  refine gfC_Co_15 F hwd d_Co_writeMethod_83 ?_
  refine lv_iload_n hx hb d_Co_writeMethod_86 rfl (lv_at hl 1 rfl) ?_
  refine lv_iconst (v := 1) hx hb d_Co_writeMethod_87 (by decide) ?_
  refine lv_iadd hx hb d_Co_writeMethod_88 ?_
  refine lv_aload_n hx hb d_Co_writeMethod_89 rfl (lv_at hl 0 rfl) ?_
  refine gfC_Co_40 F hwd d_Co_writeMethod_90 ?_
  obtain ⟨hi, hw⟩ := hw
  refine wrC_21 F hwd hi d_Co_writeMethod_93 (fun H locs hwd => ?_)
  obtain ⟨g1, e_g1⟩ : ∃ z : St, z = ar g 21 (x1 + (1 : Int32)) (g 104 0) := ⟨_, rfl⟩
  have hwd : wdC D cI cZ ad A H0 g1 H locs := by rw [e_g1]; exact hwd
  have hw := hw g1 e_g1
  refine lv_aload_n hx hb d_Co_writeMethod_94 rfl (lv_at hl 0 rfl) ?_
  refine gfC_Co_18 F hwd d_Co_writeMethod_95 ?_
  refine lv_iload_n hx hb d_Co_writeMethod_98 rfl (lv_at hl 1 rfl) ?_
  refine lv_aload_n hx hb d_Co_writeMethod_99 rfl (lv_at hl 0 rfl) ?_
  refine gfC_Co_32 F hwd d_Co_writeMethod_100 ?_
  refine gfC_Co_84 F hwd d_Co_writeMethod_103 ?_
  refine lv_iconst (v := 1) hx hb d_Co_writeMethod_106 (by decide) ?_
  refine lv_isub hx hb d_Co_writeMethod_107 ?_
  obtain ⟨hi, hw⟩ := hw
  refine wrC_22 F hwd hi d_Co_writeMethod_108 (fun H locs hwd => ?_)
  obtain ⟨g2, e_g2⟩ : ∃ z : St, z = ar g1 22 x1 ((g1 103 0) - (1 : Int32)) := ⟨_, rfl⟩
  have hwd : wdC D cI cZ ad A H0 g2 H locs := by rw [e_g2]; exact hwd
  have hw := hw g2 e_g2
  exact hret _ _ _ hw hwd _ _ d_Co_writeMethod_109

set_option maxHeartbeats 4000000 in
set_option maxRecDepth 100000 in
theorem wb_Co_writeMethod_0 {K : St → Prop} {x1 : Int32} {x2 : Int32} {g : St} (F : fxC D cI cZ p R s m args c b_Co_writeMethod 4 R_Co 32 734)
    (hret : rtCV D cI cZ ad p l e R s m args below meth c b_Co_writeMethod A H0 Q K)
    (hw : pb_Co_writeMethod_0 K x1 x2 g)
    (hwd : wdC D cI cZ ad A H0 g H locs) (hl : lv_has ls 4 [(0, .ref (ad 19)), (1, .int x1), (2, .int x2)]) : W p l e R s m args below meth c H locs 0 0 Q (F0 m 0 ls []) := by
  obtain ⟨hx, hb, hml, hown, hts, hK, hN, hR⟩ := F
  have F : fxC D cI cZ p R s m args c b_Co_writeMethod 4 R_Co 32 734 := ⟨hx, hb, hml, hown, hts, hK, hN, hR⟩
  refine lv_aload_n hx hb d_Co_writeMethod_0 rfl (lv_at hl 0 rfl) ?_
  refine gfC_Co_32 F hwd d_Co_writeMethod_1 ?_
  refine mcC_Co_70 F hwd (ct_Ta_latestSize  _ _ hw) ⟨Nat.le_trans (by decide) hR.1, Nat.le_trans (by decide) hR.2⟩ hl.1 (Nat.le_of_ble_eq_true rfl) d_Co_writeMethod_4 (fun v2 g1 H locs hw hwd => ?_)
  refine lv_topi (fun v3 e_v3 => ?_)
  have hw := hw v3 e_v3
  refine lv_istore_n (lv' := [(3, .int v3), (0, .ref (ad 19)), (1, .int x1), (2, .int x2)]) hx hb d_Co_writeMethod_7 rfl hl (by decide) rfl (fun ls hl => ?_)
  refine lv_aload_n hx hb d_Co_writeMethod_8 rfl (lv_at hl 1 rfl) ?_
  refine gfC_Co_15 F hwd d_Co_writeMethod_9 ?_
  refine lv_iload_n hx hb d_Co_writeMethod_12 rfl (lv_at hl 2 rfl) ?_
  refine lv_aload_n hx hb d_Co_writeMethod_13 rfl (lv_at hl 1 rfl) ?_
  refine gfC_Co_40 F hwd d_Co_writeMethod_14 ?_
  obtain ⟨hi, hw⟩ := hw
  refine wrC_21 F hwd hi d_Co_writeMethod_17 (fun H locs hwd => ?_)
  obtain ⟨g4, e_g4⟩ : ∃ z : St, z = ar g1 21 x1 (g1 104 0) := ⟨_, rfl⟩
  have hwd : wdC D cI cZ ad A H0 g4 H locs := by rw [e_g4]; exact hwd
  have hw := hw g4 e_g4
  refine lv_aload_n hx hb d_Co_writeMethod_18 rfl (lv_at hl 1 rfl) ?_
  refine lv_aload_n hx hb d_Co_writeMethod_19 rfl (lv_at hl 1 rfl) ?_
  refine gfC_Co_28 F hwd d_Co_writeMethod_20 ?_
  refine gfC_Co_74 F hwd d_Co_writeMethod_23 ?_
  refine lv_iload_n hx hb d_Co_writeMethod_26 rfl (lv_at hl 2 rfl) ?_
  obtain ⟨hi, hw⟩ := hw
  refine rdC_14 F hwd hi d_Co_writeMethod_27 ?_
  refine lv_iconst (v := 0) hx hb d_Co_writeMethod_28 (by decide) ?_
  refine mcC_Co_77 F hwd (ct_Co_writeCode 14 _ _ _ _ hw) ⟨Nat.le_trans (by decide) hR.1, Nat.le_trans (by decide) hR.2⟩ hl.1 (Nat.le_of_ble_eq_true rfl) d_Co_writeMethod_29 (fun g5 H locs hw hwd => ?_)
  refine lv_aload_n hx hb d_Co_writeMethod_32 rfl (lv_at hl 1 rfl) ?_
  refine gfC_Co_32 F hwd d_Co_writeMethod_33 ?_
  refine mcC_Co_70 F hwd (ct_Ta_latestSize  _ _ hw) ⟨Nat.le_trans (by decide) hR.1, Nat.le_trans (by decide) hR.2⟩ hl.1 (Nat.le_of_ble_eq_true rfl) d_Co_writeMethod_36 (fun v7 g6 H locs hw hwd => ?_)
  refine lv_iload_n hx hb d_Co_writeMethod_39 rfl (lv_at hl 3 rfl) ?_
  refine lv_icmp_le (tgt := 82) hx hb d_Co_writeMethod_40 (by decide) (fun hc => ?_) (fun hc => ?_)
  · have hw := hw.1 hc
    exact wb_Co_writeMethod_82 F hret hw hwd (lv_sub hl [1, 2, 3, 0] rfl)
  · have hw := hw.2 hc
    refine lv_aload_n hx hb d_Co_writeMethod_43 rfl (lv_at hl 1 rfl) ?_
    refine gfC_Co_32 F hwd d_Co_writeMethod_44 ?_
    refine lv_iload_n hx hb d_Co_writeMethod_47 rfl (lv_at hl 0 rfl) ?_
    refine mcC_Co_80 F hwd (ct_Ta_shrinkLatest _ _ _ hw) ⟨Nat.le_trans (by decide) hR.1, Nat.le_trans (by decide) hR.2⟩ hl.1 (Nat.le_of_ble_eq_true rfl) d_Co_writeMethod_48 (fun g8 H locs hw hwd => ?_)
    refine lv_aload_n hx hb d_Co_writeMethod_51 rfl (lv_at hl 1 rfl) ?_
    refine gfC_Co_32 F hwd d_Co_writeMethod_52 ?_
    refine mcC_Co_48 F hwd (ct_Ta_openClass  _ _ hw) ⟨Nat.le_trans (by decide) hR.1, Nat.le_trans (by decide) hR.2⟩ hl.1 (Nat.le_of_ble_eq_true rfl) d_Co_writeMethod_55 (fun g9 H locs hw hwd => ?_)
    refine lv_aload_n hx hb d_Co_writeMethod_58 rfl (lv_at hl 1 rfl) ?_
    refine lv_aload_n hx hb d_Co_writeMethod_59 rfl (lv_at hl 1 rfl) ?_
    refine gfC_Co_15 F hwd d_Co_writeMethod_60 ?_
    refine lv_iload_n hx hb d_Co_writeMethod_63 rfl (lv_at hl 2 rfl) ?_
    obtain ⟨hi, hw⟩ := hw
    refine rdC_21 F hwd hi d_Co_writeMethod_64 ?_
    refine pfC_Co_40 F hwd d_Co_writeMethod_65 (fun H locs hwd => ?_)
    obtain ⟨g10, e_g10⟩ : ∃ z : St, z = sc g9 104 (g9 21 (x1).toNatClampNeg) := ⟨_, rfl⟩
    have hwd : wdC D cI cZ ad A H0 g10 H locs := by rw [e_g10]; exact hwd
    have hw := hw g10 e_g10
    refine lv_aload_n hx hb d_Co_writeMethod_68 rfl (lv_at hl 1 rfl) ?_
    refine lv_aload_n hx hb d_Co_writeMethod_69 rfl (lv_at hl 1 rfl) ?_
    refine gfC_Co_28 F hwd d_Co_writeMethod_70 ?_
    refine gfC_Co_74 F hwd d_Co_writeMethod_73 ?_
    refine lv_iload_n hx hb d_Co_writeMethod_76 rfl (lv_at hl 2 rfl) ?_
    obtain ⟨hi, hw⟩ := hw
    refine rdC_14 F hwd hi d_Co_writeMethod_77 ?_
    refine lv_iconst (v := 0) hx hb d_Co_writeMethod_78 (by decide) ?_
    refine mcC_Co_77 F hwd (ct_Co_writeCode 14 _ _ _ _ hw) ⟨Nat.le_trans (by decide) hR.1, Nat.le_trans (by decide) hR.2⟩ hl.1 (Nat.le_of_ble_eq_true rfl) d_Co_writeMethod_79 (fun g11 H locs hw hwd => ?_)
    exact wb_Co_writeMethod_82 F hret hw hwd (lv_sub hl [1, 2, 3, 0] rfl)

theorem ct_Co_writeMethod {l : Launch} {D : va_G} {cI cZ : ClassId} {ad : Nat → Nat} (x1 : Int32) (x2 : Int32) (g : St) (K : St → Prop) (h : pc_Co_writeMethod x1 x2 g K) : ctCV l y_Co_writeMethod b_Co_writeMethod 4 32 734 D cI cZ ad [.ref (ad 19), .int x1, .int x2] g K :=
  enCV (by decide) (Nat.le_of_ble_eq_true rfl) (fun p e s m args below meth c A H0 ls Q F hwd hl hret => wb_Co_writeMethod_0 F hret h hwd hl)

set_option maxHeartbeats 4000000 in
set_option maxRecDepth 100000 in
theorem wb_Co_writeMethods_65 {K : St → Prop} {P65 : Int32 → Int32 → St → Prop} {x1 : Int32} {x2 : Int32} {g : St} (F : fxC D cI cZ p R s m args c b_Co_writeMethods 3 R_Co 33 757)
    (hret : rtCV D cI cZ ad p l e R s m args below meth c b_Co_writeMethods A H0 Q K) (hp65 : ∀ (x1 : Int32) (x2 : Int32) (g : St) (H : Heap) (locs : List Loc) (ls : Array Slot), P65 x1 x2 g → wdC D cI cZ ad A H0 g H locs → lv_has ls 3 [(0, .ref (ad 19)), (1, .int x1), (2, .int x2)] → W p l e R s m args below meth c H locs 0 0 Q (F0 m 65 ls []))
    (hw : pb_Co_writeMethods_65 K P65 x1 x2 g)
    (hwd : wdC D cI cZ ad A H0 g H locs) (hl : lv_has ls 3 [(0, .ref (ad 19)), (1, .int x1), (2, .int x2)]) : W p l e R s m args below meth c H locs 0 0 Q (F0 m 65 ls []) := by
  obtain ⟨hx, hb, hml, hown, hts, hK, hN, hR⟩ := F
  have F : fxC D cI cZ p R s m args c b_Co_writeMethods 3 R_Co 33 757 := ⟨hx, hb, hml, hown, hts, hK, hN, hR⟩
  refine lv_iload_n hx hb d_Co_writeMethods_65 rfl (lv_at hl 2 rfl) ?_
  refine lv_aload_n hx hb d_Co_writeMethods_66 rfl (lv_at hl 0 rfl) ?_
  refine gfC_Co_63 F hwd d_Co_writeMethods_67 ?_
  refine lv_icmp_ge (tgt := 102) hx hb d_Co_writeMethods_70 (by decide) (fun hc => ?_) (fun hc => ?_)
  · have hw := hw.1 hc
    exact hret _ _ _ hw hwd _ _ d_Co_writeMethods_102
  · have hw := hw.2 hc
    refine lv_aload_n hx hb d_Co_writeMethods_73 rfl (lv_at hl 0 rfl) ?_
    refine gfC_Co_21 F hwd d_Co_writeMethods_74 ?_
    refine lv_iload_n hx hb d_Co_writeMethods_77 rfl (lv_at hl 2 rfl) ?_
    refine lv_aload_n hx hb d_Co_writeMethods_78 rfl (lv_at hl 0 rfl) ?_
    refine gfC_Co_28 F hwd d_Co_writeMethods_79 ?_
    refine gfC_Co_64 F hwd d_Co_writeMethods_82 ?_
    refine lv_aload_n hx hb d_Co_writeMethods_85 rfl (lv_at hl 0 rfl) ?_
    refine gfC_Co_24 F hwd d_Co_writeMethods_86 ?_
    refine gfC_Co_67 F hwd d_Co_writeMethods_89 ?_
    refine lv_iload_n hx hb d_Co_writeMethods_92 rfl (lv_at hl 2 rfl) ?_
    obtain ⟨hi, hw⟩ := hw
    refine rdC_8 F hwd hi d_Co_writeMethods_93 ?_
    obtain ⟨hi, hw⟩ := hw
    refine rdC_13 F hwd hi d_Co_writeMethods_94 ?_
    obtain ⟨hi, hw⟩ := hw
    refine wrC_23 F hwd hi d_Co_writeMethods_95 (fun H locs hwd => ?_)
    obtain ⟨g1, e_g1⟩ : ∃ z : St, z = ar g 23 x2 (g 13 ((g 8 (x2).toNatClampNeg)).toNatClampNeg) := ⟨_, rfl⟩
    have hwd : wdC D cI cZ ad A H0 g1 H locs := by rw [e_g1]; exact hwd
    have hw := hw g1 e_g1
    obtain ⟨v2, e_v2⟩ : ∃ z, z = x2 + (1 : Int32) := ⟨_, rfl⟩
    have hw := hw v2 e_v2
    refine lv_iinc (k := 2) (lv' := [(2, .int v2), (0, .ref (ad 19)), (1, .int x1)]) hx hb d_Co_writeMethods_96 hl rfl e_v2.symm (by decide) rfl (fun ls hl => ?_)
    refine lv_goto (tgt := 65) hx hb d_Co_writeMethods_99 (by decide) ?_
    exact hp65 _ _ _ H locs ls hw hwd (lv_sub hl [1, 2, 0] rfl)

set_option maxHeartbeats 4000000 in
theorem wl_Co_writeMethods_65 {K : St → Prop} {x1 : Int32} {x2 : Int32} {g : St} (F : fxC D cI cZ p R s m args c b_Co_writeMethods 3 R_Co 33 757)
    (hret : rtCV D cI cZ ad p l e R s m args below meth c b_Co_writeMethods A H0 Q K)
    (hw : pl_Co_writeMethods_65 K x1 x2 g)
    (hwd : wdC D cI cZ ad A H0 g H locs) (hl : lv_has ls 3 [(0, .ref (ad 19)), (1, .int x1), (2, .int x2)]) : W p l e R s m args below meth c H locs 0 0 Q (F0 m 65 ls []) := by
  refine hw (fun x1 x2 g => ∀ (H : Heap) (locs : List Loc) (ls : Array Slot), wdC D cI cZ ad A H0 g H locs → lv_has ls 3 [(0, .ref (ad 19)), (1, .int x1), (2, .int x2)] → W p l e R s m args below meth c H locs 0 0 Q (F0 m 65 ls [])) ?_ H locs ls hwd hl
  intro x1 x2 g hw H locs ls hwd hl
  exact wb_Co_writeMethods_65 F hret (fun x1 x2 g H locs ls h hwd hl => h H locs ls hwd hl) hw hwd hl

set_option maxHeartbeats 4000000 in
set_option maxRecDepth 100000 in
theorem wb_Co_writeMethods_32 {K : St → Prop} {P32 : Int32 → Int32 → St → Prop} {x1 : Int32} {x2 : Int32} {g : St} (F : fxC D cI cZ p R s m args c b_Co_writeMethods 3 R_Co 33 757)
    (hret : rtCV D cI cZ ad p l e R s m args below meth c b_Co_writeMethods A H0 Q K) (hp32 : ∀ (x1 : Int32) (x2 : Int32) (g : St) (H : Heap) (locs : List Loc) (ls : Array Slot), P32 x1 x2 g → wdC D cI cZ ad A H0 g H locs → lv_has ls 3 [(0, .ref (ad 19)), (1, .int x1), (2, .int x2)] → W p l e R s m args below meth c H locs 0 0 Q (F0 m 32 ls []))
    (hw : pb_Co_writeMethods_32 K P32 x1 x2 g)
    (hwd : wdC D cI cZ ad A H0 g H locs) (hl : lv_has ls 3 [(0, .ref (ad 19)), (1, .int x1), (2, .int x2)]) : W p l e R s m args below meth c H locs 0 0 Q (F0 m 32 ls []) := by
  obtain ⟨hx, hb, hml, hown, hts, hK, hN, hR⟩ := F
  have F : fxC D cI cZ p R s m args c b_Co_writeMethods 3 R_Co 33 757 := ⟨hx, hb, hml, hown, hts, hK, hN, hR⟩
  refine lv_iload_n hx hb d_Co_writeMethods_32 rfl (lv_at hl 2 rfl) ?_
  refine lv_aload_n hx hb d_Co_writeMethods_33 rfl (lv_at hl 0 rfl) ?_
  refine gfC_Co_36 F hwd d_Co_writeMethods_34 ?_
  refine lv_icmp_ge (tgt := 52) hx hb d_Co_writeMethods_37 (by decide) (fun hc => ?_) (fun hc => ?_)
  · have hw := hw.1 hc
    refine lv_aload_n hx hb d_Co_writeMethods_52 rfl (lv_at hl 0 rfl) ?_
    refine lv_aload_n hx hb d_Co_writeMethods_53 rfl (lv_at hl 0 rfl) ?_
    refine gfC_Co_24 F hwd d_Co_writeMethods_54 ?_
    refine gfC_Co_58 F hwd d_Co_writeMethods_57 ?_
    refine pfC_Co_63 F hwd d_Co_writeMethods_60 (fun H locs hwd => ?_)
    obtain ⟨g1, e_g1⟩ : ∃ z : St, z = sc g 106 (g 101 0) := ⟨_, rfl⟩
    have hwd : wdC D cI cZ ad A H0 g1 H locs := by rw [e_g1]; exact hwd
    have hw := hw g1 e_g1
    refine lv_iconst (v := 0) hx hb d_Co_writeMethods_63 (by decide) ?_
    refine lv_topi (fun v2 e_v2 => ?_)
    have hw := hw v2 e_v2
    refine lv_istore_n (lv' := [(2, .int v2), (0, .ref (ad 19)), (1, .int x1)]) hx hb d_Co_writeMethods_64 rfl hl (by decide) rfl (fun ls hl => ?_)
    exact wl_Co_writeMethods_65 F hret hw hwd (lv_sub hl [1, 2, 0] rfl)
  · have hw := hw.2 hc
    refine lv_aload_n hx hb d_Co_writeMethods_40 rfl (lv_at hl 0 rfl) ?_
    refine lv_iload_n hx hb d_Co_writeMethods_41 rfl (lv_at hl 2 rfl) ?_
    refine lv_iload_n hx hb d_Co_writeMethods_42 rfl (lv_at hl 1 rfl) ?_
    refine mcC_Co_54 F hwd (ct_Co_writeMethod _ _ _ _ hw) ⟨Nat.le_trans (by decide) hR.1, Nat.le_trans (by decide) hR.2⟩ hl.1 (Nat.le_of_ble_eq_true rfl) d_Co_writeMethods_43 (fun g3 H locs hw hwd => ?_)
    obtain ⟨v4, e_v4⟩ : ∃ z, z = x2 + (1 : Int32) := ⟨_, rfl⟩
    have hw := hw v4 e_v4
    refine lv_iinc (k := 2) (lv' := [(2, .int v4), (0, .ref (ad 19)), (1, .int x1)]) hx hb d_Co_writeMethods_46 hl rfl e_v4.symm (by decide) rfl (fun ls hl => ?_)
    refine lv_goto (tgt := 32) hx hb d_Co_writeMethods_49 (by decide) ?_
    exact hp32 _ _ _ H locs ls hw hwd (lv_sub hl [1, 2, 0] rfl)

set_option maxHeartbeats 4000000 in
theorem wl_Co_writeMethods_32 {K : St → Prop} {x1 : Int32} {x2 : Int32} {g : St} (F : fxC D cI cZ p R s m args c b_Co_writeMethods 3 R_Co 33 757)
    (hret : rtCV D cI cZ ad p l e R s m args below meth c b_Co_writeMethods A H0 Q K)
    (hw : pl_Co_writeMethods_32 K x1 x2 g)
    (hwd : wdC D cI cZ ad A H0 g H locs) (hl : lv_has ls 3 [(0, .ref (ad 19)), (1, .int x1), (2, .int x2)]) : W p l e R s m args below meth c H locs 0 0 Q (F0 m 32 ls []) := by
  refine hw (fun x1 x2 g => ∀ (H : Heap) (locs : List Loc) (ls : Array Slot), wdC D cI cZ ad A H0 g H locs → lv_has ls 3 [(0, .ref (ad 19)), (1, .int x1), (2, .int x2)] → W p l e R s m args below meth c H locs 0 0 Q (F0 m 32 ls [])) ?_ H locs ls hwd hl
  intro x1 x2 g hw H locs ls hwd hl
  exact wb_Co_writeMethods_32 F hret (fun x1 x2 g H locs ls h hwd hl => h H locs ls hwd hl) hw hwd hl

set_option maxHeartbeats 4000000 in
set_option maxRecDepth 100000 in
theorem wb_Co_writeMethods_0 {K : St → Prop} {x1 : Int32} {g : St} (F : fxC D cI cZ p R s m args c b_Co_writeMethods 3 R_Co 33 757)
    (hret : rtCV D cI cZ ad p l e R s m args below meth c b_Co_writeMethods A H0 Q K)
    (hw : pb_Co_writeMethods_0 K x1 g)
    (hwd : wdC D cI cZ ad A H0 g H locs) (hl : lv_has ls 3 [(0, .ref (ad 19)), (1, .int x1)]) : W p l e R s m args below meth c H locs 0 0 Q (F0 m 0 ls []) := by
  obtain ⟨hx, hb, hml, hown, hts, hK, hN, hR⟩ := F
  have F : fxC D cI cZ p R s m args c b_Co_writeMethods 3 R_Co 33 757 := ⟨hx, hb, hml, hown, hts, hK, hN, hR⟩
  refine lv_aload_n hx hb d_Co_writeMethods_0 rfl (lv_at hl 0 rfl) ?_
  refine lv_iconst (v := 0) hx hb d_Co_writeMethods_1 (by decide) ?_
  refine pfC_Co_40 F hwd d_Co_writeMethods_2 (fun H locs hwd => ?_)
  obtain ⟨g1, e_g1⟩ : ∃ z : St, z = sc g 104 (0 : Int32) := ⟨_, rfl⟩
  have hwd : wdC D cI cZ ad A H0 g1 H locs := by rw [e_g1]; exact hwd
  have hw := hw g1 e_g1
  refine lv_aload_n hx hb d_Co_writeMethods_5 rfl (lv_at hl 0 rfl) ?_
  refine gfC_Co_32 F hwd d_Co_writeMethods_6 ?_
  refine mcC_Co_43 F hwd (ct_Ta_forgetAll  _ _ hw) ⟨Nat.le_trans (by decide) hR.1, Nat.le_trans (by decide) hR.2⟩ hl.1 (Nat.le_of_ble_eq_true rfl) d_Co_writeMethods_9 (fun g2 H locs hw hwd => ?_)
  refine lv_aload_n hx hb d_Co_writeMethods_12 rfl (lv_at hl 0 rfl) ?_
  refine gfC_Co_32 F hwd d_Co_writeMethods_13 ?_
  refine mcC_Co_48 F hwd (ct_Ta_openClass  _ _ hw) ⟨Nat.le_trans (by decide) hR.1, Nat.le_trans (by decide) hR.2⟩ hl.1 (Nat.le_of_ble_eq_true rfl) d_Co_writeMethods_16 (fun g3 H locs hw hwd => ?_)
  refine lv_aload_n hx hb d_Co_writeMethods_19 rfl (lv_at hl 0 rfl) ?_
  refine lv_aload_n hx hb d_Co_writeMethods_20 rfl (lv_at hl 0 rfl) ?_
  refine gfC_Co_28 F hwd d_Co_writeMethods_21 ?_
  refine gfC_Co_51 F hwd d_Co_writeMethods_24 ?_
  refine pfC_Co_36 F hwd d_Co_writeMethods_27 (fun H locs hwd => ?_)
  obtain ⟨g4, e_g4⟩ : ∃ z : St, z = sc g3 105 (g3 102 0) := ⟨_, rfl⟩
  have hwd : wdC D cI cZ ad A H0 g4 H locs := by rw [e_g4]; exact hwd
  have hw := hw g4 e_g4
  refine lv_iconst (v := 0) hx hb d_Co_writeMethods_30 (by decide) ?_
  refine lv_topi (fun v5 e_v5 => ?_)
  have hw := hw v5 e_v5
  refine lv_istore_n (lv' := [(2, .int v5), (0, .ref (ad 19)), (1, .int x1)]) hx hb d_Co_writeMethods_31 rfl hl (by decide) rfl (fun ls hl => ?_)
  exact wl_Co_writeMethods_32 F hret hw hwd (lv_sub hl [1, 2, 0] rfl)

theorem ct_Co_writeMethods {l : Launch} {D : va_G} {cI cZ : ClassId} {ad : Nat → Nat} (x1 : Int32) (g : St) (K : St → Prop) (h : pc_Co_writeMethods x1 g K) : ctCV l y_Co_writeMethods b_Co_writeMethods 3 33 757 D cI cZ ad [.ref (ad 19), .int x1] g K :=
  enCV (by decide) (Nat.le_of_ble_eq_true rfl) (fun p e s m args below meth c A H0 ls Q F hwd hl hret => wb_Co_writeMethods_0 F hret h hwd hl)

set_option maxHeartbeats 4000000 in
set_option maxRecDepth 100000 in
theorem wb_BF_compile_0 {K : Int32 → St → Prop} {x1 : Int32} {x2 : Int32} {g : St} (F : fxC D cI cZ p R s m args c b_BF_compile 4 R_BF 34 779)
    (hret : rtCI D cI cZ ad p l e R s m args below meth c b_BF_compile A H0 Q K)
    (hw : pb_BF_compile_0 K x1 x2 g)
    (hwd : wdC D cI cZ ad A H0 g H locs) (hl : lv_has ls 4 [(0, .ref (ad 0)), (1, .int x1), (2, .int x2)]) : W p l e R s m args below meth c H locs 0 0 Q (F0 m 0 ls []) := by
  obtain ⟨hx, hb, hml, hown, hts, hK, hN, hR⟩ := F
  have F : fxC D cI cZ p R s m args c b_BF_compile 4 R_BF 34 779 := ⟨hx, hb, hml, hown, hts, hK, hN, hR⟩
  refine lv_iload_n hx hb d_BF_compile_0 rfl (lv_at hl 1 rfl) ?_
  refine lv_bipush (v := 20) hx hb d_BF_compile_1 (by decide) ?_
  refine lv_icmp_lt (tgt := 31) hx hb d_BF_compile_3 (by decide) (fun hc => ?_) (fun hc => ?_)
  · have hw := hw.1 hc
    refine lv_iconst (v := -1) hx hb d_BF_compile_31 (by decide) ?_
    exact hret _ _ _ _ hw hwd _ _ d_BF_compile_32
  · have hw := hw.2 hc
    refine lv_iload_n hx hb d_BF_compile_6 rfl (lv_at hl 1 rfl) ?_
    refine lv_sipush (v := 400) hx hb d_BF_compile_7 (by decide) ?_
    refine lv_icmp_gt (tgt := 31) hx hb d_BF_compile_10 (by decide) (fun hc => ?_) (fun hc => ?_)
    · have hw := hw.1 hc
      refine lv_iconst (v := -1) hx hb d_BF_compile_31 (by decide) ?_
      exact hret _ _ _ _ hw hwd _ _ d_BF_compile_32
    · have hw := hw.2 hc
      refine lv_iload_n hx hb d_BF_compile_13 rfl (lv_at hl 2 rfl) ?_
      refine lv_iload_n hx hb d_BF_compile_14 rfl (lv_at hl 1 rfl) ?_
      refine mcC_BF_82 F hwd (ct_BF_isTableSize _ _ _ _ hw) ⟨Nat.le_trans (by decide) hR.1, Nat.le_trans (by decide) hR.2⟩ hl.1 (Nat.le_of_ble_eq_true rfl) d_BF_compile_15 (fun v2 g1 H locs hw hwd => ?_)
      refine lv_if_eq (tgt := 31) hx hb d_BF_compile_18 (by decide) (fun hc => ?_) (fun hc => ?_)
      · have hw := hw.1 hc
        refine lv_iconst (v := -1) hx hb d_BF_compile_31 (by decide) ?_
        exact hret _ _ _ _ hw hwd _ _ d_BF_compile_32
      · have hw := hw.2 hc
        refine lv_aload_n hx hb d_BF_compile_21 rfl (lv_at hl 0 rfl) ?_
        refine gfC_BF_16 F hwd d_BF_compile_22 ?_
        refine gfC_BF_85 F hwd d_BF_compile_25 ?_
        refine lv_if_ne (tgt := 33) hx hb d_BF_compile_28 (by decide) (fun hc => ?_) (fun hc => ?_)
        · have hw := hw.1 hc
          refine lv_aload_n hx hb d_BF_compile_33 rfl (lv_at hl 0 rfl) ?_
          refine gfC_BF_25 F hwd d_BF_compile_34 ?_
          refine mcC_BF_89 F hwd (ct_Ch_firstFault  _ _ hw) ⟨Nat.le_trans (by decide) hR.1, Nat.le_trans (by decide) hR.2⟩ hl.1 (Nat.le_of_ble_eq_true rfl) d_BF_compile_37 (fun v4 g3 H locs hw hwd => ?_)
          refine lv_topi (fun v5 e_v5 => ?_)
          have hw := hw v5 e_v5
          refine lv_istore_n (lv' := [(3, .int v5), (0, .ref (ad 0)), (1, .int x1), (2, .int x2)]) hx hb d_BF_compile_40 rfl hl (by decide) rfl (fun ls hl => ?_)
          refine lv_iload_n hx hb d_BF_compile_41 rfl (lv_at hl 0 rfl) ?_
          refine lv_if_eq (tgt := 48) hx hb d_BF_compile_42 (by decide) (fun hc => ?_) (fun hc => ?_)
          · have hw := hw.1 hc
            refine lv_aload_n hx hb d_BF_compile_48 rfl (lv_at hl 1 rfl) ?_
            refine gfC_BF_32 F hwd d_BF_compile_49 ?_
            refine lv_iload_n hx hb d_BF_compile_52 rfl (lv_at hl 2 rfl) ?_
            refine mcC_BF_93 F hwd (ct_Cu_cutTrees _ _ _ hw) ⟨Nat.le_trans (by decide) hR.1, Nat.le_trans (by decide) hR.2⟩ hl.1 (Nat.le_of_ble_eq_true rfl) d_BF_compile_53 (fun g6 H locs hw hwd => ?_)
            refine lv_aload_n hx hb d_BF_compile_56 rfl (lv_at hl 1 rfl) ?_
            refine gfC_BF_48 F hwd d_BF_compile_57 ?_
            refine lv_iload_n hx hb d_BF_compile_60 rfl (lv_at hl 3 rfl) ?_
            refine mcC_BF_97 F hwd (ct_Co_writeMethods _ _ _ hw) ⟨Nat.le_trans (by decide) hR.1, Nat.le_trans (by decide) hR.2⟩ hl.1 (Nat.le_of_ble_eq_true rfl) d_BF_compile_61 (fun g7 H locs hw hwd => ?_)
            refine lv_aload_n hx hb d_BF_compile_64 rfl (lv_at hl 1 rfl) ?_
            refine gfC_BF_48 F hwd d_BF_compile_65 ?_
            refine gfC_BF_100 F hwd d_BF_compile_68 ?_
            exact hret _ _ _ _ hw hwd _ _ d_BF_compile_71
          · have hw := hw.2 hc
            refine lv_iload_n hx hb d_BF_compile_45 rfl (lv_at hl 0 rfl) ?_
            refine lv_ineg hx hb d_BF_compile_46 ?_
            exact hret _ _ _ _ hw hwd _ _ d_BF_compile_47
        · have hw := hw.2 hc
          refine lv_iconst (v := -1) hx hb d_BF_compile_31 (by decide) ?_
          exact hret _ _ _ _ hw hwd _ _ d_BF_compile_32

theorem ct_BF_compile {l : Launch} {D : va_G} {cI cZ : ClassId} {ad : Nat → Nat} (x1 : Int32) (x2 : Int32) (g : St) (K : Int32 → St → Prop) (h : pc_BF_compile x1 x2 g K) : ctCI l y_BF_compile b_BF_compile 4 34 779 D cI cZ ad [.ref (ad 0), .int x1, .int x2] g K :=
  enCI (by decide) (Nat.le_of_ble_eq_true rfl) (fun p e s m args below meth c A H0 ls Q F hwd hl hret => wb_BF_compile_0 F hret h hwd hl)

set_option maxHeartbeats 4000000 in
set_option maxRecDepth 100000 in
theorem wb_BF_methods_0 {K : Int32 → St → Prop} {g : St} (F : fxC D cI cZ p R s m args c b_BF_methods 1 R_BF 0 0)
    (hret : rtCI D cI cZ ad p l e R s m args below meth c b_BF_methods A H0 Q K)
    (hw : pb_BF_methods_0 K g)
    (hwd : wdC D cI cZ ad A H0 g H locs) (hl : lv_has ls 1 [(0, .ref (ad 0))]) : W p l e R s m args below meth c H locs 0 0 Q (F0 m 0 ls []) := by
  obtain ⟨hx, hb, hml, hown, hts, hK, hN, hR⟩ := F
  have F : fxC D cI cZ p R s m args c b_BF_methods 1 R_BF 0 0 := ⟨hx, hb, hml, hown, hts, hK, hN, hR⟩
  refine lv_aload_n hx hb d_BF_methods_0 rfl (lv_at hl 0 rfl) ?_
  refine gfC_BF_48 F hwd d_BF_methods_1 ?_
  refine gfC_BF_100 F hwd d_BF_methods_4 ?_
  exact hret _ _ _ _ hw hwd _ _ d_BF_methods_7

theorem ct_BF_methods {l : Launch} {D : va_G} {cI cZ : ClassId} {ad : Nat → Nat} (g : St) (K : Int32 → St → Prop) (h : pc_BF_methods g K) : ctCI l y_BF_methods b_BF_methods 1 0 0 D cI cZ ad [.ref (ad 0)] g K :=
  enCI (by decide) (Nat.le_of_ble_eq_true rfl) (fun p e s m args below meth c A H0 ls Q F hwd hl hret => wb_BF_methods_0 F hret h hwd hl)

set_option maxHeartbeats 4000000 in
set_option maxRecDepth 100000 in
theorem wb_Co_isMethod_0 {K : Int32 → St → Prop} {x1 : Int32} {g : St} (F : fxC D cI cZ p R s m args c b_Co_isMethod 2 R_Co 0 0)
    (hret : rtCZ D cI cZ ad p l e R s m args below meth c b_Co_isMethod A H0 Q K)
    (hw : pb_Co_isMethod_0 K x1 g)
    (hwd : wdC D cI cZ ad A H0 g H locs) (hl : lv_has ls 2 [(0, .ref (ad 19)), (1, .int x1)]) : W p l e R s m args below meth c H locs 0 0 Q (F0 m 0 ls []) := by
  obtain ⟨hx, hb, hml, hown, hts, hK, hN, hR⟩ := F
  have F : fxC D cI cZ p R s m args c b_Co_isMethod 2 R_Co 0 0 := ⟨hx, hb, hml, hown, hts, hK, hN, hR⟩
  refine lv_iload_n hx hb d_Co_isMethod_0 rfl (lv_at hl 1 rfl) ?_
  refine lv_if_lt (tgt := 16) hx hb d_Co_isMethod_1 (by decide) (fun hc => ?_) (fun hc => ?_)
  · have hw := hw.1 hc
    refine lv_iconst (v := 0) hx hb d_Co_isMethod_16 (by decide) ?_
    exact hret _ _ _ _ hw (by decide) hwd _ _ d_Co_isMethod_17
  · have hw := hw.2 hc
    refine lv_iload_n hx hb d_Co_isMethod_4 rfl (lv_at hl 1 rfl) ?_
    refine lv_aload_n hx hb d_Co_isMethod_5 rfl (lv_at hl 0 rfl) ?_
    refine gfC_Co_36 F hwd d_Co_isMethod_6 ?_
    refine lv_icmp_ge (tgt := 16) hx hb d_Co_isMethod_9 (by decide) (fun hc => ?_) (fun hc => ?_)
    · have hw := hw.1 hc
      refine lv_iconst (v := 0) hx hb d_Co_isMethod_16 (by decide) ?_
      exact hret _ _ _ _ hw (by decide) hwd _ _ d_Co_isMethod_17
    · have hw := hw.2 hc
      refine lv_iconst (v := 1) hx hb d_Co_isMethod_12 (by decide) ?_
      refine lv_goto (tgt := 17) hx hb d_Co_isMethod_13 (by decide) ?_
      exact hret _ _ _ _ hw (by decide) hwd _ _ d_Co_isMethod_17

theorem ct_Co_isMethod {l : Launch} {D : va_G} {cI cZ : ClassId} {ad : Nat → Nat} (x1 : Int32) (g : St) (K : Int32 → St → Prop) (h : pc_Co_isMethod x1 g K) : ctCZ l y_Co_isMethod b_Co_isMethod 2 0 0 D cI cZ ad [.ref (ad 19), .int x1] g K :=
  enCZ (by decide) (Nat.le_of_ble_eq_true rfl) (fun p e s m args below meth c A H0 ls Q F hwd hl hret => wb_Co_isMethod_0 F hret h hwd hl)

set_option maxHeartbeats 4000000 in
set_option maxRecDepth 100000 in
theorem wb_BF_length_0 {K : Int32 → St → Prop} {x1 : Int32} {g : St} (F : fxC D cI cZ p R s m args c b_BF_length 2 R_BF 1 21)
    (hret : rtCI D cI cZ ad p l e R s m args below meth c b_BF_length A H0 Q K)
    (hw : pb_BF_length_0 K x1 g)
    (hwd : wdC D cI cZ ad A H0 g H locs) (hl : lv_has ls 2 [(0, .ref (ad 0)), (1, .int x1)]) : W p l e R s m args below meth c H locs 0 0 Q (F0 m 0 ls []) := by
  obtain ⟨hx, hb, hml, hown, hts, hK, hN, hR⟩ := F
  have F : fxC D cI cZ p R s m args c b_BF_length 2 R_BF 1 21 := ⟨hx, hb, hml, hown, hts, hK, hN, hR⟩
  refine lv_aload_n hx hb d_BF_length_0 rfl (lv_at hl 0 rfl) ?_
  refine gfC_BF_48 F hwd d_BF_length_1 ?_
  refine lv_iload_n hx hb d_BF_length_4 rfl (lv_at hl 1 rfl) ?_
  refine mcC_BF_103 F hwd (ct_Co_isMethod _ _ _ hw) ⟨Nat.le_trans (by decide) hR.1, Nat.le_trans (by decide) hR.2⟩ hl.1 (Nat.le_of_ble_eq_true rfl) d_BF_length_5 (fun v2 g1 H locs hw hwd => ?_)
  refine lv_if_eq (tgt := 35) hx hb d_BF_length_8 (by decide) (fun hc => ?_) (fun hc => ?_)
  · have hw := hw.1 hc
    refine lv_iconst (v := -1) hx hb d_BF_length_35 (by decide) ?_
    exact hret _ _ _ _ hw hwd _ _ d_BF_length_36
  · have hw := hw.2 hc
    refine lv_aload_n hx hb d_BF_length_11 rfl (lv_at hl 0 rfl) ?_
    refine gfC_BF_48 F hwd d_BF_length_12 ?_
    refine gfC_BF_106 F hwd d_BF_length_15 ?_
    refine lv_iload_n hx hb d_BF_length_18 rfl (lv_at hl 1 rfl) ?_
    refine lv_iconst (v := 1) hx hb d_BF_length_19 (by decide) ?_
    refine lv_iadd hx hb d_BF_length_20 ?_
    obtain ⟨hi, hw⟩ := hw
    refine rdC_21 F hwd hi d_BF_length_21 ?_
    refine lv_aload_n hx hb d_BF_length_22 rfl (lv_at hl 0 rfl) ?_
    refine gfC_BF_48 F hwd d_BF_length_23 ?_
    refine gfC_BF_106 F hwd d_BF_length_26 ?_
    refine lv_iload_n hx hb d_BF_length_29 rfl (lv_at hl 1 rfl) ?_
    obtain ⟨hi, hw⟩ := hw
    refine rdC_21 F hwd hi d_BF_length_30 ?_
    refine lv_isub hx hb d_BF_length_31 ?_
    refine lv_goto (tgt := 36) hx hb d_BF_length_32 (by decide) ?_
    exact hret _ _ _ _ hw hwd _ _ d_BF_length_36

theorem ct_BF_length {l : Launch} {D : va_G} {cI cZ : ClassId} {ad : Nat → Nat} (x1 : Int32) (g : St) (K : Int32 → St → Prop) (h : pc_BF_length x1 g K) : ctCI l y_BF_length b_BF_length 2 1 21 D cI cZ ad [.ref (ad 0), .int x1] g K :=
  enCI (by decide) (Nat.le_of_ble_eq_true rfl) (fun p e s m args below meth c A H0 ls Q F hwd hl hret => wb_BF_length_0 F hret h hwd hl)

set_option maxHeartbeats 4000000 in
set_option maxRecDepth 100000 in
theorem wb_BF_byteAt_0 {K : Int32 → St → Prop} {x1 : Int32} {x2 : Int32} {g : St} (F : fxC D cI cZ p R s m args c b_BF_byteAt 3 R_BF 2 42)
    (hret : rtCI D cI cZ ad p l e R s m args below meth c b_BF_byteAt A H0 Q K)
    (hw : pb_BF_byteAt_0 K x1 x2 g)
    (hwd : wdC D cI cZ ad A H0 g H locs) (hl : lv_has ls 3 [(0, .ref (ad 0)), (1, .int x1), (2, .int x2)]) : W p l e R s m args below meth c H locs 0 0 Q (F0 m 0 ls []) := by
  obtain ⟨hx, hb, hml, hown, hts, hK, hN, hR⟩ := F
  have F : fxC D cI cZ p R s m args c b_BF_byteAt 3 R_BF 2 42 := ⟨hx, hb, hml, hown, hts, hK, hN, hR⟩
  refine lv_iload_n hx hb d_BF_byteAt_0 rfl (lv_at hl 2 rfl) ?_
  refine lv_if_lt (tgt := 35) hx hb d_BF_byteAt_1 (by decide) (fun hc => ?_) (fun hc => ?_)
  · have hw := hw.1 hc
    refine lv_iconst (v := -1) hx hb d_BF_byteAt_35 (by decide) ?_
    exact hret _ _ _ _ hw hwd _ _ d_BF_byteAt_36
  · have hw := hw.2 hc
    refine lv_iload_n hx hb d_BF_byteAt_4 rfl (lv_at hl 2 rfl) ?_
    refine lv_aload_n hx hb d_BF_byteAt_5 rfl (lv_at hl 0 rfl) ?_
    refine lv_iload_n hx hb d_BF_byteAt_6 rfl (lv_at hl 1 rfl) ?_
    refine mcC_BF_109 F hwd (ct_BF_length _ _ _ hw) ⟨Nat.le_trans (by decide) hR.1, Nat.le_trans (by decide) hR.2⟩ hl.1 (Nat.le_of_ble_eq_true rfl) d_BF_byteAt_7 (fun v2 g1 H locs hw hwd => ?_)
    refine lv_icmp_ge (tgt := 35) hx hb d_BF_byteAt_10 (by decide) (fun hc => ?_) (fun hc => ?_)
    · have hw := hw.1 hc
      refine lv_iconst (v := -1) hx hb d_BF_byteAt_35 (by decide) ?_
      exact hret _ _ _ _ hw hwd _ _ d_BF_byteAt_36
    · have hw := hw.2 hc
      refine lv_aload_n hx hb d_BF_byteAt_13 rfl (lv_at hl 0 rfl) ?_
      refine gfC_BF_48 F hwd d_BF_byteAt_14 ?_
      refine gfC_BF_112 F hwd d_BF_byteAt_17 ?_
      refine lv_aload_n hx hb d_BF_byteAt_20 rfl (lv_at hl 0 rfl) ?_
      refine gfC_BF_48 F hwd d_BF_byteAt_21 ?_
      refine gfC_BF_106 F hwd d_BF_byteAt_24 ?_
      refine lv_iload_n hx hb d_BF_byteAt_27 rfl (lv_at hl 1 rfl) ?_
      obtain ⟨hi, hw⟩ := hw
      refine rdC_21 F hwd hi d_BF_byteAt_28 ?_
      refine lv_iload_n hx hb d_BF_byteAt_29 rfl (lv_at hl 2 rfl) ?_
      refine lv_iadd hx hb d_BF_byteAt_30 ?_
      obtain ⟨hi, hw⟩ := hw
      refine rdC_20 F hwd hi d_BF_byteAt_31 ?_
      refine lv_goto (tgt := 36) hx hb d_BF_byteAt_32 (by decide) ?_
      exact hret _ _ _ _ hw hwd _ _ d_BF_byteAt_36

theorem ct_BF_byteAt {l : Launch} {D : va_G} {cI cZ : ClassId} {ad : Nat → Nat} (x1 : Int32) (x2 : Int32) (g : St) (K : Int32 → St → Prop) (h : pc_BF_byteAt x1 x2 g K) : ctCI l y_BF_byteAt b_BF_byteAt 3 2 42 D cI cZ ad [.ref (ad 0), .int x1, .int x2] g K :=
  enCI (by decide) (Nat.le_of_ble_eq_true rfl) (fun p e s m args below meth c A H0 ls Q F hwd hl hret => wb_BF_byteAt_0 F hret h hwd hl)

set_option maxHeartbeats 4000000 in
set_option maxRecDepth 100000 in
theorem wb_BF_classOf_0 {K : Int32 → St → Prop} {x1 : Int32} {g : St} (F : fxC D cI cZ p R s m args c b_BF_classOf 2 R_BF 1 21)
    (hret : rtCI D cI cZ ad p l e R s m args below meth c b_BF_classOf A H0 Q K)
    (hw : pb_BF_classOf_0 K x1 g)
    (hwd : wdC D cI cZ ad A H0 g H locs) (hl : lv_has ls 2 [(0, .ref (ad 0)), (1, .int x1)]) : W p l e R s m args below meth c H locs 0 0 Q (F0 m 0 ls []) := by
  obtain ⟨hx, hb, hml, hown, hts, hK, hN, hR⟩ := F
  have F : fxC D cI cZ p R s m args c b_BF_classOf 2 R_BF 1 21 := ⟨hx, hb, hml, hown, hts, hK, hN, hR⟩
  refine lv_aload_n hx hb d_BF_classOf_0 rfl (lv_at hl 0 rfl) ?_
  refine gfC_BF_48 F hwd d_BF_classOf_1 ?_
  refine lv_iload_n hx hb d_BF_classOf_4 rfl (lv_at hl 1 rfl) ?_
  refine mcC_BF_103 F hwd (ct_Co_isMethod _ _ _ hw) ⟨Nat.le_trans (by decide) hR.1, Nat.le_trans (by decide) hR.2⟩ hl.1 (Nat.le_of_ble_eq_true rfl) d_BF_classOf_5 (fun v2 g1 H locs hw hwd => ?_)
  refine lv_if_eq (tgt := 23) hx hb d_BF_classOf_8 (by decide) (fun hc => ?_) (fun hc => ?_)
  · have hw := hw.1 hc
    refine lv_iconst (v := -1) hx hb d_BF_classOf_23 (by decide) ?_
    exact hret _ _ _ _ hw hwd _ _ d_BF_classOf_24
  · have hw := hw.2 hc
    refine lv_aload_n hx hb d_BF_classOf_11 rfl (lv_at hl 0 rfl) ?_
    refine gfC_BF_48 F hwd d_BF_classOf_12 ?_
    refine gfC_BF_115 F hwd d_BF_classOf_15 ?_
    refine lv_iload_n hx hb d_BF_classOf_18 rfl (lv_at hl 1 rfl) ?_
    obtain ⟨hi, hw⟩ := hw
    refine rdC_22 F hwd hi d_BF_classOf_19 ?_
    refine lv_goto (tgt := 24) hx hb d_BF_classOf_20 (by decide) ?_
    exact hret _ _ _ _ hw hwd _ _ d_BF_classOf_24

theorem ct_BF_classOf {l : Launch} {D : va_G} {cI cZ : ClassId} {ad : Nat → Nat} (x1 : Int32) (g : St) (K : Int32 → St → Prop) (h : pc_BF_classOf x1 g K) : ctCI l y_BF_classOf b_BF_classOf 2 1 21 D cI cZ ad [.ref (ad 0), .int x1] g K :=
  enCI (by decide) (Nat.le_of_ble_eq_true rfl) (fun p e s m args below meth c A H0 ls Q F hwd hl hret => wb_BF_classOf_0 F hret h hwd hl)

set_option maxHeartbeats 4000000 in
set_option maxRecDepth 100000 in
theorem wb_BF_classes_0 {K : Int32 → St → Prop} {g : St} (F : fxC D cI cZ p R s m args c b_BF_classes 1 R_BF 0 0)
    (hret : rtCI D cI cZ ad p l e R s m args below meth c b_BF_classes A H0 Q K)
    (hw : pb_BF_classes_0 K g)
    (hwd : wdC D cI cZ ad A H0 g H locs) (hl : lv_has ls 1 [(0, .ref (ad 0))]) : W p l e R s m args below meth c H locs 0 0 Q (F0 m 0 ls []) := by
  obtain ⟨hx, hb, hml, hown, hts, hK, hN, hR⟩ := F
  have F : fxC D cI cZ p R s m args c b_BF_classes 1 R_BF 0 0 := ⟨hx, hb, hml, hown, hts, hK, hN, hR⟩
  refine lv_aload_n hx hb d_BF_classes_0 rfl (lv_at hl 0 rfl) ?_
  refine gfC_BF_39 F hwd d_BF_classes_1 ?_
  refine gfC_BF_118 F hwd d_BF_classes_4 ?_
  exact hret _ _ _ _ hw hwd _ _ d_BF_classes_7

theorem ct_BF_classes {l : Launch} {D : va_G} {cI cZ : ClassId} {ad : Nat → Nat} (g : St) (K : Int32 → St → Prop) (h : pc_BF_classes g K) : ctCI l y_BF_classes b_BF_classes 1 0 0 D cI cZ ad [.ref (ad 0)] g K :=
  enCI (by decide) (Nat.le_of_ble_eq_true rfl) (fun p e s m args below meth c A H0 ls Q F hwd hl hret => wb_BF_classes_0 F hret h hwd hl)

set_option maxHeartbeats 4000000 in
set_option maxRecDepth 100000 in
theorem wb_Ta_isClass_0 {K : Int32 → St → Prop} {x1 : Int32} {g : St} (F : fxC D cI cZ p R s m args c b_Ta_isClass 2 R_Ta 0 0)
    (hret : rtCZ D cI cZ ad p l e R s m args below meth c b_Ta_isClass A H0 Q K)
    (hw : pb_Ta_isClass_0 K x1 g)
    (hwd : wdC D cI cZ ad A H0 g H locs) (hl : lv_has ls 2 [(0, .ref (ad 15)), (1, .int x1)]) : W p l e R s m args below meth c H locs 0 0 Q (F0 m 0 ls []) := by
  obtain ⟨hx, hb, hml, hown, hts, hK, hN, hR⟩ := F
  have F : fxC D cI cZ p R s m args c b_Ta_isClass 2 R_Ta 0 0 := ⟨hx, hb, hml, hown, hts, hK, hN, hR⟩
  refine lv_iload_n hx hb d_Ta_isClass_0 rfl (lv_at hl 1 rfl) ?_
  refine lv_if_lt (tgt := 16) hx hb d_Ta_isClass_1 (by decide) (fun hc => ?_) (fun hc => ?_)
  · have hw := hw.1 hc
    refine lv_iconst (v := 0) hx hb d_Ta_isClass_16 (by decide) ?_
    exact hret _ _ _ _ hw (by decide) hwd _ _ d_Ta_isClass_17
  · have hw := hw.2 hc
    refine lv_iload_n hx hb d_Ta_isClass_4 rfl (lv_at hl 1 rfl) ?_
    refine lv_aload_n hx hb d_Ta_isClass_5 rfl (lv_at hl 0 rfl) ?_
    refine gfC_Ta_21 F hwd d_Ta_isClass_6 ?_
    refine lv_icmp_ge (tgt := 16) hx hb d_Ta_isClass_9 (by decide) (fun hc => ?_) (fun hc => ?_)
    · have hw := hw.1 hc
      refine lv_iconst (v := 0) hx hb d_Ta_isClass_16 (by decide) ?_
      exact hret _ _ _ _ hw (by decide) hwd _ _ d_Ta_isClass_17
    · have hw := hw.2 hc
      refine lv_iconst (v := 1) hx hb d_Ta_isClass_12 (by decide) ?_
      refine lv_goto (tgt := 17) hx hb d_Ta_isClass_13 (by decide) ?_
      exact hret _ _ _ _ hw (by decide) hwd _ _ d_Ta_isClass_17

theorem ct_Ta_isClass {l : Launch} {D : va_G} {cI cZ : ClassId} {ad : Nat → Nat} (x1 : Int32) (g : St) (K : Int32 → St → Prop) (h : pc_Ta_isClass x1 g K) : ctCZ l y_Ta_isClass b_Ta_isClass 2 0 0 D cI cZ ad [.ref (ad 15), .int x1] g K :=
  enCZ (by decide) (Nat.le_of_ble_eq_true rfl) (fun p e s m args below meth c A H0 ls Q F hwd hl hret => wb_Ta_isClass_0 F hret h hwd hl)

set_option maxHeartbeats 4000000 in
set_option maxRecDepth 100000 in
theorem wb_BF_entries_0 {K : Int32 → St → Prop} {x1 : Int32} {g : St} (F : fxC D cI cZ p R s m args c b_BF_entries 2 R_BF 1 21)
    (hret : rtCI D cI cZ ad p l e R s m args below meth c b_BF_entries A H0 Q K)
    (hw : pb_BF_entries_0 K x1 g)
    (hwd : wdC D cI cZ ad A H0 g H locs) (hl : lv_has ls 2 [(0, .ref (ad 0)), (1, .int x1)]) : W p l e R s m args below meth c H locs 0 0 Q (F0 m 0 ls []) := by
  obtain ⟨hx, hb, hml, hown, hts, hK, hN, hR⟩ := F
  have F : fxC D cI cZ p R s m args c b_BF_entries 2 R_BF 1 21 := ⟨hx, hb, hml, hown, hts, hK, hN, hR⟩
  refine lv_aload_n hx hb d_BF_entries_0 rfl (lv_at hl 0 rfl) ?_
  refine gfC_BF_39 F hwd d_BF_entries_1 ?_
  refine lv_iload_n hx hb d_BF_entries_4 rfl (lv_at hl 1 rfl) ?_
  refine mcC_BF_121 F hwd (ct_Ta_isClass _ _ _ hw) ⟨Nat.le_trans (by decide) hR.1, Nat.le_trans (by decide) hR.2⟩ hl.1 (Nat.le_of_ble_eq_true rfl) d_BF_entries_5 (fun v2 g1 H locs hw hwd => ?_)
  refine lv_if_eq (tgt := 22) hx hb d_BF_entries_8 (by decide) (fun hc => ?_) (fun hc => ?_)
  · have hw := hw.1 hc
    refine lv_iconst (v := -1) hx hb d_BF_entries_22 (by decide) ?_
    exact hret _ _ _ _ hw hwd _ _ d_BF_entries_23
  · have hw := hw.2 hc
    refine lv_aload_n hx hb d_BF_entries_11 rfl (lv_at hl 0 rfl) ?_
    refine gfC_BF_39 F hwd d_BF_entries_12 ?_
    refine lv_iload_n hx hb d_BF_entries_15 rfl (lv_at hl 1 rfl) ?_
    refine mcC_BF_124 F hwd (ct_Ta_sizeOf _ _ _ hw) ⟨Nat.le_trans (by decide) hR.1, Nat.le_trans (by decide) hR.2⟩ hl.1 (Nat.le_of_ble_eq_true rfl) d_BF_entries_16 (fun v4 g3 H locs hw hwd => ?_)
    refine lv_goto (tgt := 23) hx hb d_BF_entries_19 (by decide) ?_
    exact hret _ _ _ _ hw hwd _ _ d_BF_entries_23

theorem ct_BF_entries {l : Launch} {D : va_G} {cI cZ : ClassId} {ad : Nat → Nat} (x1 : Int32) (g : St) (K : Int32 → St → Prop) (h : pc_BF_entries x1 g K) : ctCI l y_BF_entries b_BF_entries 2 1 21 D cI cZ ad [.ref (ad 0), .int x1] g K :=
  enCI (by decide) (Nat.le_of_ble_eq_true rfl) (fun p e s m args below meth c A H0 ls Q F hwd hl hret => wb_BF_entries_0 F hret h hwd hl)

set_option maxHeartbeats 4000000 in
set_option maxRecDepth 100000 in
theorem wb_Ta_holds_0 {K : Int32 → St → Prop} {x1 : Int32} {x2 : Int32} {g : St} (F : fxC D cI cZ p R s m args c b_Ta_holds 3 R_Ta 1 21)
    (hret : rtCZ D cI cZ ad p l e R s m args below meth c b_Ta_holds A H0 Q K)
    (hw : pb_Ta_holds_0 K x1 x2 g)
    (hwd : wdC D cI cZ ad A H0 g H locs) (hl : lv_has ls 3 [(0, .ref (ad 15)), (1, .int x1), (2, .int x2)]) : W p l e R s m args below meth c H locs 0 0 Q (F0 m 0 ls []) := by
  obtain ⟨hx, hb, hml, hown, hts, hK, hN, hR⟩ := F
  have F : fxC D cI cZ p R s m args c b_Ta_holds 3 R_Ta 1 21 := ⟨hx, hb, hml, hown, hts, hK, hN, hR⟩
  refine lv_aload_n hx hb d_Ta_holds_0 rfl (lv_at hl 0 rfl) ?_
  refine lv_iload_n hx hb d_Ta_holds_1 rfl (lv_at hl 1 rfl) ?_
  refine mcC_Ta_25 F hwd (ct_Ta_isClass _ _ _ hw) ⟨Nat.le_trans (by decide) hR.1, Nat.le_trans (by decide) hR.2⟩ hl.1 (Nat.le_of_ble_eq_true rfl) d_Ta_holds_2 (fun v2 g1 H locs hw hwd => ?_)
  refine lv_if_eq (tgt := 25) hx hb d_Ta_holds_5 (by decide) (fun hc => ?_) (fun hc => ?_)
  · have hw := hw.1 hc
    refine lv_iconst (v := 0) hx hb d_Ta_holds_25 (by decide) ?_
    exact hret _ _ _ _ hw (by decide) hwd _ _ d_Ta_holds_26
  · have hw := hw.2 hc
    refine lv_iload_n hx hb d_Ta_holds_8 rfl (lv_at hl 2 rfl) ?_
    refine lv_if_lt (tgt := 25) hx hb d_Ta_holds_9 (by decide) (fun hc => ?_) (fun hc => ?_)
    · have hw := hw.1 hc
      refine lv_iconst (v := 0) hx hb d_Ta_holds_25 (by decide) ?_
      exact hret _ _ _ _ hw (by decide) hwd _ _ d_Ta_holds_26
    · have hw := hw.2 hc
      refine lv_iload_n hx hb d_Ta_holds_12 rfl (lv_at hl 2 rfl) ?_
      refine lv_aload_n hx hb d_Ta_holds_13 rfl (lv_at hl 0 rfl) ?_
      refine lv_iload_n hx hb d_Ta_holds_14 rfl (lv_at hl 1 rfl) ?_
      refine mcC_Ta_29 F hwd (ct_Ta_sizeOf _ _ _ hw) ⟨Nat.le_trans (by decide) hR.1, Nat.le_trans (by decide) hR.2⟩ hl.1 (Nat.le_of_ble_eq_true rfl) d_Ta_holds_15 (fun v4 g3 H locs hw hwd => ?_)
      refine lv_icmp_ge (tgt := 25) hx hb d_Ta_holds_18 (by decide) (fun hc => ?_) (fun hc => ?_)
      · have hw := hw.1 hc
        refine lv_iconst (v := 0) hx hb d_Ta_holds_25 (by decide) ?_
        exact hret _ _ _ _ hw (by decide) hwd _ _ d_Ta_holds_26
      · have hw := hw.2 hc
        refine lv_iconst (v := 1) hx hb d_Ta_holds_21 (by decide) ?_
        refine lv_goto (tgt := 26) hx hb d_Ta_holds_22 (by decide) ?_
        exact hret _ _ _ _ hw (by decide) hwd _ _ d_Ta_holds_26

theorem ct_Ta_holds {l : Launch} {D : va_G} {cI cZ : ClassId} {ad : Nat → Nat} (x1 : Int32) (x2 : Int32) (g : St) (K : Int32 → St → Prop) (h : pc_Ta_holds x1 x2 g K) : ctCZ l y_Ta_holds b_Ta_holds 3 1 21 D cI cZ ad [.ref (ad 15), .int x1, .int x2] g K :=
  enCZ (by decide) (Nat.le_of_ble_eq_true rfl) (fun p e s m args below meth c A H0 ls Q F hwd hl hret => wb_Ta_holds_0 F hret h hwd hl)

set_option maxHeartbeats 4000000 in
set_option maxRecDepth 100000 in
theorem wb_BF_entry_0 {K : Int64 → St → Prop} {x1 : Int32} {x2 : Int32} {g : St} (F : fxC D cI cZ p R s m args c b_BF_entry 4 R_BF 2 43)
    (hret : rtCJ D cI cZ ad p l e R s m args below meth c b_BF_entry A H0 Q K)
    (hw : pb_BF_entry_0 K x1 x2 g)
    (hwd : wdC D cI cZ ad A H0 g H locs) (hl : lv_has ls 4 [(0, .ref (ad 0)), (1, .int x1), (2, .int x2)]) : W p l e R s m args below meth c H locs 0 0 Q (F0 m 0 ls []) := by
  obtain ⟨hx, hb, hml, hown, hts, hK, hN, hR⟩ := F
  have F : fxC D cI cZ p R s m args c b_BF_entry 4 R_BF 2 43 := ⟨hx, hb, hml, hown, hts, hK, hN, hR⟩
  refine lv_aload_n hx hb d_BF_entry_0 rfl (lv_at hl 0 rfl) ?_
  refine gfC_BF_39 F hwd d_BF_entry_1 ?_
  refine lv_iload_n hx hb d_BF_entry_4 rfl (lv_at hl 1 rfl) ?_
  refine lv_iload_n hx hb d_BF_entry_5 rfl (lv_at hl 2 rfl) ?_
  refine mcC_BF_127 F hwd (ct_Ta_holds _ _ _ _ hw) ⟨Nat.le_trans (by decide) hR.1, Nat.le_trans (by decide) hR.2⟩ hl.1 (Nat.le_of_ble_eq_true rfl) d_BF_entry_6 (fun v2 g1 H locs hw hwd => ?_)
  refine lv_if_ne (tgt := 16) hx hb d_BF_entry_9 (by decide) (fun hc => ?_) (fun hc => ?_)
  · have hw := hw.1 hc
    refine lv_aload_n hx hb d_BF_entry_16 rfl (lv_at hl 0 rfl) ?_
    refine gfC_BF_39 F hwd d_BF_entry_17 ?_
    refine gfC_BF_132 F hwd d_BF_entry_20 ?_
    refine lv_iload_n hx hb d_BF_entry_23 rfl (lv_at hl 1 rfl) ?_
    obtain ⟨hi, hw⟩ := hw
    refine rdC_18 F hwd hi d_BF_entry_24 ?_
    refine lv_iload_n hx hb d_BF_entry_25 rfl (lv_at hl 2 rfl) ?_
    refine lv_iadd hx hb d_BF_entry_26 ?_
    refine lv_topi (fun v3 e_v3 => ?_)
    have hw := hw v3 e_v3
    refine lv_istore_n (lv' := [(3, .int v3), (0, .ref (ad 0)), (1, .int x1), (2, .int x2)]) hx hb d_BF_entry_27 rfl hl (by decide) rfl (fun ls hl => ?_)
    refine lv_aload_n hx hb d_BF_entry_28 rfl (lv_at hl 1 rfl) ?_
    refine gfC_BF_39 F hwd d_BF_entry_29 ?_
    refine gfC_BF_133 F hwd d_BF_entry_32 ?_
    refine lv_iload_n hx hb d_BF_entry_35 rfl (lv_at hl 0 rfl) ?_
    obtain ⟨hi, hw⟩ := hw
    refine rdC_16 F hwd hi d_BF_entry_36 ?_
    refine lv_i2l hx hb d_BF_entry_37 rfl ?_
    refine lv_bipush (v := 32) hx hb d_BF_entry_38 (by decide) ?_
    refine lv_lshl hx hb d_BF_entry_40 rfl ?_
    refine lv_aload_n hx hb d_BF_entry_41 rfl (lv_at hl 1 rfl) ?_
    refine gfC_BF_39 F hwd d_BF_entry_42 ?_
    refine gfC_BF_136 F hwd d_BF_entry_45 ?_
    refine lv_iload_n hx hb d_BF_entry_48 rfl (lv_at hl 0 rfl) ?_
    obtain ⟨hi, hw⟩ := hw
    refine rdC_17 F hwd hi d_BF_entry_49 ?_
    refine lv_i2l hx hb d_BF_entry_50 rfl ?_
    refine lv_ldc2 (v := 4294967295) hx hb hown (hts _ kC_2) d_BF_entry_51 ?_
    refine lv_land hx hb d_BF_entry_54 ?_
    refine lv_ladd hx hb d_BF_entry_55 ?_
    exact hret _ _ _ _ hw hwd _ _ d_BF_entry_56
  · have hw := hw.2 hc
    refine lv_ldc2 (v := -1) hx hb hown (hts _ kC_3) d_BF_entry_12 ?_
    exact hret _ _ _ _ hw hwd _ _ d_BF_entry_15

theorem ct_BF_entry {l : Launch} {D : va_G} {cI cZ : ClassId} {ad : Nat → Nat} (x1 : Int32) (x2 : Int32) (g : St) (K : Int64 → St → Prop) (h : pc_BF_entry x1 x2 g K) : ctCJ l y_BF_entry b_BF_entry 4 2 43 D cI cZ ad [.ref (ad 0), .int x1, .int x2] g K :=
  enCJ (by decide) (Nat.le_of_ble_eq_true rfl) (fun p e s m args below meth c A H0 ls Q F hwd hl hret => wb_BF_entry_0 F hret h hwd hl)

set_option maxHeartbeats 4000000 in
set_option maxRecDepth 100000 in
theorem wb_BF_set_0 {K : Int32 → St → Prop} {x1 : Int32} {x2 : Int32} {g : St} (F : fxC D cI cZ p R s m args c b_BF_set 3 R_BF 1 20)
    (hret : rtCZ D cI cZ ad p l e R s m args below meth c b_BF_set A H0 Q K)
    (hw : pb_BF_set_0 K x1 x2 g)
    (hwd : wdC D cI cZ ad A H0 g H locs) (hl : lv_has ls 3 [(0, .ref (ad 0)), (1, .int x1), (2, .int x2)]) : W p l e R s m args below meth c H locs 0 0 Q (F0 m 0 ls []) := by
  obtain ⟨hx, hb, hml, hown, hts, hK, hN, hR⟩ := F
  have F : fxC D cI cZ p R s m args c b_BF_set 3 R_BF 1 20 := ⟨hx, hb, hml, hown, hts, hK, hN, hR⟩
  refine lv_iload_n hx hb d_BF_set_0 rfl (lv_at hl 1 rfl) ?_
  refine mcC_BF_65 F hwd (ct_BF_isFeature _ _ _ hw) ⟨Nat.le_trans (by decide) hR.1, Nat.le_trans (by decide) hR.2⟩ hl.1 (Nat.le_of_ble_eq_true rfl) d_BF_set_1 (fun v2 g1 H locs hw hwd => ?_)
  refine lv_if_ne (tgt := 9) hx hb d_BF_set_4 (by decide) (fun hc => ?_) (fun hc => ?_)
  · have hw := hw.1 hc
    refine lv_aload_n hx hb d_BF_set_9 rfl (lv_at hl 0 rfl) ?_
    refine gfC_BF_9 F hwd d_BF_set_10 ?_
    refine lv_iload_n hx hb d_BF_set_13 rfl (lv_at hl 1 rfl) ?_
    refine lv_iload_n hx hb d_BF_set_14 rfl (lv_at hl 2 rfl) ?_
    obtain ⟨hi, hw⟩ := hw
    refine wrC_1 F hwd hi d_BF_set_15 (fun H locs hwd => ?_)
    obtain ⟨g3, e_g3⟩ : ∃ z : St, z = ar g1 1 x1 x2 := ⟨_, rfl⟩
    have hwd : wdC D cI cZ ad A H0 g3 H locs := by rw [e_g3]; exact hwd
    have hw := hw g3 e_g3
    refine lv_iconst (v := 1) hx hb d_BF_set_16 (by decide) ?_
    exact hret _ _ _ _ hw (by decide) hwd _ _ d_BF_set_17
  · have hw := hw.2 hc
    refine lv_iconst (v := 0) hx hb d_BF_set_7 (by decide) ?_
    exact hret _ _ _ _ hw (by decide) hwd _ _ d_BF_set_8

theorem ct_BF_set {l : Launch} {D : va_G} {cI cZ : ClassId} {ad : Nat → Nat} (x1 : Int32) (x2 : Int32) (g : St) (K : Int32 → St → Prop) (h : pc_BF_set x1 x2 g K) : ctCZ l y_BF_set b_BF_set 3 1 20 D cI cZ ad [.ref (ad 0), .int x1, .int x2] g K :=
  enCZ (by decide) (Nat.le_of_ble_eq_true rfl) (fun p e s m args below meth c A H0 ls Q F hwd hl hret => wb_BF_set_0 F hret h hwd hl)

set_option maxHeartbeats 4000000 in
set_option maxRecDepth 100000 in
theorem wb_Co_byteOfAll_21 {K : Int32 → St → Prop} {x1 : Int32} {g : St} (F : fxC D cI cZ p R s m args c b_Co_byteOfAll 2 R_Co 0 0)
    (hret : rtCI D cI cZ ad p l e R s m args below meth c b_Co_byteOfAll A H0 Q K)
    (hw : pb_Co_byteOfAll_21 K x1 g)
    (hwd : wdC D cI cZ ad A H0 g H locs) (hl : lv_has ls 2 [(0, .ref (ad 19)), (1, .int x1)]) : W p l e R s m args below meth c H locs 0 0 Q (F0 m 21 ls []) := by
  obtain ⟨hx, hb, hml, hown, hts, hK, hN, hR⟩ := F
  have F : fxC D cI cZ p R s m args c b_Co_byteOfAll 2 R_Co 0 0 := ⟨hx, hb, hml, hown, hts, hK, hN, hR⟩
  refine lv_iconst (v := 3) hx hb d_Co_byteOfAll_21 (by decide) ?_
  exact hret _ _ _ _ hw hwd _ _ d_Co_byteOfAll_22

set_option maxHeartbeats 4000000 in
set_option maxRecDepth 100000 in
theorem wb_Co_byteOfAll_0 {K : Int32 → St → Prop} {x1 : Int32} {g : St} (F : fxC D cI cZ p R s m args c b_Co_byteOfAll 2 R_Co 0 0)
    (hret : rtCI D cI cZ ad p l e R s m args below meth c b_Co_byteOfAll A H0 Q K)
    (hw : pb_Co_byteOfAll_0 K x1 g)
    (hwd : wdC D cI cZ ad A H0 g H locs) (hl : lv_has ls 2 [(0, .ref (ad 19)), (1, .int x1)]) : W p l e R s m args below meth c H locs 0 0 Q (F0 m 0 ls []) := by
  obtain ⟨hx, hb, hml, hown, hts, hK, hN, hR⟩ := F
  have F : fxC D cI cZ p R s m args c b_Co_byteOfAll 2 R_Co 0 0 := ⟨hx, hb, hml, hown, hts, hK, hN, hR⟩
  refine lv_iload_n hx hb d_Co_byteOfAll_0 rfl (lv_at hl 1 rfl) ?_
  refine lv_if_lt (tgt := 21) hx hb d_Co_byteOfAll_1 (by decide) (fun hc => ?_) (fun hc => ?_)
  · have hw := hw.1 hc
    exact wb_Co_byteOfAll_21 F hret hw hwd (lv_sub hl [0, 1] rfl)
  · have hw := hw.2 hc
    refine lv_iload_n hx hb d_Co_byteOfAll_4 rfl (lv_at hl 1 rfl) ?_
    refine lv_aload_n hx hb d_Co_byteOfAll_5 rfl (lv_at hl 0 rfl) ?_
    refine gfC_Co_40 F hwd d_Co_byteOfAll_6 ?_
    refine lv_icmp_ge (tgt := 21) hx hb d_Co_byteOfAll_9 (by decide) (fun hc => ?_) (fun hc => ?_)
    · have hw := hw.1 hc
      exact wb_Co_byteOfAll_21 F hret hw hwd (lv_sub hl [0, 1] rfl)
    · have hw := hw.2 hc
      refine lv_aload_n hx hb d_Co_byteOfAll_12 rfl (lv_at hl 0 rfl) ?_
      refine gfC_Co_9 F hwd d_Co_byteOfAll_13 ?_
      refine lv_iload_n hx hb d_Co_byteOfAll_16 rfl (lv_at hl 1 rfl) ?_
      obtain ⟨hi, hw⟩ := hw
      refine rdC_20 F hwd hi d_Co_byteOfAll_17 ?_
      refine lv_goto (tgt := 22) hx hb d_Co_byteOfAll_18 (by decide) ?_
      exact hret _ _ _ _ hw hwd _ _ d_Co_byteOfAll_22

theorem ct_Co_byteOfAll {l : Launch} {D : va_G} {cI cZ : ClassId} {ad : Nat → Nat} (x1 : Int32) (g : St) (K : Int32 → St → Prop) (h : pc_Co_byteOfAll x1 g K) : ctCI l y_Co_byteOfAll b_Co_byteOfAll 2 0 0 D cI cZ ad [.ref (ad 19), .int x1] g K :=
  enCI (by decide) (Nat.le_of_ble_eq_true rfl) (fun p e s m args below meth c A H0 ls Q F hwd hl hret => wb_Co_byteOfAll_0 F hret h hwd hl)
end WALKC2
end
section
section WALKC3
variable {p : Program} {l : Launch} {e : Env} {R : Room} {s : State} {m : MethodId} {args : Array Value} {below : List Frame} {meth : Method} {c : Code} {H : Heap} {locs : List Loc} {Q : State → Prop}
variable {D : va_G} {cI cZ : ClassId} {ad : Nat → Nat} {A : Nat → Prop} {H0 : Heap} {ls : Array Slot}
set_option maxHeartbeats 4000000 in
set_option maxRecDepth 100000 in
theorem wb_Ru_wholeOf_0 {K : Int32 → St → Prop} {x0 : Int32} {g : St} (F : fxC D cI cZ p R s m args c b_Ru_wholeOf 4 R_Ru 0 0)
    (hret : rtCI D cI cZ ad p l e R s m args below meth c b_Ru_wholeOf A H0 Q K)
    (hw : pb_Ru_wholeOf_0 K x0 g)
    (hwd : wdC D cI cZ ad A H0 g H locs) (hl : lv_has ls 4 [(0, .int x0)]) : W p l e R s m args below meth c H locs 0 0 Q (F0 m 0 ls []) := by
  obtain ⟨hx, hb, hml, hown, hts, hK, hN, hR⟩ := F
  have F : fxC D cI cZ p R s m args c b_Ru_wholeOf 4 R_Ru 0 0 := ⟨hx, hb, hml, hown, hts, hK, hN, hR⟩
  refine lv_iload_n hx hb d_Ru_wholeOf_0 rfl (lv_at hl 0 rfl) ?_
  refine lv_ldc (v := 2147483647) hx hb hown (hts _ kC_0) d_Ru_wholeOf_1 ?_
  refine lv_iand hx hb d_Ru_wholeOf_3 ?_
  refine lv_if_ne (tgt := 9) hx hb d_Ru_wholeOf_4 (by decide) (fun hc => ?_) (fun hc => ?_)
  · have hw := hw.1 hc
    refine lv_iload_n hx hb d_Ru_wholeOf_9 rfl (lv_at hl 0 rfl) ?_
    refine lv_bipush (v := 23) hx hb d_Ru_wholeOf_10 (by decide) ?_
    refine lv_iushr hx hb d_Ru_wholeOf_12 rfl ?_
    refine lv_bipush (v := 127) hx hb d_Ru_wholeOf_13 (by decide) ?_
    refine lv_isub hx hb d_Ru_wholeOf_15 ?_
    refine lv_topi (fun v1 e_v1 => ?_)
    have hw := hw v1 e_v1
    refine lv_istore_n (lv' := [(1, .int v1), (0, .int x0)]) hx hb d_Ru_wholeOf_16 rfl hl (by decide) rfl (fun ls hl => ?_)
    refine lv_iload_n hx hb d_Ru_wholeOf_17 rfl (lv_at hl 0 rfl) ?_
    refine lv_if_lt (tgt := 26) hx hb d_Ru_wholeOf_18 (by decide) (fun hc => ?_) (fun hc => ?_)
    · have hw := hw.1 hc
      refine lv_iconst (v := -1) hx hb d_Ru_wholeOf_26 (by decide) ?_
      exact hret _ _ _ _ hw hwd _ _ d_Ru_wholeOf_27
    · have hw := hw.2 hc
      refine lv_iload_n hx hb d_Ru_wholeOf_21 rfl (lv_at hl 0 rfl) ?_
      refine lv_iconst (v := 4) hx hb d_Ru_wholeOf_22 (by decide) ?_
      refine lv_icmp_le (tgt := 28) hx hb d_Ru_wholeOf_23 (by decide) (fun hc => ?_) (fun hc => ?_)
      · have hw := hw.1 hc
        refine lv_iload_n hx hb d_Ru_wholeOf_28 rfl (lv_at hl 1 rfl) ?_
        refine lv_ldc (v := 8388607) hx hb hown (hts _ kC_4) d_Ru_wholeOf_29 ?_
        refine lv_iand hx hb d_Ru_wholeOf_31 ?_
        refine lv_ldc (v := 8388608) hx hb hown (hts _ kC_5) d_Ru_wholeOf_32 ?_
        refine lv_ior hx hb d_Ru_wholeOf_34 ?_
        refine lv_topi (fun v2 e_v2 => ?_)
        have hw := hw v2 e_v2
        refine lv_istore_n (lv' := [(2, .int v2), (1, .int v1), (0, .int x0)]) hx hb d_Ru_wholeOf_35 rfl hl (by decide) rfl (fun ls hl => ?_)
        refine lv_iload_n hx hb d_Ru_wholeOf_36 rfl (lv_at hl 0 rfl) ?_
        refine lv_bipush (v := 23) hx hb d_Ru_wholeOf_37 (by decide) ?_
        refine lv_iload_n hx hb d_Ru_wholeOf_39 rfl (lv_at hl 1 rfl) ?_
        refine lv_isub hx hb d_Ru_wholeOf_40 ?_
        refine lv_ishr hx hb d_Ru_wholeOf_41 ?_
        refine lv_topi (fun v3 e_v3 => ?_)
        have hw := hw v3 e_v3
        refine lv_istore_n (lv' := [(3, .int v3), (2, .int v2), (1, .int v1), (0, .int x0)]) hx hb d_Ru_wholeOf_42 rfl hl (by decide) rfl (fun ls hl => ?_)
        refine lv_iload_n hx hb d_Ru_wholeOf_43 rfl (lv_at hl 0 rfl) ?_
        refine lv_bipush (v := 23) hx hb d_Ru_wholeOf_44 (by decide) ?_
        refine lv_iload_n hx hb d_Ru_wholeOf_46 rfl (lv_at hl 2 rfl) ?_
        refine lv_isub hx hb d_Ru_wholeOf_47 ?_
        refine lv_ishl hx hb d_Ru_wholeOf_48 ?_
        refine lv_iload_n hx hb d_Ru_wholeOf_49 rfl (lv_at hl 1 rfl) ?_
        refine lv_icmp_ne (tgt := 57) hx hb d_Ru_wholeOf_50 (by decide) (fun hc => ?_) (fun hc => ?_)
        · have hw := hw.1 hc
          refine lv_iconst (v := -1) hx hb d_Ru_wholeOf_57 (by decide) ?_
          exact hret _ _ _ _ hw hwd _ _ d_Ru_wholeOf_58
        · have hw := hw.2 hc
          refine lv_iload_n hx hb d_Ru_wholeOf_53 rfl (lv_at hl 0 rfl) ?_
          refine lv_goto (tgt := 58) hx hb d_Ru_wholeOf_54 (by decide) ?_
          exact hret _ _ _ _ hw hwd _ _ d_Ru_wholeOf_58
      · have hw := hw.2 hc
        refine lv_iconst (v := -1) hx hb d_Ru_wholeOf_26 (by decide) ?_
        exact hret _ _ _ _ hw hwd _ _ d_Ru_wholeOf_27
  · have hw := hw.2 hc
    refine lv_iconst (v := 0) hx hb d_Ru_wholeOf_7 (by decide) ?_
    exact hret _ _ _ _ hw hwd _ _ d_Ru_wholeOf_8

theorem ct_Ru_wholeOf {l : Launch} {D : va_G} {cI cZ : ClassId} {ad : Nat → Nat} (x0 : Int32) (g : St) (K : Int32 → St → Prop) (h : pc_Ru_wholeOf x0 g K) : ctCI l y_Ru_wholeOf b_Ru_wholeOf 4 0 0 D cI cZ ad [.int x0] g K :=
  enCI (by decide) (Nat.le_of_ble_eq_true rfl) (fun p e s m args below meth c A H0 ls Q F hwd hl hret => wb_Ru_wholeOf_0 F hret h hwd hl)

set_option maxHeartbeats 4000000 in
set_option maxRecDepth 100000 in
theorem wb_Ru_orderOf_0 {K : Int32 → St → Prop} {x0 : Int32} {g : St} (F : fxC D cI cZ p R s m args c b_Ru_orderOf 1 R_Ru 0 0)
    (hret : rtCI D cI cZ ad p l e R s m args below meth c b_Ru_orderOf A H0 Q K)
    (hw : pb_Ru_orderOf_0 K x0 g)
    (hwd : wdC D cI cZ ad A H0 g H locs) (hl : lv_has ls 1 [(0, .int x0)]) : W p l e R s m args below meth c H locs 0 0 Q (F0 m 0 ls []) := by
  obtain ⟨hx, hb, hml, hown, hts, hK, hN, hR⟩ := F
  have F : fxC D cI cZ p R s m args c b_Ru_orderOf 1 R_Ru 0 0 := ⟨hx, hb, hml, hown, hts, hK, hN, hR⟩
  refine lv_iload_n hx hb d_Ru_orderOf_0 rfl (lv_at hl 0 rfl) ?_
  refine lv_if_lt (tgt := 8) hx hb d_Ru_orderOf_1 (by decide) (fun hc => ?_) (fun hc => ?_)
  · have hw := hw.1 hc
    refine lv_iload_n hx hb d_Ru_orderOf_8 rfl (lv_at hl 0 rfl) ?_
    refine lv_ldc (v := 2147483647) hx hb hown (hts _ kC_0) d_Ru_orderOf_9 ?_
    refine lv_iand hx hb d_Ru_orderOf_11 ?_
    refine lv_ineg hx hb d_Ru_orderOf_12 ?_
    exact hret _ _ _ _ hw hwd _ _ d_Ru_orderOf_13
  · have hw := hw.2 hc
    refine lv_iload_n hx hb d_Ru_orderOf_4 rfl (lv_at hl 0 rfl) ?_
    refine lv_goto (tgt := 13) hx hb d_Ru_orderOf_5 (by decide) ?_
    exact hret _ _ _ _ hw hwd _ _ d_Ru_orderOf_13

theorem ct_Ru_orderOf {l : Launch} {D : va_G} {cI cZ : ClassId} {ad : Nat → Nat} (x0 : Int32) (g : St) (K : Int32 → St → Prop) (h : pc_Ru_orderOf x0 g K) : ctCI l y_Ru_orderOf b_Ru_orderOf 1 0 0 D cI cZ ad [.int x0] g K :=
  enCI (by decide) (Nat.le_of_ble_eq_true rfl) (fun p e s m args below meth c A H0 ls Q F hwd hl hret => wb_Ru_orderOf_0 F hret h hwd hl)

set_option maxHeartbeats 4000000 in
set_option maxRecDepth 100000 in
theorem wb_Ru_goesToYes_0 {K : Int32 → St → Prop} {x0 : Int32} {x1 : Int32} {x2 : Int32} {g : St} (F : fxC D cI cZ p R s m args c b_Ru_goesToYes 4 R_Ru 1 23)
    (hret : rtCZ D cI cZ ad p l e R s m args below meth c b_Ru_goesToYes A H0 Q K)
    (hw : pb_Ru_goesToYes_0 K x0 x1 x2 g)
    (hwd : wdC D cI cZ ad A H0 g H locs) (hl : lv_has ls 4 [(0, .int x0), (1, .int x1), (2, .int x2)]) : W p l e R s m args below meth c H locs 0 0 Q (F0 m 0 ls []) := by
  obtain ⟨hx, hb, hml, hown, hts, hK, hN, hR⟩ := F
  have F : fxC D cI cZ p R s m args c b_Ru_goesToYes 4 R_Ru 1 23 := ⟨hx, hb, hml, hown, hts, hK, hN, hR⟩
  refine lv_iload_n hx hb d_Ru_goesToYes_0 rfl (lv_at hl 1 rfl) ?_
  refine lv_ldc (v := 2147483647) hx hb hown (hts _ kC_0) d_Ru_goesToYes_1 ?_
  refine lv_iand hx hb d_Ru_goesToYes_3 ?_
  refine lv_ldc (v := 2139095040) hx hb hown (hts _ kC_1) d_Ru_goesToYes_4 ?_
  refine lv_icmp_le (tgt := 22) hx hb d_Ru_goesToYes_6 (by decide) (fun hc => ?_) (fun hc => ?_)
  · have hw := hw.1 hc
    refine lv_iload_n hx hb d_Ru_goesToYes_22 rfl (lv_at hl 0 rfl) ?_
    refine mcC_Ru_9 F hwd (ct_Ru_isBitRule _ _ _ hw) ⟨Nat.le_trans (by decide) hR.1, Nat.le_trans (by decide) hR.2⟩ hl.1 (Nat.le_of_ble_eq_true rfl) d_Ru_goesToYes_23 (fun v2 g1 H locs hw hwd => ?_)
    refine lv_if_eq (tgt := 54) hx hb d_Ru_goesToYes_26 (by decide) (fun hc => ?_) (fun hc => ?_)
    · have hw := hw.1 hc
      refine lv_iload_n hx hb d_Ru_goesToYes_54 rfl (lv_at hl 0 rfl) ?_
      refine lv_iconst (v := 2) hx hb d_Ru_goesToYes_55 (by decide) ?_
      refine lv_icmp_ge (tgt := 78) hx hb d_Ru_goesToYes_56 (by decide) (fun hc => ?_) (fun hc => ?_)
      · have hw := hw.1 hc
        refine lv_iload_n hx hb d_Ru_goesToYes_78 rfl (lv_at hl 1 rfl) ?_
        refine mcC_Ru_21 F hwd (ct_Ru_orderOf _ _ _ hw) ⟨Nat.le_trans (by decide) hR.1, Nat.le_trans (by decide) hR.2⟩ hl.1 (Nat.le_of_ble_eq_true rfl) d_Ru_goesToYes_79 (fun v4 g3 H locs hw hwd => ?_)
        refine lv_iload_n hx hb d_Ru_goesToYes_82 rfl (lv_at hl 2 rfl) ?_
        refine mcC_Ru_21 F hwd (ct_Ru_orderOf _ _ _ hw) ⟨Nat.le_trans (by decide) hR.1, Nat.le_trans (by decide) hR.2⟩ hl.1 (Nat.le_of_ble_eq_true rfl) d_Ru_goesToYes_83 (fun v6 g5 H locs hw hwd => ?_)
        refine lv_icmp_gt (tgt := 93) hx hb d_Ru_goesToYes_86 (by decide) (fun hc => ?_) (fun hc => ?_)
        · have hw := hw.1 hc
          refine lv_iconst (v := 0) hx hb d_Ru_goesToYes_93 (by decide) ?_
          exact hret _ _ _ _ hw (by decide) hwd _ _ d_Ru_goesToYes_94
        · have hw := hw.2 hc
          refine lv_iconst (v := 1) hx hb d_Ru_goesToYes_89 (by decide) ?_
          refine lv_goto (tgt := 94) hx hb d_Ru_goesToYes_90 (by decide) ?_
          exact hret _ _ _ _ hw (by decide) hwd _ _ d_Ru_goesToYes_94
      · have hw := hw.2 hc
        refine lv_iload_n hx hb d_Ru_goesToYes_59 rfl (lv_at hl 1 rfl) ?_
        refine mcC_Ru_21 F hwd (ct_Ru_orderOf _ _ _ hw) ⟨Nat.le_trans (by decide) hR.1, Nat.le_trans (by decide) hR.2⟩ hl.1 (Nat.le_of_ble_eq_true rfl) d_Ru_goesToYes_60 (fun v8 g7 H locs hw hwd => ?_)
        refine lv_iload_n hx hb d_Ru_goesToYes_63 rfl (lv_at hl 2 rfl) ?_
        refine mcC_Ru_21 F hwd (ct_Ru_orderOf _ _ _ hw) ⟨Nat.le_trans (by decide) hR.1, Nat.le_trans (by decide) hR.2⟩ hl.1 (Nat.le_of_ble_eq_true rfl) d_Ru_goesToYes_64 (fun v10 g9 H locs hw hwd => ?_)
        refine lv_icmp_ge (tgt := 74) hx hb d_Ru_goesToYes_67 (by decide) (fun hc => ?_) (fun hc => ?_)
        · have hw := hw.1 hc
          refine lv_iconst (v := 0) hx hb d_Ru_goesToYes_74 (by decide) ?_
          refine lv_goto (tgt := 94) hx hb d_Ru_goesToYes_75 (by decide) ?_
          exact hret _ _ _ _ hw (by decide) hwd _ _ d_Ru_goesToYes_94
        · have hw := hw.2 hc
          refine lv_iconst (v := 1) hx hb d_Ru_goesToYes_70 (by decide) ?_
          refine lv_goto (tgt := 94) hx hb d_Ru_goesToYes_71 (by decide) ?_
          exact hret _ _ _ _ hw (by decide) hwd _ _ d_Ru_goesToYes_94
    · have hw := hw.2 hc
      refine lv_iload_n hx hb d_Ru_goesToYes_29 rfl (lv_at hl 1 rfl) ?_
      refine mcC_Ru_17 F hwd (ct_Ru_wholeOf _ _ _ hw) ⟨Nat.le_trans (by decide) hR.1, Nat.le_trans (by decide) hR.2⟩ hl.1 (Nat.le_of_ble_eq_true rfl) d_Ru_goesToYes_30 (fun v12 g11 H locs hw hwd => ?_)
      refine lv_topi (fun v13 e_v13 => ?_)
      have hw := hw v13 e_v13
      refine lv_istore_n (lv' := [(3, .int v13), (0, .int x0), (1, .int x1), (2, .int x2)]) hx hb d_Ru_goesToYes_33 rfl hl (by decide) rfl (fun ls hl => ?_)
      refine lv_iload_n hx hb d_Ru_goesToYes_34 rfl (lv_at hl 0 rfl) ?_
      refine lv_iconst (v := -1) hx hb d_Ru_goesToYes_35 (by decide) ?_
      refine lv_icmp_eq (tgt := 52) hx hb d_Ru_goesToYes_36 (by decide) (fun hc => ?_) (fun hc => ?_)
      · have hw := hw.1 hc
        refine lv_iconst (v := 0) hx hb d_Ru_goesToYes_52 (by decide) ?_
        exact hret _ _ _ _ hw (by decide) hwd _ _ d_Ru_goesToYes_53
      · have hw := hw.2 hc
        refine lv_iload_n hx hb d_Ru_goesToYes_39 rfl (lv_at hl 3 rfl) ?_
        refine lv_iload_n hx hb d_Ru_goesToYes_40 rfl (lv_at hl 0 rfl) ?_
        refine lv_iushr hx hb d_Ru_goesToYes_41 rfl ?_
        refine lv_iconst (v := 1) hx hb d_Ru_goesToYes_42 (by decide) ?_
        refine lv_iand hx hb d_Ru_goesToYes_43 ?_
        refine lv_iconst (v := 1) hx hb d_Ru_goesToYes_44 (by decide) ?_
        refine lv_icmp_ne (tgt := 52) hx hb d_Ru_goesToYes_45 (by decide) (fun hc => ?_) (fun hc => ?_)
        · have hw := hw.1 hc
          refine lv_iconst (v := 0) hx hb d_Ru_goesToYes_52 (by decide) ?_
          exact hret _ _ _ _ hw (by decide) hwd _ _ d_Ru_goesToYes_53
        · have hw := hw.2 hc
          refine lv_iconst (v := 1) hx hb d_Ru_goesToYes_48 (by decide) ?_
          refine lv_goto (tgt := 53) hx hb d_Ru_goesToYes_49 (by decide) ?_
          exact hret _ _ _ _ hw (by decide) hwd _ _ d_Ru_goesToYes_53
  · have hw := hw.2 hc
    refine lv_iload_n hx hb d_Ru_goesToYes_9 rfl (lv_at hl 0 rfl) ?_
    refine lv_iconst (v := 1) hx hb d_Ru_goesToYes_10 (by decide) ?_
    refine lv_iand hx hb d_Ru_goesToYes_11 ?_
    refine lv_iconst (v := 1) hx hb d_Ru_goesToYes_12 (by decide) ?_
    refine lv_icmp_ne (tgt := 20) hx hb d_Ru_goesToYes_13 (by decide) (fun hc => ?_) (fun hc => ?_)
    · have hw := hw.1 hc
      refine lv_iconst (v := 0) hx hb d_Ru_goesToYes_20 (by decide) ?_
      exact hret _ _ _ _ hw (by decide) hwd _ _ d_Ru_goesToYes_21
    · have hw := hw.2 hc
      refine lv_iconst (v := 1) hx hb d_Ru_goesToYes_16 (by decide) ?_
      refine lv_goto (tgt := 21) hx hb d_Ru_goesToYes_17 (by decide) ?_
      exact hret _ _ _ _ hw (by decide) hwd _ _ d_Ru_goesToYes_21

theorem ct_Ru_goesToYes {l : Launch} {D : va_G} {cI cZ : ClassId} {ad : Nat → Nat} (x0 : Int32) (x1 : Int32) (x2 : Int32) (g : St) (K : Int32 → St → Prop) (h : pc_Ru_goesToYes x0 x1 x2 g K) : ctCZ l y_Ru_goesToYes b_Ru_goesToYes 4 1 23 D cI cZ ad [.int x0, .int x1, .int x2] g K :=
  enCZ (by decide) (Nat.le_of_ble_eq_true rfl) (fun p e s m args below meth c A H0 ls Q F hwd hl hret => wb_Ru_goesToYes_0 F hret h hwd hl)

set_option maxHeartbeats 4000000 in
set_option maxRecDepth 100000 in
theorem wb_Ma_testMove_38 {K : Int32 → St → Prop} {x1 : Int32} {x2 : Int32} {x3 : Int32} {x4 : Int32} {x5 : Int32} {t0 : Int32} {t1 : Int32} {g : St} (F : fxC D cI cZ p R s m args c b_Ma_testMove 8 R_Ma 2 46)
    (hret : rtCI D cI cZ ad p l e R s m args below meth c b_Ma_testMove A H0 Q K)
    (hw : pb_Ma_testMove_38 K x1 x2 x3 x4 x5 t0 t1 g)
    (hwd : wdC D cI cZ ad A H0 g H locs) (hl : lv_has ls 8 [(0, .ref (ad 24)), (1, .int x1), (2, .int x2), (3, .int x3), (4, .int x4), (5, .int x5)]) : W p l e R s m args below meth c H locs 0 0 Q (F0 m 38 ls [.int t1, .int t0]) := by
  obtain ⟨hx, hb, hml, hown, hts, hK, hN, hR⟩ := F
  have F : fxC D cI cZ p R s m args c b_Ma_testMove 8 R_Ma 2 46 := ⟨hx, hb, hml, hown, hts, hK, hN, hR⟩
  refine lv_isub hx hb d_Ma_testMove_38 ?_
  refine lv_topi (fun v1 e_v1 => ?_)
  have hw := hw v1 e_v1
  refine lv_istore (lv' := [(6, .int v1), (0, .ref (ad 24)), (1, .int x1), (2, .int x2), (3, .int x3), (4, .int x4), (5, .int x5)]) hx hb d_Ma_testMove_39 hl (by decide) rfl (fun ls hl => ?_)
  refine lv_iload hx hb d_Ma_testMove_41 (lv_at hl 0 rfl) ?_
  refine lv_iload_n hx hb d_Ma_testMove_43 rfl (lv_at hl 3 rfl) ?_
  refine lv_iload_n hx hb d_Ma_testMove_44 rfl (lv_at hl 4 rfl) ?_
  refine mcC_Ma_76 F hwd (ct_Ru_goesToYes _ _ _ _ _ hw) ⟨Nat.le_trans (by decide) hR.1, Nat.le_trans (by decide) hR.2⟩ hl.1 (Nat.le_of_ble_eq_true rfl) d_Ma_testMove_45 (fun v3 g2 H locs hw hwd => ?_)
  refine lv_if_eq (tgt := 62) hx hb d_Ma_testMove_48 (by decide) (fun hc => ?_) (fun hc => ?_)
  · have hw := hw.1 hc
    refine lv_aload_n hx hb d_Ma_testMove_62 rfl (lv_at hl 1 rfl) ?_
    refine gfC_Ma_9 F hwd d_Ma_testMove_63 ?_
    refine lv_iload_n hx hb d_Ma_testMove_66 rfl (lv_at hl 2 rfl) ?_
    refine lv_iconst (v := 1) hx hb d_Ma_testMove_67 (by decide) ?_
    refine lv_iadd hx hb d_Ma_testMove_68 ?_
    refine mcC_Ma_49 F hwd (ct_Co_byteOfAll _ _ _ hw) ⟨Nat.le_trans (by decide) hR.1, Nat.le_trans (by decide) hR.2⟩ hl.1 (Nat.le_of_ble_eq_true rfl) d_Ma_testMove_69 (fun v5 g4 H locs hw hwd => ?_)
    refine lv_topi (fun v6 e_v6 => ?_)
    have hw := hw v6 e_v6
    refine lv_istore (lv' := [(7, .int v6), (6, .int v1), (0, .ref (ad 24)), (1, .int x1), (2, .int x2), (3, .int x3), (4, .int x4), (5, .int x5)]) hx hb d_Ma_testMove_72 hl (by decide) rfl (fun ls hl => ?_)
    refine lv_iload hx hb d_Ma_testMove_74 (lv_at hl 7 rfl) ?_
    refine lv_if_eq (tgt := 99) hx hb d_Ma_testMove_76 (by decide) (fun hc => ?_) (fun hc => ?_)
    · have hw := hw.1 hc
      refine lv_iload hx hb d_Ma_testMove_99 (lv_at hl 0 rfl) ?_
      exact hret _ _ _ _ hw hwd _ _ d_Ma_testMove_101
    · have hw := hw.2 hc
      refine lv_sipush (v := 256) hx hb d_Ma_testMove_79 (by decide) ?_
      refine lv_iload hx hb d_Ma_testMove_82 (lv_at hl 0 rfl) ?_
      refine lv_imul hx hb d_Ma_testMove_84 ?_
      refine lv_aload_n hx hb d_Ma_testMove_85 rfl (lv_at hl 2 rfl) ?_
      refine gfC_Ma_9 F hwd d_Ma_testMove_86 ?_
      refine lv_iload_n hx hb d_Ma_testMove_89 rfl (lv_at hl 3 rfl) ?_
      refine lv_iconst (v := 2) hx hb d_Ma_testMove_90 (by decide) ?_
      refine lv_iadd hx hb d_Ma_testMove_91 ?_
      refine mcC_Ma_49 F hwd (ct_Co_byteOfAll _ _ _ hw) ⟨Nat.le_trans (by decide) hR.1, Nat.le_trans (by decide) hR.2⟩ hl.1 (Nat.le_of_ble_eq_true rfl) d_Ma_testMove_92 (fun v8 g7 H locs hw hwd => ?_)
      refine lv_iadd hx hb d_Ma_testMove_95 ?_
      refine lv_goto (tgt := 101) hx hb d_Ma_testMove_96 (by decide) ?_
      exact hret _ _ _ _ hw hwd _ _ d_Ma_testMove_101
  · have hw := hw.2 hc
    refine lv_iload hx hb d_Ma_testMove_51 (lv_at hl 6 rfl) ?_
    refine lv_if_eq (tgt := 60) hx hb d_Ma_testMove_53 (by decide) (fun hc => ?_) (fun hc => ?_)
    · have hw := hw.1 hc
      refine lv_iconst (v := 2) hx hb d_Ma_testMove_60 (by decide) ?_
      exact hret _ _ _ _ hw hwd _ _ d_Ma_testMove_61
    · have hw := hw.2 hc
      refine lv_iconst (v := 3) hx hb d_Ma_testMove_56 (by decide) ?_
      refine lv_goto (tgt := 61) hx hb d_Ma_testMove_57 (by decide) ?_
      exact hret _ _ _ _ hw hwd _ _ d_Ma_testMove_61

set_option maxHeartbeats 4000000 in
set_option maxRecDepth 100000 in
theorem wb_Ma_testMove_22 {K : Int32 → St → Prop} {x1 : Int32} {x2 : Int32} {x3 : Int32} {x4 : Int32} {t0 : Int32} {g : St} (F : fxC D cI cZ p R s m args c b_Ma_testMove 8 R_Ma 2 46)
    (hret : rtCI D cI cZ ad p l e R s m args below meth c b_Ma_testMove A H0 Q K)
    (hw : pb_Ma_testMove_22 K x1 x2 x3 x4 t0 g)
    (hwd : wdC D cI cZ ad A H0 g H locs) (hl : lv_has ls 8 [(0, .ref (ad 24)), (1, .int x1), (2, .int x2), (3, .int x3), (4, .int x4)]) : W p l e R s m args below meth c H locs 0 0 Q (F0 m 22 ls [.int t0]) := by
  obtain ⟨hx, hb, hml, hown, hts, hK, hN, hR⟩ := F
  have F : fxC D cI cZ p R s m args c b_Ma_testMove 8 R_Ma 2 46 := ⟨hx, hb, hml, hown, hts, hK, hN, hR⟩
  refine lv_topi (fun v1 e_v1 => ?_)
  have hw := hw v1 e_v1
  refine lv_istore (lv' := [(5, .int v1), (0, .ref (ad 24)), (1, .int x1), (2, .int x2), (3, .int x3), (4, .int x4)]) hx hb d_Ma_testMove_22 hl (by decide) rfl (fun ls hl => ?_)
  refine lv_iload hx hb d_Ma_testMove_24 (lv_at hl 5 rfl) ?_
  refine lv_iload hx hb d_Ma_testMove_26 (lv_at hl 0 rfl) ?_
  refine lv_if_eq (tgt := 36) hx hb d_Ma_testMove_28 (by decide) (fun hc => ?_) (fun hc => ?_)
  · have hw := hw.1 hc
    refine lv_bipush (v := 10) hx hb d_Ma_testMove_36 (by decide) ?_
    exact wb_Ma_testMove_38 F hret hw hwd (lv_sub hl [1, 2, 3, 4, 5, 0] rfl)
  · have hw := hw.2 hc
    refine lv_bipush (v := 20) hx hb d_Ma_testMove_31 (by decide) ?_
    refine lv_goto (tgt := 38) hx hb d_Ma_testMove_33 (by decide) ?_
    exact wb_Ma_testMove_38 F hret hw hwd (lv_sub hl [1, 2, 3, 4, 5, 0] rfl)

set_option maxHeartbeats 4000000 in
set_option maxRecDepth 100000 in
theorem wb_Ma_testMove_0 {K : Int32 → St → Prop} {x1 : Int32} {x2 : Int32} {x3 : Int32} {g : St} (F : fxC D cI cZ p R s m args c b_Ma_testMove 8 R_Ma 2 46)
    (hret : rtCI D cI cZ ad p l e R s m args below meth c b_Ma_testMove A H0 Q K)
    (hw : pb_Ma_testMove_0 K x1 x2 x3 g)
    (hwd : wdC D cI cZ ad A H0 g H locs) (hl : lv_has ls 8 [(0, .ref (ad 24)), (1, .int x1), (2, .int x2), (3, .int x3)]) : W p l e R s m args below meth c H locs 0 0 Q (F0 m 0 ls []) := by
  obtain ⟨hx, hb, hml, hown, hts, hK, hN, hR⟩ := F
  have F : fxC D cI cZ p R s m args c b_Ma_testMove 8 R_Ma 2 46 := ⟨hx, hb, hml, hown, hts, hK, hN, hR⟩
  refine lv_aload_n hx hb d_Ma_testMove_0 rfl (lv_at hl 0 rfl) ?_
  refine gfC_Ma_9 F hwd d_Ma_testMove_1 ?_
  refine lv_iload_n hx hb d_Ma_testMove_4 rfl (lv_at hl 1 rfl) ?_
  refine mcC_Ma_49 F hwd (ct_Co_byteOfAll _ _ _ hw) ⟨Nat.le_trans (by decide) hR.1, Nat.le_trans (by decide) hR.2⟩ hl.1 (Nat.le_of_ble_eq_true rfl) d_Ma_testMove_5 (fun v2 g1 H locs hw hwd => ?_)
  refine lv_topi (fun v3 e_v3 => ?_)
  have hw := hw v3 e_v3
  refine lv_istore (lv' := [(4, .int v3), (0, .ref (ad 24)), (1, .int x1), (2, .int x2), (3, .int x3)]) hx hb d_Ma_testMove_8 hl (by decide) rfl (fun ls hl => ?_)
  refine lv_iload hx hb d_Ma_testMove_10 (lv_at hl 0 rfl) ?_
  refine lv_bipush (v := 20) hx hb d_Ma_testMove_12 (by decide) ?_
  refine lv_icmp_lt (tgt := 21) hx hb d_Ma_testMove_14 (by decide) (fun hc => ?_) (fun hc => ?_)
  · have hw := hw.1 hc
    refine lv_iconst (v := 0) hx hb d_Ma_testMove_21 (by decide) ?_
    exact wb_Ma_testMove_22 F hret hw hwd (lv_sub hl [1, 2, 3, 4, 0] rfl)
  · have hw := hw.2 hc
    refine lv_iconst (v := 1) hx hb d_Ma_testMove_17 (by decide) ?_
    refine lv_goto (tgt := 22) hx hb d_Ma_testMove_18 (by decide) ?_
    exact wb_Ma_testMove_22 F hret hw hwd (lv_sub hl [1, 2, 3, 4, 0] rfl)

theorem ct_Ma_testMove {l : Launch} {D : va_G} {cI cZ : ClassId} {ad : Nat → Nat} (x1 : Int32) (x2 : Int32) (x3 : Int32) (g : St) (K : Int32 → St → Prop) (h : pc_Ma_testMove x1 x2 x3 g K) : ctCI l y_Ma_testMove b_Ma_testMove 8 2 46 D cI cZ ad [.ref (ad 24), .int x1, .int x2, .int x3] g K :=
  enCI (by decide) (Nat.le_of_ble_eq_true rfl) (fun p e s m args below meth c A H0 ls Q F hwd hl hret => wb_Ma_testMove_0 F hret h hwd hl)

set_option maxHeartbeats 4000000 in
set_option maxRecDepth 100000 in
theorem wb_Ma_operand_0 {K : Int32 → St → Prop} {x1 : Int32} {x2 : Int32} {x3 : Int32} {g : St} (F : fxC D cI cZ p R s m args c b_Ma_operand 4 R_Ma 2 43)
    (hret : rtCI D cI cZ ad p l e R s m args below meth c b_Ma_operand A H0 Q K)
    (hw : pb_Ma_operand_0 K x1 x2 x3 g)
    (hwd : wdC D cI cZ ad A H0 g H locs) (hl : lv_has ls 4 [(0, .ref (ad 24)), (1, .int x1), (2, .int x2), (3, .int x3)]) : W p l e R s m args below meth c H locs 0 0 Q (F0 m 0 ls []) := by
  obtain ⟨hx, hb, hml, hown, hts, hK, hN, hR⟩ := F
  have F : fxC D cI cZ p R s m args c b_Ma_operand 4 R_Ma 2 43 := ⟨hx, hb, hml, hown, hts, hK, hN, hR⟩
  refine lv_iload_n hx hb d_Ma_operand_0 rfl (lv_at hl 1 rfl) ?_
  refine lv_iconst (v := 1) hx hb d_Ma_operand_1 (by decide) ?_
  refine lv_icmp_ne (tgt := 23) hx hb d_Ma_operand_2 (by decide) (fun hc => ?_) (fun hc => ?_)
  · have hw := hw.1 hc
    refine lv_aload_n hx hb d_Ma_operand_23 rfl (lv_at hl 0 rfl) ?_
    refine gfC_Ma_15 F hwd d_Ma_operand_24 ?_
    refine lv_iload_n hx hb d_Ma_operand_27 rfl (lv_at hl 2 rfl) ?_
    refine lv_iload_n hx hb d_Ma_operand_28 rfl (lv_at hl 3 rfl) ?_
    refine mcC_Ma_66 F hwd (ct_Ta_holds _ _ _ _ hw) ⟨Nat.le_trans (by decide) hR.1, Nat.le_trans (by decide) hR.2⟩ hl.1 (Nat.le_of_ble_eq_true rfl) d_Ma_operand_29 (fun v2 g1 H locs hw hwd => ?_)
    refine lv_if_eq (tgt := 57) hx hb d_Ma_operand_32 (by decide) (fun hc => ?_) (fun hc => ?_)
    · have hw := hw.1 hc
      refine lv_iconst (v := 0) hx hb d_Ma_operand_57 (by decide) ?_
      exact hret _ _ _ _ hw hwd _ _ d_Ma_operand_58
    · have hw := hw.2 hc
      refine lv_aload_n hx hb d_Ma_operand_35 rfl (lv_at hl 0 rfl) ?_
      refine gfC_Ma_15 F hwd d_Ma_operand_36 ?_
      refine gfC_Ma_72 F hwd d_Ma_operand_39 ?_
      refine lv_aload_n hx hb d_Ma_operand_42 rfl (lv_at hl 0 rfl) ?_
      refine gfC_Ma_15 F hwd d_Ma_operand_43 ?_
      refine gfC_Ma_75 F hwd d_Ma_operand_46 ?_
      refine lv_iload_n hx hb d_Ma_operand_49 rfl (lv_at hl 2 rfl) ?_
      obtain ⟨hi, hw⟩ := hw
      refine rdC_18 F hwd hi d_Ma_operand_50 ?_
      refine lv_iload_n hx hb d_Ma_operand_51 rfl (lv_at hl 3 rfl) ?_
      refine lv_iadd hx hb d_Ma_operand_52 ?_
      obtain ⟨hi, hw⟩ := hw
      refine rdC_17 F hwd hi d_Ma_operand_53 ?_
      refine lv_goto (tgt := 58) hx hb d_Ma_operand_54 (by decide) ?_
      exact hret _ _ _ _ hw hwd _ _ d_Ma_operand_58
  · have hw := hw.2 hc
    refine lv_iload_n hx hb d_Ma_operand_5 rfl (lv_at hl 3 rfl) ?_
    refine mcC_Ma_63 F hwd (ct_BF_isFeature _ _ _ hw) ⟨Nat.le_trans (by decide) hR.1, Nat.le_trans (by decide) hR.2⟩ hl.1 (Nat.le_of_ble_eq_true rfl) d_Ma_operand_6 (fun v4 g3 H locs hw hwd => ?_)
    refine lv_if_eq (tgt := 21) hx hb d_Ma_operand_9 (by decide) (fun hc => ?_) (fun hc => ?_)
    · have hw := hw.1 hc
      refine lv_iconst (v := 0) hx hb d_Ma_operand_21 (by decide) ?_
      exact hret _ _ _ _ hw hwd _ _ d_Ma_operand_22
    · have hw := hw.2 hc
      refine lv_aload_n hx hb d_Ma_operand_12 rfl (lv_at hl 0 rfl) ?_
      refine gfC_Ma_19 F hwd d_Ma_operand_13 ?_
      refine lv_iload_n hx hb d_Ma_operand_16 rfl (lv_at hl 3 rfl) ?_
      obtain ⟨hi, hw⟩ := hw
      refine rdC_1 F hwd hi d_Ma_operand_17 ?_
      refine lv_goto (tgt := 22) hx hb d_Ma_operand_18 (by decide) ?_
      exact hret _ _ _ _ hw hwd _ _ d_Ma_operand_22

theorem ct_Ma_operand {l : Launch} {D : va_G} {cI cZ : ClassId} {ad : Nat → Nat} (x1 : Int32) (x2 : Int32) (x3 : Int32) (g : St) (K : Int32 → St → Prop) (h : pc_Ma_operand x1 x2 x3 g K) : ctCI l y_Ma_operand b_Ma_operand 4 2 43 D cI cZ ad [.ref (ad 24), .int x1, .int x2, .int x3] g K :=
  enCI (by decide) (Nat.le_of_ble_eq_true rfl) (fun p e s m args below meth c A H0 ls Q F hwd hl hret => wb_Ma_operand_0 F hret h hwd hl)

set_option maxHeartbeats 4000000 in
set_option maxRecDepth 100000 in
theorem wb_Ma_runMethod_157 {rc : Int32 → Int32 → St → (Int32 → St → Prop) → Prop} {K : Int32 → St → Prop} {P38 : Int32 → Int32 → Int32 → Int32 → Int32 → Int32 → St → Prop} {x1 : Int32} {x2 : Int32} {x3 : Int32} {x4 : Int32} {x5 : Int32} {x6 : Int32} {x7 : Int32} {g : St} (F : fxC D cI cZ p R s m args c b_Ma_runMethod 8 R_Ma 3 73)
    (hret : rtCI D cI cZ ad p l e R s m args below meth c b_Ma_runMethod A H0 Q K) {f lo : Nat} (hrc : ∀ (y1 y2 : Int32) (g : St) (K : Int32 → St → Prop), rc y1 y2 g K → ctCI l y_Ma_runMethod b_Ma_runMethod 8 f lo D cI cZ ad [.ref (ad 24), .int y1, .int y2] g K) (hf0 : 3 ≤ f ∧ 73 ≤ lo) (hRr : f + 1 ≤ R.frames ∧ lo + 27 ≤ R.locals) (hp38 : ∀ (x1 : Int32) (x2 : Int32) (x3 : Int32) (x4 : Int32) (x5 : Int32) (x6 : Int32) (g : St) (H : Heap) (locs : List Loc) (ls : Array Slot), P38 x1 x2 x3 x4 x5 x6 g → wdC D cI cZ ad A H0 g H locs → lv_has ls 8 [(0, .ref (ad 24)), (1, .int x1), (2, .int x2), (3, .int x3), (4, .int x4), (5, .int x5), (6, .int x6)] → W p l e R s m args below meth c H locs 0 0 Q (F0 m 38 ls []))
    (hw : pb_Ma_runMethod_157 rc K P38 x1 x2 x3 x4 x5 x6 x7 g)
    (hwd : wdC D cI cZ ad A H0 g H locs) (hl : lv_has ls 8 [(0, .ref (ad 24)), (1, .int x1), (2, .int x2), (3, .int x3), (4, .int x4), (5, .int x5), (6, .int x6), (7, .int x7)]) : W p l e R s m args below meth c H locs 0 0 Q (F0 m 157 ls []) := by
  obtain ⟨hx, hb, hml, hown, hts, hK, hN, hR⟩ := F
  have F : fxC D cI cZ p R s m args c b_Ma_runMethod 8 R_Ma 3 73 := ⟨hx, hb, hml, hown, hts, hK, hN, hR⟩
  obtain ⟨v1, e_v1⟩ : ∃ z, z = x6 + (1 : Int32) := ⟨_, rfl⟩
  have hw := hw v1 e_v1
  refine lv_iinc (k := 6) (lv' := [(6, .int v1), (0, .ref (ad 24)), (1, .int x1), (2, .int x2), (3, .int x3), (4, .int x4), (5, .int x5), (7, .int x7)]) hx hb d_Ma_runMethod_157 hl rfl e_v1.symm (by decide) rfl (fun ls hl => ?_)
  refine lv_goto (tgt := 38) hx hb d_Ma_runMethod_160 (by decide) ?_
  exact hp38 _ _ _ _ _ _ _ H locs ls hw hwd (lv_sub hl [1, 2, 3, 4, 5, 6, 0] rfl)

set_option maxHeartbeats 4000000 in
set_option maxRecDepth 100000 in
theorem wb_Ma_runMethod_154 {rc : Int32 → Int32 → St → (Int32 → St → Prop) → Prop} {K : Int32 → St → Prop} {P38 : Int32 → Int32 → Int32 → Int32 → Int32 → Int32 → St → Prop} {x1 : Int32} {x2 : Int32} {x3 : Int32} {x4 : Int32} {x5 : Int32} {x6 : Int32} {x7 : Int32} {g : St} (F : fxC D cI cZ p R s m args c b_Ma_runMethod 8 R_Ma 3 73)
    (hret : rtCI D cI cZ ad p l e R s m args below meth c b_Ma_runMethod A H0 Q K) {f lo : Nat} (hrc : ∀ (y1 y2 : Int32) (g : St) (K : Int32 → St → Prop), rc y1 y2 g K → ctCI l y_Ma_runMethod b_Ma_runMethod 8 f lo D cI cZ ad [.ref (ad 24), .int y1, .int y2] g K) (hf0 : 3 ≤ f ∧ 73 ≤ lo) (hRr : f + 1 ≤ R.frames ∧ lo + 27 ≤ R.locals) (hp38 : ∀ (x1 : Int32) (x2 : Int32) (x3 : Int32) (x4 : Int32) (x5 : Int32) (x6 : Int32) (g : St) (H : Heap) (locs : List Loc) (ls : Array Slot), P38 x1 x2 x3 x4 x5 x6 g → wdC D cI cZ ad A H0 g H locs → lv_has ls 8 [(0, .ref (ad 24)), (1, .int x1), (2, .int x2), (3, .int x3), (4, .int x4), (5, .int x5), (6, .int x6)] → W p l e R s m args below meth c H locs 0 0 Q (F0 m 38 ls []))
    (hw : pb_Ma_runMethod_154 rc K P38 x1 x2 x3 x4 x5 x6 x7 g)
    (hwd : wdC D cI cZ ad A H0 g H locs) (hl : lv_has ls 8 [(0, .ref (ad 24)), (1, .int x1), (2, .int x2), (3, .int x3), (4, .int x4), (5, .int x5), (6, .int x6), (7, .int x7)]) : W p l e R s m args below meth c H locs 0 0 Q (F0 m 154 ls []) := by
  obtain ⟨hx, hb, hml, hown, hts, hK, hN, hR⟩ := F
  have F : fxC D cI cZ p R s m args c b_Ma_runMethod 8 R_Ma 3 73 := ⟨hx, hb, hml, hown, hts, hK, hN, hR⟩
  obtain ⟨v1, e_v1⟩ : ∃ z, z = x5 + (2 : Int32) := ⟨_, rfl⟩
  have hw := hw v1 e_v1
  refine lv_iinc (k := 5) (lv' := [(5, .int v1), (0, .ref (ad 24)), (1, .int x1), (2, .int x2), (3, .int x3), (4, .int x4), (6, .int x6), (7, .int x7)]) hx hb d_Ma_runMethod_154 hl rfl e_v1.symm (by decide) rfl (fun ls hl => ?_)
  exact wb_Ma_runMethod_157 F hret hrc hf0 hRr hp38 hw hwd (lv_sub hl [1, 2, 3, 4, 5, 0, 6, 7] rfl)

set_option maxHeartbeats 4000000 in
set_option maxRecDepth 100000 in
theorem wb_Ma_runMethod_38 {rc : Int32 → Int32 → St → (Int32 → St → Prop) → Prop} {K : Int32 → St → Prop} {P38 : Int32 → Int32 → Int32 → Int32 → Int32 → Int32 → St → Prop} {x1 : Int32} {x2 : Int32} {x3 : Int32} {x4 : Int32} {x5 : Int32} {x6 : Int32} {g : St} (F : fxC D cI cZ p R s m args c b_Ma_runMethod 8 R_Ma 3 73)
    (hret : rtCI D cI cZ ad p l e R s m args below meth c b_Ma_runMethod A H0 Q K) {f lo : Nat} (hrc : ∀ (y1 y2 : Int32) (g : St) (K : Int32 → St → Prop), rc y1 y2 g K → ctCI l y_Ma_runMethod b_Ma_runMethod 8 f lo D cI cZ ad [.ref (ad 24), .int y1, .int y2] g K) (hf0 : 3 ≤ f ∧ 73 ≤ lo) (hRr : f + 1 ≤ R.frames ∧ lo + 27 ≤ R.locals) (hp38 : ∀ (x1 : Int32) (x2 : Int32) (x3 : Int32) (x4 : Int32) (x5 : Int32) (x6 : Int32) (g : St) (H : Heap) (locs : List Loc) (ls : Array Slot), P38 x1 x2 x3 x4 x5 x6 g → wdC D cI cZ ad A H0 g H locs → lv_has ls 8 [(0, .ref (ad 24)), (1, .int x1), (2, .int x2), (3, .int x3), (4, .int x4), (5, .int x5), (6, .int x6)] → W p l e R s m args below meth c H locs 0 0 Q (F0 m 38 ls []))
    (hw : pb_Ma_runMethod_38 rc K P38 x1 x2 x3 x4 x5 x6 g)
    (hwd : wdC D cI cZ ad A H0 g H locs) (hl : lv_has ls 8 [(0, .ref (ad 24)), (1, .int x1), (2, .int x2), (3, .int x3), (4, .int x4), (5, .int x5), (6, .int x6)]) : W p l e R s m args below meth c H locs 0 0 Q (F0 m 38 ls []) := by
  obtain ⟨hx, hb, hml, hown, hts, hK, hN, hR⟩ := F
  have F : fxC D cI cZ p R s m args c b_Ma_runMethod 8 R_Ma 3 73 := ⟨hx, hb, hml, hown, hts, hK, hN, hR⟩
  refine lv_iload hx hb d_Ma_runMethod_38 (lv_at hl 6 rfl) ?_
  refine lv_sipush (v := 600) hx hb d_Ma_runMethod_40 (by decide) ?_
  refine lv_icmp_ge (tgt := 163) hx hb d_Ma_runMethod_43 (by decide) (fun hc => ?_) (fun hc => ?_)
  · have hw := hw.1 hc
    refine lv_iload_n hx hb d_Ma_runMethod_163 rfl (lv_at hl 3 rfl) ?_
    exact hret _ _ _ _ hw hwd _ _ d_Ma_runMethod_164
  · have hw := hw.2 hc
    refine lv_aload_n hx hb d_Ma_runMethod_46 rfl (lv_at hl 0 rfl) ?_
    refine gfC_Ma_9 F hwd d_Ma_runMethod_47 ?_
    refine lv_iload hx hb d_Ma_runMethod_50 (lv_at hl 5 rfl) ?_
    refine mcC_Ma_49 F hwd (ct_Co_byteOfAll _ _ _ hw) ⟨Nat.le_trans (by decide) hR.1, Nat.le_trans (by decide) hR.2⟩ hl.1 (Nat.le_of_ble_eq_true rfl) d_Ma_runMethod_52 (fun v2 g1 H locs hw hwd => ?_)
    refine lv_topi (fun v3 e_v3 => ?_)
    have hw := hw v3 e_v3
    refine lv_istore (lv' := [(7, .int v3), (0, .ref (ad 24)), (1, .int x1), (2, .int x2), (3, .int x3), (4, .int x4), (5, .int x5), (6, .int x6)]) hx hb d_Ma_runMethod_55 hl (by decide) rfl (fun ls hl => ?_)
    refine lv_aload_n hx hb d_Ma_runMethod_57 rfl (lv_at hl 1 rfl) ?_
    refine lv_dup hx hb d_Ma_runMethod_58 rfl ?_
    refine gfC_Ma_23 F hwd d_Ma_runMethod_59 ?_
    refine lv_iconst (v := 1) hx hb d_Ma_runMethod_62 (by decide) ?_
    refine lv_iadd hx hb d_Ma_runMethod_63 ?_
    refine pfC_Ma_23 F hwd d_Ma_runMethod_64 (fun H locs hwd => ?_)
    obtain ⟨g4, e_g4⟩ : ∃ z : St, z = sc g1 107 ((g1 107 0) + (1 : Int32)) := ⟨_, rfl⟩
    have hwd : wdC D cI cZ ad A H0 g4 H locs := by rw [e_g4]; exact hwd
    have hw := hw g4 e_g4
    refine lv_iload hx hb d_Ma_runMethod_67 (lv_at hl 0 rfl) ?_
    refine lv_iconst (v := 3) hx hb d_Ma_runMethod_69 (by decide) ?_
    refine lv_icmp_ne (tgt := 75) hx hb d_Ma_runMethod_70 (by decide) (fun hc => ?_) (fun hc => ?_)
    · have hw := hw.1 hc
      refine lv_iload hx hb d_Ma_runMethod_75 (lv_at hl 0 rfl) ?_
      refine lv_bipush (v := 10) hx hb d_Ma_runMethod_77 (by decide) ?_
      refine lv_icmp_lt (tgt := 99) hx hb d_Ma_runMethod_79 (by decide) (fun hc => ?_) (fun hc => ?_)
      · have hw := hw.1 hc
        refine lv_iload_n hx hb d_Ma_runMethod_99 rfl (lv_at hl 4 rfl) ?_
        refine lv_topi (fun v5 e_v5 => ?_)
        have hw := hw v5 e_v5
        refine lv_istore (lv' := [(4, .int v5), (7, .int v3), (0, .ref (ad 24)), (1, .int x1), (2, .int x2), (3, .int x3), (5, .int x5), (6, .int x6)]) hx hb d_Ma_runMethod_100 hl (by decide) rfl (fun ls hl => ?_)
        refine lv_aload_n hx hb d_Ma_runMethod_102 rfl (lv_at hl 2 rfl) ?_
        refine lv_iload hx hb d_Ma_runMethod_103 (lv_at hl 1 rfl) ?_
        refine lv_aload_n hx hb d_Ma_runMethod_105 rfl (lv_at hl 2 rfl) ?_
        refine gfC_Ma_9 F hwd d_Ma_runMethod_106 ?_
        refine gfC_Ma_57 F hwd d_Ma_runMethod_109 ?_
        refine lv_iload_n hx hb d_Ma_runMethod_112 rfl (lv_at hl 3 rfl) ?_
        obtain ⟨hi, hw⟩ := hw
        refine rdC_22 F hwd hi d_Ma_runMethod_113 ?_
        refine lv_aload_n hx hb d_Ma_runMethod_114 rfl (lv_at hl 2 rfl) ?_
        refine gfC_Ma_9 F hwd d_Ma_runMethod_115 ?_
        refine lv_iload hx hb d_Ma_runMethod_118 (lv_at hl 6 rfl) ?_
        refine lv_iconst (v := 1) hx hb d_Ma_runMethod_120 (by decide) ?_
        refine lv_iadd hx hb d_Ma_runMethod_121 ?_
        refine mcC_Ma_49 F hwd (ct_Co_byteOfAll _ _ _ hw) ⟨Nat.le_trans (by decide) hR.1, Nat.le_trans (by decide) hR.2⟩ hl.1 (Nat.le_of_ble_eq_true rfl) d_Ma_runMethod_122 (fun v7 g6 H locs hw hwd => ?_)
        refine mcC_Ma_60 F hwd (ct_Ma_operand _ _ _ _ _ hw) ⟨Nat.le_trans (by decide) hR.1, Nat.le_trans (by decide) hR.2⟩ hl.1 (Nat.le_of_ble_eq_true rfl) d_Ma_runMethod_125 (fun v9 g8 H locs hw hwd => ?_)
        refine lv_topi (fun v10 e_v10 => ?_)
        have hw := hw v10 e_v10
        refine lv_istore_n (lv' := [(3, .int v10), (4, .int v5), (7, .int v3), (0, .ref (ad 24)), (1, .int x1), (2, .int x2), (5, .int x5), (6, .int x6)]) hx hb d_Ma_runMethod_128 rfl hl (by decide) rfl (fun ls hl => ?_)
        refine lv_iload hx hb d_Ma_runMethod_129 (lv_at hl 2 rfl) ?_
        refine lv_iconst (v := 4) hx hb d_Ma_runMethod_131 (by decide) ?_
        refine lv_icmp_ne (tgt := 154) hx hb d_Ma_runMethod_132 (by decide) (fun hc => ?_) (fun hc => ?_)
        · have hw := hw.1 hc
          exact wb_Ma_runMethod_154 F hret hrc hf0 hRr hp38 hw hwd (lv_sub hl [3, 4, 5, 0, 1, 6, 7, 2] rfl)
        · have hw := hw.2 hc
          refine lv_aload_n hx hb d_Ma_runMethod_135 rfl (lv_at hl 3 rfl) ?_
          refine lv_dup hx hb d_Ma_runMethod_136 rfl ?_
          refine gfC_Ma_27 F hwd d_Ma_runMethod_137 ?_
          refine lv_iconst (v := 1) hx hb d_Ma_runMethod_140 (by decide) ?_
          refine lv_iadd hx hb d_Ma_runMethod_141 ?_
          refine pfC_Ma_27 F hwd d_Ma_runMethod_142 (fun H locs hwd => ?_)
          obtain ⟨g11, e_g11⟩ : ∃ z : St, z = sc g8 108 ((g8 108 0) + (1 : Int32)) := ⟨_, rfl⟩
          have hwd : wdC D cI cZ ad A H0 g11 H locs := by rw [e_g11]; exact hwd
          have hw := hw g11 e_g11
          refine lv_aload_n hx hb d_Ma_runMethod_145 rfl (lv_at hl 3 rfl) ?_
          refine lv_iload_n hx hb d_Ma_runMethod_146 rfl (lv_at hl 0 rfl) ?_
          refine lv_iload_n hx hb d_Ma_runMethod_147 rfl (lv_at hl 5 rfl) ?_
          refine lv_iconst (v := 1) hx hb d_Ma_runMethod_148 (by decide) ?_
          refine lv_iadd hx hb d_Ma_runMethod_149 ?_
          refine mcC_Ma_38 F hwd (hrc _ _ _ _ hw) ⟨by have := hRr.1; omega, by have := hRr.2; omega⟩ hl.1 (Nat.le_of_ble_eq_true rfl) d_Ma_runMethod_150 (fun v13 g12 H locs hw hwd => ?_)
          refine lv_topi (fun v14 e_v14 => ?_)
          have hw := hw v14 e_v14
          refine lv_istore_n (lv' := [(3, .int v14), (4, .int v5), (7, .int v3), (0, .ref (ad 24)), (1, .int x1), (2, .int x2), (5, .int x5), (6, .int x6)]) hx hb d_Ma_runMethod_153 rfl hl (by decide) rfl (fun ls hl => ?_)
          exact wb_Ma_runMethod_154 F hret hrc hf0 hRr hp38 hw hwd (lv_sub hl [3, 4, 5, 0, 1, 6, 7, 2] rfl)
      · have hw := hw.2 hc
        refine lv_iload hx hb d_Ma_runMethod_82 (lv_at hl 6 rfl) ?_
        refine lv_aload_n hx hb d_Ma_runMethod_84 rfl (lv_at hl 1 rfl) ?_
        refine lv_iload hx hb d_Ma_runMethod_85 (lv_at hl 6 rfl) ?_
        refine lv_iload hx hb d_Ma_runMethod_87 (lv_at hl 5 rfl) ?_
        refine lv_iload_n hx hb d_Ma_runMethod_89 rfl (lv_at hl 4 rfl) ?_
        refine mcC_Ma_53 F hwd (ct_Ma_testMove _ _ _ _ _ hw) ⟨Nat.le_trans (by decide) hR.1, Nat.le_trans (by decide) hR.2⟩ hl.1 (Nat.le_of_ble_eq_true rfl) d_Ma_runMethod_90 (fun v16 g15 H locs hw hwd => ?_)
        refine lv_iadd hx hb d_Ma_runMethod_93 ?_
        refine lv_topi (fun v17 e_v17 => ?_)
        have hw := hw v17 e_v17
        refine lv_istore (lv' := [(5, .int v17), (7, .int v3), (0, .ref (ad 24)), (1, .int x1), (2, .int x2), (3, .int x3), (4, .int x4), (6, .int x6)]) hx hb d_Ma_runMethod_94 hl (by decide) rfl (fun ls hl => ?_)
        refine lv_goto (tgt := 157) hx hb d_Ma_runMethod_96 (by decide) ?_
        exact wb_Ma_runMethod_157 F hret hrc hf0 hRr hp38 hw hwd (lv_sub hl [2, 3, 4, 5, 6, 0, 7, 1] rfl)
    · have hw := hw.2 hc
      refine lv_iload_n hx hb d_Ma_runMethod_73 rfl (lv_at hl 4 rfl) ?_
      exact hret _ _ _ _ hw hwd _ _ d_Ma_runMethod_74

set_option maxHeartbeats 4000000 in
theorem wl_Ma_runMethod_38 {rc : Int32 → Int32 → St → (Int32 → St → Prop) → Prop} {K : Int32 → St → Prop} {x1 : Int32} {x2 : Int32} {x3 : Int32} {x4 : Int32} {x5 : Int32} {x6 : Int32} {g : St} (F : fxC D cI cZ p R s m args c b_Ma_runMethod 8 R_Ma 3 73)
    (hret : rtCI D cI cZ ad p l e R s m args below meth c b_Ma_runMethod A H0 Q K) {f lo : Nat} (hrc : ∀ (y1 y2 : Int32) (g : St) (K : Int32 → St → Prop), rc y1 y2 g K → ctCI l y_Ma_runMethod b_Ma_runMethod 8 f lo D cI cZ ad [.ref (ad 24), .int y1, .int y2] g K) (hf0 : 3 ≤ f ∧ 73 ≤ lo) (hRr : f + 1 ≤ R.frames ∧ lo + 27 ≤ R.locals)
    (hw : pl_Ma_runMethod_38 rc K x1 x2 x3 x4 x5 x6 g)
    (hwd : wdC D cI cZ ad A H0 g H locs) (hl : lv_has ls 8 [(0, .ref (ad 24)), (1, .int x1), (2, .int x2), (3, .int x3), (4, .int x4), (5, .int x5), (6, .int x6)]) : W p l e R s m args below meth c H locs 0 0 Q (F0 m 38 ls []) := by
  refine hw (fun x1 x2 x3 x4 x5 x6 g => ∀ (H : Heap) (locs : List Loc) (ls : Array Slot), wdC D cI cZ ad A H0 g H locs → lv_has ls 8 [(0, .ref (ad 24)), (1, .int x1), (2, .int x2), (3, .int x3), (4, .int x4), (5, .int x5), (6, .int x6)] → W p l e R s m args below meth c H locs 0 0 Q (F0 m 38 ls [])) ?_ H locs ls hwd hl
  intro x1 x2 x3 x4 x5 x6 g hw H locs ls hwd hl
  exact wb_Ma_runMethod_38 F hret hrc hf0 hRr (fun x1 x2 x3 x4 x5 x6 g H locs ls h hwd hl => h H locs ls hwd hl) hw hwd hl

set_option maxHeartbeats 4000000 in
set_option maxRecDepth 100000 in
theorem wb_Ma_runMethod_0 {rc : Int32 → Int32 → St → (Int32 → St → Prop) → Prop} {K : Int32 → St → Prop} {x1 : Int32} {x2 : Int32} {g : St} (F : fxC D cI cZ p R s m args c b_Ma_runMethod 8 R_Ma 3 73)
    (hret : rtCI D cI cZ ad p l e R s m args below meth c b_Ma_runMethod A H0 Q K) {f lo : Nat} (hrc : ∀ (y1 y2 : Int32) (g : St) (K : Int32 → St → Prop), rc y1 y2 g K → ctCI l y_Ma_runMethod b_Ma_runMethod 8 f lo D cI cZ ad [.ref (ad 24), .int y1, .int y2] g K) (hf0 : 3 ≤ f ∧ 73 ≤ lo) (hRr : f + 1 ≤ R.frames ∧ lo + 27 ≤ R.locals)
    (hw : pb_Ma_runMethod_0 rc K x1 x2 g)
    (hwd : wdC D cI cZ ad A H0 g H locs) (hl : lv_has ls 8 [(0, .ref (ad 24)), (1, .int x1), (2, .int x2)]) : W p l e R s m args below meth c H locs 0 0 Q (F0 m 0 ls []) := by
  obtain ⟨hx, hb, hml, hown, hts, hK, hN, hR⟩ := F
  have F : fxC D cI cZ p R s m args c b_Ma_runMethod 8 R_Ma 3 73 := ⟨hx, hb, hml, hown, hts, hK, hN, hR⟩
  refine lv_iload_n hx hb d_Ma_runMethod_0 rfl (lv_at hl 2 rfl) ?_
  refine lv_bipush (v := 12) hx hb d_Ma_runMethod_1 (by decide) ?_
  refine lv_icmp_gt (tgt := 17) hx hb d_Ma_runMethod_3 (by decide) (fun hc => ?_) (fun hc => ?_)
  · have hw := hw.1 hc
    refine lv_iconst (v := 0) hx hb d_Ma_runMethod_17 (by decide) ?_
    exact hret _ _ _ _ hw hwd _ _ d_Ma_runMethod_18
  · have hw := hw.2 hc
    refine lv_aload_n hx hb d_Ma_runMethod_6 rfl (lv_at hl 0 rfl) ?_
    refine gfC_Ma_9 F hwd d_Ma_runMethod_7 ?_
    refine lv_iload_n hx hb d_Ma_runMethod_10 rfl (lv_at hl 1 rfl) ?_
    refine mcC_Ma_42 F hwd (ct_Co_isMethod _ _ _ hw) ⟨Nat.le_trans (by decide) hR.1, Nat.le_trans (by decide) hR.2⟩ hl.1 (Nat.le_of_ble_eq_true rfl) d_Ma_runMethod_11 (fun v2 g1 H locs hw hwd => ?_)
    refine lv_if_ne (tgt := 19) hx hb d_Ma_runMethod_14 (by decide) (fun hc => ?_) (fun hc => ?_)
    · have hw := hw.1 hc
      refine lv_iconst (v := 0) hx hb d_Ma_runMethod_19 (by decide) ?_
      refine lv_topi (fun v3 e_v3 => ?_)
      have hw := hw v3 e_v3
      refine lv_istore_n (lv' := [(3, .int v3), (0, .ref (ad 24)), (1, .int x1), (2, .int x2)]) hx hb d_Ma_runMethod_20 rfl hl (by decide) rfl (fun ls hl => ?_)
      refine lv_iconst (v := 0) hx hb d_Ma_runMethod_21 (by decide) ?_
      refine lv_topi (fun v4 e_v4 => ?_)
      have hw := hw v4 e_v4
      refine lv_istore (lv' := [(4, .int v4), (3, .int v3), (0, .ref (ad 24)), (1, .int x1), (2, .int x2)]) hx hb d_Ma_runMethod_22 hl (by decide) rfl (fun ls hl => ?_)
      refine lv_aload_n hx hb d_Ma_runMethod_24 rfl (lv_at hl 2 rfl) ?_
      refine gfC_Ma_9 F hwd d_Ma_runMethod_25 ?_
      refine gfC_Ma_46 F hwd d_Ma_runMethod_28 ?_
      refine lv_iload_n hx hb d_Ma_runMethod_31 rfl (lv_at hl 3 rfl) ?_
      obtain ⟨hi, hw⟩ := hw
      refine rdC_21 F hwd hi d_Ma_runMethod_32 ?_
      refine lv_topi (fun v5 e_v5 => ?_)
      have hw := hw v5 e_v5
      refine lv_istore (lv' := [(5, .int v5), (4, .int v4), (3, .int v3), (0, .ref (ad 24)), (1, .int x1), (2, .int x2)]) hx hb d_Ma_runMethod_33 hl (by decide) rfl (fun ls hl => ?_)
      refine lv_iconst (v := 0) hx hb d_Ma_runMethod_35 (by decide) ?_
      refine lv_topi (fun v6 e_v6 => ?_)
      have hw := hw v6 e_v6
      refine lv_istore (lv' := [(6, .int v6), (5, .int v5), (4, .int v4), (3, .int v3), (0, .ref (ad 24)), (1, .int x1), (2, .int x2)]) hx hb d_Ma_runMethod_36 hl (by decide) rfl (fun ls hl => ?_)
      exact wl_Ma_runMethod_38 F hret hrc hf0 hRr hw hwd (lv_sub hl [4, 5, 6, 3, 2, 1, 0] rfl)
    · have hw := hw.2 hc
      refine lv_iconst (v := 0) hx hb d_Ma_runMethod_17 (by decide) ?_
      exact hret _ _ _ _ hw hwd _ _ d_Ma_runMethod_18

theorem ct_Ma_runMethod {l : Launch} {D : va_G} {cI cZ : ClassId} {ad : Nat → Nat} : ∀ (d : Nat) (x1 : Int32) (x2 : Int32) (g : St) (K : Int32 → St → Prop), pc_Ma_runMethod d x1 x2 g K → ctCI l y_Ma_runMethod b_Ma_runMethod 8 (3 + d * 1) (73 + d * 27) D cI cZ ad [.ref (ad 24), .int x1, .int x2] g K := by
  intro d
  induction d with
  | zero => intro x1 x2 g K h; exact h.elim
  | succ d ih =>
    intro x1 x2 g K h
    refine enCI (by decide) (Nat.le_of_ble_eq_true rfl) (fun p e s m args below meth c A H0 ls Q F hwd hl hret => ?_)
    have F : fxC D cI cZ p { frames := 3 + (d + 1) * 1, cells := 0, slots := 0, locals := 73 + (d + 1) * 27 } s m args c b_Ma_runMethod 8 R_Ma 3 73 := ⟨F.1, F.2.1, F.2.2.1, F.2.2.2.1, F.2.2.2.2.1, F.2.2.2.2.2.1, F.2.2.2.2.2.2.1, by show 3 ≤ 3 + (d + 1) * 1; omega, by show 73 ≤ 73 + (d + 1) * 27; omega⟩
    exact wb_Ma_runMethod_0 F hret (f := 3 + d * 1) (lo := 73 + d * 27) ih ⟨by omega, by omega⟩ ⟨by show 3 + d * 1 + 1 ≤ 3 + (d + 1) * 1; omega, by show 73 + d * 27 + 27 ≤ 73 + (d + 1) * 27; omega⟩ h hwd hl

set_option maxHeartbeats 4000000 in
set_option maxRecDepth 100000 in
theorem wb_Ma_runTrees_14 {K : Int64 → St → Prop} {P14 : Int64 → Int32 → St → Prop} {x1 : Int64} {x3 : Int32} {g : St} (F : fxC D cI cZ p R s m args c b_Ma_runTrees 4 R_Ma 18 478)
    (hret : rtCJ D cI cZ ad p l e R s m args below meth c b_Ma_runTrees A H0 Q K) (hp14 : ∀ (x1 : Int64) (x3 : Int32) (g : St) (H : Heap) (locs : List Loc) (ls : Array Slot), P14 x1 x3 g → wdC D cI cZ ad A H0 g H locs → lv_has ls 4 [(0, .ref (ad 24)), (1, .long x1), (3, .int x3)] → W p l e R s m args below meth c H locs 0 0 Q (F0 m 14 ls []))
    (hw : pb_Ma_runTrees_14 K P14 x1 x3 g)
    (hwd : wdC D cI cZ ad A H0 g H locs) (hl : lv_has ls 4 [(0, .ref (ad 24)), (1, .long x1), (3, .int x3)]) : W p l e R s m args below meth c H locs 0 0 Q (F0 m 14 ls []) := by
  obtain ⟨hx, hb, hml, hown, hts, hK, hN, hR⟩ := F
  have F : fxC D cI cZ p R s m args c b_Ma_runTrees 4 R_Ma 18 478 := ⟨hx, hb, hml, hown, hts, hK, hN, hR⟩
  refine lv_iload_n hx hb d_Ma_runTrees_14 rfl (lv_at hl 2 rfl) ?_
  refine lv_aload_n hx hb d_Ma_runTrees_15 rfl (lv_at hl 0 rfl) ?_
  refine gfC_Ma_9 F hwd d_Ma_runTrees_16 ?_
  refine gfC_Ma_30 F hwd d_Ma_runTrees_19 ?_
  refine lv_icmp_ge (tgt := 49) hx hb d_Ma_runTrees_22 (by decide) (fun hc => ?_) (fun hc => ?_)
  · have hw := hw.1 hc
    refine lv_lload_n hx hb d_Ma_runTrees_49 rfl (lv_at hl 1 rfl) ?_
    exact hret _ _ _ _ hw hwd _ _ d_Ma_runTrees_50
  · have hw := hw.2 hc
    refine lv_lload_n hx hb d_Ma_runTrees_25 rfl (lv_at hl 1 rfl) ?_
    refine lv_aload_n hx hb d_Ma_runTrees_26 rfl (lv_at hl 0 rfl) ?_
    refine lv_aload_n hx hb d_Ma_runTrees_27 rfl (lv_at hl 0 rfl) ?_
    refine gfC_Ma_9 F hwd d_Ma_runTrees_28 ?_
    refine gfC_Ma_35 F hwd d_Ma_runTrees_31 ?_
    refine lv_iload_n hx hb d_Ma_runTrees_34 rfl (lv_at hl 2 rfl) ?_
    obtain ⟨hi, hw⟩ := hw
    refine rdC_23 F hwd hi d_Ma_runTrees_35 ?_
    refine lv_iconst (v := 0) hx hb d_Ma_runTrees_36 (by decide) ?_
    refine mcC_Ma_38 F hwd (ct_Ma_runMethod 14 _ _ _ _ hw) ⟨Nat.le_trans (by decide) hR.1, Nat.le_trans (by decide) hR.2⟩ hl.1 (Nat.le_of_ble_eq_true rfl) d_Ma_runTrees_37 (fun v2 g1 H locs hw hwd => ?_)
    refine lv_i2l hx hb d_Ma_runTrees_40 rfl ?_
    refine lv_ladd hx hb d_Ma_runTrees_41 ?_
    refine lv_topl (fun v3 e_v3 => ?_)
    have hw := hw v3 e_v3
    refine lv_lstore_n (lv' := [(1, .long v3), (0, .ref (ad 24)), (3, .int x3)]) hx hb d_Ma_runTrees_42 rfl hl (by decide) rfl (fun ls hl => ?_)
    obtain ⟨v4, e_v4⟩ : ∃ z, z = x3 + (1 : Int32) := ⟨_, rfl⟩
    have hw := hw v4 e_v4
    refine lv_iinc (k := 2) (lv' := [(3, .int v4), (1, .long v3), (0, .ref (ad 24))]) hx hb d_Ma_runTrees_43 hl rfl e_v4.symm (by decide) rfl (fun ls hl => ?_)
    refine lv_goto (tgt := 14) hx hb d_Ma_runTrees_46 (by decide) ?_
    exact hp14 _ _ _ H locs ls hw hwd (lv_sub hl [2, 1, 0] rfl)

set_option maxHeartbeats 4000000 in
theorem wl_Ma_runTrees_14 {K : Int64 → St → Prop} {x1 : Int64} {x3 : Int32} {g : St} (F : fxC D cI cZ p R s m args c b_Ma_runTrees 4 R_Ma 18 478)
    (hret : rtCJ D cI cZ ad p l e R s m args below meth c b_Ma_runTrees A H0 Q K)
    (hw : pl_Ma_runTrees_14 K x1 x3 g)
    (hwd : wdC D cI cZ ad A H0 g H locs) (hl : lv_has ls 4 [(0, .ref (ad 24)), (1, .long x1), (3, .int x3)]) : W p l e R s m args below meth c H locs 0 0 Q (F0 m 14 ls []) := by
  refine hw (fun x1 x3 g => ∀ (H : Heap) (locs : List Loc) (ls : Array Slot), wdC D cI cZ ad A H0 g H locs → lv_has ls 4 [(0, .ref (ad 24)), (1, .long x1), (3, .int x3)] → W p l e R s m args below meth c H locs 0 0 Q (F0 m 14 ls [])) ?_ H locs ls hwd hl
  intro x1 x3 g hw H locs ls hwd hl
  exact wb_Ma_runTrees_14 F hret (fun x1 x3 g H locs ls h hwd hl => h H locs ls hwd hl) hw hwd hl

set_option maxHeartbeats 4000000 in
set_option maxRecDepth 100000 in
theorem wb_Ma_runTrees_0 {K : Int64 → St → Prop} {g : St} (F : fxC D cI cZ p R s m args c b_Ma_runTrees 4 R_Ma 18 478)
    (hret : rtCJ D cI cZ ad p l e R s m args below meth c b_Ma_runTrees A H0 Q K)
    (hw : pb_Ma_runTrees_0 K g)
    (hwd : wdC D cI cZ ad A H0 g H locs) (hl : lv_has ls 4 [(0, .ref (ad 24))]) : W p l e R s m args below meth c H locs 0 0 Q (F0 m 0 ls []) := by
  obtain ⟨hx, hb, hml, hown, hts, hK, hN, hR⟩ := F
  have F : fxC D cI cZ p R s m args c b_Ma_runTrees 4 R_Ma 18 478 := ⟨hx, hb, hml, hown, hts, hK, hN, hR⟩
  refine lv_aload_n hx hb d_Ma_runTrees_0 rfl (lv_at hl 0 rfl) ?_
  refine lv_iconst (v := 0) hx hb d_Ma_runTrees_1 (by decide) ?_
  refine pfC_Ma_23 F hwd d_Ma_runTrees_2 (fun H locs hwd => ?_)
  obtain ⟨g1, e_g1⟩ : ∃ z : St, z = sc g 107 (0 : Int32) := ⟨_, rfl⟩
  have hwd : wdC D cI cZ ad A H0 g1 H locs := by rw [e_g1]; exact hwd
  have hw := hw g1 e_g1
  refine lv_aload_n hx hb d_Ma_runTrees_5 rfl (lv_at hl 0 rfl) ?_
  refine lv_iconst (v := 0) hx hb d_Ma_runTrees_6 (by decide) ?_
  refine pfC_Ma_27 F hwd d_Ma_runTrees_7 (fun H locs hwd => ?_)
  obtain ⟨g2, e_g2⟩ : ∃ z : St, z = sc g1 108 (0 : Int32) := ⟨_, rfl⟩
  have hwd : wdC D cI cZ ad A H0 g2 H locs := by rw [e_g2]; exact hwd
  have hw := hw g2 e_g2
  refine lv_lconst (v := 0) hx hb d_Ma_runTrees_10 (by decide) ?_
  refine lv_topl (fun v3 e_v3 => ?_)
  have hw := hw v3 e_v3
  refine lv_lstore_n (lv' := [(1, .long v3), (0, .ref (ad 24))]) hx hb d_Ma_runTrees_11 rfl hl (by decide) rfl (fun ls hl => ?_)
  refine lv_iconst (v := 0) hx hb d_Ma_runTrees_12 (by decide) ?_
  refine lv_topi (fun v4 e_v4 => ?_)
  have hw := hw v4 e_v4
  refine lv_istore_n (lv' := [(3, .int v4), (1, .long v3), (0, .ref (ad 24))]) hx hb d_Ma_runTrees_13 rfl hl (by decide) rfl (fun ls hl => ?_)
  exact wl_Ma_runTrees_14 F hret hw hwd (lv_sub hl [2, 1, 0] rfl)

theorem ct_Ma_runTrees {l : Launch} {D : va_G} {cI cZ : ClassId} {ad : Nat → Nat} (g : St) (K : Int64 → St → Prop) (h : pc_Ma_runTrees g K) : ctCJ l y_Ma_runTrees b_Ma_runTrees 4 18 478 D cI cZ ad [.ref (ad 24)] g K :=
  enCJ (by decide) (Nat.le_of_ble_eq_true rfl) (fun p e s m args below meth c A H0 ls Q F hwd hl hret => wb_Ma_runTrees_0 F hret h hwd hl)

set_option maxHeartbeats 4000000 in
set_option maxRecDepth 100000 in
theorem wb_BF_predict_0 {K : Int64 → St → Prop} {g : St} (F : fxC D cI cZ p R s m args c b_BF_predict 1 R_BF 19 501)
    (hret : rtCJ D cI cZ ad p l e R s m args below meth c b_BF_predict A H0 Q K)
    (hw : pb_BF_predict_0 K g)
    (hwd : wdC D cI cZ ad A H0 g H locs) (hl : lv_has ls 1 [(0, .ref (ad 0))]) : W p l e R s m args below meth c H locs 0 0 Q (F0 m 0 ls []) := by
  obtain ⟨hx, hb, hml, hown, hts, hK, hN, hR⟩ := F
  have F : fxC D cI cZ p R s m args c b_BF_predict 1 R_BF 19 501 := ⟨hx, hb, hml, hown, hts, hK, hN, hR⟩
  refine lv_aload_n hx hb d_BF_predict_0 rfl (lv_at hl 0 rfl) ?_
  refine gfC_BF_57 F hwd d_BF_predict_1 ?_
  refine mcC_BF_141 F hwd (ct_Ma_runTrees  _ _ hw) ⟨Nat.le_trans (by decide) hR.1, Nat.le_trans (by decide) hR.2⟩ hl.1 (Nat.le_of_ble_eq_true rfl) d_BF_predict_4 (fun v2 g1 H locs hw hwd => ?_)
  exact hret _ _ _ _ hw hwd _ _ d_BF_predict_7

theorem ct_BF_predict {l : Launch} {D : va_G} {cI cZ : ClassId} {ad : Nat → Nat} (g : St) (K : Int64 → St → Prop) (h : pc_BF_predict g K) : ctCJ l y_BF_predict b_BF_predict 1 19 501 D cI cZ ad [.ref (ad 0)] g K :=
  enCJ (by decide) (Nat.le_of_ble_eq_true rfl) (fun p e s m args below meth c A H0 ls Q F hwd hl hret => wb_BF_predict_0 F hret h hwd hl)

set_option maxHeartbeats 4000000 in
set_option maxRecDepth 100000 in
theorem wb_BF_steps_0 {K : Int32 → St → Prop} {g : St} (F : fxC D cI cZ p R s m args c b_BF_steps 1 R_BF 0 0)
    (hret : rtCI D cI cZ ad p l e R s m args below meth c b_BF_steps A H0 Q K)
    (hw : pb_BF_steps_0 K g)
    (hwd : wdC D cI cZ ad A H0 g H locs) (hl : lv_has ls 1 [(0, .ref (ad 0))]) : W p l e R s m args below meth c H locs 0 0 Q (F0 m 0 ls []) := by
  obtain ⟨hx, hb, hml, hown, hts, hK, hN, hR⟩ := F
  have F : fxC D cI cZ p R s m args c b_BF_steps 1 R_BF 0 0 := ⟨hx, hb, hml, hown, hts, hK, hN, hR⟩
  refine lv_aload_n hx hb d_BF_steps_0 rfl (lv_at hl 0 rfl) ?_
  refine gfC_BF_57 F hwd d_BF_steps_1 ?_
  refine gfC_BF_145 F hwd d_BF_steps_4 ?_
  exact hret _ _ _ _ hw hwd _ _ d_BF_steps_7

theorem ct_BF_steps {l : Launch} {D : va_G} {cI cZ : ClassId} {ad : Nat → Nat} (g : St) (K : Int32 → St → Prop) (h : pc_BF_steps g K) : ctCI l y_BF_steps b_BF_steps 1 0 0 D cI cZ ad [.ref (ad 0)] g K :=
  enCI (by decide) (Nat.le_of_ble_eq_true rfl) (fun p e s m args below meth c A H0 ls Q F hwd hl hret => wb_BF_steps_0 F hret h hwd hl)

set_option maxHeartbeats 4000000 in
set_option maxRecDepth 100000 in
theorem wb_BF_calls_0 {K : Int32 → St → Prop} {g : St} (F : fxC D cI cZ p R s m args c b_BF_calls 1 R_BF 0 0)
    (hret : rtCI D cI cZ ad p l e R s m args below meth c b_BF_calls A H0 Q K)
    (hw : pb_BF_calls_0 K g)
    (hwd : wdC D cI cZ ad A H0 g H locs) (hl : lv_has ls 1 [(0, .ref (ad 0))]) : W p l e R s m args below meth c H locs 0 0 Q (F0 m 0 ls []) := by
  obtain ⟨hx, hb, hml, hown, hts, hK, hN, hR⟩ := F
  have F : fxC D cI cZ p R s m args c b_BF_calls 1 R_BF 0 0 := ⟨hx, hb, hml, hown, hts, hK, hN, hR⟩
  refine lv_aload_n hx hb d_BF_calls_0 rfl (lv_at hl 0 rfl) ?_
  refine gfC_BF_57 F hwd d_BF_calls_1 ?_
  refine gfC_BF_148 F hwd d_BF_calls_4 ?_
  exact hret _ _ _ _ hw hwd _ _ d_BF_calls_7

theorem ct_BF_calls {l : Launch} {D : va_G} {cI cZ : ClassId} {ad : Nat → Nat} (g : St) (K : Int32 → St → Prop) (h : pc_BF_calls g K) : ctCI l y_BF_calls b_BF_calls 1 0 0 D cI cZ ad [.ref (ad 0)] g K :=
  enCI (by decide) (Nat.le_of_ble_eq_true rfl) (fun p e s m args below meth c A H0 ls Q F hwd hl hret => wb_BF_calls_0 F hret h hwd hl)

set_option maxHeartbeats 4000000 in
set_option maxRecDepth 100000 in
theorem wb_Fo_leafFor_65 {K : Int32 → St → Prop} {P5 : Int32 → Int32 → Int32 → St → Prop} {x1 : Int32} {x3 : Int32} {x4 : Int32} {x5 : Int32} {t0 : Int32} {g : St} (F : fxC D cI cZ p R s m args c b_Fo_leafFor 6 R_Fo 2 46)
    (hret : rtCI D cI cZ ad p l e R s m args below meth c b_Fo_leafFor A H0 Q K) (hp5 : ∀ (x1 : Int32) (x3 : Int32) (x4 : Int32) (g : St) (H : Heap) (locs : List Loc) (ls : Array Slot), P5 x1 x3 x4 g → wdC D cI cZ ad A H0 g H locs → lv_has ls 6 [(0, .ref (ad 2)), (1, .int x1), (2, .ref (ad 1)), (3, .int x3), (4, .int x4)] → W p l e R s m args below meth c H locs 0 0 Q (F0 m 5 ls []))
    (hw : pb_Fo_leafFor_65 K P5 x1 x3 x4 x5 t0 g)
    (hwd : wdC D cI cZ ad A H0 g H locs) (hl : lv_has ls 6 [(0, .ref (ad 2)), (1, .int x1), (2, .ref (ad 1)), (3, .int x3), (4, .int x4), (5, .int x5)]) : W p l e R s m args below meth c H locs 0 0 Q (F0 m 65 ls [.int t0]) := by
  obtain ⟨hx, hb, hml, hown, hts, hK, hN, hR⟩ := F
  have F : fxC D cI cZ p R s m args c b_Fo_leafFor 6 R_Fo 2 46 := ⟨hx, hb, hml, hown, hts, hK, hN, hR⟩
  refine lv_topi (fun v1 e_v1 => ?_)
  have hw := hw v1 e_v1
  refine lv_istore_n (lv' := [(3, .int v1), (0, .ref (ad 2)), (1, .int x1), (2, .ref (ad 1)), (4, .int x4), (5, .int x5)]) hx hb d_Fo_leafFor_65 rfl hl (by decide) rfl (fun ls hl => ?_)
  obtain ⟨v2, e_v2⟩ : ∃ z, z = x4 + (1 : Int32) := ⟨_, rfl⟩
  have hw := hw v2 e_v2
  refine lv_iinc (k := 4) (lv' := [(4, .int v2), (3, .int v1), (0, .ref (ad 2)), (1, .int x1), (2, .ref (ad 1)), (5, .int x5)]) hx hb d_Fo_leafFor_66 hl rfl e_v2.symm (by decide) rfl (fun ls hl => ?_)
  refine lv_goto (tgt := 5) hx hb d_Fo_leafFor_69 (by decide) ?_
  exact hp5 _ _ _ _ H locs ls hw hwd (lv_sub hl [2, 3, 4, 1, 0] rfl)

set_option maxHeartbeats 4000000 in
set_option maxRecDepth 100000 in
theorem wb_Fo_leafFor_5 {K : Int32 → St → Prop} {P5 : Int32 → Int32 → Int32 → St → Prop} {x1 : Int32} {x3 : Int32} {x4 : Int32} {g : St} (F : fxC D cI cZ p R s m args c b_Fo_leafFor 6 R_Fo 2 46)
    (hret : rtCI D cI cZ ad p l e R s m args below meth c b_Fo_leafFor A H0 Q K) (hp5 : ∀ (x1 : Int32) (x3 : Int32) (x4 : Int32) (g : St) (H : Heap) (locs : List Loc) (ls : Array Slot), P5 x1 x3 x4 g → wdC D cI cZ ad A H0 g H locs → lv_has ls 6 [(0, .ref (ad 2)), (1, .int x1), (2, .ref (ad 1)), (3, .int x3), (4, .int x4)] → W p l e R s m args below meth c H locs 0 0 Q (F0 m 5 ls []))
    (hw : pb_Fo_leafFor_5 K P5 x1 x3 x4 g)
    (hwd : wdC D cI cZ ad A H0 g H locs) (hl : lv_has ls 6 [(0, .ref (ad 2)), (1, .int x1), (2, .ref (ad 1)), (3, .int x3), (4, .int x4)]) : W p l e R s m args below meth c H locs 0 0 Q (F0 m 5 ls []) := by
  obtain ⟨hx, hb, hml, hown, hts, hK, hN, hR⟩ := F
  have F : fxC D cI cZ p R s m args c b_Fo_leafFor 6 R_Fo 2 46 := ⟨hx, hb, hml, hown, hts, hK, hN, hR⟩
  refine lv_iload hx hb d_Fo_leafFor_5 (lv_at hl 4 rfl) ?_
  refine lv_bipush (v := 12) hx hb d_Fo_leafFor_7 (by decide) ?_
  refine lv_icmp_gt (tgt := 72) hx hb d_Fo_leafFor_9 (by decide) (fun hc => ?_) (fun hc => ?_)
  · have hw := hw.1 hc
    refine lv_iload_n hx hb d_Fo_leafFor_72 rfl (lv_at hl 3 rfl) ?_
    exact hret _ _ _ _ hw hwd _ _ d_Fo_leafFor_73
  · have hw := hw.2 hc
    refine lv_aload_n hx hb d_Fo_leafFor_12 rfl (lv_at hl 0 rfl) ?_
    refine lv_iload_n hx hb d_Fo_leafFor_13 rfl (lv_at hl 3 rfl) ?_
    refine mcC_Fo_41 F hwd (ct_Fo_isLeaf _ _ _ hw) ⟨Nat.le_trans (by decide) hR.1, Nat.le_trans (by decide) hR.2⟩ hl.1 (Nat.le_of_ble_eq_true rfl) d_Fo_leafFor_14 (fun v2 g1 H locs hw hwd => ?_)
    refine lv_if_ne (tgt := 72) hx hb d_Fo_leafFor_17 (by decide) (fun hc => ?_) (fun hc => ?_)
    · have hw := hw.1 hc
      refine lv_iload_n hx hb d_Fo_leafFor_72 rfl (lv_at hl 3 rfl) ?_
      exact hret _ _ _ _ hw hwd _ _ d_Fo_leafFor_73
    · have hw := hw.2 hc
      refine lv_aload_n hx hb d_Fo_leafFor_20 rfl (lv_at hl 0 rfl) ?_
      refine gfC_Fo_9 F hwd d_Fo_leafFor_21 ?_
      refine lv_iload_n hx hb d_Fo_leafFor_24 rfl (lv_at hl 3 rfl) ?_
      obtain ⟨hi, hw⟩ := hw
      refine rdC_3 F hwd hi d_Fo_leafFor_25 ?_
      refine lv_aload_n hx hb d_Fo_leafFor_26 rfl (lv_at hl 2 rfl) ?_
      refine lv_aload_n hx hb d_Fo_leafFor_27 rfl (lv_at hl 0 rfl) ?_
      refine gfC_Fo_15 F hwd d_Fo_leafFor_28 ?_
      refine lv_iload_n hx hb d_Fo_leafFor_31 rfl (lv_at hl 3 rfl) ?_
      obtain ⟨hi, hw⟩ := hw
      refine rdC_4 F hwd hi d_Fo_leafFor_32 ?_
      obtain ⟨hi, hw⟩ := hw
      refine rdC_1 F hwd hi d_Fo_leafFor_33 ?_
      refine lv_aload_n hx hb d_Fo_leafFor_34 rfl (lv_at hl 0 rfl) ?_
      refine gfC_Fo_18 F hwd d_Fo_leafFor_35 ?_
      refine lv_iload_n hx hb d_Fo_leafFor_38 rfl (lv_at hl 3 rfl) ?_
      obtain ⟨hi, hw⟩ := hw
      refine rdC_5 F hwd hi d_Fo_leafFor_39 ?_
      refine mcC_Fo_49 F hwd (ct_Ru_goesToYes _ _ _ _ _ hw) ⟨Nat.le_trans (by decide) hR.1, Nat.le_trans (by decide) hR.2⟩ hl.1 (Nat.le_of_ble_eq_true rfl) d_Fo_leafFor_40 (fun v4 g3 H locs hw hwd => ?_)
      refine lv_topi (fun v5 e_v5 => ?_)
      have hw := hw v5 e_v5
      refine lv_istore (lv' := [(5, .int v5), (0, .ref (ad 2)), (1, .int x1), (2, .ref (ad 1)), (3, .int x3), (4, .int x4)]) hx hb d_Fo_leafFor_43 hl (by decide) rfl (fun ls hl => ?_)
      refine lv_iload hx hb d_Fo_leafFor_45 (lv_at hl 0 rfl) ?_
      refine lv_if_eq (tgt := 59) hx hb d_Fo_leafFor_47 (by decide) (fun hc => ?_) (fun hc => ?_)
      · have hw := hw.1 hc
        refine lv_aload_n hx hb d_Fo_leafFor_59 rfl (lv_at hl 1 rfl) ?_
        refine gfC_Fo_24 F hwd d_Fo_leafFor_60 ?_
        refine lv_iload_n hx hb d_Fo_leafFor_63 rfl (lv_at hl 4 rfl) ?_
        obtain ⟨hi, hw⟩ := hw
        refine rdC_7 F hwd hi d_Fo_leafFor_64 ?_
        exact wb_Fo_leafFor_65 F hret hp5 hw hwd (lv_sub hl [1, 2, 3, 4, 5, 0] rfl)
      · have hw := hw.2 hc
        refine lv_aload_n hx hb d_Fo_leafFor_50 rfl (lv_at hl 1 rfl) ?_
        refine gfC_Fo_21 F hwd d_Fo_leafFor_51 ?_
        refine lv_iload_n hx hb d_Fo_leafFor_54 rfl (lv_at hl 4 rfl) ?_
        obtain ⟨hi, hw⟩ := hw
        refine rdC_6 F hwd hi d_Fo_leafFor_55 ?_
        refine lv_goto (tgt := 65) hx hb d_Fo_leafFor_56 (by decide) ?_
        exact wb_Fo_leafFor_65 F hret hp5 hw hwd (lv_sub hl [1, 2, 3, 4, 5, 0] rfl)

set_option maxHeartbeats 4000000 in
theorem wl_Fo_leafFor_5 {K : Int32 → St → Prop} {x1 : Int32} {x3 : Int32} {x4 : Int32} {g : St} (F : fxC D cI cZ p R s m args c b_Fo_leafFor 6 R_Fo 2 46)
    (hret : rtCI D cI cZ ad p l e R s m args below meth c b_Fo_leafFor A H0 Q K)
    (hw : pl_Fo_leafFor_5 K x1 x3 x4 g)
    (hwd : wdC D cI cZ ad A H0 g H locs) (hl : lv_has ls 6 [(0, .ref (ad 2)), (1, .int x1), (2, .ref (ad 1)), (3, .int x3), (4, .int x4)]) : W p l e R s m args below meth c H locs 0 0 Q (F0 m 5 ls []) := by
  refine hw (fun x1 x3 x4 g => ∀ (H : Heap) (locs : List Loc) (ls : Array Slot), wdC D cI cZ ad A H0 g H locs → lv_has ls 6 [(0, .ref (ad 2)), (1, .int x1), (2, .ref (ad 1)), (3, .int x3), (4, .int x4)] → W p l e R s m args below meth c H locs 0 0 Q (F0 m 5 ls [])) ?_ H locs ls hwd hl
  intro x1 x3 x4 g hw H locs ls hwd hl
  exact wb_Fo_leafFor_5 F hret (fun x1 x3 x4 g H locs ls h hwd hl => h H locs ls hwd hl) hw hwd hl

set_option maxHeartbeats 4000000 in
set_option maxRecDepth 100000 in
theorem wb_Fo_leafFor_0 {K : Int32 → St → Prop} {x1 : Int32} {g : St} (F : fxC D cI cZ p R s m args c b_Fo_leafFor 6 R_Fo 2 46)
    (hret : rtCI D cI cZ ad p l e R s m args below meth c b_Fo_leafFor A H0 Q K)
    (hw : pb_Fo_leafFor_0 K x1 g)
    (hwd : wdC D cI cZ ad A H0 g H locs) (hl : lv_has ls 6 [(0, .ref (ad 2)), (1, .int x1), (2, .ref (ad 1))]) : W p l e R s m args below meth c H locs 0 0 Q (F0 m 0 ls []) := by
  obtain ⟨hx, hb, hml, hown, hts, hK, hN, hR⟩ := F
  have F : fxC D cI cZ p R s m args c b_Fo_leafFor 6 R_Fo 2 46 := ⟨hx, hb, hml, hown, hts, hK, hN, hR⟩
  refine lv_iload_n hx hb d_Fo_leafFor_0 rfl (lv_at hl 1 rfl) ?_
  refine lv_topi (fun v1 e_v1 => ?_)
  have hw := hw v1 e_v1
  refine lv_istore_n (lv' := [(3, .int v1), (0, .ref (ad 2)), (1, .int x1), (2, .ref (ad 1))]) hx hb d_Fo_leafFor_1 rfl hl (by decide) rfl (fun ls hl => ?_)
  refine lv_iconst (v := 0) hx hb d_Fo_leafFor_2 (by decide) ?_
  refine lv_topi (fun v2 e_v2 => ?_)
  have hw := hw v2 e_v2
  refine lv_istore (lv' := [(4, .int v2), (3, .int v1), (0, .ref (ad 2)), (1, .int x1), (2, .ref (ad 1))]) hx hb d_Fo_leafFor_3 hl (by decide) rfl (fun ls hl => ?_)
  exact wl_Fo_leafFor_5 F hret hw hwd (lv_sub hl [2, 3, 4, 1, 0] rfl)

theorem ct_Fo_leafFor {l : Launch} {D : va_G} {cI cZ : ClassId} {ad : Nat → Nat} (x1 : Int32) (g : St) (K : Int32 → St → Prop) (h : pc_Fo_leafFor x1 g K) : ctCI l y_Fo_leafFor b_Fo_leafFor 6 2 46 D cI cZ ad [.ref (ad 2), .int x1, .ref (ad 1)] g K :=
  enCI (by decide) (Nat.le_of_ble_eq_true rfl) (fun p e s m args below meth c A H0 ls Q F hwd hl hret => wb_Fo_leafFor_0 F hret h hwd hl)

set_option maxHeartbeats 4000000 in
set_option maxRecDepth 100000 in
theorem wb_BF_reach_0 {K : Int32 → St → Prop} {x1 : Int32} {g : St} (F : fxC D cI cZ p R s m args c b_BF_reach 2 R_BF 3 71)
    (hret : rtCI D cI cZ ad p l e R s m args below meth c b_BF_reach A H0 Q K)
    (hw : pb_BF_reach_0 K x1 g)
    (hwd : wdC D cI cZ ad A H0 g H locs) (hl : lv_has ls 2 [(0, .ref (ad 0)), (1, .int x1)]) : W p l e R s m args below meth c H locs 0 0 Q (F0 m 0 ls []) := by
  obtain ⟨hx, hb, hml, hown, hts, hK, hN, hR⟩ := F
  have F : fxC D cI cZ p R s m args c b_BF_reach 2 R_BF 3 71 := ⟨hx, hb, hml, hown, hts, hK, hN, hR⟩
  refine lv_iload_n hx hb d_BF_reach_0 rfl (lv_at hl 1 rfl) ?_
  refine lv_if_lt (tgt := 38) hx hb d_BF_reach_1 (by decide) (fun hc => ?_) (fun hc => ?_)
  · have hw := hw.1 hc
    refine lv_iconst (v := -1) hx hb d_BF_reach_38 (by decide) ?_
    exact hret _ _ _ _ hw hwd _ _ d_BF_reach_39
  · have hw := hw.2 hc
    refine lv_iload_n hx hb d_BF_reach_4 rfl (lv_at hl 1 rfl) ?_
    refine lv_aload_n hx hb d_BF_reach_5 rfl (lv_at hl 0 rfl) ?_
    refine gfC_BF_48 F hwd d_BF_reach_6 ?_
    refine gfC_BF_151 F hwd d_BF_reach_9 ?_
    refine lv_icmp_ge (tgt := 38) hx hb d_BF_reach_12 (by decide) (fun hc => ?_) (fun hc => ?_)
    · have hw := hw.1 hc
      refine lv_iconst (v := -1) hx hb d_BF_reach_38 (by decide) ?_
      exact hret _ _ _ _ hw hwd _ _ d_BF_reach_39
    · have hw := hw.2 hc
      refine lv_aload_n hx hb d_BF_reach_15 rfl (lv_at hl 0 rfl) ?_
      refine gfC_BF_16 F hwd d_BF_reach_16 ?_
      refine lv_aload_n hx hb d_BF_reach_19 rfl (lv_at hl 0 rfl) ?_
      refine gfC_BF_16 F hwd d_BF_reach_20 ?_
      refine gfC_BF_152 F hwd d_BF_reach_23 ?_
      refine lv_iload_n hx hb d_BF_reach_26 rfl (lv_at hl 1 rfl) ?_
      obtain ⟨hi, hw⟩ := hw
      refine rdC_8 F hwd hi d_BF_reach_27 ?_
      refine lv_aload_n hx hb d_BF_reach_28 rfl (lv_at hl 0 rfl) ?_
      refine gfC_BF_9 F hwd d_BF_reach_29 ?_
      refine mcC_BF_155 F hwd (ct_Fo_leafFor _ _ _ hw) ⟨Nat.le_trans (by decide) hR.1, Nat.le_trans (by decide) hR.2⟩ hl.1 (Nat.le_of_ble_eq_true rfl) d_BF_reach_32 (fun v2 g1 H locs hw hwd => ?_)
      refine lv_goto (tgt := 39) hx hb d_BF_reach_35 (by decide) ?_
      exact hret _ _ _ _ hw hwd _ _ d_BF_reach_39

theorem ct_BF_reach {l : Launch} {D : va_G} {cI cZ : ClassId} {ad : Nat → Nat} (x1 : Int32) (g : St) (K : Int32 → St → Prop) (h : pc_BF_reach x1 g K) : ctCI l y_BF_reach b_BF_reach 2 3 71 D cI cZ ad [.ref (ad 0), .int x1] g K :=
  enCI (by decide) (Nat.le_of_ble_eq_true rfl) (fun p e s m args below meth c A H0 ls Q F hwd hl hret => wb_BF_reach_0 F hret h hwd hl)
end WALKC3
end
section
def iw_Fo (cI cZ : ClassId) (h0 : Nat) (q : Nat → Nat) : va_W := [(h0, .inr (1, [.ref (q 0), .ref (q 1), .ref (q 2), .ref (q 3), .ref (q 4), .ref (q 5), .int 0, .int 0])), ((q 0), .inl (cI, 60, .inl (fun _ => 0))), ((q 1), .inl (cI, 60, .inl (fun _ => 0))), ((q 2), .inl (cI, 60, .inl (fun _ => 0))), ((q 3), .inl (cI, 60, .inl (fun _ => 0))), ((q 4), .inl (cI, 60, .inl (fun _ => 0))), ((q 5), .inl (cI, 8, .inl (fun _ => 0)))]
def iw_Ch (cI cZ : ClassId) (h0 : Nat) (q : Nat → Nat) (r_forest : Nat) : va_W := [(h0, .inr (2, [.ref r_forest, .ref (q 0)])), ((q 0), .inl (cZ, 60, .inl (fun _ => 0)))]
def iw_Cu (cI cZ : ClassId) (h0 : Nat) (q : Nat → Nat) (r_forest : Nat) : va_W := [(h0, .inr (3, [.ref r_forest, .ref (q 0), .ref (q 1), .ref (q 2), .int 0])), ((q 0), .inl (cI, 60, .inl (fun _ => 0))), ((q 1), .inl (cI, 60, .inl (fun _ => 0))), ((q 2), .inl (cI, 60, .inl (fun _ => 0)))]
def iw_Ta (cI cZ : ClassId) (h0 : Nat) (q : Nat → Nat) : va_W := [(h0, .inr (4, [.ref (q 0), .ref (q 1), .ref (q 2), .int 0])), ((q 0), .inl (cI, 120, .inl (fun _ => 0))), ((q 1), .inl (cI, 120, .inl (fun _ => 0))), ((q 2), .inl (cI, 61, .inl (fun _ => 0)))]
def iw_Co (cI cZ : ClassId) (h0 : Nat) (q : Nat → Nat) (r_forest : Nat) (r_cutter : Nat) (r_tables : Nat) : va_W := [(h0, .inr (5, [.ref r_forest, .ref r_cutter, .ref r_tables, .ref (q 0), .ref (q 1), .ref (q 2), .ref (q 3), .int 0, .int 0, .int 0])), ((q 0), .inl (cI, 600, .inl (fun _ => 0))), ((q 1), .inl (cI, 61, .inl (fun _ => 0))), ((q 2), .inl (cI, 60, .inl (fun _ => 0))), ((q 3), .inl (cI, 8, .inl (fun _ => 0)))]
def iw_Ma (cI cZ : ClassId) (h0 : Nat) (q : Nat → Nat) (r_code : Nat) (r_tables : Nat) (r_features : Nat) : va_W := [(h0, .inr (6, [.ref r_code, .ref r_tables, .ref r_features, .int 0, .int 0]))]

set_option maxHeartbeats 8000000 in
set_option maxRecDepth 100000 in
theorem ci_Fo {l : Launch} {D : va_G} {cI cZ : ClassId} (h0 : Nat) (sz : Nat) : Met l y_Fo_init (.code y_Fo_init b_Fo_init 1 none :: wGC) ({ frames := 1, cells := 6, slots := 308, locals := 20 }) (va_Pc [.ref h0] (fun U => U.heap.size = sz ∧ va_P D clC [(h0, .inr (1, [.null, .null, .null, .null, .null, .null, .int 0, .int 0]))] U.heap ∧ va_K D clC [(cI, .int), (cZ, .boolean)] U ∧ va_D (fun _ => True) [(h0, .inr (1, [.null, .null, .null, .null, .null, .null, .int 0, .int 0]))] ∧ nwC U)) (va_Qv (fun _ : Nat → Nat => True) (fun q t => va_P D clC (iw_Fo cI cZ h0 q ) t.heap ∧ va_K D clC [(cI, .int), (cZ, .boolean)] t ∧ va_D (va_A [(h0, .inr (1, [.null, .null, .null, .null, .null, .null, .int 0, .int 0]))] sz) (iw_Fo cI cZ h0 q )) (va_A [(h0, .inr (1, [.null, .null, .null, .null, .null, .null, .int 0, .int 0]))] sz)) 6 308 (va_A [(h0, .inr (1, [.null, .null, .null, .null, .null, .null, .int 0, .int 0]))] sz) := by
  refine Met.ofW (cc := b_Fo_init) (maxL := 1) (ret := none) (by decide) rfl ?_
  intro p e s m args below meth c s₁ B hml hv
  obtain ⟨rfl, hsz, hP, hK, hD0, hN⟩ := hv
  have hx := B.exec
  have hb := B.bytes
  have hr := B.returns
  have hts0 := atoms_spec (ws := .code y_Fo_init b_Fo_init 1 none :: wGC) B.pre
  have hts : ∀ w ∈ wGC, w.before _ s = true := fun w h => hts0 w (List.mem_cons_of_mem _ h)
  have hown : s.vm.findClass R_Fo = some m.cls := findClass_of_methodNamed B.named
  have hlocks := B.notSynchronized
  have hin : meth.name = "<init>" := (name_of_methodNamed B.named B.method).1
  subst hsz
  have hD := hD0.self (sz := s.heap.size)
  generalize hAe : va_A [(h0, .inr (1, [.null, .null, .null, .null, .null, .null, .int 0, .int 0]))] s.heap.size = A at hD ⊢
  have hA : ∀ q : Nat, s.heap.size ≤ q → A q := fun q h => by rw [← hAe]; exact Or.inr h
  have hS : va_S A s.heap s.heap [] := va_S.rf
  have hP : va_P D clC [(h0, .inr (1, [.null, .null, .null, .null, .null, .null, .int 0, .int 0]))] s.heap := hP
  have hl := lv_entry ([.ref h0]) (n := 1) (Nat.le_of_ble_eq_true rfl)
  rw [lg_entry_eq]
  generalize (lg_sl ([.ref h0]) ++ List.replicate (1 - (lg_sl ([.ref h0])).length) Slot.unset).toArray = ls at hl ⊢
  have hl : lv_has ls 1 [(0, .ref h0)] := hl
  refine lv_aload_n hx hb d_Fo_init_0 rfl (lv_at hl 0 rfl) ?_
  refine W.objInit hx hb hown (hts _ kC_6) (hts _ kC_7) (hts _ kC_8) rfl (by rw [hml]; exact hl.1) rfl d_Fo_init_1 (Nat.le_of_ble_eq_true rfl) (Nat.le_of_ble_eq_true rfl) ?_
  refine W.eq (g2 := F0 m 4 ls []) rfl ?_
  refine lv_aload_n hx hb d_Fo_init_4 rfl (lv_at hl 0 rfl) ?_
  refine lv_bipush (v := 60) hx hb d_Fo_init_5 (by decide) ?_
  have h_1 : 1 ≤ 6 := by decide
  have h_2 : 60 ≤ 308 := by decide
  refine va_newa (atype := .int) (ty := .int) (a0 := (60, .inl (fun _ => 0))) (N' := 60) hx hb (hts _ kC_9) rfl hK hP hD hS hA (fun cA => by rw [vp_cell_i]; rfl) (by decide) (by decide) (by decide) h_1 h_2 d_Fo_init_7 (fun q7 cA H hK2 hP hD hS => ?_)
  have hq : cI = cA := Option.some.inj ((hK2.2 0 _ rfl).2.symm.trans (hK2.2 2 _ rfl).2)
  subst hq
  have hP : va_P D clC [(h0, .inr (1, [.null, .null, .null, .null, .null, .null, .int 0, .int 0])), (q7, .inl (cI, 60, .inl (fun _ => 0)))] H := hP
  have hD : va_D A [(h0, .inr (1, [.null, .null, .null, .null, .null, .null, .int 0, .int 0])), (q7, .inl (cI, 60, .inl (fun _ => 0)))] := hD
  refine W.widen (k := 1) (n := 60) (Nat.le_of_ble_eq_true rfl) (Nat.le_of_ble_eq_true rfl) ?_
  refine va_putF (D := D) (ci := 1) (v := .ref q7) (ty := .array .int) (C := R_Fo) (T := F_Fo) (N := 8) hx hb hts in_Fo t_Fo t_Fo_ok n_Fo hown hK hP hD hS 0 rfl rfl 0 (by decide) (hts _ kC_10) (fun _ h9 => h9) rfl hin rfl (by decide +kernel) rfl rfl (Nat.le_of_ble_eq_true rfl) d_Fo_init_9 (fun H locs hP hD hS => ?_)
  have hP : va_P D clC [(h0, .inr (1, [.ref q7, .null, .null, .null, .null, .null, .int 0, .int 0])), (q7, .inl (cI, 60, .inl (fun _ => 0)))] H := hP
  have hD : va_D A [(h0, .inr (1, [.ref q7, .null, .null, .null, .null, .null, .int 0, .int 0])), (q7, .inl (cI, 60, .inl (fun _ => 0)))] := hD
  refine lv_aload_n hx hb d_Fo_init_12 rfl (lv_at hl 0 rfl) ?_
  refine lv_bipush (v := 60) hx hb d_Fo_init_13 (by decide) ?_
  have h_1 : 2 ≤ 6 := by decide
  have h_2 : 120 ≤ 308 := by decide
  refine va_newa (atype := .int) (ty := .int) (a0 := (60, .inl (fun _ => 0))) (N' := 60) hx hb (hts _ kC_9) rfl hK hP hD hS hA (fun cA => by rw [vp_cell_i]; rfl) (by decide) (by decide) (by decide) h_1 h_2 d_Fo_init_15 (fun q15 cA H hK2 hP hD hS => ?_)
  have hq : cI = cA := Option.some.inj ((hK2.2 0 _ rfl).2.symm.trans (hK2.2 2 _ rfl).2)
  subst hq
  have hP : va_P D clC [(h0, .inr (1, [.ref q7, .null, .null, .null, .null, .null, .int 0, .int 0])), (q7, .inl (cI, 60, .inl (fun _ => 0))), (q15, .inl (cI, 60, .inl (fun _ => 0)))] H := hP
  have hD : va_D A [(h0, .inr (1, [.ref q7, .null, .null, .null, .null, .null, .int 0, .int 0])), (q7, .inl (cI, 60, .inl (fun _ => 0))), (q15, .inl (cI, 60, .inl (fun _ => 0)))] := hD
  refine W.widen (k := 2) (n := 120) (Nat.le_of_ble_eq_true rfl) (Nat.le_of_ble_eq_true rfl) ?_
  refine va_putF (D := D) (ci := 1) (v := .ref q15) (ty := .array .int) (C := R_Fo) (T := F_Fo) (N := 8) hx hb hts in_Fo t_Fo t_Fo_ok n_Fo hown hK hP hD hS 0 rfl rfl 1 (by decide) (hts _ kC_11) (fun _ h9 => h9) rfl hin rfl (by decide +kernel) rfl rfl (Nat.le_of_ble_eq_true rfl) d_Fo_init_17 (fun H locs hP hD hS => ?_)
  have hP : va_P D clC [(h0, .inr (1, [.ref q7, .ref q15, .null, .null, .null, .null, .int 0, .int 0])), (q7, .inl (cI, 60, .inl (fun _ => 0))), (q15, .inl (cI, 60, .inl (fun _ => 0)))] H := hP
  have hD : va_D A [(h0, .inr (1, [.ref q7, .ref q15, .null, .null, .null, .null, .int 0, .int 0])), (q7, .inl (cI, 60, .inl (fun _ => 0))), (q15, .inl (cI, 60, .inl (fun _ => 0)))] := hD
  refine lv_aload_n hx hb d_Fo_init_20 rfl (lv_at hl 0 rfl) ?_
  refine lv_bipush (v := 60) hx hb d_Fo_init_21 (by decide) ?_
  have h_1 : 3 ≤ 6 := by decide
  have h_2 : 180 ≤ 308 := by decide
  refine va_newa (atype := .int) (ty := .int) (a0 := (60, .inl (fun _ => 0))) (N' := 60) hx hb (hts _ kC_9) rfl hK hP hD hS hA (fun cA => by rw [vp_cell_i]; rfl) (by decide) (by decide) (by decide) h_1 h_2 d_Fo_init_23 (fun q23 cA H hK2 hP hD hS => ?_)
  have hq : cI = cA := Option.some.inj ((hK2.2 0 _ rfl).2.symm.trans (hK2.2 2 _ rfl).2)
  subst hq
  have hP : va_P D clC [(h0, .inr (1, [.ref q7, .ref q15, .null, .null, .null, .null, .int 0, .int 0])), (q7, .inl (cI, 60, .inl (fun _ => 0))), (q15, .inl (cI, 60, .inl (fun _ => 0))), (q23, .inl (cI, 60, .inl (fun _ => 0)))] H := hP
  have hD : va_D A [(h0, .inr (1, [.ref q7, .ref q15, .null, .null, .null, .null, .int 0, .int 0])), (q7, .inl (cI, 60, .inl (fun _ => 0))), (q15, .inl (cI, 60, .inl (fun _ => 0))), (q23, .inl (cI, 60, .inl (fun _ => 0)))] := hD
  refine W.widen (k := 3) (n := 180) (Nat.le_of_ble_eq_true rfl) (Nat.le_of_ble_eq_true rfl) ?_
  refine va_putF (D := D) (ci := 1) (v := .ref q23) (ty := .array .int) (C := R_Fo) (T := F_Fo) (N := 8) hx hb hts in_Fo t_Fo t_Fo_ok n_Fo hown hK hP hD hS 0 rfl rfl 2 (by decide) (hts _ kC_12) (fun _ h9 => h9) rfl hin rfl (by decide +kernel) rfl rfl (Nat.le_of_ble_eq_true rfl) d_Fo_init_25 (fun H locs hP hD hS => ?_)
  have hP : va_P D clC [(h0, .inr (1, [.ref q7, .ref q15, .ref q23, .null, .null, .null, .int 0, .int 0])), (q7, .inl (cI, 60, .inl (fun _ => 0))), (q15, .inl (cI, 60, .inl (fun _ => 0))), (q23, .inl (cI, 60, .inl (fun _ => 0)))] H := hP
  have hD : va_D A [(h0, .inr (1, [.ref q7, .ref q15, .ref q23, .null, .null, .null, .int 0, .int 0])), (q7, .inl (cI, 60, .inl (fun _ => 0))), (q15, .inl (cI, 60, .inl (fun _ => 0))), (q23, .inl (cI, 60, .inl (fun _ => 0)))] := hD
  refine lv_aload_n hx hb d_Fo_init_28 rfl (lv_at hl 0 rfl) ?_
  refine lv_bipush (v := 60) hx hb d_Fo_init_29 (by decide) ?_
  have h_1 : 4 ≤ 6 := by decide
  have h_2 : 240 ≤ 308 := by decide
  refine va_newa (atype := .int) (ty := .int) (a0 := (60, .inl (fun _ => 0))) (N' := 60) hx hb (hts _ kC_9) rfl hK hP hD hS hA (fun cA => by rw [vp_cell_i]; rfl) (by decide) (by decide) (by decide) h_1 h_2 d_Fo_init_31 (fun q31 cA H hK2 hP hD hS => ?_)
  have hq : cI = cA := Option.some.inj ((hK2.2 0 _ rfl).2.symm.trans (hK2.2 2 _ rfl).2)
  subst hq
  have hP : va_P D clC [(h0, .inr (1, [.ref q7, .ref q15, .ref q23, .null, .null, .null, .int 0, .int 0])), (q7, .inl (cI, 60, .inl (fun _ => 0))), (q15, .inl (cI, 60, .inl (fun _ => 0))), (q23, .inl (cI, 60, .inl (fun _ => 0))), (q31, .inl (cI, 60, .inl (fun _ => 0)))] H := hP
  have hD : va_D A [(h0, .inr (1, [.ref q7, .ref q15, .ref q23, .null, .null, .null, .int 0, .int 0])), (q7, .inl (cI, 60, .inl (fun _ => 0))), (q15, .inl (cI, 60, .inl (fun _ => 0))), (q23, .inl (cI, 60, .inl (fun _ => 0))), (q31, .inl (cI, 60, .inl (fun _ => 0)))] := hD
  refine W.widen (k := 4) (n := 240) (Nat.le_of_ble_eq_true rfl) (Nat.le_of_ble_eq_true rfl) ?_
  refine va_putF (D := D) (ci := 1) (v := .ref q31) (ty := .array .int) (C := R_Fo) (T := F_Fo) (N := 8) hx hb hts in_Fo t_Fo t_Fo_ok n_Fo hown hK hP hD hS 0 rfl rfl 3 (by decide) (hts _ kC_13) (fun _ h9 => h9) rfl hin rfl (by decide +kernel) rfl rfl (Nat.le_of_ble_eq_true rfl) d_Fo_init_33 (fun H locs hP hD hS => ?_)
  have hP : va_P D clC [(h0, .inr (1, [.ref q7, .ref q15, .ref q23, .ref q31, .null, .null, .int 0, .int 0])), (q7, .inl (cI, 60, .inl (fun _ => 0))), (q15, .inl (cI, 60, .inl (fun _ => 0))), (q23, .inl (cI, 60, .inl (fun _ => 0))), (q31, .inl (cI, 60, .inl (fun _ => 0)))] H := hP
  have hD : va_D A [(h0, .inr (1, [.ref q7, .ref q15, .ref q23, .ref q31, .null, .null, .int 0, .int 0])), (q7, .inl (cI, 60, .inl (fun _ => 0))), (q15, .inl (cI, 60, .inl (fun _ => 0))), (q23, .inl (cI, 60, .inl (fun _ => 0))), (q31, .inl (cI, 60, .inl (fun _ => 0)))] := hD
  refine lv_aload_n hx hb d_Fo_init_36 rfl (lv_at hl 0 rfl) ?_
  refine lv_bipush (v := 60) hx hb d_Fo_init_37 (by decide) ?_
  have h_1 : 5 ≤ 6 := by decide
  have h_2 : 300 ≤ 308 := by decide
  refine va_newa (atype := .int) (ty := .int) (a0 := (60, .inl (fun _ => 0))) (N' := 60) hx hb (hts _ kC_9) rfl hK hP hD hS hA (fun cA => by rw [vp_cell_i]; rfl) (by decide) (by decide) (by decide) h_1 h_2 d_Fo_init_39 (fun q39 cA H hK2 hP hD hS => ?_)
  have hq : cI = cA := Option.some.inj ((hK2.2 0 _ rfl).2.symm.trans (hK2.2 2 _ rfl).2)
  subst hq
  have hP : va_P D clC [(h0, .inr (1, [.ref q7, .ref q15, .ref q23, .ref q31, .null, .null, .int 0, .int 0])), (q7, .inl (cI, 60, .inl (fun _ => 0))), (q15, .inl (cI, 60, .inl (fun _ => 0))), (q23, .inl (cI, 60, .inl (fun _ => 0))), (q31, .inl (cI, 60, .inl (fun _ => 0))), (q39, .inl (cI, 60, .inl (fun _ => 0)))] H := hP
  have hD : va_D A [(h0, .inr (1, [.ref q7, .ref q15, .ref q23, .ref q31, .null, .null, .int 0, .int 0])), (q7, .inl (cI, 60, .inl (fun _ => 0))), (q15, .inl (cI, 60, .inl (fun _ => 0))), (q23, .inl (cI, 60, .inl (fun _ => 0))), (q31, .inl (cI, 60, .inl (fun _ => 0))), (q39, .inl (cI, 60, .inl (fun _ => 0)))] := hD
  refine W.widen (k := 5) (n := 300) (Nat.le_of_ble_eq_true rfl) (Nat.le_of_ble_eq_true rfl) ?_
  refine va_putF (D := D) (ci := 1) (v := .ref q39) (ty := .array .int) (C := R_Fo) (T := F_Fo) (N := 8) hx hb hts in_Fo t_Fo t_Fo_ok n_Fo hown hK hP hD hS 0 rfl rfl 4 (by decide) (hts _ kC_14) (fun _ h9 => h9) rfl hin rfl (by decide +kernel) rfl rfl (Nat.le_of_ble_eq_true rfl) d_Fo_init_41 (fun H locs hP hD hS => ?_)
  have hP : va_P D clC [(h0, .inr (1, [.ref q7, .ref q15, .ref q23, .ref q31, .ref q39, .null, .int 0, .int 0])), (q7, .inl (cI, 60, .inl (fun _ => 0))), (q15, .inl (cI, 60, .inl (fun _ => 0))), (q23, .inl (cI, 60, .inl (fun _ => 0))), (q31, .inl (cI, 60, .inl (fun _ => 0))), (q39, .inl (cI, 60, .inl (fun _ => 0)))] H := hP
  have hD : va_D A [(h0, .inr (1, [.ref q7, .ref q15, .ref q23, .ref q31, .ref q39, .null, .int 0, .int 0])), (q7, .inl (cI, 60, .inl (fun _ => 0))), (q15, .inl (cI, 60, .inl (fun _ => 0))), (q23, .inl (cI, 60, .inl (fun _ => 0))), (q31, .inl (cI, 60, .inl (fun _ => 0))), (q39, .inl (cI, 60, .inl (fun _ => 0)))] := hD
  refine lv_aload_n hx hb d_Fo_init_44 rfl (lv_at hl 0 rfl) ?_
  refine lv_bipush (v := 8) hx hb d_Fo_init_45 (by decide) ?_
  have h_1 : 6 ≤ 6 := by decide
  have h_2 : 308 ≤ 308 := by decide
  refine va_newa (atype := .int) (ty := .int) (a0 := (8, .inl (fun _ => 0))) (N' := 8) hx hb (hts _ kC_9) rfl hK hP hD hS hA (fun cA => by rw [vp_cell_i]; rfl) (by decide) (by decide) (by decide) h_1 h_2 d_Fo_init_47 (fun q47 cA H hK2 hP hD hS => ?_)
  have hq : cI = cA := Option.some.inj ((hK2.2 0 _ rfl).2.symm.trans (hK2.2 2 _ rfl).2)
  subst hq
  have hP : va_P D clC [(h0, .inr (1, [.ref q7, .ref q15, .ref q23, .ref q31, .ref q39, .null, .int 0, .int 0])), (q7, .inl (cI, 60, .inl (fun _ => 0))), (q15, .inl (cI, 60, .inl (fun _ => 0))), (q23, .inl (cI, 60, .inl (fun _ => 0))), (q31, .inl (cI, 60, .inl (fun _ => 0))), (q39, .inl (cI, 60, .inl (fun _ => 0))), (q47, .inl (cI, 8, .inl (fun _ => 0)))] H := hP
  have hD : va_D A [(h0, .inr (1, [.ref q7, .ref q15, .ref q23, .ref q31, .ref q39, .null, .int 0, .int 0])), (q7, .inl (cI, 60, .inl (fun _ => 0))), (q15, .inl (cI, 60, .inl (fun _ => 0))), (q23, .inl (cI, 60, .inl (fun _ => 0))), (q31, .inl (cI, 60, .inl (fun _ => 0))), (q39, .inl (cI, 60, .inl (fun _ => 0))), (q47, .inl (cI, 8, .inl (fun _ => 0)))] := hD
  refine W.widen (k := 6) (n := 308) (Nat.le_of_ble_eq_true rfl) (Nat.le_of_ble_eq_true rfl) ?_
  refine va_putF (D := D) (ci := 1) (v := .ref q47) (ty := .array .int) (C := R_Fo) (T := F_Fo) (N := 8) hx hb hts in_Fo t_Fo t_Fo_ok n_Fo hown hK hP hD hS 0 rfl rfl 5 (by decide) (hts _ kC_15) (fun _ h9 => h9) rfl hin rfl (by decide +kernel) rfl rfl (Nat.le_of_ble_eq_true rfl) d_Fo_init_49 (fun H locs hP hD hS => ?_)
  have hP : va_P D clC [(h0, .inr (1, [.ref q7, .ref q15, .ref q23, .ref q31, .ref q39, .ref q47, .int 0, .int 0])), (q7, .inl (cI, 60, .inl (fun _ => 0))), (q15, .inl (cI, 60, .inl (fun _ => 0))), (q23, .inl (cI, 60, .inl (fun _ => 0))), (q31, .inl (cI, 60, .inl (fun _ => 0))), (q39, .inl (cI, 60, .inl (fun _ => 0))), (q47, .inl (cI, 8, .inl (fun _ => 0)))] H := hP
  have hD : va_D A [(h0, .inr (1, [.ref q7, .ref q15, .ref q23, .ref q31, .ref q39, .ref q47, .int 0, .int 0])), (q7, .inl (cI, 60, .inl (fun _ => 0))), (q15, .inl (cI, 60, .inl (fun _ => 0))), (q23, .inl (cI, 60, .inl (fun _ => 0))), (q31, .inl (cI, 60, .inl (fun _ => 0))), (q39, .inl (cI, 60, .inl (fun _ => 0))), (q47, .inl (cI, 8, .inl (fun _ => 0)))] := hD
  have hP9 := hP.sub (ws' := iw_Fo cI cZ h0 (fun k => ([q7, q15, q23, q31, q39, q47] : List Nat).getD k 0) ) [0, 1, 2, 3, 4, 5, 6] rfl
  have hD9 := hD.sub (ws' := iw_Fo cI cZ h0 (fun k => ([q7, q15, q23, q31, q39, q47] : List Nat).getD k 0) ) [0, 1, 2, 3, 4, 5, 6] (by decide) rfl
  exact W.vret hx hb hr (fun t ht hW => ⟨⟨(fun k => ([q7, q15, q23, q31, q39, q47] : List Nat).getD k 0), rfl, trivial, by rw [ht]; exact hP9, va_K.moved hW.alike hK, hD9⟩, hS.F ht⟩) hS.2.2 d_Fo_init_52

set_option maxHeartbeats 8000000 in
set_option maxRecDepth 100000 in
theorem ci_Ch {l : Launch} {D : va_G} {cI cZ : ClassId} (h0 : Nat) (r_forest : Nat) (sz : Nat) : Met l y_Ch_init (.code y_Ch_init b_Ch_init 2 none :: wGC) ({ frames := 1, cells := 1, slots := 60, locals := 20 }) (va_Pc [.ref h0, .ref r_forest] (fun U => U.heap.size = sz ∧ va_P D clC [(h0, .inr (2, [.null, .null]))] U.heap ∧ va_K D clC [(cI, .int), (cZ, .boolean)] U ∧ va_D (fun _ => True) [(h0, .inr (2, [.null, .null]))] ∧ nwC U)) (va_Qv (fun _ : Nat → Nat => True) (fun q t => va_P D clC (iw_Ch cI cZ h0 q r_forest) t.heap ∧ va_K D clC [(cI, .int), (cZ, .boolean)] t ∧ va_D (va_A [(h0, .inr (2, [.null, .null]))] sz) (iw_Ch cI cZ h0 q r_forest)) (va_A [(h0, .inr (2, [.null, .null]))] sz)) 1 60 (va_A [(h0, .inr (2, [.null, .null]))] sz) := by
  refine Met.ofW (cc := b_Ch_init) (maxL := 2) (ret := none) (by decide) rfl ?_
  intro p e s m args below meth c s₁ B hml hv
  obtain ⟨rfl, hsz, hP, hK, hD0, hN⟩ := hv
  have hx := B.exec
  have hb := B.bytes
  have hr := B.returns
  have hts0 := atoms_spec (ws := .code y_Ch_init b_Ch_init 2 none :: wGC) B.pre
  have hts : ∀ w ∈ wGC, w.before _ s = true := fun w h => hts0 w (List.mem_cons_of_mem _ h)
  have hown : s.vm.findClass R_Ch = some m.cls := findClass_of_methodNamed B.named
  have hlocks := B.notSynchronized
  have hin : meth.name = "<init>" := (name_of_methodNamed B.named B.method).1
  subst hsz
  have hD := hD0.self (sz := s.heap.size)
  generalize hAe : va_A [(h0, .inr (2, [.null, .null]))] s.heap.size = A at hD ⊢
  have hA : ∀ q : Nat, s.heap.size ≤ q → A q := fun q h => by rw [← hAe]; exact Or.inr h
  have hS : va_S A s.heap s.heap [] := va_S.rf
  have hP : va_P D clC [(h0, .inr (2, [.null, .null]))] s.heap := hP
  have hl := lv_entry ([.ref h0, .ref r_forest]) (n := 2) (Nat.le_of_ble_eq_true rfl)
  rw [lg_entry_eq]
  generalize (lg_sl ([.ref h0, .ref r_forest]) ++ List.replicate (2 - (lg_sl ([.ref h0, .ref r_forest])).length) Slot.unset).toArray = ls at hl ⊢
  have hl : lv_has ls 2 [(0, .ref h0), (1, .ref r_forest)] := hl
  refine lv_aload_n hx hb d_Ch_init_0 rfl (lv_at hl 0 rfl) ?_
  refine W.objInit hx hb hown (hts _ kC_17) (hts _ kC_7) (hts _ kC_8) rfl (by rw [hml]; exact hl.1) rfl d_Ch_init_1 (Nat.le_of_ble_eq_true rfl) (Nat.le_of_ble_eq_true rfl) ?_
  refine W.eq (g2 := F0 m 4 ls []) rfl ?_
  refine lv_aload_n hx hb d_Ch_init_4 rfl (lv_at hl 0 rfl) ?_
  refine lv_bipush (v := 60) hx hb d_Ch_init_5 (by decide) ?_
  have h_1 : 1 ≤ 1 := by decide
  have h_2 : 60 ≤ 60 := by decide
  refine va_newa (atype := .boolean) (ty := .boolean) (a0 := (60, .inl (fun _ => 0))) (N' := 60) hx hb (hts _ kC_18) rfl hK hP hD hS hA (fun cA => by rw [vp_cell_i]; rfl) (by decide) (by decide) (by decide) h_1 h_2 d_Ch_init_7 (fun q7 cA H hK2 hP hD hS => ?_)
  have hq : cZ = cA := Option.some.inj ((hK2.2 1 _ rfl).2.symm.trans (hK2.2 2 _ rfl).2)
  subst hq
  -- boolean
  have hP : va_P D clC [(h0, .inr (2, [.null, .null])), (q7, .inl (cZ, 60, .inl (fun _ => 0)))] H := hP
  have hD : va_D A [(h0, .inr (2, [.null, .null])), (q7, .inl (cZ, 60, .inl (fun _ => 0)))] := hD
  refine W.widen (k := 1) (n := 60) (Nat.le_of_ble_eq_true rfl) (Nat.le_of_ble_eq_true rfl) ?_
  refine va_putF (D := D) (ci := 2) (v := .ref q7) (ty := .array .boolean) (C := R_Ch) (T := F_Ch) (N := 2) hx hb hts in_Ch t_Ch t_Ch_ok n_Ch hown hK hP hD hS 0 rfl rfl 1 (by decide) (hts _ kC_19) (fun _ h9 => h9) rfl hin rfl (by decide +kernel) rfl rfl (Nat.le_of_ble_eq_true rfl) d_Ch_init_9 (fun H locs hP hD hS => ?_)
  have hP : va_P D clC [(h0, .inr (2, [.null, .ref q7])), (q7, .inl (cZ, 60, .inl (fun _ => 0)))] H := hP
  have hD : va_D A [(h0, .inr (2, [.null, .ref q7])), (q7, .inl (cZ, 60, .inl (fun _ => 0)))] := hD
  refine lv_aload_n hx hb d_Ch_init_12 rfl (lv_at hl 0 rfl) ?_
  refine lv_aload_n hx hb d_Ch_init_13 rfl (lv_at hl 1 rfl) ?_
  refine va_putF (D := D) (ci := 2) (v := .ref r_forest) (ty := .object "BranchForge$Forest") (C := R_Ch) (T := F_Ch) (N := 2) hx hb hts in_Ch t_Ch t_Ch_ok n_Ch hown hK hP hD hS 0 rfl rfl 0 (by decide) (hts _ kC_20) (fun _ h9 => h9) rfl hin rfl (by decide +kernel) rfl rfl (Nat.le_of_ble_eq_true rfl) d_Ch_init_14 (fun H locs hP hD hS => ?_)
  have hP : va_P D clC [(h0, .inr (2, [.ref r_forest, .ref q7])), (q7, .inl (cZ, 60, .inl (fun _ => 0)))] H := hP
  have hD : va_D A [(h0, .inr (2, [.ref r_forest, .ref q7])), (q7, .inl (cZ, 60, .inl (fun _ => 0)))] := hD
  have hP9 := hP.sub (ws' := iw_Ch cI cZ h0 (fun k => ([q7] : List Nat).getD k 0) r_forest) [0, 1] rfl
  have hD9 := hD.sub (ws' := iw_Ch cI cZ h0 (fun k => ([q7] : List Nat).getD k 0) r_forest) [0, 1] (by decide) rfl
  exact W.vret hx hb hr (fun t ht hW => ⟨⟨(fun k => ([q7] : List Nat).getD k 0), rfl, trivial, by rw [ht]; exact hP9, va_K.moved hW.alike hK, hD9⟩, hS.F ht⟩) hS.2.2 d_Ch_init_17

set_option maxHeartbeats 8000000 in
set_option maxRecDepth 100000 in
theorem ci_Cu {l : Launch} {D : va_G} {cI cZ : ClassId} (h0 : Nat) (r_forest : Nat) (sz : Nat) : Met l y_Cu_init (.code y_Cu_init b_Cu_init 2 none :: wGC) ({ frames := 1, cells := 3, slots := 180, locals := 20 }) (va_Pc [.ref h0, .ref r_forest] (fun U => U.heap.size = sz ∧ va_P D clC [(h0, .inr (3, [.null, .null, .null, .null, .int 0]))] U.heap ∧ va_K D clC [(cI, .int), (cZ, .boolean)] U ∧ va_D (fun _ => True) [(h0, .inr (3, [.null, .null, .null, .null, .int 0]))] ∧ nwC U)) (va_Qv (fun _ : Nat → Nat => True) (fun q t => va_P D clC (iw_Cu cI cZ h0 q r_forest) t.heap ∧ va_K D clC [(cI, .int), (cZ, .boolean)] t ∧ va_D (va_A [(h0, .inr (3, [.null, .null, .null, .null, .int 0]))] sz) (iw_Cu cI cZ h0 q r_forest)) (va_A [(h0, .inr (3, [.null, .null, .null, .null, .int 0]))] sz)) 3 180 (va_A [(h0, .inr (3, [.null, .null, .null, .null, .int 0]))] sz) := by
  refine Met.ofW (cc := b_Cu_init) (maxL := 2) (ret := none) (by decide) rfl ?_
  intro p e s m args below meth c s₁ B hml hv
  obtain ⟨rfl, hsz, hP, hK, hD0, hN⟩ := hv
  have hx := B.exec
  have hb := B.bytes
  have hr := B.returns
  have hts0 := atoms_spec (ws := .code y_Cu_init b_Cu_init 2 none :: wGC) B.pre
  have hts : ∀ w ∈ wGC, w.before _ s = true := fun w h => hts0 w (List.mem_cons_of_mem _ h)
  have hown : s.vm.findClass R_Cu = some m.cls := findClass_of_methodNamed B.named
  have hlocks := B.notSynchronized
  have hin : meth.name = "<init>" := (name_of_methodNamed B.named B.method).1
  subst hsz
  have hD := hD0.self (sz := s.heap.size)
  generalize hAe : va_A [(h0, .inr (3, [.null, .null, .null, .null, .int 0]))] s.heap.size = A at hD ⊢
  have hA : ∀ q : Nat, s.heap.size ≤ q → A q := fun q h => by rw [← hAe]; exact Or.inr h
  have hS : va_S A s.heap s.heap [] := va_S.rf
  have hP : va_P D clC [(h0, .inr (3, [.null, .null, .null, .null, .int 0]))] s.heap := hP
  have hl := lv_entry ([.ref h0, .ref r_forest]) (n := 2) (Nat.le_of_ble_eq_true rfl)
  rw [lg_entry_eq]
  generalize (lg_sl ([.ref h0, .ref r_forest]) ++ List.replicate (2 - (lg_sl ([.ref h0, .ref r_forest])).length) Slot.unset).toArray = ls at hl ⊢
  have hl : lv_has ls 2 [(0, .ref h0), (1, .ref r_forest)] := hl
  refine lv_aload_n hx hb d_Cu_init_0 rfl (lv_at hl 0 rfl) ?_
  refine W.objInit hx hb hown (hts _ kC_22) (hts _ kC_7) (hts _ kC_8) rfl (by rw [hml]; exact hl.1) rfl d_Cu_init_1 (Nat.le_of_ble_eq_true rfl) (Nat.le_of_ble_eq_true rfl) ?_
  refine W.eq (g2 := F0 m 4 ls []) rfl ?_
  refine lv_aload_n hx hb d_Cu_init_4 rfl (lv_at hl 0 rfl) ?_
  refine lv_bipush (v := 60) hx hb d_Cu_init_5 (by decide) ?_
  have h_1 : 1 ≤ 3 := by decide
  have h_2 : 60 ≤ 180 := by decide
  refine va_newa (atype := .int) (ty := .int) (a0 := (60, .inl (fun _ => 0))) (N' := 60) hx hb (hts _ kC_9) rfl hK hP hD hS hA (fun cA => by rw [vp_cell_i]; rfl) (by decide) (by decide) (by decide) h_1 h_2 d_Cu_init_7 (fun q7 cA H hK2 hP hD hS => ?_)
  have hq : cI = cA := Option.some.inj ((hK2.2 0 _ rfl).2.symm.trans (hK2.2 2 _ rfl).2)
  subst hq
  have hP : va_P D clC [(h0, .inr (3, [.null, .null, .null, .null, .int 0])), (q7, .inl (cI, 60, .inl (fun _ => 0)))] H := hP
  have hD : va_D A [(h0, .inr (3, [.null, .null, .null, .null, .int 0])), (q7, .inl (cI, 60, .inl (fun _ => 0)))] := hD
  refine W.widen (k := 1) (n := 60) (Nat.le_of_ble_eq_true rfl) (Nat.le_of_ble_eq_true rfl) ?_
  refine va_putF (D := D) (ci := 3) (v := .ref q7) (ty := .array .int) (C := R_Cu) (T := F_Cu) (N := 5) hx hb hts in_Cu t_Cu t_Cu_ok n_Cu hown hK hP hD hS 0 rfl rfl 1 (by decide) (hts _ kC_23) (fun _ h9 => h9) rfl hin rfl (by decide +kernel) rfl rfl (Nat.le_of_ble_eq_true rfl) d_Cu_init_9 (fun H locs hP hD hS => ?_)
  have hP : va_P D clC [(h0, .inr (3, [.null, .ref q7, .null, .null, .int 0])), (q7, .inl (cI, 60, .inl (fun _ => 0)))] H := hP
  have hD : va_D A [(h0, .inr (3, [.null, .ref q7, .null, .null, .int 0])), (q7, .inl (cI, 60, .inl (fun _ => 0)))] := hD
  refine lv_aload_n hx hb d_Cu_init_12 rfl (lv_at hl 0 rfl) ?_
  refine lv_bipush (v := 60) hx hb d_Cu_init_13 (by decide) ?_
  have h_1 : 2 ≤ 3 := by decide
  have h_2 : 120 ≤ 180 := by decide
  refine va_newa (atype := .int) (ty := .int) (a0 := (60, .inl (fun _ => 0))) (N' := 60) hx hb (hts _ kC_9) rfl hK hP hD hS hA (fun cA => by rw [vp_cell_i]; rfl) (by decide) (by decide) (by decide) h_1 h_2 d_Cu_init_15 (fun q15 cA H hK2 hP hD hS => ?_)
  have hq : cI = cA := Option.some.inj ((hK2.2 0 _ rfl).2.symm.trans (hK2.2 2 _ rfl).2)
  subst hq
  have hP : va_P D clC [(h0, .inr (3, [.null, .ref q7, .null, .null, .int 0])), (q7, .inl (cI, 60, .inl (fun _ => 0))), (q15, .inl (cI, 60, .inl (fun _ => 0)))] H := hP
  have hD : va_D A [(h0, .inr (3, [.null, .ref q7, .null, .null, .int 0])), (q7, .inl (cI, 60, .inl (fun _ => 0))), (q15, .inl (cI, 60, .inl (fun _ => 0)))] := hD
  refine W.widen (k := 2) (n := 120) (Nat.le_of_ble_eq_true rfl) (Nat.le_of_ble_eq_true rfl) ?_
  refine va_putF (D := D) (ci := 3) (v := .ref q15) (ty := .array .int) (C := R_Cu) (T := F_Cu) (N := 5) hx hb hts in_Cu t_Cu t_Cu_ok n_Cu hown hK hP hD hS 0 rfl rfl 2 (by decide) (hts _ kC_24) (fun _ h9 => h9) rfl hin rfl (by decide +kernel) rfl rfl (Nat.le_of_ble_eq_true rfl) d_Cu_init_17 (fun H locs hP hD hS => ?_)
  have hP : va_P D clC [(h0, .inr (3, [.null, .ref q7, .ref q15, .null, .int 0])), (q7, .inl (cI, 60, .inl (fun _ => 0))), (q15, .inl (cI, 60, .inl (fun _ => 0)))] H := hP
  have hD : va_D A [(h0, .inr (3, [.null, .ref q7, .ref q15, .null, .int 0])), (q7, .inl (cI, 60, .inl (fun _ => 0))), (q15, .inl (cI, 60, .inl (fun _ => 0)))] := hD
  refine lv_aload_n hx hb d_Cu_init_20 rfl (lv_at hl 0 rfl) ?_
  refine lv_bipush (v := 60) hx hb d_Cu_init_21 (by decide) ?_
  have h_1 : 3 ≤ 3 := by decide
  have h_2 : 180 ≤ 180 := by decide
  refine va_newa (atype := .int) (ty := .int) (a0 := (60, .inl (fun _ => 0))) (N' := 60) hx hb (hts _ kC_9) rfl hK hP hD hS hA (fun cA => by rw [vp_cell_i]; rfl) (by decide) (by decide) (by decide) h_1 h_2 d_Cu_init_23 (fun q23 cA H hK2 hP hD hS => ?_)
  have hq : cI = cA := Option.some.inj ((hK2.2 0 _ rfl).2.symm.trans (hK2.2 2 _ rfl).2)
  subst hq
  have hP : va_P D clC [(h0, .inr (3, [.null, .ref q7, .ref q15, .null, .int 0])), (q7, .inl (cI, 60, .inl (fun _ => 0))), (q15, .inl (cI, 60, .inl (fun _ => 0))), (q23, .inl (cI, 60, .inl (fun _ => 0)))] H := hP
  have hD : va_D A [(h0, .inr (3, [.null, .ref q7, .ref q15, .null, .int 0])), (q7, .inl (cI, 60, .inl (fun _ => 0))), (q15, .inl (cI, 60, .inl (fun _ => 0))), (q23, .inl (cI, 60, .inl (fun _ => 0)))] := hD
  refine W.widen (k := 3) (n := 180) (Nat.le_of_ble_eq_true rfl) (Nat.le_of_ble_eq_true rfl) ?_
  refine va_putF (D := D) (ci := 3) (v := .ref q23) (ty := .array .int) (C := R_Cu) (T := F_Cu) (N := 5) hx hb hts in_Cu t_Cu t_Cu_ok n_Cu hown hK hP hD hS 0 rfl rfl 3 (by decide) (hts _ kC_25) (fun _ h9 => h9) rfl hin rfl (by decide +kernel) rfl rfl (Nat.le_of_ble_eq_true rfl) d_Cu_init_25 (fun H locs hP hD hS => ?_)
  have hP : va_P D clC [(h0, .inr (3, [.null, .ref q7, .ref q15, .ref q23, .int 0])), (q7, .inl (cI, 60, .inl (fun _ => 0))), (q15, .inl (cI, 60, .inl (fun _ => 0))), (q23, .inl (cI, 60, .inl (fun _ => 0)))] H := hP
  have hD : va_D A [(h0, .inr (3, [.null, .ref q7, .ref q15, .ref q23, .int 0])), (q7, .inl (cI, 60, .inl (fun _ => 0))), (q15, .inl (cI, 60, .inl (fun _ => 0))), (q23, .inl (cI, 60, .inl (fun _ => 0)))] := hD
  refine lv_aload_n hx hb d_Cu_init_28 rfl (lv_at hl 0 rfl) ?_
  refine lv_aload_n hx hb d_Cu_init_29 rfl (lv_at hl 1 rfl) ?_
  refine va_putF (D := D) (ci := 3) (v := .ref r_forest) (ty := .object "BranchForge$Forest") (C := R_Cu) (T := F_Cu) (N := 5) hx hb hts in_Cu t_Cu t_Cu_ok n_Cu hown hK hP hD hS 0 rfl rfl 0 (by decide) (hts _ kC_26) (fun _ h9 => h9) rfl hin rfl (by decide +kernel) rfl rfl (Nat.le_of_ble_eq_true rfl) d_Cu_init_30 (fun H locs hP hD hS => ?_)
  have hP : va_P D clC [(h0, .inr (3, [.ref r_forest, .ref q7, .ref q15, .ref q23, .int 0])), (q7, .inl (cI, 60, .inl (fun _ => 0))), (q15, .inl (cI, 60, .inl (fun _ => 0))), (q23, .inl (cI, 60, .inl (fun _ => 0)))] H := hP
  have hD : va_D A [(h0, .inr (3, [.ref r_forest, .ref q7, .ref q15, .ref q23, .int 0])), (q7, .inl (cI, 60, .inl (fun _ => 0))), (q15, .inl (cI, 60, .inl (fun _ => 0))), (q23, .inl (cI, 60, .inl (fun _ => 0)))] := hD
  have hP9 := hP.sub (ws' := iw_Cu cI cZ h0 (fun k => ([q7, q15, q23] : List Nat).getD k 0) r_forest) [0, 1, 2, 3] rfl
  have hD9 := hD.sub (ws' := iw_Cu cI cZ h0 (fun k => ([q7, q15, q23] : List Nat).getD k 0) r_forest) [0, 1, 2, 3] (by decide) rfl
  exact W.vret hx hb hr (fun t ht hW => ⟨⟨(fun k => ([q7, q15, q23] : List Nat).getD k 0), rfl, trivial, by rw [ht]; exact hP9, va_K.moved hW.alike hK, hD9⟩, hS.F ht⟩) hS.2.2 d_Cu_init_33

set_option maxHeartbeats 8000000 in
set_option maxRecDepth 100000 in
theorem ci_Ta {l : Launch} {D : va_G} {cI cZ : ClassId} (h0 : Nat) (sz : Nat) : Met l y_Ta_init (.code y_Ta_init b_Ta_init 1 none :: wGC) ({ frames := 1, cells := 3, slots := 301, locals := 20 }) (va_Pc [.ref h0] (fun U => U.heap.size = sz ∧ va_P D clC [(h0, .inr (4, [.null, .null, .null, .int 0]))] U.heap ∧ va_K D clC [(cI, .int), (cZ, .boolean)] U ∧ va_D (fun _ => True) [(h0, .inr (4, [.null, .null, .null, .int 0]))] ∧ nwC U)) (va_Qv (fun _ : Nat → Nat => True) (fun q t => va_P D clC (iw_Ta cI cZ h0 q ) t.heap ∧ va_K D clC [(cI, .int), (cZ, .boolean)] t ∧ va_D (va_A [(h0, .inr (4, [.null, .null, .null, .int 0]))] sz) (iw_Ta cI cZ h0 q )) (va_A [(h0, .inr (4, [.null, .null, .null, .int 0]))] sz)) 3 301 (va_A [(h0, .inr (4, [.null, .null, .null, .int 0]))] sz) := by
  refine Met.ofW (cc := b_Ta_init) (maxL := 1) (ret := none) (by decide) rfl ?_
  intro p e s m args below meth c s₁ B hml hv
  obtain ⟨rfl, hsz, hP, hK, hD0, hN⟩ := hv
  have hx := B.exec
  have hb := B.bytes
  have hr := B.returns
  have hts0 := atoms_spec (ws := .code y_Ta_init b_Ta_init 1 none :: wGC) B.pre
  have hts : ∀ w ∈ wGC, w.before _ s = true := fun w h => hts0 w (List.mem_cons_of_mem _ h)
  have hown : s.vm.findClass R_Ta = some m.cls := findClass_of_methodNamed B.named
  have hlocks := B.notSynchronized
  have hin : meth.name = "<init>" := (name_of_methodNamed B.named B.method).1
  subst hsz
  have hD := hD0.self (sz := s.heap.size)
  generalize hAe : va_A [(h0, .inr (4, [.null, .null, .null, .int 0]))] s.heap.size = A at hD ⊢
  have hA : ∀ q : Nat, s.heap.size ≤ q → A q := fun q h => by rw [← hAe]; exact Or.inr h
  have hS : va_S A s.heap s.heap [] := va_S.rf
  have hP : va_P D clC [(h0, .inr (4, [.null, .null, .null, .int 0]))] s.heap := hP
  have hl := lv_entry ([.ref h0]) (n := 1) (Nat.le_of_ble_eq_true rfl)
  rw [lg_entry_eq]
  generalize (lg_sl ([.ref h0]) ++ List.replicate (1 - (lg_sl ([.ref h0])).length) Slot.unset).toArray = ls at hl ⊢
  have hl : lv_has ls 1 [(0, .ref h0)] := hl
  refine lv_aload_n hx hb d_Ta_init_0 rfl (lv_at hl 0 rfl) ?_
  refine W.objInit hx hb hown (hts _ kC_28) (hts _ kC_7) (hts _ kC_8) rfl (by rw [hml]; exact hl.1) rfl d_Ta_init_1 (Nat.le_of_ble_eq_true rfl) (Nat.le_of_ble_eq_true rfl) ?_
  refine W.eq (g2 := F0 m 4 ls []) rfl ?_
  refine lv_aload_n hx hb d_Ta_init_4 rfl (lv_at hl 0 rfl) ?_
  refine lv_bipush (v := 120) hx hb d_Ta_init_5 (by decide) ?_
  have h_1 : 1 ≤ 3 := by decide
  have h_2 : 120 ≤ 301 := by decide
  refine va_newa (atype := .int) (ty := .int) (a0 := (120, .inl (fun _ => 0))) (N' := 120) hx hb (hts _ kC_9) rfl hK hP hD hS hA (fun cA => by rw [vp_cell_i]; rfl) (by decide) (by decide) (by decide) h_1 h_2 d_Ta_init_7 (fun q7 cA H hK2 hP hD hS => ?_)
  have hq : cI = cA := Option.some.inj ((hK2.2 0 _ rfl).2.symm.trans (hK2.2 2 _ rfl).2)
  subst hq
  have hP : va_P D clC [(h0, .inr (4, [.null, .null, .null, .int 0])), (q7, .inl (cI, 120, .inl (fun _ => 0)))] H := hP
  have hD : va_D A [(h0, .inr (4, [.null, .null, .null, .int 0])), (q7, .inl (cI, 120, .inl (fun _ => 0)))] := hD
  refine W.widen (k := 1) (n := 120) (Nat.le_of_ble_eq_true rfl) (Nat.le_of_ble_eq_true rfl) ?_
  refine va_putF (D := D) (ci := 4) (v := .ref q7) (ty := .array .int) (C := R_Ta) (T := F_Ta) (N := 4) hx hb hts in_Ta t_Ta t_Ta_ok n_Ta hown hK hP hD hS 0 rfl rfl 0 (by decide) (hts _ kC_29) (fun _ h9 => h9) rfl hin rfl (by decide +kernel) rfl rfl (Nat.le_of_ble_eq_true rfl) d_Ta_init_9 (fun H locs hP hD hS => ?_)
  have hP : va_P D clC [(h0, .inr (4, [.ref q7, .null, .null, .int 0])), (q7, .inl (cI, 120, .inl (fun _ => 0)))] H := hP
  have hD : va_D A [(h0, .inr (4, [.ref q7, .null, .null, .int 0])), (q7, .inl (cI, 120, .inl (fun _ => 0)))] := hD
  refine lv_aload_n hx hb d_Ta_init_12 rfl (lv_at hl 0 rfl) ?_
  refine lv_bipush (v := 120) hx hb d_Ta_init_13 (by decide) ?_
  have h_1 : 2 ≤ 3 := by decide
  have h_2 : 240 ≤ 301 := by decide
  refine va_newa (atype := .int) (ty := .int) (a0 := (120, .inl (fun _ => 0))) (N' := 120) hx hb (hts _ kC_9) rfl hK hP hD hS hA (fun cA => by rw [vp_cell_i]; rfl) (by decide) (by decide) (by decide) h_1 h_2 d_Ta_init_15 (fun q15 cA H hK2 hP hD hS => ?_)
  have hq : cI = cA := Option.some.inj ((hK2.2 0 _ rfl).2.symm.trans (hK2.2 2 _ rfl).2)
  subst hq
  have hP : va_P D clC [(h0, .inr (4, [.ref q7, .null, .null, .int 0])), (q7, .inl (cI, 120, .inl (fun _ => 0))), (q15, .inl (cI, 120, .inl (fun _ => 0)))] H := hP
  have hD : va_D A [(h0, .inr (4, [.ref q7, .null, .null, .int 0])), (q7, .inl (cI, 120, .inl (fun _ => 0))), (q15, .inl (cI, 120, .inl (fun _ => 0)))] := hD
  refine W.widen (k := 2) (n := 240) (Nat.le_of_ble_eq_true rfl) (Nat.le_of_ble_eq_true rfl) ?_
  refine va_putF (D := D) (ci := 4) (v := .ref q15) (ty := .array .int) (C := R_Ta) (T := F_Ta) (N := 4) hx hb hts in_Ta t_Ta t_Ta_ok n_Ta hown hK hP hD hS 0 rfl rfl 1 (by decide) (hts _ kC_30) (fun _ h9 => h9) rfl hin rfl (by decide +kernel) rfl rfl (Nat.le_of_ble_eq_true rfl) d_Ta_init_17 (fun H locs hP hD hS => ?_)
  have hP : va_P D clC [(h0, .inr (4, [.ref q7, .ref q15, .null, .int 0])), (q7, .inl (cI, 120, .inl (fun _ => 0))), (q15, .inl (cI, 120, .inl (fun _ => 0)))] H := hP
  have hD : va_D A [(h0, .inr (4, [.ref q7, .ref q15, .null, .int 0])), (q7, .inl (cI, 120, .inl (fun _ => 0))), (q15, .inl (cI, 120, .inl (fun _ => 0)))] := hD
  refine lv_aload_n hx hb d_Ta_init_20 rfl (lv_at hl 0 rfl) ?_
  refine lv_bipush (v := 61) hx hb d_Ta_init_21 (by decide) ?_
  have h_1 : 3 ≤ 3 := by decide
  have h_2 : 301 ≤ 301 := by decide
  refine va_newa (atype := .int) (ty := .int) (a0 := (61, .inl (fun _ => 0))) (N' := 61) hx hb (hts _ kC_9) rfl hK hP hD hS hA (fun cA => by rw [vp_cell_i]; rfl) (by decide) (by decide) (by decide) h_1 h_2 d_Ta_init_23 (fun q23 cA H hK2 hP hD hS => ?_)
  have hq : cI = cA := Option.some.inj ((hK2.2 0 _ rfl).2.symm.trans (hK2.2 2 _ rfl).2)
  subst hq
  have hP : va_P D clC [(h0, .inr (4, [.ref q7, .ref q15, .null, .int 0])), (q7, .inl (cI, 120, .inl (fun _ => 0))), (q15, .inl (cI, 120, .inl (fun _ => 0))), (q23, .inl (cI, 61, .inl (fun _ => 0)))] H := hP
  have hD : va_D A [(h0, .inr (4, [.ref q7, .ref q15, .null, .int 0])), (q7, .inl (cI, 120, .inl (fun _ => 0))), (q15, .inl (cI, 120, .inl (fun _ => 0))), (q23, .inl (cI, 61, .inl (fun _ => 0)))] := hD
  refine W.widen (k := 3) (n := 301) (Nat.le_of_ble_eq_true rfl) (Nat.le_of_ble_eq_true rfl) ?_
  refine va_putF (D := D) (ci := 4) (v := .ref q23) (ty := .array .int) (C := R_Ta) (T := F_Ta) (N := 4) hx hb hts in_Ta t_Ta t_Ta_ok n_Ta hown hK hP hD hS 0 rfl rfl 2 (by decide) (hts _ kC_31) (fun _ h9 => h9) rfl hin rfl (by decide +kernel) rfl rfl (Nat.le_of_ble_eq_true rfl) d_Ta_init_25 (fun H locs hP hD hS => ?_)
  have hP : va_P D clC [(h0, .inr (4, [.ref q7, .ref q15, .ref q23, .int 0])), (q7, .inl (cI, 120, .inl (fun _ => 0))), (q15, .inl (cI, 120, .inl (fun _ => 0))), (q23, .inl (cI, 61, .inl (fun _ => 0)))] H := hP
  have hD : va_D A [(h0, .inr (4, [.ref q7, .ref q15, .ref q23, .int 0])), (q7, .inl (cI, 120, .inl (fun _ => 0))), (q15, .inl (cI, 120, .inl (fun _ => 0))), (q23, .inl (cI, 61, .inl (fun _ => 0)))] := hD
  have hP9 := hP.sub (ws' := iw_Ta cI cZ h0 (fun k => ([q7, q15, q23] : List Nat).getD k 0) ) [0, 1, 2, 3] rfl
  have hD9 := hD.sub (ws' := iw_Ta cI cZ h0 (fun k => ([q7, q15, q23] : List Nat).getD k 0) ) [0, 1, 2, 3] (by decide) rfl
  exact W.vret hx hb hr (fun t ht hW => ⟨⟨(fun k => ([q7, q15, q23] : List Nat).getD k 0), rfl, trivial, by rw [ht]; exact hP9, va_K.moved hW.alike hK, hD9⟩, hS.F ht⟩) hS.2.2 d_Ta_init_28

set_option maxHeartbeats 8000000 in
set_option maxRecDepth 100000 in
theorem ci_Co {l : Launch} {D : va_G} {cI cZ : ClassId} (h0 : Nat) (r_forest : Nat) (r_cutter : Nat) (r_tables : Nat) (sz : Nat) : Met l y_Co_init (.code y_Co_init b_Co_init 4 none :: wGC) ({ frames := 1, cells := 4, slots := 729, locals := 20 }) (va_Pc [.ref h0, .ref r_forest, .ref r_cutter, .ref r_tables] (fun U => U.heap.size = sz ∧ va_P D clC [(h0, .inr (5, [.null, .null, .null, .null, .null, .null, .null, .int 0, .int 0, .int 0]))] U.heap ∧ va_K D clC [(cI, .int), (cZ, .boolean)] U ∧ va_D (fun _ => True) [(h0, .inr (5, [.null, .null, .null, .null, .null, .null, .null, .int 0, .int 0, .int 0]))] ∧ nwC U)) (va_Qv (fun _ : Nat → Nat => True) (fun q t => va_P D clC (iw_Co cI cZ h0 q r_forest r_cutter r_tables) t.heap ∧ va_K D clC [(cI, .int), (cZ, .boolean)] t ∧ va_D (va_A [(h0, .inr (5, [.null, .null, .null, .null, .null, .null, .null, .int 0, .int 0, .int 0]))] sz) (iw_Co cI cZ h0 q r_forest r_cutter r_tables)) (va_A [(h0, .inr (5, [.null, .null, .null, .null, .null, .null, .null, .int 0, .int 0, .int 0]))] sz)) 4 729 (va_A [(h0, .inr (5, [.null, .null, .null, .null, .null, .null, .null, .int 0, .int 0, .int 0]))] sz) := by
  refine Met.ofW (cc := b_Co_init) (maxL := 4) (ret := none) (by decide) rfl ?_
  intro p e s m args below meth c s₁ B hml hv
  obtain ⟨rfl, hsz, hP, hK, hD0, hN⟩ := hv
  have hx := B.exec
  have hb := B.bytes
  have hr := B.returns
  have hts0 := atoms_spec (ws := .code y_Co_init b_Co_init 4 none :: wGC) B.pre
  have hts : ∀ w ∈ wGC, w.before _ s = true := fun w h => hts0 w (List.mem_cons_of_mem _ h)
  have hown : s.vm.findClass R_Co = some m.cls := findClass_of_methodNamed B.named
  have hlocks := B.notSynchronized
  have hin : meth.name = "<init>" := (name_of_methodNamed B.named B.method).1
  subst hsz
  have hD := hD0.self (sz := s.heap.size)
  generalize hAe : va_A [(h0, .inr (5, [.null, .null, .null, .null, .null, .null, .null, .int 0, .int 0, .int 0]))] s.heap.size = A at hD ⊢
  have hA : ∀ q : Nat, s.heap.size ≤ q → A q := fun q h => by rw [← hAe]; exact Or.inr h
  have hS : va_S A s.heap s.heap [] := va_S.rf
  have hP : va_P D clC [(h0, .inr (5, [.null, .null, .null, .null, .null, .null, .null, .int 0, .int 0, .int 0]))] s.heap := hP
  have hl := lv_entry ([.ref h0, .ref r_forest, .ref r_cutter, .ref r_tables]) (n := 4) (Nat.le_of_ble_eq_true rfl)
  rw [lg_entry_eq]
  generalize (lg_sl ([.ref h0, .ref r_forest, .ref r_cutter, .ref r_tables]) ++ List.replicate (4 - (lg_sl ([.ref h0, .ref r_forest, .ref r_cutter, .ref r_tables])).length) Slot.unset).toArray = ls at hl ⊢
  have hl : lv_has ls 4 [(0, .ref h0), (1, .ref r_forest), (2, .ref r_cutter), (3, .ref r_tables)] := hl
  refine lv_aload_n hx hb d_Co_init_0 rfl (lv_at hl 0 rfl) ?_
  refine W.objInit hx hb hown (hts _ kC_33) (hts _ kC_7) (hts _ kC_8) rfl (by rw [hml]; exact hl.1) rfl d_Co_init_1 (Nat.le_of_ble_eq_true rfl) (Nat.le_of_ble_eq_true rfl) ?_
  refine W.eq (g2 := F0 m 4 ls []) rfl ?_
  refine lv_aload_n hx hb d_Co_init_4 rfl (lv_at hl 0 rfl) ?_
  refine lv_sipush (v := 600) hx hb d_Co_init_5 (by decide) ?_
  have h_1 : 1 ≤ 4 := by decide
  have h_2 : 600 ≤ 729 := by decide
  refine va_newa (atype := .int) (ty := .int) (a0 := (600, .inl (fun _ => 0))) (N' := 600) hx hb (hts _ kC_9) rfl hK hP hD hS hA (fun cA => by rw [vp_cell_i]; rfl) (by decide) (by decide) (by decide) h_1 h_2 d_Co_init_8 (fun q8 cA H hK2 hP hD hS => ?_)
  have hq : cI = cA := Option.some.inj ((hK2.2 0 _ rfl).2.symm.trans (hK2.2 2 _ rfl).2)
  subst hq
  have hP : va_P D clC [(h0, .inr (5, [.null, .null, .null, .null, .null, .null, .null, .int 0, .int 0, .int 0])), (q8, .inl (cI, 600, .inl (fun _ => 0)))] H := hP
  have hD : va_D A [(h0, .inr (5, [.null, .null, .null, .null, .null, .null, .null, .int 0, .int 0, .int 0])), (q8, .inl (cI, 600, .inl (fun _ => 0)))] := hD
  refine W.widen (k := 1) (n := 600) (Nat.le_of_ble_eq_true rfl) (Nat.le_of_ble_eq_true rfl) ?_
  refine va_putF (D := D) (ci := 5) (v := .ref q8) (ty := .array .int) (C := R_Co) (T := F_Co) (N := 10) hx hb hts in_Co t_Co t_Co_ok n_Co hown hK hP hD hS 0 rfl rfl 3 (by decide) (hts _ kC_34) (fun _ h9 => h9) rfl hin rfl (by decide +kernel) rfl rfl (Nat.le_of_ble_eq_true rfl) d_Co_init_10 (fun H locs hP hD hS => ?_)
  have hP : va_P D clC [(h0, .inr (5, [.null, .null, .null, .ref q8, .null, .null, .null, .int 0, .int 0, .int 0])), (q8, .inl (cI, 600, .inl (fun _ => 0)))] H := hP
  have hD : va_D A [(h0, .inr (5, [.null, .null, .null, .ref q8, .null, .null, .null, .int 0, .int 0, .int 0])), (q8, .inl (cI, 600, .inl (fun _ => 0)))] := hD
  refine lv_aload_n hx hb d_Co_init_13 rfl (lv_at hl 0 rfl) ?_
  refine lv_bipush (v := 61) hx hb d_Co_init_14 (by decide) ?_
  have h_1 : 2 ≤ 4 := by decide
  have h_2 : 661 ≤ 729 := by decide
  refine va_newa (atype := .int) (ty := .int) (a0 := (61, .inl (fun _ => 0))) (N' := 61) hx hb (hts _ kC_9) rfl hK hP hD hS hA (fun cA => by rw [vp_cell_i]; rfl) (by decide) (by decide) (by decide) h_1 h_2 d_Co_init_16 (fun q16 cA H hK2 hP hD hS => ?_)
  have hq : cI = cA := Option.some.inj ((hK2.2 0 _ rfl).2.symm.trans (hK2.2 2 _ rfl).2)
  subst hq
  have hP : va_P D clC [(h0, .inr (5, [.null, .null, .null, .ref q8, .null, .null, .null, .int 0, .int 0, .int 0])), (q8, .inl (cI, 600, .inl (fun _ => 0))), (q16, .inl (cI, 61, .inl (fun _ => 0)))] H := hP
  have hD : va_D A [(h0, .inr (5, [.null, .null, .null, .ref q8, .null, .null, .null, .int 0, .int 0, .int 0])), (q8, .inl (cI, 600, .inl (fun _ => 0))), (q16, .inl (cI, 61, .inl (fun _ => 0)))] := hD
  refine W.widen (k := 2) (n := 661) (Nat.le_of_ble_eq_true rfl) (Nat.le_of_ble_eq_true rfl) ?_
  refine va_putF (D := D) (ci := 5) (v := .ref q16) (ty := .array .int) (C := R_Co) (T := F_Co) (N := 10) hx hb hts in_Co t_Co t_Co_ok n_Co hown hK hP hD hS 0 rfl rfl 4 (by decide) (hts _ kC_35) (fun _ h9 => h9) rfl hin rfl (by decide +kernel) rfl rfl (Nat.le_of_ble_eq_true rfl) d_Co_init_18 (fun H locs hP hD hS => ?_)
  have hP : va_P D clC [(h0, .inr (5, [.null, .null, .null, .ref q8, .ref q16, .null, .null, .int 0, .int 0, .int 0])), (q8, .inl (cI, 600, .inl (fun _ => 0))), (q16, .inl (cI, 61, .inl (fun _ => 0)))] H := hP
  have hD : va_D A [(h0, .inr (5, [.null, .null, .null, .ref q8, .ref q16, .null, .null, .int 0, .int 0, .int 0])), (q8, .inl (cI, 600, .inl (fun _ => 0))), (q16, .inl (cI, 61, .inl (fun _ => 0)))] := hD
  refine lv_aload_n hx hb d_Co_init_21 rfl (lv_at hl 0 rfl) ?_
  refine lv_bipush (v := 60) hx hb d_Co_init_22 (by decide) ?_
  have h_1 : 3 ≤ 4 := by decide
  have h_2 : 721 ≤ 729 := by decide
  refine va_newa (atype := .int) (ty := .int) (a0 := (60, .inl (fun _ => 0))) (N' := 60) hx hb (hts _ kC_9) rfl hK hP hD hS hA (fun cA => by rw [vp_cell_i]; rfl) (by decide) (by decide) (by decide) h_1 h_2 d_Co_init_24 (fun q24 cA H hK2 hP hD hS => ?_)
  have hq : cI = cA := Option.some.inj ((hK2.2 0 _ rfl).2.symm.trans (hK2.2 2 _ rfl).2)
  subst hq
  have hP : va_P D clC [(h0, .inr (5, [.null, .null, .null, .ref q8, .ref q16, .null, .null, .int 0, .int 0, .int 0])), (q8, .inl (cI, 600, .inl (fun _ => 0))), (q16, .inl (cI, 61, .inl (fun _ => 0))), (q24, .inl (cI, 60, .inl (fun _ => 0)))] H := hP
  have hD : va_D A [(h0, .inr (5, [.null, .null, .null, .ref q8, .ref q16, .null, .null, .int 0, .int 0, .int 0])), (q8, .inl (cI, 600, .inl (fun _ => 0))), (q16, .inl (cI, 61, .inl (fun _ => 0))), (q24, .inl (cI, 60, .inl (fun _ => 0)))] := hD
  refine W.widen (k := 3) (n := 721) (Nat.le_of_ble_eq_true rfl) (Nat.le_of_ble_eq_true rfl) ?_
  refine va_putF (D := D) (ci := 5) (v := .ref q24) (ty := .array .int) (C := R_Co) (T := F_Co) (N := 10) hx hb hts in_Co t_Co t_Co_ok n_Co hown hK hP hD hS 0 rfl rfl 5 (by decide) (hts _ kC_36) (fun _ h9 => h9) rfl hin rfl (by decide +kernel) rfl rfl (Nat.le_of_ble_eq_true rfl) d_Co_init_26 (fun H locs hP hD hS => ?_)
  have hP : va_P D clC [(h0, .inr (5, [.null, .null, .null, .ref q8, .ref q16, .ref q24, .null, .int 0, .int 0, .int 0])), (q8, .inl (cI, 600, .inl (fun _ => 0))), (q16, .inl (cI, 61, .inl (fun _ => 0))), (q24, .inl (cI, 60, .inl (fun _ => 0)))] H := hP
  have hD : va_D A [(h0, .inr (5, [.null, .null, .null, .ref q8, .ref q16, .ref q24, .null, .int 0, .int 0, .int 0])), (q8, .inl (cI, 600, .inl (fun _ => 0))), (q16, .inl (cI, 61, .inl (fun _ => 0))), (q24, .inl (cI, 60, .inl (fun _ => 0)))] := hD
  refine lv_aload_n hx hb d_Co_init_29 rfl (lv_at hl 0 rfl) ?_
  refine lv_bipush (v := 8) hx hb d_Co_init_30 (by decide) ?_
  have h_1 : 4 ≤ 4 := by decide
  have h_2 : 729 ≤ 729 := by decide
  refine va_newa (atype := .int) (ty := .int) (a0 := (8, .inl (fun _ => 0))) (N' := 8) hx hb (hts _ kC_9) rfl hK hP hD hS hA (fun cA => by rw [vp_cell_i]; rfl) (by decide) (by decide) (by decide) h_1 h_2 d_Co_init_32 (fun q32 cA H hK2 hP hD hS => ?_)
  have hq : cI = cA := Option.some.inj ((hK2.2 0 _ rfl).2.symm.trans (hK2.2 2 _ rfl).2)
  subst hq
  have hP : va_P D clC [(h0, .inr (5, [.null, .null, .null, .ref q8, .ref q16, .ref q24, .null, .int 0, .int 0, .int 0])), (q8, .inl (cI, 600, .inl (fun _ => 0))), (q16, .inl (cI, 61, .inl (fun _ => 0))), (q24, .inl (cI, 60, .inl (fun _ => 0))), (q32, .inl (cI, 8, .inl (fun _ => 0)))] H := hP
  have hD : va_D A [(h0, .inr (5, [.null, .null, .null, .ref q8, .ref q16, .ref q24, .null, .int 0, .int 0, .int 0])), (q8, .inl (cI, 600, .inl (fun _ => 0))), (q16, .inl (cI, 61, .inl (fun _ => 0))), (q24, .inl (cI, 60, .inl (fun _ => 0))), (q32, .inl (cI, 8, .inl (fun _ => 0)))] := hD
  refine W.widen (k := 4) (n := 729) (Nat.le_of_ble_eq_true rfl) (Nat.le_of_ble_eq_true rfl) ?_
  refine va_putF (D := D) (ci := 5) (v := .ref q32) (ty := .array .int) (C := R_Co) (T := F_Co) (N := 10) hx hb hts in_Co t_Co t_Co_ok n_Co hown hK hP hD hS 0 rfl rfl 6 (by decide) (hts _ kC_37) (fun _ h9 => h9) rfl hin rfl (by decide +kernel) rfl rfl (Nat.le_of_ble_eq_true rfl) d_Co_init_34 (fun H locs hP hD hS => ?_)
  have hP : va_P D clC [(h0, .inr (5, [.null, .null, .null, .ref q8, .ref q16, .ref q24, .ref q32, .int 0, .int 0, .int 0])), (q8, .inl (cI, 600, .inl (fun _ => 0))), (q16, .inl (cI, 61, .inl (fun _ => 0))), (q24, .inl (cI, 60, .inl (fun _ => 0))), (q32, .inl (cI, 8, .inl (fun _ => 0)))] H := hP
  have hD : va_D A [(h0, .inr (5, [.null, .null, .null, .ref q8, .ref q16, .ref q24, .ref q32, .int 0, .int 0, .int 0])), (q8, .inl (cI, 600, .inl (fun _ => 0))), (q16, .inl (cI, 61, .inl (fun _ => 0))), (q24, .inl (cI, 60, .inl (fun _ => 0))), (q32, .inl (cI, 8, .inl (fun _ => 0)))] := hD
  refine lv_aload_n hx hb d_Co_init_37 rfl (lv_at hl 0 rfl) ?_
  refine lv_aload_n hx hb d_Co_init_38 rfl (lv_at hl 1 rfl) ?_
  refine va_putF (D := D) (ci := 5) (v := .ref r_forest) (ty := .object "BranchForge$Forest") (C := R_Co) (T := F_Co) (N := 10) hx hb hts in_Co t_Co t_Co_ok n_Co hown hK hP hD hS 0 rfl rfl 0 (by decide) (hts _ kC_38) (fun _ h9 => h9) rfl hin rfl (by decide +kernel) rfl rfl (Nat.le_of_ble_eq_true rfl) d_Co_init_39 (fun H locs hP hD hS => ?_)
  have hP : va_P D clC [(h0, .inr (5, [.ref r_forest, .null, .null, .ref q8, .ref q16, .ref q24, .ref q32, .int 0, .int 0, .int 0])), (q8, .inl (cI, 600, .inl (fun _ => 0))), (q16, .inl (cI, 61, .inl (fun _ => 0))), (q24, .inl (cI, 60, .inl (fun _ => 0))), (q32, .inl (cI, 8, .inl (fun _ => 0)))] H := hP
  have hD : va_D A [(h0, .inr (5, [.ref r_forest, .null, .null, .ref q8, .ref q16, .ref q24, .ref q32, .int 0, .int 0, .int 0])), (q8, .inl (cI, 600, .inl (fun _ => 0))), (q16, .inl (cI, 61, .inl (fun _ => 0))), (q24, .inl (cI, 60, .inl (fun _ => 0))), (q32, .inl (cI, 8, .inl (fun _ => 0)))] := hD
  refine lv_aload_n hx hb d_Co_init_42 rfl (lv_at hl 0 rfl) ?_
  refine lv_aload_n hx hb d_Co_init_43 rfl (lv_at hl 2 rfl) ?_
  refine va_putF (D := D) (ci := 5) (v := .ref r_cutter) (ty := .object "BranchForge$Cutter") (C := R_Co) (T := F_Co) (N := 10) hx hb hts in_Co t_Co t_Co_ok n_Co hown hK hP hD hS 0 rfl rfl 1 (by decide) (hts _ kC_39) (fun _ h9 => h9) rfl hin rfl (by decide +kernel) rfl rfl (Nat.le_of_ble_eq_true rfl) d_Co_init_44 (fun H locs hP hD hS => ?_)
  have hP : va_P D clC [(h0, .inr (5, [.ref r_forest, .ref r_cutter, .null, .ref q8, .ref q16, .ref q24, .ref q32, .int 0, .int 0, .int 0])), (q8, .inl (cI, 600, .inl (fun _ => 0))), (q16, .inl (cI, 61, .inl (fun _ => 0))), (q24, .inl (cI, 60, .inl (fun _ => 0))), (q32, .inl (cI, 8, .inl (fun _ => 0)))] H := hP
  have hD : va_D A [(h0, .inr (5, [.ref r_forest, .ref r_cutter, .null, .ref q8, .ref q16, .ref q24, .ref q32, .int 0, .int 0, .int 0])), (q8, .inl (cI, 600, .inl (fun _ => 0))), (q16, .inl (cI, 61, .inl (fun _ => 0))), (q24, .inl (cI, 60, .inl (fun _ => 0))), (q32, .inl (cI, 8, .inl (fun _ => 0)))] := hD
  refine lv_aload_n hx hb d_Co_init_47 rfl (lv_at hl 0 rfl) ?_
  refine lv_aload_n hx hb d_Co_init_48 rfl (lv_at hl 3 rfl) ?_
  refine va_putF (D := D) (ci := 5) (v := .ref r_tables) (ty := .object "BranchForge$Tables") (C := R_Co) (T := F_Co) (N := 10) hx hb hts in_Co t_Co t_Co_ok n_Co hown hK hP hD hS 0 rfl rfl 2 (by decide) (hts _ kC_40) (fun _ h9 => h9) rfl hin rfl (by decide +kernel) rfl rfl (Nat.le_of_ble_eq_true rfl) d_Co_init_49 (fun H locs hP hD hS => ?_)
  have hP : va_P D clC [(h0, .inr (5, [.ref r_forest, .ref r_cutter, .ref r_tables, .ref q8, .ref q16, .ref q24, .ref q32, .int 0, .int 0, .int 0])), (q8, .inl (cI, 600, .inl (fun _ => 0))), (q16, .inl (cI, 61, .inl (fun _ => 0))), (q24, .inl (cI, 60, .inl (fun _ => 0))), (q32, .inl (cI, 8, .inl (fun _ => 0)))] H := hP
  have hD : va_D A [(h0, .inr (5, [.ref r_forest, .ref r_cutter, .ref r_tables, .ref q8, .ref q16, .ref q24, .ref q32, .int 0, .int 0, .int 0])), (q8, .inl (cI, 600, .inl (fun _ => 0))), (q16, .inl (cI, 61, .inl (fun _ => 0))), (q24, .inl (cI, 60, .inl (fun _ => 0))), (q32, .inl (cI, 8, .inl (fun _ => 0)))] := hD
  have hP9 := hP.sub (ws' := iw_Co cI cZ h0 (fun k => ([q8, q16, q24, q32] : List Nat).getD k 0) r_forest r_cutter r_tables) [0, 1, 2, 3, 4] rfl
  have hD9 := hD.sub (ws' := iw_Co cI cZ h0 (fun k => ([q8, q16, q24, q32] : List Nat).getD k 0) r_forest r_cutter r_tables) [0, 1, 2, 3, 4] (by decide) rfl
  exact W.vret hx hb hr (fun t ht hW => ⟨⟨(fun k => ([q8, q16, q24, q32] : List Nat).getD k 0), rfl, trivial, by rw [ht]; exact hP9, va_K.moved hW.alike hK, hD9⟩, hS.F ht⟩) hS.2.2 d_Co_init_52

set_option maxHeartbeats 8000000 in
set_option maxRecDepth 100000 in
theorem ci_Ma {l : Launch} {D : va_G} {cI cZ : ClassId} (h0 : Nat) (r_code : Nat) (r_tables : Nat) (r_features : Nat) (sz : Nat) : Met l y_Ma_init (.code y_Ma_init b_Ma_init 4 none :: wGC) ({ frames := 1, cells := 0, slots := 0, locals := 20 }) (va_Pc [.ref h0, .ref r_code, .ref r_tables, .ref r_features] (fun U => U.heap.size = sz ∧ va_P D clC [(h0, .inr (6, [.null, .null, .null, .int 0, .int 0]))] U.heap ∧ va_K D clC [(cI, .int), (cZ, .boolean)] U ∧ va_D (fun _ => True) [(h0, .inr (6, [.null, .null, .null, .int 0, .int 0]))] ∧ nwC U)) (va_Qv (fun _ : Nat → Nat => True) (fun q t => va_P D clC (iw_Ma cI cZ h0 q r_code r_tables r_features) t.heap ∧ va_K D clC [(cI, .int), (cZ, .boolean)] t ∧ va_D (va_A [(h0, .inr (6, [.null, .null, .null, .int 0, .int 0]))] sz) (iw_Ma cI cZ h0 q r_code r_tables r_features)) (va_A [(h0, .inr (6, [.null, .null, .null, .int 0, .int 0]))] sz)) 0 0 (va_A [(h0, .inr (6, [.null, .null, .null, .int 0, .int 0]))] sz) := by
  refine Met.ofW (cc := b_Ma_init) (maxL := 4) (ret := none) (by decide) rfl ?_
  intro p e s m args below meth c s₁ B hml hv
  obtain ⟨rfl, hsz, hP, hK, hD0, hN⟩ := hv
  have hx := B.exec
  have hb := B.bytes
  have hr := B.returns
  have hts0 := atoms_spec (ws := .code y_Ma_init b_Ma_init 4 none :: wGC) B.pre
  have hts : ∀ w ∈ wGC, w.before _ s = true := fun w h => hts0 w (List.mem_cons_of_mem _ h)
  have hown : s.vm.findClass R_Ma = some m.cls := findClass_of_methodNamed B.named
  have hlocks := B.notSynchronized
  have hin : meth.name = "<init>" := (name_of_methodNamed B.named B.method).1
  subst hsz
  have hD := hD0.self (sz := s.heap.size)
  generalize hAe : va_A [(h0, .inr (6, [.null, .null, .null, .int 0, .int 0]))] s.heap.size = A at hD ⊢
  have hA : ∀ q : Nat, s.heap.size ≤ q → A q := fun q h => by rw [← hAe]; exact Or.inr h
  have hS : va_S A s.heap s.heap [] := va_S.rf
  have hP : va_P D clC [(h0, .inr (6, [.null, .null, .null, .int 0, .int 0]))] s.heap := hP
  have hl := lv_entry ([.ref h0, .ref r_code, .ref r_tables, .ref r_features]) (n := 4) (Nat.le_of_ble_eq_true rfl)
  rw [lg_entry_eq]
  generalize (lg_sl ([.ref h0, .ref r_code, .ref r_tables, .ref r_features]) ++ List.replicate (4 - (lg_sl ([.ref h0, .ref r_code, .ref r_tables, .ref r_features])).length) Slot.unset).toArray = ls at hl ⊢
  have hl : lv_has ls 4 [(0, .ref h0), (1, .ref r_code), (2, .ref r_tables), (3, .ref r_features)] := hl
  refine lv_aload_n hx hb d_Ma_init_0 rfl (lv_at hl 0 rfl) ?_
  refine W.objInit hx hb hown (hts _ kC_42) (hts _ kC_7) (hts _ kC_8) rfl (by rw [hml]; exact hl.1) rfl d_Ma_init_1 (Nat.le_of_ble_eq_true rfl) (Nat.le_of_ble_eq_true rfl) ?_
  refine W.eq (g2 := F0 m 4 ls []) rfl ?_
  refine lv_aload_n hx hb d_Ma_init_4 rfl (lv_at hl 0 rfl) ?_
  refine lv_aload_n hx hb d_Ma_init_5 rfl (lv_at hl 1 rfl) ?_
  refine va_putF (D := D) (ci := 6) (v := .ref r_code) (ty := .object "BranchForge$Code") (C := R_Ma) (T := F_Ma) (N := 5) hx hb hts in_Ma t_Ma t_Ma_ok n_Ma hown hK hP hD hS 0 rfl rfl 0 (by decide) (hts _ kC_43) (fun _ h9 => h9) rfl hin rfl (by decide +kernel) rfl rfl (Nat.le_of_ble_eq_true rfl) d_Ma_init_6 (fun H locs hP hD hS => ?_)
  have hP : va_P D clC [(h0, .inr (6, [.ref r_code, .null, .null, .int 0, .int 0]))] H := hP
  have hD : va_D A [(h0, .inr (6, [.ref r_code, .null, .null, .int 0, .int 0]))] := hD
  refine lv_aload_n hx hb d_Ma_init_9 rfl (lv_at hl 0 rfl) ?_
  refine lv_aload_n hx hb d_Ma_init_10 rfl (lv_at hl 2 rfl) ?_
  refine va_putF (D := D) (ci := 6) (v := .ref r_tables) (ty := .object "BranchForge$Tables") (C := R_Ma) (T := F_Ma) (N := 5) hx hb hts in_Ma t_Ma t_Ma_ok n_Ma hown hK hP hD hS 0 rfl rfl 1 (by decide) (hts _ kC_44) (fun _ h9 => h9) rfl hin rfl (by decide +kernel) rfl rfl (Nat.le_of_ble_eq_true rfl) d_Ma_init_11 (fun H locs hP hD hS => ?_)
  have hP : va_P D clC [(h0, .inr (6, [.ref r_code, .ref r_tables, .null, .int 0, .int 0]))] H := hP
  have hD : va_D A [(h0, .inr (6, [.ref r_code, .ref r_tables, .null, .int 0, .int 0]))] := hD
  refine lv_aload_n hx hb d_Ma_init_14 rfl (lv_at hl 0 rfl) ?_
  refine lv_aload_n hx hb d_Ma_init_15 rfl (lv_at hl 3 rfl) ?_
  refine va_putF (D := D) (ci := 6) (v := .ref r_features) (ty := .array .int) (C := R_Ma) (T := F_Ma) (N := 5) hx hb hts in_Ma t_Ma t_Ma_ok n_Ma hown hK hP hD hS 0 rfl rfl 2 (by decide) (hts _ kC_45) (fun _ h9 => h9) rfl hin rfl (by decide +kernel) rfl rfl (Nat.le_of_ble_eq_true rfl) d_Ma_init_16 (fun H locs hP hD hS => ?_)
  have hP : va_P D clC [(h0, .inr (6, [.ref r_code, .ref r_tables, .ref r_features, .int 0, .int 0]))] H := hP
  have hD : va_D A [(h0, .inr (6, [.ref r_code, .ref r_tables, .ref r_features, .int 0, .int 0]))] := hD
  have hP9 := hP.sub (ws' := iw_Ma cI cZ h0 (fun k => ([] : List Nat).getD k 0) r_code r_tables r_features) [0] rfl
  have hD9 := hD.sub (ws' := iw_Ma cI cZ h0 (fun k => ([] : List Nat).getD k 0) r_code r_tables r_features) [0] (by decide) rfl
  exact W.vret hx hb hr (fun t ht hW => ⟨⟨(fun k => ([] : List Nat).getD k 0), rfl, trivial, by rw [ht]; exact hP9, va_K.moved hW.alike hK, hD9⟩, hS.F ht⟩) hS.2.2 d_Ma_init_19

set_option maxHeartbeats 8000000 in
set_option maxRecDepth 100000 in
theorem ci_BF {l : Launch} {D : va_G} {cI cZ : ClassId} (h0 : Nat) (sz : Nat) : Met l y_BF_init (.code y_BF_init b_BF_init 1 none :: wGC) ({ frames := 2, cells := 24, slots := 1620, locals := 43 }) (va_Pc [.ref h0] (fun U => U.heap.size = sz ∧ va_P D clC [(h0, .inr (0, [.null, .null, .null, .null, .null, .null, .null]))] U.heap ∧ va_K D clC [(cI, .int), (cZ, .boolean)] U ∧ va_D (fun _ => True) [(h0, .inr (0, [.null, .null, .null, .null, .null, .null, .null]))] ∧ nwC U)) (va_Qv (fun ad : Nat → Nat => ad 0 = h0) (fun ad t => va_P D clC (gwC cI cZ ad (fun _ _ => 0)) t.heap ∧ va_K D clC [(cI, .int), (cZ, .boolean)] t ∧ va_D (va_A [(h0, .inr (0, [.null, .null, .null, .null, .null, .null, .null]))] sz) (gwC cI cZ ad (fun _ _ => 0))) (va_A [(h0, .inr (0, [.null, .null, .null, .null, .null, .null, .null]))] sz)) 24 1620 (va_A [(h0, .inr (0, [.null, .null, .null, .null, .null, .null, .null]))] sz) := by
  refine Met.ofW (cc := b_BF_init) (maxL := 1) (ret := none) (by decide) rfl ?_
  intro p e s m args below meth c s₁ B hml hv
  obtain ⟨rfl, hsz, hP, hK, hD0, hN⟩ := hv
  have hx := B.exec
  have hb := B.bytes
  have hr := B.returns
  have hts0 := atoms_spec (ws := .code y_BF_init b_BF_init 1 none :: wGC) B.pre
  have hts : ∀ w ∈ wGC, w.before _ s = true := fun w h => hts0 w (List.mem_cons_of_mem _ h)
  have hown : s.vm.findClass R_BF = some m.cls := findClass_of_methodNamed B.named
  have hlocks := B.notSynchronized
  have hin : meth.name = "<init>" := (name_of_methodNamed B.named B.method).1
  subst hsz
  have hD := hD0.self (sz := s.heap.size)
  generalize hAe : va_A [(h0, .inr (0, [.null, .null, .null, .null, .null, .null, .null]))] s.heap.size = A at hD ⊢
  have hA : ∀ q : Nat, s.heap.size ≤ q → A q := fun q h => by rw [← hAe]; exact Or.inr h
  have hS : va_S A s.heap s.heap [] := va_S.rf
  have hP : va_P D clC [(h0, .inr (0, [.null, .null, .null, .null, .null, .null, .null]))] s.heap := hP
  have hl := lv_entry ([.ref h0]) (n := 1) (Nat.le_of_ble_eq_true rfl)
  rw [lg_entry_eq]
  generalize (lg_sl ([.ref h0]) ++ List.replicate (1 - (lg_sl ([.ref h0])).length) Slot.unset).toArray = ls at hl ⊢
  have hl : lv_has ls 1 [(0, .ref h0)] := hl
  refine lv_aload_n hx hb d_BF_init_0 rfl (lv_at hl 0 rfl) ?_
  refine W.objInit hx hb hown (hts _ kC_47) (hts _ kC_7) (hts _ kC_8) rfl (by rw [hml]; exact hl.1) rfl d_BF_init_1 (Nat.le_of_ble_eq_true rfl) (Nat.le_of_ble_eq_true rfl) ?_
  refine W.eq (g2 := F0 m 4 ls []) rfl ?_
  refine lv_aload_n hx hb d_BF_init_4 rfl (lv_at hl 0 rfl) ?_
  refine lv_bipush (v := 8) hx hb d_BF_init_5 (by decide) ?_
  have h_1 : 1 ≤ 24 := by decide
  have h_2 : 8 ≤ 1620 := by decide
  refine va_newa (atype := .int) (ty := .int) (a0 := (8, .inl (fun _ => 0))) (N' := 8) hx hb (hts _ kC_9) rfl hK hP hD hS hA (fun cA => by rw [vp_cell_i]; rfl) (by decide) (by decide) (by decide) h_1 h_2 d_BF_init_7 (fun q7 cA H hK2 hP hD hS => ?_)
  have hq : cI = cA := Option.some.inj ((hK2.2 0 _ rfl).2.symm.trans (hK2.2 2 _ rfl).2)
  subst hq
  have hP : va_P D clC [(h0, .inr (0, [.null, .null, .null, .null, .null, .null, .null])), (q7, .inl (cI, 8, .inl (fun _ => 0)))] H := hP
  have hD : va_D A [(h0, .inr (0, [.null, .null, .null, .null, .null, .null, .null])), (q7, .inl (cI, 8, .inl (fun _ => 0)))] := hD
  refine W.widen (k := 1) (n := 8) (Nat.le_of_ble_eq_true rfl) (Nat.le_of_ble_eq_true rfl) ?_
  refine va_putF (D := D) (ci := 0) (v := .ref q7) (ty := .array .int) (C := R_BF) (T := F_BF) (N := 7) hx hb hts in_BF t_BF t_BF_ok n_BF hown hK hP hD hS 0 rfl rfl 0 (by decide) (hts _ kC_48) (fun _ h9 => h9) rfl hin rfl (by decide +kernel) rfl rfl (Nat.le_of_ble_eq_true rfl) d_BF_init_9 (fun H locs hP hD hS => ?_)
  have hP : va_P D clC [(h0, .inr (0, [.ref q7, .null, .null, .null, .null, .null, .null])), (q7, .inl (cI, 8, .inl (fun _ => 0)))] H := hP
  have hD : va_D A [(h0, .inr (0, [.ref q7, .null, .null, .null, .null, .null, .null])), (q7, .inl (cI, 8, .inl (fun _ => 0)))] := hD
  refine lv_aload_n hx hb d_BF_init_12 rfl (lv_at hl 0 rfl) ?_
  have h_1 : 2 ≤ 24 := by decide
  have h_2 : 16 ≤ 1620 := by decide
  refine va_new (ci := 1) (fs := [.null, .null, .null, .null, .null, .null, .int 0, .int 0]) (C := R_Fo) (T := F_Fo) (N := 8) hx hb hts in_Fo t_Fo t_Fo_ok hown (hts _ kC_49) (hts _ kC_50) (hts _ kC_51) hK hP hD hS hA rfl (fun j hj => by rcases (show j = 0 ∨ j = 1 ∨ j = 2 ∨ j = 3 ∨ j = 4 ∨ j = 5 ∨ j = 6 ∨ j = 7 by omega) with rfl | rfl | rfl | rfl | rfl | rfl | rfl | rfl <;> rfl) h_1 h_2 d_BF_init_13 (fun q13 H hP hD hS => ?_)
  have hP : va_P D clC [(h0, .inr (0, [.ref q7, .null, .null, .null, .null, .null, .null])), (q7, .inl (cI, 8, .inl (fun _ => 0))), (q13, .inr (1, [.null, .null, .null, .null, .null, .null, .int 0, .int 0]))] H := hP
  have hD : va_D A [(h0, .inr (0, [.ref q7, .null, .null, .null, .null, .null, .null])), (q7, .inl (cI, 8, .inl (fun _ => 0))), (q13, .inr (1, [.null, .null, .null, .null, .null, .null, .int 0, .int 0]))] := hD
  refine W.widen (k := 2) (n := 16) (Nat.le_of_ble_eq_true rfl) (Nat.le_of_ble_eq_true rfl) ?_
  refine lv_dup hx hb d_BF_init_16 rfl ?_
  have hPc := hP.sub (ws' := [(q13, .inr (1, [.null, .null, .null, .null, .null, .null, .int 0, .int 0]))]) [2] rfl
  have hDc := hD.sub (ws' := [(q13, .inr (1, [.null, .null, .null, .null, .null, .null, .int 0, .int 0]))]) [2] (by decide) rfl
  have hFc := va_free (wc := [(q13, .inr (1, [.null, .null, .null, .null, .null, .null, .int 0, .int 0]))]) hD hS hA [2] rfl
  have h_1 : 8 ≤ 24 ∧ 324 ≤ 1620 := by decide
  refine va_callv (va_runIN (As := []) (rest := [.ref q13, .ref h0]) ⟨hx, hb, hml, hown, hts⟩ (ci_Fo (l := l) (D := D) (cI := cI) (cZ := cZ) q13 H.size) (⟨va_cnB 0 hts (goodC _ (List.forall_mem_cons.mpr ⟨kC_16, fun _ h => h⟩)) rfl rfl rfl (show va_Nw (.methodLinkNest R_BF 15 y_Fo_init "BranchForge") s from nwC_m hN nyC_0) (hts _ kC_51) (by decide +kernel) ⟨Nat.le_of_ble_eq_true rfl, Nat.le_of_ble_eq_true rfl⟩, rfl, hts _ kC_52⟩) ⟨fun a U g mk q => by obtain ⟨q0, q1, qP, qK, qD, qN⟩ := q; exact ⟨q0, q1, qP, va_K.moved (u := U) (U := U.calling g mk a) (Vm.Alike.refl U.vm) qK, qD, nwC_same (s := U) (U := U.calling g mk a) rfl qN⟩, fun U hU hW => ⟨rfl, by rw [hU], by rw [hU]; exact hPc, va_K.moved hW.alike hK, hDc.weaken (fun _ _ _ _ => trivial), nwC_warm hW hN⟩⟩ rfl rfl hl.1 rfl (lv_room (Nat.le_of_ble_eq_true rfl)) d_BF_init_17 h_1) hS (fun q _ h => hFc q h) hFc (fun f17 t H1 locs ht hvm _ hB hz1 hk1 hS => ?_)
  obtain ⟨hP1, hK1, hD1⟩ := hB
  rw [ht] at hP1
  obtain ⟨hP, hD⟩ := va_join (wr := [(h0, .inr (0, [.ref q7, .null, .null, .null, .null, .null, .null])), (q7, .inl (cI, 8, .inl (fun _ => 0)))]) (w1 := [(q13, .inr (1, [.ref (f17 0), .ref (f17 1), .ref (f17 2), .ref (f17 3), .ref (f17 4), .ref (f17 5), .int 0, .int 0])), ((f17 0), .inl (cI, 60, .inl (fun _ => 0))), ((f17 1), .inl (cI, 60, .inl (fun _ => 0))), ((f17 2), .inl (cI, 60, .inl (fun _ => 0))), ((f17 3), .inl (cI, 60, .inl (fun _ => 0))), ((f17 4), .inl (cI, 60, .inl (fun _ => 0))), ((f17 5), .inl (cI, 8, .inl (fun _ => 0)))]) hP hD [2] [0, 1] rfl rfl (by decide) (by decide) hk1 hFc hP1 hD1
  generalize H1 = H at hP hS ⊢
  have hP : va_P D clC [(h0, .inr (0, [.ref q7, .null, .null, .null, .null, .null, .null])), (q7, .inl (cI, 8, .inl (fun _ => 0))), (q13, .inr (1, [.ref (f17 0), .ref (f17 1), .ref (f17 2), .ref (f17 3), .ref (f17 4), .ref (f17 5), .int 0, .int 0])), ((f17 0), .inl (cI, 60, .inl (fun _ => 0))), ((f17 1), .inl (cI, 60, .inl (fun _ => 0))), ((f17 2), .inl (cI, 60, .inl (fun _ => 0))), ((f17 3), .inl (cI, 60, .inl (fun _ => 0))), ((f17 4), .inl (cI, 60, .inl (fun _ => 0))), ((f17 5), .inl (cI, 8, .inl (fun _ => 0)))] H := hP
  have hD : va_D A [(h0, .inr (0, [.ref q7, .null, .null, .null, .null, .null, .null])), (q7, .inl (cI, 8, .inl (fun _ => 0))), (q13, .inr (1, [.ref (f17 0), .ref (f17 1), .ref (f17 2), .ref (f17 3), .ref (f17 4), .ref (f17 5), .int 0, .int 0])), ((f17 0), .inl (cI, 60, .inl (fun _ => 0))), ((f17 1), .inl (cI, 60, .inl (fun _ => 0))), ((f17 2), .inl (cI, 60, .inl (fun _ => 0))), ((f17 3), .inl (cI, 60, .inl (fun _ => 0))), ((f17 4), .inl (cI, 60, .inl (fun _ => 0))), ((f17 5), .inl (cI, 8, .inl (fun _ => 0)))] := hD
  refine W.widen (k := 8) (n := 324) (Nat.le_of_ble_eq_true rfl) (Nat.le_of_ble_eq_true rfl) ?_
  refine va_putF (D := D) (ci := 0) (v := .ref q13) (ty := .object "BranchForge$Forest") (C := R_BF) (T := F_BF) (N := 7) hx hb hts in_BF t_BF t_BF_ok n_BF hown hK hP hD hS 0 rfl rfl 1 (by decide) (hts _ kC_53) (fun _ h9 => h9) rfl hin rfl (by decide +kernel) rfl rfl (Nat.le_of_ble_eq_true rfl) d_BF_init_20 (fun H locs hP hD hS => ?_)
  have hP : va_P D clC [(h0, .inr (0, [.ref q7, .ref q13, .null, .null, .null, .null, .null])), (q7, .inl (cI, 8, .inl (fun _ => 0))), (q13, .inr (1, [.ref (f17 0), .ref (f17 1), .ref (f17 2), .ref (f17 3), .ref (f17 4), .ref (f17 5), .int 0, .int 0])), ((f17 0), .inl (cI, 60, .inl (fun _ => 0))), ((f17 1), .inl (cI, 60, .inl (fun _ => 0))), ((f17 2), .inl (cI, 60, .inl (fun _ => 0))), ((f17 3), .inl (cI, 60, .inl (fun _ => 0))), ((f17 4), .inl (cI, 60, .inl (fun _ => 0))), ((f17 5), .inl (cI, 8, .inl (fun _ => 0)))] H := hP
  have hD : va_D A [(h0, .inr (0, [.ref q7, .ref q13, .null, .null, .null, .null, .null])), (q7, .inl (cI, 8, .inl (fun _ => 0))), (q13, .inr (1, [.ref (f17 0), .ref (f17 1), .ref (f17 2), .ref (f17 3), .ref (f17 4), .ref (f17 5), .int 0, .int 0])), ((f17 0), .inl (cI, 60, .inl (fun _ => 0))), ((f17 1), .inl (cI, 60, .inl (fun _ => 0))), ((f17 2), .inl (cI, 60, .inl (fun _ => 0))), ((f17 3), .inl (cI, 60, .inl (fun _ => 0))), ((f17 4), .inl (cI, 60, .inl (fun _ => 0))), ((f17 5), .inl (cI, 8, .inl (fun _ => 0)))] := hD
  refine lv_aload_n hx hb d_BF_init_23 rfl (lv_at hl 0 rfl) ?_
  have h_1 : 9 ≤ 24 := by decide
  have h_2 : 326 ≤ 1620 := by decide
  refine va_new (ci := 2) (fs := [.null, .null]) (C := R_Ch) (T := F_Ch) (N := 2) hx hb hts in_Ch t_Ch t_Ch_ok hown (hts _ kC_54) (hts _ kC_55) (hts _ kC_56) hK hP hD hS hA rfl (fun j hj => by rcases (show j = 0 ∨ j = 1 by omega) with rfl | rfl <;> rfl) h_1 h_2 d_BF_init_24 (fun q24 H hP hD hS => ?_)
  have hP : va_P D clC [(h0, .inr (0, [.ref q7, .ref q13, .null, .null, .null, .null, .null])), (q7, .inl (cI, 8, .inl (fun _ => 0))), (q13, .inr (1, [.ref (f17 0), .ref (f17 1), .ref (f17 2), .ref (f17 3), .ref (f17 4), .ref (f17 5), .int 0, .int 0])), ((f17 0), .inl (cI, 60, .inl (fun _ => 0))), ((f17 1), .inl (cI, 60, .inl (fun _ => 0))), ((f17 2), .inl (cI, 60, .inl (fun _ => 0))), ((f17 3), .inl (cI, 60, .inl (fun _ => 0))), ((f17 4), .inl (cI, 60, .inl (fun _ => 0))), ((f17 5), .inl (cI, 8, .inl (fun _ => 0))), (q24, .inr (2, [.null, .null]))] H := hP
  have hD : va_D A [(h0, .inr (0, [.ref q7, .ref q13, .null, .null, .null, .null, .null])), (q7, .inl (cI, 8, .inl (fun _ => 0))), (q13, .inr (1, [.ref (f17 0), .ref (f17 1), .ref (f17 2), .ref (f17 3), .ref (f17 4), .ref (f17 5), .int 0, .int 0])), ((f17 0), .inl (cI, 60, .inl (fun _ => 0))), ((f17 1), .inl (cI, 60, .inl (fun _ => 0))), ((f17 2), .inl (cI, 60, .inl (fun _ => 0))), ((f17 3), .inl (cI, 60, .inl (fun _ => 0))), ((f17 4), .inl (cI, 60, .inl (fun _ => 0))), ((f17 5), .inl (cI, 8, .inl (fun _ => 0))), (q24, .inr (2, [.null, .null]))] := hD
  refine W.widen (k := 9) (n := 326) (Nat.le_of_ble_eq_true rfl) (Nat.le_of_ble_eq_true rfl) ?_
  refine lv_dup hx hb d_BF_init_27 rfl ?_
  refine lv_aload_n hx hb d_BF_init_28 rfl (lv_at hl 0 rfl) ?_
  refine va_get (D := D) (ci := 0) (v := .ref q13) (C := R_BF) (T := F_BF) (N := 7) hx hb hts in_BF hown hK hP 0 rfl rfl 1 (by decide) (hts _ kC_53) (fun _ h9 => h9) rfl d_BF_init_29 ?_
  have hPc := hP.sub (ws' := [(q24, .inr (2, [.null, .null]))]) [9] rfl
  have hDc := hD.sub (ws' := [(q24, .inr (2, [.null, .null]))]) [9] (by decide) rfl
  have hFc := va_free (wc := [(q24, .inr (2, [.null, .null]))]) hD hS hA [9] rfl
  have h_1 : 10 ≤ 24 ∧ 386 ≤ 1620 := by decide
  refine va_callv (va_runI (As := [.ref q13]) (rest := [.ref q24, .ref h0]) ⟨hx, hb, hml, hown, hts⟩ (ci_Ch (l := l) (D := D) (cI := cI) (cZ := cZ) q24 q13 H.size) (⟨callB_of 1 hts (goodC _ (List.forall_mem_cons.mpr ⟨kC_21, fun _ h => h⟩)) rfl rfl rfl (hts _ kC_56) (hts _ kC_57) (by decide +kernel) ⟨Nat.le_of_ble_eq_true rfl, Nat.le_of_ble_eq_true rfl⟩, rfl, hts _ kC_58⟩) ⟨fun a U g mk q => by obtain ⟨q0, q1, qP, qK, qD, qN⟩ := q; exact ⟨q0, q1, qP, va_K.moved (u := U) (U := U.calling g mk a) (Vm.Alike.refl U.vm) qK, qD, nwC_same (s := U) (U := U.calling g mk a) rfl qN⟩, fun U hU hW => ⟨rfl, by rw [hU], by rw [hU]; exact hPc, va_K.moved hW.alike hK, hDc.weaken (fun _ _ _ _ => trivial), nwC_warm hW hN⟩⟩ rfl rfl hl.1 rfl (lv_room (Nat.le_of_ble_eq_true rfl)) d_BF_init_32 h_1) hS (fun q _ h => hFc q h) hFc (fun f32 t H1 locs ht hvm _ hB hz1 hk1 hS => ?_)
  obtain ⟨hP1, hK1, hD1⟩ := hB
  rw [ht] at hP1
  obtain ⟨hP, hD⟩ := va_join (wr := [(h0, .inr (0, [.ref q7, .ref q13, .null, .null, .null, .null, .null])), (q7, .inl (cI, 8, .inl (fun _ => 0))), (q13, .inr (1, [.ref (f17 0), .ref (f17 1), .ref (f17 2), .ref (f17 3), .ref (f17 4), .ref (f17 5), .int 0, .int 0])), ((f17 0), .inl (cI, 60, .inl (fun _ => 0))), ((f17 1), .inl (cI, 60, .inl (fun _ => 0))), ((f17 2), .inl (cI, 60, .inl (fun _ => 0))), ((f17 3), .inl (cI, 60, .inl (fun _ => 0))), ((f17 4), .inl (cI, 60, .inl (fun _ => 0))), ((f17 5), .inl (cI, 8, .inl (fun _ => 0)))]) (w1 := [(q24, .inr (2, [.ref q13, .ref (f32 0)])), ((f32 0), .inl (cZ, 60, .inl (fun _ => 0)))]) hP hD [9] [0, 1, 2, 3, 4, 5, 6, 7, 8] rfl rfl (by decide) (by decide) hk1 hFc hP1 hD1
  generalize H1 = H at hP hS ⊢
  have hP : va_P D clC [(h0, .inr (0, [.ref q7, .ref q13, .null, .null, .null, .null, .null])), (q7, .inl (cI, 8, .inl (fun _ => 0))), (q13, .inr (1, [.ref (f17 0), .ref (f17 1), .ref (f17 2), .ref (f17 3), .ref (f17 4), .ref (f17 5), .int 0, .int 0])), ((f17 0), .inl (cI, 60, .inl (fun _ => 0))), ((f17 1), .inl (cI, 60, .inl (fun _ => 0))), ((f17 2), .inl (cI, 60, .inl (fun _ => 0))), ((f17 3), .inl (cI, 60, .inl (fun _ => 0))), ((f17 4), .inl (cI, 60, .inl (fun _ => 0))), ((f17 5), .inl (cI, 8, .inl (fun _ => 0))), (q24, .inr (2, [.ref q13, .ref (f32 0)])), ((f32 0), .inl (cZ, 60, .inl (fun _ => 0)))] H := hP
  have hD : va_D A [(h0, .inr (0, [.ref q7, .ref q13, .null, .null, .null, .null, .null])), (q7, .inl (cI, 8, .inl (fun _ => 0))), (q13, .inr (1, [.ref (f17 0), .ref (f17 1), .ref (f17 2), .ref (f17 3), .ref (f17 4), .ref (f17 5), .int 0, .int 0])), ((f17 0), .inl (cI, 60, .inl (fun _ => 0))), ((f17 1), .inl (cI, 60, .inl (fun _ => 0))), ((f17 2), .inl (cI, 60, .inl (fun _ => 0))), ((f17 3), .inl (cI, 60, .inl (fun _ => 0))), ((f17 4), .inl (cI, 60, .inl (fun _ => 0))), ((f17 5), .inl (cI, 8, .inl (fun _ => 0))), (q24, .inr (2, [.ref q13, .ref (f32 0)])), ((f32 0), .inl (cZ, 60, .inl (fun _ => 0)))] := hD
  refine W.widen (k := 10) (n := 386) (Nat.le_of_ble_eq_true rfl) (Nat.le_of_ble_eq_true rfl) ?_
  refine va_putF (D := D) (ci := 0) (v := .ref q24) (ty := .object "BranchForge$Checker") (C := R_BF) (T := F_BF) (N := 7) hx hb hts in_BF t_BF t_BF_ok n_BF hown hK hP hD hS 0 rfl rfl 2 (by decide) (hts _ kC_59) (fun _ h9 => h9) rfl hin rfl (by decide +kernel) rfl rfl (Nat.le_of_ble_eq_true rfl) d_BF_init_35 (fun H locs hP hD hS => ?_)
  have hP : va_P D clC [(h0, .inr (0, [.ref q7, .ref q13, .ref q24, .null, .null, .null, .null])), (q7, .inl (cI, 8, .inl (fun _ => 0))), (q13, .inr (1, [.ref (f17 0), .ref (f17 1), .ref (f17 2), .ref (f17 3), .ref (f17 4), .ref (f17 5), .int 0, .int 0])), ((f17 0), .inl (cI, 60, .inl (fun _ => 0))), ((f17 1), .inl (cI, 60, .inl (fun _ => 0))), ((f17 2), .inl (cI, 60, .inl (fun _ => 0))), ((f17 3), .inl (cI, 60, .inl (fun _ => 0))), ((f17 4), .inl (cI, 60, .inl (fun _ => 0))), ((f17 5), .inl (cI, 8, .inl (fun _ => 0))), (q24, .inr (2, [.ref q13, .ref (f32 0)])), ((f32 0), .inl (cZ, 60, .inl (fun _ => 0)))] H := hP
  have hD : va_D A [(h0, .inr (0, [.ref q7, .ref q13, .ref q24, .null, .null, .null, .null])), (q7, .inl (cI, 8, .inl (fun _ => 0))), (q13, .inr (1, [.ref (f17 0), .ref (f17 1), .ref (f17 2), .ref (f17 3), .ref (f17 4), .ref (f17 5), .int 0, .int 0])), ((f17 0), .inl (cI, 60, .inl (fun _ => 0))), ((f17 1), .inl (cI, 60, .inl (fun _ => 0))), ((f17 2), .inl (cI, 60, .inl (fun _ => 0))), ((f17 3), .inl (cI, 60, .inl (fun _ => 0))), ((f17 4), .inl (cI, 60, .inl (fun _ => 0))), ((f17 5), .inl (cI, 8, .inl (fun _ => 0))), (q24, .inr (2, [.ref q13, .ref (f32 0)])), ((f32 0), .inl (cZ, 60, .inl (fun _ => 0)))] := hD
  refine lv_aload_n hx hb d_BF_init_38 rfl (lv_at hl 0 rfl) ?_
  have h_1 : 11 ≤ 24 := by decide
  have h_2 : 391 ≤ 1620 := by decide
  refine va_new (ci := 3) (fs := [.null, .null, .null, .null, .int 0]) (C := R_Cu) (T := F_Cu) (N := 5) hx hb hts in_Cu t_Cu t_Cu_ok hown (hts _ kC_60) (hts _ kC_61) (hts _ kC_62) hK hP hD hS hA rfl (fun j hj => by rcases (show j = 0 ∨ j = 1 ∨ j = 2 ∨ j = 3 ∨ j = 4 by omega) with rfl | rfl | rfl | rfl | rfl <;> rfl) h_1 h_2 d_BF_init_39 (fun q39 H hP hD hS => ?_)
  have hP : va_P D clC [(h0, .inr (0, [.ref q7, .ref q13, .ref q24, .null, .null, .null, .null])), (q7, .inl (cI, 8, .inl (fun _ => 0))), (q13, .inr (1, [.ref (f17 0), .ref (f17 1), .ref (f17 2), .ref (f17 3), .ref (f17 4), .ref (f17 5), .int 0, .int 0])), ((f17 0), .inl (cI, 60, .inl (fun _ => 0))), ((f17 1), .inl (cI, 60, .inl (fun _ => 0))), ((f17 2), .inl (cI, 60, .inl (fun _ => 0))), ((f17 3), .inl (cI, 60, .inl (fun _ => 0))), ((f17 4), .inl (cI, 60, .inl (fun _ => 0))), ((f17 5), .inl (cI, 8, .inl (fun _ => 0))), (q24, .inr (2, [.ref q13, .ref (f32 0)])), ((f32 0), .inl (cZ, 60, .inl (fun _ => 0))), (q39, .inr (3, [.null, .null, .null, .null, .int 0]))] H := hP
  have hD : va_D A [(h0, .inr (0, [.ref q7, .ref q13, .ref q24, .null, .null, .null, .null])), (q7, .inl (cI, 8, .inl (fun _ => 0))), (q13, .inr (1, [.ref (f17 0), .ref (f17 1), .ref (f17 2), .ref (f17 3), .ref (f17 4), .ref (f17 5), .int 0, .int 0])), ((f17 0), .inl (cI, 60, .inl (fun _ => 0))), ((f17 1), .inl (cI, 60, .inl (fun _ => 0))), ((f17 2), .inl (cI, 60, .inl (fun _ => 0))), ((f17 3), .inl (cI, 60, .inl (fun _ => 0))), ((f17 4), .inl (cI, 60, .inl (fun _ => 0))), ((f17 5), .inl (cI, 8, .inl (fun _ => 0))), (q24, .inr (2, [.ref q13, .ref (f32 0)])), ((f32 0), .inl (cZ, 60, .inl (fun _ => 0))), (q39, .inr (3, [.null, .null, .null, .null, .int 0]))] := hD
  refine W.widen (k := 11) (n := 391) (Nat.le_of_ble_eq_true rfl) (Nat.le_of_ble_eq_true rfl) ?_
  refine lv_dup hx hb d_BF_init_42 rfl ?_
  refine lv_aload_n hx hb d_BF_init_43 rfl (lv_at hl 0 rfl) ?_
  refine va_get (D := D) (ci := 0) (v := .ref q13) (C := R_BF) (T := F_BF) (N := 7) hx hb hts in_BF hown hK hP 0 rfl rfl 1 (by decide) (hts _ kC_53) (fun _ h9 => h9) rfl d_BF_init_44 ?_
  have hPc := hP.sub (ws' := [(q39, .inr (3, [.null, .null, .null, .null, .int 0]))]) [11] rfl
  have hDc := hD.sub (ws' := [(q39, .inr (3, [.null, .null, .null, .null, .int 0]))]) [11] (by decide) rfl
  have hFc := va_free (wc := [(q39, .inr (3, [.null, .null, .null, .null, .int 0]))]) hD hS hA [11] rfl
  have h_1 : 14 ≤ 24 ∧ 571 ≤ 1620 := by decide
  refine va_callv (va_runI (As := [.ref q13]) (rest := [.ref q39, .ref h0]) ⟨hx, hb, hml, hown, hts⟩ (ci_Cu (l := l) (D := D) (cI := cI) (cZ := cZ) q39 q13 H.size) (⟨callB_of 1 hts (goodC _ (List.forall_mem_cons.mpr ⟨kC_27, fun _ h => h⟩)) rfl rfl rfl (hts _ kC_62) (hts _ kC_63) (by decide +kernel) ⟨Nat.le_of_ble_eq_true rfl, Nat.le_of_ble_eq_true rfl⟩, rfl, hts _ kC_64⟩) ⟨fun a U g mk q => by obtain ⟨q0, q1, qP, qK, qD, qN⟩ := q; exact ⟨q0, q1, qP, va_K.moved (u := U) (U := U.calling g mk a) (Vm.Alike.refl U.vm) qK, qD, nwC_same (s := U) (U := U.calling g mk a) rfl qN⟩, fun U hU hW => ⟨rfl, by rw [hU], by rw [hU]; exact hPc, va_K.moved hW.alike hK, hDc.weaken (fun _ _ _ _ => trivial), nwC_warm hW hN⟩⟩ rfl rfl hl.1 rfl (lv_room (Nat.le_of_ble_eq_true rfl)) d_BF_init_47 h_1) hS (fun q _ h => hFc q h) hFc (fun f47 t H1 locs ht hvm _ hB hz1 hk1 hS => ?_)
  obtain ⟨hP1, hK1, hD1⟩ := hB
  rw [ht] at hP1
  obtain ⟨hP, hD⟩ := va_join (wr := [(h0, .inr (0, [.ref q7, .ref q13, .ref q24, .null, .null, .null, .null])), (q7, .inl (cI, 8, .inl (fun _ => 0))), (q13, .inr (1, [.ref (f17 0), .ref (f17 1), .ref (f17 2), .ref (f17 3), .ref (f17 4), .ref (f17 5), .int 0, .int 0])), ((f17 0), .inl (cI, 60, .inl (fun _ => 0))), ((f17 1), .inl (cI, 60, .inl (fun _ => 0))), ((f17 2), .inl (cI, 60, .inl (fun _ => 0))), ((f17 3), .inl (cI, 60, .inl (fun _ => 0))), ((f17 4), .inl (cI, 60, .inl (fun _ => 0))), ((f17 5), .inl (cI, 8, .inl (fun _ => 0))), (q24, .inr (2, [.ref q13, .ref (f32 0)])), ((f32 0), .inl (cZ, 60, .inl (fun _ => 0)))]) (w1 := [(q39, .inr (3, [.ref q13, .ref (f47 0), .ref (f47 1), .ref (f47 2), .int 0])), ((f47 0), .inl (cI, 60, .inl (fun _ => 0))), ((f47 1), .inl (cI, 60, .inl (fun _ => 0))), ((f47 2), .inl (cI, 60, .inl (fun _ => 0)))]) hP hD [11] [0, 1, 2, 3, 4, 5, 6, 7, 8, 9, 10] rfl rfl (by decide) (by decide) hk1 hFc hP1 hD1
  generalize H1 = H at hP hS ⊢
  have hP : va_P D clC [(h0, .inr (0, [.ref q7, .ref q13, .ref q24, .null, .null, .null, .null])), (q7, .inl (cI, 8, .inl (fun _ => 0))), (q13, .inr (1, [.ref (f17 0), .ref (f17 1), .ref (f17 2), .ref (f17 3), .ref (f17 4), .ref (f17 5), .int 0, .int 0])), ((f17 0), .inl (cI, 60, .inl (fun _ => 0))), ((f17 1), .inl (cI, 60, .inl (fun _ => 0))), ((f17 2), .inl (cI, 60, .inl (fun _ => 0))), ((f17 3), .inl (cI, 60, .inl (fun _ => 0))), ((f17 4), .inl (cI, 60, .inl (fun _ => 0))), ((f17 5), .inl (cI, 8, .inl (fun _ => 0))), (q24, .inr (2, [.ref q13, .ref (f32 0)])), ((f32 0), .inl (cZ, 60, .inl (fun _ => 0))), (q39, .inr (3, [.ref q13, .ref (f47 0), .ref (f47 1), .ref (f47 2), .int 0])), ((f47 0), .inl (cI, 60, .inl (fun _ => 0))), ((f47 1), .inl (cI, 60, .inl (fun _ => 0))), ((f47 2), .inl (cI, 60, .inl (fun _ => 0)))] H := hP
  have hD : va_D A [(h0, .inr (0, [.ref q7, .ref q13, .ref q24, .null, .null, .null, .null])), (q7, .inl (cI, 8, .inl (fun _ => 0))), (q13, .inr (1, [.ref (f17 0), .ref (f17 1), .ref (f17 2), .ref (f17 3), .ref (f17 4), .ref (f17 5), .int 0, .int 0])), ((f17 0), .inl (cI, 60, .inl (fun _ => 0))), ((f17 1), .inl (cI, 60, .inl (fun _ => 0))), ((f17 2), .inl (cI, 60, .inl (fun _ => 0))), ((f17 3), .inl (cI, 60, .inl (fun _ => 0))), ((f17 4), .inl (cI, 60, .inl (fun _ => 0))), ((f17 5), .inl (cI, 8, .inl (fun _ => 0))), (q24, .inr (2, [.ref q13, .ref (f32 0)])), ((f32 0), .inl (cZ, 60, .inl (fun _ => 0))), (q39, .inr (3, [.ref q13, .ref (f47 0), .ref (f47 1), .ref (f47 2), .int 0])), ((f47 0), .inl (cI, 60, .inl (fun _ => 0))), ((f47 1), .inl (cI, 60, .inl (fun _ => 0))), ((f47 2), .inl (cI, 60, .inl (fun _ => 0)))] := hD
  refine W.widen (k := 14) (n := 571) (Nat.le_of_ble_eq_true rfl) (Nat.le_of_ble_eq_true rfl) ?_
  refine va_putF (D := D) (ci := 0) (v := .ref q39) (ty := .object "BranchForge$Cutter") (C := R_BF) (T := F_BF) (N := 7) hx hb hts in_BF t_BF t_BF_ok n_BF hown hK hP hD hS 0 rfl rfl 3 (by decide) (hts _ kC_65) (fun _ h9 => h9) rfl hin rfl (by decide +kernel) rfl rfl (Nat.le_of_ble_eq_true rfl) d_BF_init_50 (fun H locs hP hD hS => ?_)
  have hP : va_P D clC [(h0, .inr (0, [.ref q7, .ref q13, .ref q24, .ref q39, .null, .null, .null])), (q7, .inl (cI, 8, .inl (fun _ => 0))), (q13, .inr (1, [.ref (f17 0), .ref (f17 1), .ref (f17 2), .ref (f17 3), .ref (f17 4), .ref (f17 5), .int 0, .int 0])), ((f17 0), .inl (cI, 60, .inl (fun _ => 0))), ((f17 1), .inl (cI, 60, .inl (fun _ => 0))), ((f17 2), .inl (cI, 60, .inl (fun _ => 0))), ((f17 3), .inl (cI, 60, .inl (fun _ => 0))), ((f17 4), .inl (cI, 60, .inl (fun _ => 0))), ((f17 5), .inl (cI, 8, .inl (fun _ => 0))), (q24, .inr (2, [.ref q13, .ref (f32 0)])), ((f32 0), .inl (cZ, 60, .inl (fun _ => 0))), (q39, .inr (3, [.ref q13, .ref (f47 0), .ref (f47 1), .ref (f47 2), .int 0])), ((f47 0), .inl (cI, 60, .inl (fun _ => 0))), ((f47 1), .inl (cI, 60, .inl (fun _ => 0))), ((f47 2), .inl (cI, 60, .inl (fun _ => 0)))] H := hP
  have hD : va_D A [(h0, .inr (0, [.ref q7, .ref q13, .ref q24, .ref q39, .null, .null, .null])), (q7, .inl (cI, 8, .inl (fun _ => 0))), (q13, .inr (1, [.ref (f17 0), .ref (f17 1), .ref (f17 2), .ref (f17 3), .ref (f17 4), .ref (f17 5), .int 0, .int 0])), ((f17 0), .inl (cI, 60, .inl (fun _ => 0))), ((f17 1), .inl (cI, 60, .inl (fun _ => 0))), ((f17 2), .inl (cI, 60, .inl (fun _ => 0))), ((f17 3), .inl (cI, 60, .inl (fun _ => 0))), ((f17 4), .inl (cI, 60, .inl (fun _ => 0))), ((f17 5), .inl (cI, 8, .inl (fun _ => 0))), (q24, .inr (2, [.ref q13, .ref (f32 0)])), ((f32 0), .inl (cZ, 60, .inl (fun _ => 0))), (q39, .inr (3, [.ref q13, .ref (f47 0), .ref (f47 1), .ref (f47 2), .int 0])), ((f47 0), .inl (cI, 60, .inl (fun _ => 0))), ((f47 1), .inl (cI, 60, .inl (fun _ => 0))), ((f47 2), .inl (cI, 60, .inl (fun _ => 0)))] := hD
  refine lv_aload_n hx hb d_BF_init_53 rfl (lv_at hl 0 rfl) ?_
  have h_1 : 15 ≤ 24 := by decide
  have h_2 : 575 ≤ 1620 := by decide
  refine va_new (ci := 4) (fs := [.null, .null, .null, .int 0]) (C := R_Ta) (T := F_Ta) (N := 4) hx hb hts in_Ta t_Ta t_Ta_ok hown (hts _ kC_66) (hts _ kC_67) (hts _ kC_68) hK hP hD hS hA rfl (fun j hj => by rcases (show j = 0 ∨ j = 1 ∨ j = 2 ∨ j = 3 by omega) with rfl | rfl | rfl | rfl <;> rfl) h_1 h_2 d_BF_init_54 (fun q54 H hP hD hS => ?_)
  have hP : va_P D clC [(h0, .inr (0, [.ref q7, .ref q13, .ref q24, .ref q39, .null, .null, .null])), (q7, .inl (cI, 8, .inl (fun _ => 0))), (q13, .inr (1, [.ref (f17 0), .ref (f17 1), .ref (f17 2), .ref (f17 3), .ref (f17 4), .ref (f17 5), .int 0, .int 0])), ((f17 0), .inl (cI, 60, .inl (fun _ => 0))), ((f17 1), .inl (cI, 60, .inl (fun _ => 0))), ((f17 2), .inl (cI, 60, .inl (fun _ => 0))), ((f17 3), .inl (cI, 60, .inl (fun _ => 0))), ((f17 4), .inl (cI, 60, .inl (fun _ => 0))), ((f17 5), .inl (cI, 8, .inl (fun _ => 0))), (q24, .inr (2, [.ref q13, .ref (f32 0)])), ((f32 0), .inl (cZ, 60, .inl (fun _ => 0))), (q39, .inr (3, [.ref q13, .ref (f47 0), .ref (f47 1), .ref (f47 2), .int 0])), ((f47 0), .inl (cI, 60, .inl (fun _ => 0))), ((f47 1), .inl (cI, 60, .inl (fun _ => 0))), ((f47 2), .inl (cI, 60, .inl (fun _ => 0))), (q54, .inr (4, [.null, .null, .null, .int 0]))] H := hP
  have hD : va_D A [(h0, .inr (0, [.ref q7, .ref q13, .ref q24, .ref q39, .null, .null, .null])), (q7, .inl (cI, 8, .inl (fun _ => 0))), (q13, .inr (1, [.ref (f17 0), .ref (f17 1), .ref (f17 2), .ref (f17 3), .ref (f17 4), .ref (f17 5), .int 0, .int 0])), ((f17 0), .inl (cI, 60, .inl (fun _ => 0))), ((f17 1), .inl (cI, 60, .inl (fun _ => 0))), ((f17 2), .inl (cI, 60, .inl (fun _ => 0))), ((f17 3), .inl (cI, 60, .inl (fun _ => 0))), ((f17 4), .inl (cI, 60, .inl (fun _ => 0))), ((f17 5), .inl (cI, 8, .inl (fun _ => 0))), (q24, .inr (2, [.ref q13, .ref (f32 0)])), ((f32 0), .inl (cZ, 60, .inl (fun _ => 0))), (q39, .inr (3, [.ref q13, .ref (f47 0), .ref (f47 1), .ref (f47 2), .int 0])), ((f47 0), .inl (cI, 60, .inl (fun _ => 0))), ((f47 1), .inl (cI, 60, .inl (fun _ => 0))), ((f47 2), .inl (cI, 60, .inl (fun _ => 0))), (q54, .inr (4, [.null, .null, .null, .int 0]))] := hD
  refine W.widen (k := 15) (n := 575) (Nat.le_of_ble_eq_true rfl) (Nat.le_of_ble_eq_true rfl) ?_
  refine lv_dup hx hb d_BF_init_57 rfl ?_
  have hPc := hP.sub (ws' := [(q54, .inr (4, [.null, .null, .null, .int 0]))]) [15] rfl
  have hDc := hD.sub (ws' := [(q54, .inr (4, [.null, .null, .null, .int 0]))]) [15] (by decide) rfl
  have hFc := va_free (wc := [(q54, .inr (4, [.null, .null, .null, .int 0]))]) hD hS hA [15] rfl
  have h_1 : 18 ≤ 24 ∧ 876 ≤ 1620 := by decide
  refine va_callv (va_runIN (As := []) (rest := [.ref q54, .ref h0]) ⟨hx, hb, hml, hown, hts⟩ (ci_Ta (l := l) (D := D) (cI := cI) (cZ := cZ) q54 H.size) (⟨va_cnB 0 hts (goodC _ (List.forall_mem_cons.mpr ⟨kC_32, fun _ h => h⟩)) rfl rfl rfl (show va_Nw (.methodLinkNest R_BF 38 y_Ta_init "BranchForge") s from nwC_m hN nyC_1) (hts _ kC_68) (by decide +kernel) ⟨Nat.le_of_ble_eq_true rfl, Nat.le_of_ble_eq_true rfl⟩, rfl, hts _ kC_69⟩) ⟨fun a U g mk q => by obtain ⟨q0, q1, qP, qK, qD, qN⟩ := q; exact ⟨q0, q1, qP, va_K.moved (u := U) (U := U.calling g mk a) (Vm.Alike.refl U.vm) qK, qD, nwC_same (s := U) (U := U.calling g mk a) rfl qN⟩, fun U hU hW => ⟨rfl, by rw [hU], by rw [hU]; exact hPc, va_K.moved hW.alike hK, hDc.weaken (fun _ _ _ _ => trivial), nwC_warm hW hN⟩⟩ rfl rfl hl.1 rfl (lv_room (Nat.le_of_ble_eq_true rfl)) d_BF_init_58 h_1) hS (fun q _ h => hFc q h) hFc (fun f58 t H1 locs ht hvm _ hB hz1 hk1 hS => ?_)
  obtain ⟨hP1, hK1, hD1⟩ := hB
  rw [ht] at hP1
  obtain ⟨hP, hD⟩ := va_join (wr := [(h0, .inr (0, [.ref q7, .ref q13, .ref q24, .ref q39, .null, .null, .null])), (q7, .inl (cI, 8, .inl (fun _ => 0))), (q13, .inr (1, [.ref (f17 0), .ref (f17 1), .ref (f17 2), .ref (f17 3), .ref (f17 4), .ref (f17 5), .int 0, .int 0])), ((f17 0), .inl (cI, 60, .inl (fun _ => 0))), ((f17 1), .inl (cI, 60, .inl (fun _ => 0))), ((f17 2), .inl (cI, 60, .inl (fun _ => 0))), ((f17 3), .inl (cI, 60, .inl (fun _ => 0))), ((f17 4), .inl (cI, 60, .inl (fun _ => 0))), ((f17 5), .inl (cI, 8, .inl (fun _ => 0))), (q24, .inr (2, [.ref q13, .ref (f32 0)])), ((f32 0), .inl (cZ, 60, .inl (fun _ => 0))), (q39, .inr (3, [.ref q13, .ref (f47 0), .ref (f47 1), .ref (f47 2), .int 0])), ((f47 0), .inl (cI, 60, .inl (fun _ => 0))), ((f47 1), .inl (cI, 60, .inl (fun _ => 0))), ((f47 2), .inl (cI, 60, .inl (fun _ => 0)))]) (w1 := [(q54, .inr (4, [.ref (f58 0), .ref (f58 1), .ref (f58 2), .int 0])), ((f58 0), .inl (cI, 120, .inl (fun _ => 0))), ((f58 1), .inl (cI, 120, .inl (fun _ => 0))), ((f58 2), .inl (cI, 61, .inl (fun _ => 0)))]) hP hD [15] [0, 1, 2, 3, 4, 5, 6, 7, 8, 9, 10, 11, 12, 13, 14] rfl rfl (by decide) (by decide) hk1 hFc hP1 hD1
  generalize H1 = H at hP hS ⊢
  have hP : va_P D clC [(h0, .inr (0, [.ref q7, .ref q13, .ref q24, .ref q39, .null, .null, .null])), (q7, .inl (cI, 8, .inl (fun _ => 0))), (q13, .inr (1, [.ref (f17 0), .ref (f17 1), .ref (f17 2), .ref (f17 3), .ref (f17 4), .ref (f17 5), .int 0, .int 0])), ((f17 0), .inl (cI, 60, .inl (fun _ => 0))), ((f17 1), .inl (cI, 60, .inl (fun _ => 0))), ((f17 2), .inl (cI, 60, .inl (fun _ => 0))), ((f17 3), .inl (cI, 60, .inl (fun _ => 0))), ((f17 4), .inl (cI, 60, .inl (fun _ => 0))), ((f17 5), .inl (cI, 8, .inl (fun _ => 0))), (q24, .inr (2, [.ref q13, .ref (f32 0)])), ((f32 0), .inl (cZ, 60, .inl (fun _ => 0))), (q39, .inr (3, [.ref q13, .ref (f47 0), .ref (f47 1), .ref (f47 2), .int 0])), ((f47 0), .inl (cI, 60, .inl (fun _ => 0))), ((f47 1), .inl (cI, 60, .inl (fun _ => 0))), ((f47 2), .inl (cI, 60, .inl (fun _ => 0))), (q54, .inr (4, [.ref (f58 0), .ref (f58 1), .ref (f58 2), .int 0])), ((f58 0), .inl (cI, 120, .inl (fun _ => 0))), ((f58 1), .inl (cI, 120, .inl (fun _ => 0))), ((f58 2), .inl (cI, 61, .inl (fun _ => 0)))] H := hP
  have hD : va_D A [(h0, .inr (0, [.ref q7, .ref q13, .ref q24, .ref q39, .null, .null, .null])), (q7, .inl (cI, 8, .inl (fun _ => 0))), (q13, .inr (1, [.ref (f17 0), .ref (f17 1), .ref (f17 2), .ref (f17 3), .ref (f17 4), .ref (f17 5), .int 0, .int 0])), ((f17 0), .inl (cI, 60, .inl (fun _ => 0))), ((f17 1), .inl (cI, 60, .inl (fun _ => 0))), ((f17 2), .inl (cI, 60, .inl (fun _ => 0))), ((f17 3), .inl (cI, 60, .inl (fun _ => 0))), ((f17 4), .inl (cI, 60, .inl (fun _ => 0))), ((f17 5), .inl (cI, 8, .inl (fun _ => 0))), (q24, .inr (2, [.ref q13, .ref (f32 0)])), ((f32 0), .inl (cZ, 60, .inl (fun _ => 0))), (q39, .inr (3, [.ref q13, .ref (f47 0), .ref (f47 1), .ref (f47 2), .int 0])), ((f47 0), .inl (cI, 60, .inl (fun _ => 0))), ((f47 1), .inl (cI, 60, .inl (fun _ => 0))), ((f47 2), .inl (cI, 60, .inl (fun _ => 0))), (q54, .inr (4, [.ref (f58 0), .ref (f58 1), .ref (f58 2), .int 0])), ((f58 0), .inl (cI, 120, .inl (fun _ => 0))), ((f58 1), .inl (cI, 120, .inl (fun _ => 0))), ((f58 2), .inl (cI, 61, .inl (fun _ => 0)))] := hD
  refine W.widen (k := 18) (n := 876) (Nat.le_of_ble_eq_true rfl) (Nat.le_of_ble_eq_true rfl) ?_
  refine va_putF (D := D) (ci := 0) (v := .ref q54) (ty := .object "BranchForge$Tables") (C := R_BF) (T := F_BF) (N := 7) hx hb hts in_BF t_BF t_BF_ok n_BF hown hK hP hD hS 0 rfl rfl 4 (by decide) (hts _ kC_70) (fun _ h9 => h9) rfl hin rfl (by decide +kernel) rfl rfl (Nat.le_of_ble_eq_true rfl) d_BF_init_61 (fun H locs hP hD hS => ?_)
  have hP : va_P D clC [(h0, .inr (0, [.ref q7, .ref q13, .ref q24, .ref q39, .ref q54, .null, .null])), (q7, .inl (cI, 8, .inl (fun _ => 0))), (q13, .inr (1, [.ref (f17 0), .ref (f17 1), .ref (f17 2), .ref (f17 3), .ref (f17 4), .ref (f17 5), .int 0, .int 0])), ((f17 0), .inl (cI, 60, .inl (fun _ => 0))), ((f17 1), .inl (cI, 60, .inl (fun _ => 0))), ((f17 2), .inl (cI, 60, .inl (fun _ => 0))), ((f17 3), .inl (cI, 60, .inl (fun _ => 0))), ((f17 4), .inl (cI, 60, .inl (fun _ => 0))), ((f17 5), .inl (cI, 8, .inl (fun _ => 0))), (q24, .inr (2, [.ref q13, .ref (f32 0)])), ((f32 0), .inl (cZ, 60, .inl (fun _ => 0))), (q39, .inr (3, [.ref q13, .ref (f47 0), .ref (f47 1), .ref (f47 2), .int 0])), ((f47 0), .inl (cI, 60, .inl (fun _ => 0))), ((f47 1), .inl (cI, 60, .inl (fun _ => 0))), ((f47 2), .inl (cI, 60, .inl (fun _ => 0))), (q54, .inr (4, [.ref (f58 0), .ref (f58 1), .ref (f58 2), .int 0])), ((f58 0), .inl (cI, 120, .inl (fun _ => 0))), ((f58 1), .inl (cI, 120, .inl (fun _ => 0))), ((f58 2), .inl (cI, 61, .inl (fun _ => 0)))] H := hP
  have hD : va_D A [(h0, .inr (0, [.ref q7, .ref q13, .ref q24, .ref q39, .ref q54, .null, .null])), (q7, .inl (cI, 8, .inl (fun _ => 0))), (q13, .inr (1, [.ref (f17 0), .ref (f17 1), .ref (f17 2), .ref (f17 3), .ref (f17 4), .ref (f17 5), .int 0, .int 0])), ((f17 0), .inl (cI, 60, .inl (fun _ => 0))), ((f17 1), .inl (cI, 60, .inl (fun _ => 0))), ((f17 2), .inl (cI, 60, .inl (fun _ => 0))), ((f17 3), .inl (cI, 60, .inl (fun _ => 0))), ((f17 4), .inl (cI, 60, .inl (fun _ => 0))), ((f17 5), .inl (cI, 8, .inl (fun _ => 0))), (q24, .inr (2, [.ref q13, .ref (f32 0)])), ((f32 0), .inl (cZ, 60, .inl (fun _ => 0))), (q39, .inr (3, [.ref q13, .ref (f47 0), .ref (f47 1), .ref (f47 2), .int 0])), ((f47 0), .inl (cI, 60, .inl (fun _ => 0))), ((f47 1), .inl (cI, 60, .inl (fun _ => 0))), ((f47 2), .inl (cI, 60, .inl (fun _ => 0))), (q54, .inr (4, [.ref (f58 0), .ref (f58 1), .ref (f58 2), .int 0])), ((f58 0), .inl (cI, 120, .inl (fun _ => 0))), ((f58 1), .inl (cI, 120, .inl (fun _ => 0))), ((f58 2), .inl (cI, 61, .inl (fun _ => 0)))] := hD
  refine lv_aload_n hx hb d_BF_init_64 rfl (lv_at hl 0 rfl) ?_
  have h_1 : 19 ≤ 24 := by decide
  have h_2 : 886 ≤ 1620 := by decide
  refine va_new (ci := 5) (fs := [.null, .null, .null, .null, .null, .null, .null, .int 0, .int 0, .int 0]) (C := R_Co) (T := F_Co) (N := 10) hx hb hts in_Co t_Co t_Co_ok hown (hts _ kC_71) (hts _ kC_72) (hts _ kC_73) hK hP hD hS hA rfl (fun j hj => by rcases (show j = 0 ∨ j = 1 ∨ j = 2 ∨ j = 3 ∨ j = 4 ∨ j = 5 ∨ j = 6 ∨ j = 7 ∨ j = 8 ∨ j = 9 by omega) with rfl | rfl | rfl | rfl | rfl | rfl | rfl | rfl | rfl | rfl <;> rfl) h_1 h_2 d_BF_init_65 (fun q65 H hP hD hS => ?_)
  have hP : va_P D clC [(h0, .inr (0, [.ref q7, .ref q13, .ref q24, .ref q39, .ref q54, .null, .null])), (q7, .inl (cI, 8, .inl (fun _ => 0))), (q13, .inr (1, [.ref (f17 0), .ref (f17 1), .ref (f17 2), .ref (f17 3), .ref (f17 4), .ref (f17 5), .int 0, .int 0])), ((f17 0), .inl (cI, 60, .inl (fun _ => 0))), ((f17 1), .inl (cI, 60, .inl (fun _ => 0))), ((f17 2), .inl (cI, 60, .inl (fun _ => 0))), ((f17 3), .inl (cI, 60, .inl (fun _ => 0))), ((f17 4), .inl (cI, 60, .inl (fun _ => 0))), ((f17 5), .inl (cI, 8, .inl (fun _ => 0))), (q24, .inr (2, [.ref q13, .ref (f32 0)])), ((f32 0), .inl (cZ, 60, .inl (fun _ => 0))), (q39, .inr (3, [.ref q13, .ref (f47 0), .ref (f47 1), .ref (f47 2), .int 0])), ((f47 0), .inl (cI, 60, .inl (fun _ => 0))), ((f47 1), .inl (cI, 60, .inl (fun _ => 0))), ((f47 2), .inl (cI, 60, .inl (fun _ => 0))), (q54, .inr (4, [.ref (f58 0), .ref (f58 1), .ref (f58 2), .int 0])), ((f58 0), .inl (cI, 120, .inl (fun _ => 0))), ((f58 1), .inl (cI, 120, .inl (fun _ => 0))), ((f58 2), .inl (cI, 61, .inl (fun _ => 0))), (q65, .inr (5, [.null, .null, .null, .null, .null, .null, .null, .int 0, .int 0, .int 0]))] H := hP
  have hD : va_D A [(h0, .inr (0, [.ref q7, .ref q13, .ref q24, .ref q39, .ref q54, .null, .null])), (q7, .inl (cI, 8, .inl (fun _ => 0))), (q13, .inr (1, [.ref (f17 0), .ref (f17 1), .ref (f17 2), .ref (f17 3), .ref (f17 4), .ref (f17 5), .int 0, .int 0])), ((f17 0), .inl (cI, 60, .inl (fun _ => 0))), ((f17 1), .inl (cI, 60, .inl (fun _ => 0))), ((f17 2), .inl (cI, 60, .inl (fun _ => 0))), ((f17 3), .inl (cI, 60, .inl (fun _ => 0))), ((f17 4), .inl (cI, 60, .inl (fun _ => 0))), ((f17 5), .inl (cI, 8, .inl (fun _ => 0))), (q24, .inr (2, [.ref q13, .ref (f32 0)])), ((f32 0), .inl (cZ, 60, .inl (fun _ => 0))), (q39, .inr (3, [.ref q13, .ref (f47 0), .ref (f47 1), .ref (f47 2), .int 0])), ((f47 0), .inl (cI, 60, .inl (fun _ => 0))), ((f47 1), .inl (cI, 60, .inl (fun _ => 0))), ((f47 2), .inl (cI, 60, .inl (fun _ => 0))), (q54, .inr (4, [.ref (f58 0), .ref (f58 1), .ref (f58 2), .int 0])), ((f58 0), .inl (cI, 120, .inl (fun _ => 0))), ((f58 1), .inl (cI, 120, .inl (fun _ => 0))), ((f58 2), .inl (cI, 61, .inl (fun _ => 0))), (q65, .inr (5, [.null, .null, .null, .null, .null, .null, .null, .int 0, .int 0, .int 0]))] := hD
  refine W.widen (k := 19) (n := 886) (Nat.le_of_ble_eq_true rfl) (Nat.le_of_ble_eq_true rfl) ?_
  refine lv_dup hx hb d_BF_init_68 rfl ?_
  refine lv_aload_n hx hb d_BF_init_69 rfl (lv_at hl 0 rfl) ?_
  refine va_get (D := D) (ci := 0) (v := .ref q13) (C := R_BF) (T := F_BF) (N := 7) hx hb hts in_BF hown hK hP 0 rfl rfl 1 (by decide) (hts _ kC_53) (fun _ h9 => h9) rfl d_BF_init_70 ?_
  refine lv_aload_n hx hb d_BF_init_73 rfl (lv_at hl 0 rfl) ?_
  refine va_get (D := D) (ci := 0) (v := .ref q39) (C := R_BF) (T := F_BF) (N := 7) hx hb hts in_BF hown hK hP 0 rfl rfl 3 (by decide) (hts _ kC_65) (fun _ h9 => h9) rfl d_BF_init_74 ?_
  refine lv_aload_n hx hb d_BF_init_77 rfl (lv_at hl 0 rfl) ?_
  refine va_get (D := D) (ci := 0) (v := .ref q54) (C := R_BF) (T := F_BF) (N := 7) hx hb hts in_BF hown hK hP 0 rfl rfl 4 (by decide) (hts _ kC_70) (fun _ h9 => h9) rfl d_BF_init_78 ?_
  have hPc := hP.sub (ws' := [(q65, .inr (5, [.null, .null, .null, .null, .null, .null, .null, .int 0, .int 0, .int 0]))]) [19] rfl
  have hDc := hD.sub (ws' := [(q65, .inr (5, [.null, .null, .null, .null, .null, .null, .null, .int 0, .int 0, .int 0]))]) [19] (by decide) rfl
  have hFc := va_free (wc := [(q65, .inr (5, [.null, .null, .null, .null, .null, .null, .null, .int 0, .int 0, .int 0]))]) hD hS hA [19] rfl
  have h_1 : 23 ≤ 24 ∧ 1615 ≤ 1620 := by decide
  refine va_callv (va_runI (As := [.ref q13, .ref q39, .ref q54]) (rest := [.ref q65, .ref h0]) ⟨hx, hb, hml, hown, hts⟩ (ci_Co (l := l) (D := D) (cI := cI) (cZ := cZ) q65 q13 q39 q54 H.size) (⟨callB_of 3 hts (goodC _ (List.forall_mem_cons.mpr ⟨kC_41, fun _ h => h⟩)) rfl rfl rfl (hts _ kC_73) (hts _ kC_74) (by decide +kernel) ⟨Nat.le_of_ble_eq_true rfl, Nat.le_of_ble_eq_true rfl⟩, rfl, hts _ kC_75⟩) ⟨fun a U g mk q => by obtain ⟨q0, q1, qP, qK, qD, qN⟩ := q; exact ⟨q0, q1, qP, va_K.moved (u := U) (U := U.calling g mk a) (Vm.Alike.refl U.vm) qK, qD, nwC_same (s := U) (U := U.calling g mk a) rfl qN⟩, fun U hU hW => ⟨rfl, by rw [hU], by rw [hU]; exact hPc, va_K.moved hW.alike hK, hDc.weaken (fun _ _ _ _ => trivial), nwC_warm hW hN⟩⟩ rfl rfl hl.1 rfl (lv_room (Nat.le_of_ble_eq_true rfl)) d_BF_init_81 h_1) hS (fun q _ h => hFc q h) hFc (fun f81 t H1 locs ht hvm _ hB hz1 hk1 hS => ?_)
  obtain ⟨hP1, hK1, hD1⟩ := hB
  rw [ht] at hP1
  obtain ⟨hP, hD⟩ := va_join (wr := [(h0, .inr (0, [.ref q7, .ref q13, .ref q24, .ref q39, .ref q54, .null, .null])), (q7, .inl (cI, 8, .inl (fun _ => 0))), (q13, .inr (1, [.ref (f17 0), .ref (f17 1), .ref (f17 2), .ref (f17 3), .ref (f17 4), .ref (f17 5), .int 0, .int 0])), ((f17 0), .inl (cI, 60, .inl (fun _ => 0))), ((f17 1), .inl (cI, 60, .inl (fun _ => 0))), ((f17 2), .inl (cI, 60, .inl (fun _ => 0))), ((f17 3), .inl (cI, 60, .inl (fun _ => 0))), ((f17 4), .inl (cI, 60, .inl (fun _ => 0))), ((f17 5), .inl (cI, 8, .inl (fun _ => 0))), (q24, .inr (2, [.ref q13, .ref (f32 0)])), ((f32 0), .inl (cZ, 60, .inl (fun _ => 0))), (q39, .inr (3, [.ref q13, .ref (f47 0), .ref (f47 1), .ref (f47 2), .int 0])), ((f47 0), .inl (cI, 60, .inl (fun _ => 0))), ((f47 1), .inl (cI, 60, .inl (fun _ => 0))), ((f47 2), .inl (cI, 60, .inl (fun _ => 0))), (q54, .inr (4, [.ref (f58 0), .ref (f58 1), .ref (f58 2), .int 0])), ((f58 0), .inl (cI, 120, .inl (fun _ => 0))), ((f58 1), .inl (cI, 120, .inl (fun _ => 0))), ((f58 2), .inl (cI, 61, .inl (fun _ => 0)))]) (w1 := [(q65, .inr (5, [.ref q13, .ref q39, .ref q54, .ref (f81 0), .ref (f81 1), .ref (f81 2), .ref (f81 3), .int 0, .int 0, .int 0])), ((f81 0), .inl (cI, 600, .inl (fun _ => 0))), ((f81 1), .inl (cI, 61, .inl (fun _ => 0))), ((f81 2), .inl (cI, 60, .inl (fun _ => 0))), ((f81 3), .inl (cI, 8, .inl (fun _ => 0)))]) hP hD [19] [0, 1, 2, 3, 4, 5, 6, 7, 8, 9, 10, 11, 12, 13, 14, 15, 16, 17, 18] rfl rfl (by decide) (by decide) hk1 hFc hP1 hD1
  generalize H1 = H at hP hS ⊢
  have hP : va_P D clC [(h0, .inr (0, [.ref q7, .ref q13, .ref q24, .ref q39, .ref q54, .null, .null])), (q7, .inl (cI, 8, .inl (fun _ => 0))), (q13, .inr (1, [.ref (f17 0), .ref (f17 1), .ref (f17 2), .ref (f17 3), .ref (f17 4), .ref (f17 5), .int 0, .int 0])), ((f17 0), .inl (cI, 60, .inl (fun _ => 0))), ((f17 1), .inl (cI, 60, .inl (fun _ => 0))), ((f17 2), .inl (cI, 60, .inl (fun _ => 0))), ((f17 3), .inl (cI, 60, .inl (fun _ => 0))), ((f17 4), .inl (cI, 60, .inl (fun _ => 0))), ((f17 5), .inl (cI, 8, .inl (fun _ => 0))), (q24, .inr (2, [.ref q13, .ref (f32 0)])), ((f32 0), .inl (cZ, 60, .inl (fun _ => 0))), (q39, .inr (3, [.ref q13, .ref (f47 0), .ref (f47 1), .ref (f47 2), .int 0])), ((f47 0), .inl (cI, 60, .inl (fun _ => 0))), ((f47 1), .inl (cI, 60, .inl (fun _ => 0))), ((f47 2), .inl (cI, 60, .inl (fun _ => 0))), (q54, .inr (4, [.ref (f58 0), .ref (f58 1), .ref (f58 2), .int 0])), ((f58 0), .inl (cI, 120, .inl (fun _ => 0))), ((f58 1), .inl (cI, 120, .inl (fun _ => 0))), ((f58 2), .inl (cI, 61, .inl (fun _ => 0))), (q65, .inr (5, [.ref q13, .ref q39, .ref q54, .ref (f81 0), .ref (f81 1), .ref (f81 2), .ref (f81 3), .int 0, .int 0, .int 0])), ((f81 0), .inl (cI, 600, .inl (fun _ => 0))), ((f81 1), .inl (cI, 61, .inl (fun _ => 0))), ((f81 2), .inl (cI, 60, .inl (fun _ => 0))), ((f81 3), .inl (cI, 8, .inl (fun _ => 0)))] H := hP
  have hD : va_D A [(h0, .inr (0, [.ref q7, .ref q13, .ref q24, .ref q39, .ref q54, .null, .null])), (q7, .inl (cI, 8, .inl (fun _ => 0))), (q13, .inr (1, [.ref (f17 0), .ref (f17 1), .ref (f17 2), .ref (f17 3), .ref (f17 4), .ref (f17 5), .int 0, .int 0])), ((f17 0), .inl (cI, 60, .inl (fun _ => 0))), ((f17 1), .inl (cI, 60, .inl (fun _ => 0))), ((f17 2), .inl (cI, 60, .inl (fun _ => 0))), ((f17 3), .inl (cI, 60, .inl (fun _ => 0))), ((f17 4), .inl (cI, 60, .inl (fun _ => 0))), ((f17 5), .inl (cI, 8, .inl (fun _ => 0))), (q24, .inr (2, [.ref q13, .ref (f32 0)])), ((f32 0), .inl (cZ, 60, .inl (fun _ => 0))), (q39, .inr (3, [.ref q13, .ref (f47 0), .ref (f47 1), .ref (f47 2), .int 0])), ((f47 0), .inl (cI, 60, .inl (fun _ => 0))), ((f47 1), .inl (cI, 60, .inl (fun _ => 0))), ((f47 2), .inl (cI, 60, .inl (fun _ => 0))), (q54, .inr (4, [.ref (f58 0), .ref (f58 1), .ref (f58 2), .int 0])), ((f58 0), .inl (cI, 120, .inl (fun _ => 0))), ((f58 1), .inl (cI, 120, .inl (fun _ => 0))), ((f58 2), .inl (cI, 61, .inl (fun _ => 0))), (q65, .inr (5, [.ref q13, .ref q39, .ref q54, .ref (f81 0), .ref (f81 1), .ref (f81 2), .ref (f81 3), .int 0, .int 0, .int 0])), ((f81 0), .inl (cI, 600, .inl (fun _ => 0))), ((f81 1), .inl (cI, 61, .inl (fun _ => 0))), ((f81 2), .inl (cI, 60, .inl (fun _ => 0))), ((f81 3), .inl (cI, 8, .inl (fun _ => 0)))] := hD
  refine W.widen (k := 23) (n := 1615) (Nat.le_of_ble_eq_true rfl) (Nat.le_of_ble_eq_true rfl) ?_
  refine va_putF (D := D) (ci := 0) (v := .ref q65) (ty := .object "BranchForge$Code") (C := R_BF) (T := F_BF) (N := 7) hx hb hts in_BF t_BF t_BF_ok n_BF hown hK hP hD hS 0 rfl rfl 5 (by decide) (hts _ kC_76) (fun _ h9 => h9) rfl hin rfl (by decide +kernel) rfl rfl (Nat.le_of_ble_eq_true rfl) d_BF_init_84 (fun H locs hP hD hS => ?_)
  have hP : va_P D clC [(h0, .inr (0, [.ref q7, .ref q13, .ref q24, .ref q39, .ref q54, .ref q65, .null])), (q7, .inl (cI, 8, .inl (fun _ => 0))), (q13, .inr (1, [.ref (f17 0), .ref (f17 1), .ref (f17 2), .ref (f17 3), .ref (f17 4), .ref (f17 5), .int 0, .int 0])), ((f17 0), .inl (cI, 60, .inl (fun _ => 0))), ((f17 1), .inl (cI, 60, .inl (fun _ => 0))), ((f17 2), .inl (cI, 60, .inl (fun _ => 0))), ((f17 3), .inl (cI, 60, .inl (fun _ => 0))), ((f17 4), .inl (cI, 60, .inl (fun _ => 0))), ((f17 5), .inl (cI, 8, .inl (fun _ => 0))), (q24, .inr (2, [.ref q13, .ref (f32 0)])), ((f32 0), .inl (cZ, 60, .inl (fun _ => 0))), (q39, .inr (3, [.ref q13, .ref (f47 0), .ref (f47 1), .ref (f47 2), .int 0])), ((f47 0), .inl (cI, 60, .inl (fun _ => 0))), ((f47 1), .inl (cI, 60, .inl (fun _ => 0))), ((f47 2), .inl (cI, 60, .inl (fun _ => 0))), (q54, .inr (4, [.ref (f58 0), .ref (f58 1), .ref (f58 2), .int 0])), ((f58 0), .inl (cI, 120, .inl (fun _ => 0))), ((f58 1), .inl (cI, 120, .inl (fun _ => 0))), ((f58 2), .inl (cI, 61, .inl (fun _ => 0))), (q65, .inr (5, [.ref q13, .ref q39, .ref q54, .ref (f81 0), .ref (f81 1), .ref (f81 2), .ref (f81 3), .int 0, .int 0, .int 0])), ((f81 0), .inl (cI, 600, .inl (fun _ => 0))), ((f81 1), .inl (cI, 61, .inl (fun _ => 0))), ((f81 2), .inl (cI, 60, .inl (fun _ => 0))), ((f81 3), .inl (cI, 8, .inl (fun _ => 0)))] H := hP
  have hD : va_D A [(h0, .inr (0, [.ref q7, .ref q13, .ref q24, .ref q39, .ref q54, .ref q65, .null])), (q7, .inl (cI, 8, .inl (fun _ => 0))), (q13, .inr (1, [.ref (f17 0), .ref (f17 1), .ref (f17 2), .ref (f17 3), .ref (f17 4), .ref (f17 5), .int 0, .int 0])), ((f17 0), .inl (cI, 60, .inl (fun _ => 0))), ((f17 1), .inl (cI, 60, .inl (fun _ => 0))), ((f17 2), .inl (cI, 60, .inl (fun _ => 0))), ((f17 3), .inl (cI, 60, .inl (fun _ => 0))), ((f17 4), .inl (cI, 60, .inl (fun _ => 0))), ((f17 5), .inl (cI, 8, .inl (fun _ => 0))), (q24, .inr (2, [.ref q13, .ref (f32 0)])), ((f32 0), .inl (cZ, 60, .inl (fun _ => 0))), (q39, .inr (3, [.ref q13, .ref (f47 0), .ref (f47 1), .ref (f47 2), .int 0])), ((f47 0), .inl (cI, 60, .inl (fun _ => 0))), ((f47 1), .inl (cI, 60, .inl (fun _ => 0))), ((f47 2), .inl (cI, 60, .inl (fun _ => 0))), (q54, .inr (4, [.ref (f58 0), .ref (f58 1), .ref (f58 2), .int 0])), ((f58 0), .inl (cI, 120, .inl (fun _ => 0))), ((f58 1), .inl (cI, 120, .inl (fun _ => 0))), ((f58 2), .inl (cI, 61, .inl (fun _ => 0))), (q65, .inr (5, [.ref q13, .ref q39, .ref q54, .ref (f81 0), .ref (f81 1), .ref (f81 2), .ref (f81 3), .int 0, .int 0, .int 0])), ((f81 0), .inl (cI, 600, .inl (fun _ => 0))), ((f81 1), .inl (cI, 61, .inl (fun _ => 0))), ((f81 2), .inl (cI, 60, .inl (fun _ => 0))), ((f81 3), .inl (cI, 8, .inl (fun _ => 0)))] := hD
  refine lv_aload_n hx hb d_BF_init_87 rfl (lv_at hl 0 rfl) ?_
  have h_1 : 24 ≤ 24 := by decide
  have h_2 : 1620 ≤ 1620 := by decide
  refine va_new (ci := 6) (fs := [.null, .null, .null, .int 0, .int 0]) (C := R_Ma) (T := F_Ma) (N := 5) hx hb hts in_Ma t_Ma t_Ma_ok hown (hts _ kC_77) (hts _ kC_78) (hts _ kC_79) hK hP hD hS hA rfl (fun j hj => by rcases (show j = 0 ∨ j = 1 ∨ j = 2 ∨ j = 3 ∨ j = 4 by omega) with rfl | rfl | rfl | rfl | rfl <;> rfl) h_1 h_2 d_BF_init_88 (fun q88 H hP hD hS => ?_)
  have hP : va_P D clC [(h0, .inr (0, [.ref q7, .ref q13, .ref q24, .ref q39, .ref q54, .ref q65, .null])), (q7, .inl (cI, 8, .inl (fun _ => 0))), (q13, .inr (1, [.ref (f17 0), .ref (f17 1), .ref (f17 2), .ref (f17 3), .ref (f17 4), .ref (f17 5), .int 0, .int 0])), ((f17 0), .inl (cI, 60, .inl (fun _ => 0))), ((f17 1), .inl (cI, 60, .inl (fun _ => 0))), ((f17 2), .inl (cI, 60, .inl (fun _ => 0))), ((f17 3), .inl (cI, 60, .inl (fun _ => 0))), ((f17 4), .inl (cI, 60, .inl (fun _ => 0))), ((f17 5), .inl (cI, 8, .inl (fun _ => 0))), (q24, .inr (2, [.ref q13, .ref (f32 0)])), ((f32 0), .inl (cZ, 60, .inl (fun _ => 0))), (q39, .inr (3, [.ref q13, .ref (f47 0), .ref (f47 1), .ref (f47 2), .int 0])), ((f47 0), .inl (cI, 60, .inl (fun _ => 0))), ((f47 1), .inl (cI, 60, .inl (fun _ => 0))), ((f47 2), .inl (cI, 60, .inl (fun _ => 0))), (q54, .inr (4, [.ref (f58 0), .ref (f58 1), .ref (f58 2), .int 0])), ((f58 0), .inl (cI, 120, .inl (fun _ => 0))), ((f58 1), .inl (cI, 120, .inl (fun _ => 0))), ((f58 2), .inl (cI, 61, .inl (fun _ => 0))), (q65, .inr (5, [.ref q13, .ref q39, .ref q54, .ref (f81 0), .ref (f81 1), .ref (f81 2), .ref (f81 3), .int 0, .int 0, .int 0])), ((f81 0), .inl (cI, 600, .inl (fun _ => 0))), ((f81 1), .inl (cI, 61, .inl (fun _ => 0))), ((f81 2), .inl (cI, 60, .inl (fun _ => 0))), ((f81 3), .inl (cI, 8, .inl (fun _ => 0))), (q88, .inr (6, [.null, .null, .null, .int 0, .int 0]))] H := hP
  have hD : va_D A [(h0, .inr (0, [.ref q7, .ref q13, .ref q24, .ref q39, .ref q54, .ref q65, .null])), (q7, .inl (cI, 8, .inl (fun _ => 0))), (q13, .inr (1, [.ref (f17 0), .ref (f17 1), .ref (f17 2), .ref (f17 3), .ref (f17 4), .ref (f17 5), .int 0, .int 0])), ((f17 0), .inl (cI, 60, .inl (fun _ => 0))), ((f17 1), .inl (cI, 60, .inl (fun _ => 0))), ((f17 2), .inl (cI, 60, .inl (fun _ => 0))), ((f17 3), .inl (cI, 60, .inl (fun _ => 0))), ((f17 4), .inl (cI, 60, .inl (fun _ => 0))), ((f17 5), .inl (cI, 8, .inl (fun _ => 0))), (q24, .inr (2, [.ref q13, .ref (f32 0)])), ((f32 0), .inl (cZ, 60, .inl (fun _ => 0))), (q39, .inr (3, [.ref q13, .ref (f47 0), .ref (f47 1), .ref (f47 2), .int 0])), ((f47 0), .inl (cI, 60, .inl (fun _ => 0))), ((f47 1), .inl (cI, 60, .inl (fun _ => 0))), ((f47 2), .inl (cI, 60, .inl (fun _ => 0))), (q54, .inr (4, [.ref (f58 0), .ref (f58 1), .ref (f58 2), .int 0])), ((f58 0), .inl (cI, 120, .inl (fun _ => 0))), ((f58 1), .inl (cI, 120, .inl (fun _ => 0))), ((f58 2), .inl (cI, 61, .inl (fun _ => 0))), (q65, .inr (5, [.ref q13, .ref q39, .ref q54, .ref (f81 0), .ref (f81 1), .ref (f81 2), .ref (f81 3), .int 0, .int 0, .int 0])), ((f81 0), .inl (cI, 600, .inl (fun _ => 0))), ((f81 1), .inl (cI, 61, .inl (fun _ => 0))), ((f81 2), .inl (cI, 60, .inl (fun _ => 0))), ((f81 3), .inl (cI, 8, .inl (fun _ => 0))), (q88, .inr (6, [.null, .null, .null, .int 0, .int 0]))] := hD
  refine W.widen (k := 24) (n := 1620) (Nat.le_of_ble_eq_true rfl) (Nat.le_of_ble_eq_true rfl) ?_
  refine lv_dup hx hb d_BF_init_91 rfl ?_
  refine lv_aload_n hx hb d_BF_init_92 rfl (lv_at hl 0 rfl) ?_
  refine va_get (D := D) (ci := 0) (v := .ref q65) (C := R_BF) (T := F_BF) (N := 7) hx hb hts in_BF hown hK hP 0 rfl rfl 5 (by decide) (hts _ kC_76) (fun _ h9 => h9) rfl d_BF_init_93 ?_
  refine lv_aload_n hx hb d_BF_init_96 rfl (lv_at hl 0 rfl) ?_
  refine va_get (D := D) (ci := 0) (v := .ref q54) (C := R_BF) (T := F_BF) (N := 7) hx hb hts in_BF hown hK hP 0 rfl rfl 4 (by decide) (hts _ kC_70) (fun _ h9 => h9) rfl d_BF_init_97 ?_
  refine lv_aload_n hx hb d_BF_init_100 rfl (lv_at hl 0 rfl) ?_
  refine va_get (D := D) (ci := 0) (v := .ref q7) (C := R_BF) (T := F_BF) (N := 7) hx hb hts in_BF hown hK hP 0 rfl rfl 0 (by decide) (hts _ kC_48) (fun _ h9 => h9) rfl d_BF_init_101 ?_
  have hPc := hP.sub (ws' := [(q88, .inr (6, [.null, .null, .null, .int 0, .int 0]))]) [24] rfl
  have hDc := hD.sub (ws' := [(q88, .inr (6, [.null, .null, .null, .int 0, .int 0]))]) [24] (by decide) rfl
  have hFc := va_free (wc := [(q88, .inr (6, [.null, .null, .null, .int 0, .int 0]))]) hD hS hA [24] rfl
  have h_1 : 24 ≤ 24 ∧ 1620 ≤ 1620 := by decide
  refine va_callv (va_runI (As := [.ref q65, .ref q54, .ref q7]) (rest := [.ref q88, .ref h0]) ⟨hx, hb, hml, hown, hts⟩ (ci_Ma (l := l) (D := D) (cI := cI) (cZ := cZ) q88 q65 q54 q7 H.size) (⟨callB_of 3 hts (goodC _ (List.forall_mem_cons.mpr ⟨kC_46, fun _ h => h⟩)) rfl rfl rfl (hts _ kC_79) (hts _ kC_80) (by decide +kernel) ⟨Nat.le_of_ble_eq_true rfl, Nat.le_of_ble_eq_true rfl⟩, rfl, hts _ kC_81⟩) ⟨fun a U g mk q => by obtain ⟨q0, q1, qP, qK, qD, qN⟩ := q; exact ⟨q0, q1, qP, va_K.moved (u := U) (U := U.calling g mk a) (Vm.Alike.refl U.vm) qK, qD, nwC_same (s := U) (U := U.calling g mk a) rfl qN⟩, fun U hU hW => ⟨rfl, by rw [hU], by rw [hU]; exact hPc, va_K.moved hW.alike hK, hDc.weaken (fun _ _ _ _ => trivial), nwC_warm hW hN⟩⟩ rfl rfl hl.1 rfl (lv_room (Nat.le_of_ble_eq_true rfl)) d_BF_init_104 h_1) hS (fun q _ h => hFc q h) hFc (fun f104 t H1 locs ht hvm _ hB hz1 hk1 hS => ?_)
  obtain ⟨hP1, hK1, hD1⟩ := hB
  rw [ht] at hP1
  obtain ⟨hP, hD⟩ := va_join (wr := [(h0, .inr (0, [.ref q7, .ref q13, .ref q24, .ref q39, .ref q54, .ref q65, .null])), (q7, .inl (cI, 8, .inl (fun _ => 0))), (q13, .inr (1, [.ref (f17 0), .ref (f17 1), .ref (f17 2), .ref (f17 3), .ref (f17 4), .ref (f17 5), .int 0, .int 0])), ((f17 0), .inl (cI, 60, .inl (fun _ => 0))), ((f17 1), .inl (cI, 60, .inl (fun _ => 0))), ((f17 2), .inl (cI, 60, .inl (fun _ => 0))), ((f17 3), .inl (cI, 60, .inl (fun _ => 0))), ((f17 4), .inl (cI, 60, .inl (fun _ => 0))), ((f17 5), .inl (cI, 8, .inl (fun _ => 0))), (q24, .inr (2, [.ref q13, .ref (f32 0)])), ((f32 0), .inl (cZ, 60, .inl (fun _ => 0))), (q39, .inr (3, [.ref q13, .ref (f47 0), .ref (f47 1), .ref (f47 2), .int 0])), ((f47 0), .inl (cI, 60, .inl (fun _ => 0))), ((f47 1), .inl (cI, 60, .inl (fun _ => 0))), ((f47 2), .inl (cI, 60, .inl (fun _ => 0))), (q54, .inr (4, [.ref (f58 0), .ref (f58 1), .ref (f58 2), .int 0])), ((f58 0), .inl (cI, 120, .inl (fun _ => 0))), ((f58 1), .inl (cI, 120, .inl (fun _ => 0))), ((f58 2), .inl (cI, 61, .inl (fun _ => 0))), (q65, .inr (5, [.ref q13, .ref q39, .ref q54, .ref (f81 0), .ref (f81 1), .ref (f81 2), .ref (f81 3), .int 0, .int 0, .int 0])), ((f81 0), .inl (cI, 600, .inl (fun _ => 0))), ((f81 1), .inl (cI, 61, .inl (fun _ => 0))), ((f81 2), .inl (cI, 60, .inl (fun _ => 0))), ((f81 3), .inl (cI, 8, .inl (fun _ => 0)))]) (w1 := [(q88, .inr (6, [.ref q65, .ref q54, .ref q7, .int 0, .int 0]))]) hP hD [24] [0, 1, 2, 3, 4, 5, 6, 7, 8, 9, 10, 11, 12, 13, 14, 15, 16, 17, 18, 19, 20, 21, 22, 23] rfl rfl (by decide) (by decide) hk1 hFc hP1 hD1
  generalize H1 = H at hP hS ⊢
  have hP : va_P D clC [(h0, .inr (0, [.ref q7, .ref q13, .ref q24, .ref q39, .ref q54, .ref q65, .null])), (q7, .inl (cI, 8, .inl (fun _ => 0))), (q13, .inr (1, [.ref (f17 0), .ref (f17 1), .ref (f17 2), .ref (f17 3), .ref (f17 4), .ref (f17 5), .int 0, .int 0])), ((f17 0), .inl (cI, 60, .inl (fun _ => 0))), ((f17 1), .inl (cI, 60, .inl (fun _ => 0))), ((f17 2), .inl (cI, 60, .inl (fun _ => 0))), ((f17 3), .inl (cI, 60, .inl (fun _ => 0))), ((f17 4), .inl (cI, 60, .inl (fun _ => 0))), ((f17 5), .inl (cI, 8, .inl (fun _ => 0))), (q24, .inr (2, [.ref q13, .ref (f32 0)])), ((f32 0), .inl (cZ, 60, .inl (fun _ => 0))), (q39, .inr (3, [.ref q13, .ref (f47 0), .ref (f47 1), .ref (f47 2), .int 0])), ((f47 0), .inl (cI, 60, .inl (fun _ => 0))), ((f47 1), .inl (cI, 60, .inl (fun _ => 0))), ((f47 2), .inl (cI, 60, .inl (fun _ => 0))), (q54, .inr (4, [.ref (f58 0), .ref (f58 1), .ref (f58 2), .int 0])), ((f58 0), .inl (cI, 120, .inl (fun _ => 0))), ((f58 1), .inl (cI, 120, .inl (fun _ => 0))), ((f58 2), .inl (cI, 61, .inl (fun _ => 0))), (q65, .inr (5, [.ref q13, .ref q39, .ref q54, .ref (f81 0), .ref (f81 1), .ref (f81 2), .ref (f81 3), .int 0, .int 0, .int 0])), ((f81 0), .inl (cI, 600, .inl (fun _ => 0))), ((f81 1), .inl (cI, 61, .inl (fun _ => 0))), ((f81 2), .inl (cI, 60, .inl (fun _ => 0))), ((f81 3), .inl (cI, 8, .inl (fun _ => 0))), (q88, .inr (6, [.ref q65, .ref q54, .ref q7, .int 0, .int 0]))] H := hP
  have hD : va_D A [(h0, .inr (0, [.ref q7, .ref q13, .ref q24, .ref q39, .ref q54, .ref q65, .null])), (q7, .inl (cI, 8, .inl (fun _ => 0))), (q13, .inr (1, [.ref (f17 0), .ref (f17 1), .ref (f17 2), .ref (f17 3), .ref (f17 4), .ref (f17 5), .int 0, .int 0])), ((f17 0), .inl (cI, 60, .inl (fun _ => 0))), ((f17 1), .inl (cI, 60, .inl (fun _ => 0))), ((f17 2), .inl (cI, 60, .inl (fun _ => 0))), ((f17 3), .inl (cI, 60, .inl (fun _ => 0))), ((f17 4), .inl (cI, 60, .inl (fun _ => 0))), ((f17 5), .inl (cI, 8, .inl (fun _ => 0))), (q24, .inr (2, [.ref q13, .ref (f32 0)])), ((f32 0), .inl (cZ, 60, .inl (fun _ => 0))), (q39, .inr (3, [.ref q13, .ref (f47 0), .ref (f47 1), .ref (f47 2), .int 0])), ((f47 0), .inl (cI, 60, .inl (fun _ => 0))), ((f47 1), .inl (cI, 60, .inl (fun _ => 0))), ((f47 2), .inl (cI, 60, .inl (fun _ => 0))), (q54, .inr (4, [.ref (f58 0), .ref (f58 1), .ref (f58 2), .int 0])), ((f58 0), .inl (cI, 120, .inl (fun _ => 0))), ((f58 1), .inl (cI, 120, .inl (fun _ => 0))), ((f58 2), .inl (cI, 61, .inl (fun _ => 0))), (q65, .inr (5, [.ref q13, .ref q39, .ref q54, .ref (f81 0), .ref (f81 1), .ref (f81 2), .ref (f81 3), .int 0, .int 0, .int 0])), ((f81 0), .inl (cI, 600, .inl (fun _ => 0))), ((f81 1), .inl (cI, 61, .inl (fun _ => 0))), ((f81 2), .inl (cI, 60, .inl (fun _ => 0))), ((f81 3), .inl (cI, 8, .inl (fun _ => 0))), (q88, .inr (6, [.ref q65, .ref q54, .ref q7, .int 0, .int 0]))] := hD
  refine W.widen (k := 24) (n := 1620) (Nat.le_of_ble_eq_true rfl) (Nat.le_of_ble_eq_true rfl) ?_
  refine va_putF (D := D) (ci := 0) (v := .ref q88) (ty := .object "BranchForge$Machine") (C := R_BF) (T := F_BF) (N := 7) hx hb hts in_BF t_BF t_BF_ok n_BF hown hK hP hD hS 0 rfl rfl 6 (by decide) (hts _ kC_82) (fun _ h9 => h9) rfl hin rfl (by decide +kernel) rfl rfl (Nat.le_of_ble_eq_true rfl) d_BF_init_107 (fun H locs hP hD hS => ?_)
  have hP : va_P D clC [(h0, .inr (0, [.ref q7, .ref q13, .ref q24, .ref q39, .ref q54, .ref q65, .ref q88])), (q7, .inl (cI, 8, .inl (fun _ => 0))), (q13, .inr (1, [.ref (f17 0), .ref (f17 1), .ref (f17 2), .ref (f17 3), .ref (f17 4), .ref (f17 5), .int 0, .int 0])), ((f17 0), .inl (cI, 60, .inl (fun _ => 0))), ((f17 1), .inl (cI, 60, .inl (fun _ => 0))), ((f17 2), .inl (cI, 60, .inl (fun _ => 0))), ((f17 3), .inl (cI, 60, .inl (fun _ => 0))), ((f17 4), .inl (cI, 60, .inl (fun _ => 0))), ((f17 5), .inl (cI, 8, .inl (fun _ => 0))), (q24, .inr (2, [.ref q13, .ref (f32 0)])), ((f32 0), .inl (cZ, 60, .inl (fun _ => 0))), (q39, .inr (3, [.ref q13, .ref (f47 0), .ref (f47 1), .ref (f47 2), .int 0])), ((f47 0), .inl (cI, 60, .inl (fun _ => 0))), ((f47 1), .inl (cI, 60, .inl (fun _ => 0))), ((f47 2), .inl (cI, 60, .inl (fun _ => 0))), (q54, .inr (4, [.ref (f58 0), .ref (f58 1), .ref (f58 2), .int 0])), ((f58 0), .inl (cI, 120, .inl (fun _ => 0))), ((f58 1), .inl (cI, 120, .inl (fun _ => 0))), ((f58 2), .inl (cI, 61, .inl (fun _ => 0))), (q65, .inr (5, [.ref q13, .ref q39, .ref q54, .ref (f81 0), .ref (f81 1), .ref (f81 2), .ref (f81 3), .int 0, .int 0, .int 0])), ((f81 0), .inl (cI, 600, .inl (fun _ => 0))), ((f81 1), .inl (cI, 61, .inl (fun _ => 0))), ((f81 2), .inl (cI, 60, .inl (fun _ => 0))), ((f81 3), .inl (cI, 8, .inl (fun _ => 0))), (q88, .inr (6, [.ref q65, .ref q54, .ref q7, .int 0, .int 0]))] H := hP
  have hD : va_D A [(h0, .inr (0, [.ref q7, .ref q13, .ref q24, .ref q39, .ref q54, .ref q65, .ref q88])), (q7, .inl (cI, 8, .inl (fun _ => 0))), (q13, .inr (1, [.ref (f17 0), .ref (f17 1), .ref (f17 2), .ref (f17 3), .ref (f17 4), .ref (f17 5), .int 0, .int 0])), ((f17 0), .inl (cI, 60, .inl (fun _ => 0))), ((f17 1), .inl (cI, 60, .inl (fun _ => 0))), ((f17 2), .inl (cI, 60, .inl (fun _ => 0))), ((f17 3), .inl (cI, 60, .inl (fun _ => 0))), ((f17 4), .inl (cI, 60, .inl (fun _ => 0))), ((f17 5), .inl (cI, 8, .inl (fun _ => 0))), (q24, .inr (2, [.ref q13, .ref (f32 0)])), ((f32 0), .inl (cZ, 60, .inl (fun _ => 0))), (q39, .inr (3, [.ref q13, .ref (f47 0), .ref (f47 1), .ref (f47 2), .int 0])), ((f47 0), .inl (cI, 60, .inl (fun _ => 0))), ((f47 1), .inl (cI, 60, .inl (fun _ => 0))), ((f47 2), .inl (cI, 60, .inl (fun _ => 0))), (q54, .inr (4, [.ref (f58 0), .ref (f58 1), .ref (f58 2), .int 0])), ((f58 0), .inl (cI, 120, .inl (fun _ => 0))), ((f58 1), .inl (cI, 120, .inl (fun _ => 0))), ((f58 2), .inl (cI, 61, .inl (fun _ => 0))), (q65, .inr (5, [.ref q13, .ref q39, .ref q54, .ref (f81 0), .ref (f81 1), .ref (f81 2), .ref (f81 3), .int 0, .int 0, .int 0])), ((f81 0), .inl (cI, 600, .inl (fun _ => 0))), ((f81 1), .inl (cI, 61, .inl (fun _ => 0))), ((f81 2), .inl (cI, 60, .inl (fun _ => 0))), ((f81 3), .inl (cI, 8, .inl (fun _ => 0))), (q88, .inr (6, [.ref q65, .ref q54, .ref q7, .int 0, .int 0]))] := hD
  have hP9 := hP.sub (ws' := gwC cI cZ (fun k => ([h0, q7, q13, (f17 0), (f17 1), (f17 2), (f17 3), (f17 4), (f17 5), q24, (f32 0), q39, (f47 0), (f47 1), (f47 2), q54, (f58 0), (f58 1), (f58 2), q65, (f81 0), (f81 1), (f81 2), (f81 3), q88] : List Nat).getD k 0) (fun _ _ => 0)) [0, 1, 2, 3, 4, 5, 6, 7, 8, 9, 10, 11, 12, 13, 14, 15, 16, 17, 18, 19, 20, 21, 22, 23, 24] rfl
  have hD9 := hD.sub (ws' := gwC cI cZ (fun k => ([h0, q7, q13, (f17 0), (f17 1), (f17 2), (f17 3), (f17 4), (f17 5), q24, (f32 0), q39, (f47 0), (f47 1), (f47 2), q54, (f58 0), (f58 1), (f58 2), q65, (f81 0), (f81 1), (f81 2), (f81 3), q88] : List Nat).getD k 0) (fun _ _ => 0)) [0, 1, 2, 3, 4, 5, 6, 7, 8, 9, 10, 11, 12, 13, 14, 15, 16, 17, 18, 19, 20, 21, 22, 23, 24] (by decide) rfl
  exact W.vret hx hb hr (fun t ht hW => ⟨⟨(fun k => ([h0, q7, q13, (f17 0), (f17 1), (f17 2), (f17 3), (f17 4), (f17 5), q24, (f32 0), q39, (f47 0), (f47 1), (f47 2), q54, (f58 0), (f58 1), (f58 2), q65, (f81 0), (f81 1), (f81 2), (f81 3), q88] : List Nat).getD k 0), rfl, rfl, by rw [ht]; exact hP9, va_K.moved hW.alike hK, hD9⟩, hS.F ht⟩) hS.2.2 d_BF_init_110
end
