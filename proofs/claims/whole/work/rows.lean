section
-- ===== PART A: goes FIRST, ahead of the names: the tables' words, and 'selects' of the private methods out of them =====
/-- a private method of a class that the tables say can be made, by its rows of tables_1 -/
def lw_okq (q : MethodName × Nat) : Prop := (q.1.cls ≠ "java/lang/invoke/MethodHandle" ∧ q.1.cls ≠ "java/lang/invoke/VarHandle") ∧ Cond.instantiable q.1.cls q.2 ∈ tables_1 ∧ Cond.privateMethod q.1 ∈ tables_1 ∧ Cond.instanceMethod q.1 ∈ tables_1
theorem lw_p0 : lw_okq (⟨"BranchForge$Checker", "faultFrom", "(II)I"⟩, 2) := ⟨⟨by decide +kernel, by decide +kernel⟩, List.mem_of_getElem? (i := 68) (by decide +kernel), List.mem_of_getElem? (i := 274) (by decide +kernel), List.mem_of_getElem? (i := 275) (by decide +kernel)⟩
theorem lw_p1 : lw_okq (⟨"BranchForge$Checker", "faultAt", "(II)I"⟩, 2) := ⟨⟨by decide +kernel, by decide +kernel⟩, List.mem_of_getElem? (i := 68) (by decide +kernel), List.mem_of_getElem? (i := 278) (by decide +kernel), List.mem_of_getElem? (i := 279) (by decide +kernel)⟩
theorem lw_p2 : lw_okq (⟨"BranchForge$Checker", "isDangling", "(I)Z"⟩, 2) := ⟨⟨by decide +kernel, by decide +kernel⟩, List.mem_of_getElem? (i := 68) (by decide +kernel), List.mem_of_getElem? (i := 282) (by decide +kernel), List.mem_of_getElem? (i := 283) (by decide +kernel)⟩
theorem lw_p3 : lw_okq (⟨"BranchForge$Cutter", "cutFrom", "(III)V"⟩, 5) := ⟨⟨by decide +kernel, by decide +kernel⟩, List.mem_of_getElem? (i := 82) (by decide +kernel), List.mem_of_getElem? (i := 295) (by decide +kernel), List.mem_of_getElem? (i := 296) (by decide +kernel)⟩
theorem lw_p4 : lw_okq (⟨"BranchForge$Cutter", "cutChildren", "(II)V"⟩, 5) := ⟨⟨by decide +kernel, by decide +kernel⟩, List.mem_of_getElem? (i := 82) (by decide +kernel), List.mem_of_getElem? (i := 300) (by decide +kernel), List.mem_of_getElem? (i := 301) (by decide +kernel)⟩
theorem lw_p5 : lw_okq (⟨"BranchForge$Cutter", "splitLength", "(I)I"⟩, 5) := ⟨⟨by decide +kernel, by decide +kernel⟩, List.mem_of_getElem? (i := 82) (by decide +kernel), List.mem_of_getElem? (i := 304) (by decide +kernel), List.mem_of_getElem? (i := 305) (by decide +kernel)⟩
theorem lw_p6 : lw_okq (⟨"BranchForge$Cutter", "cutOut", "(I)V"⟩, 5) := ⟨⟨by decide +kernel, by decide +kernel⟩, List.mem_of_getElem? (i := 82) (by decide +kernel), List.mem_of_getElem? (i := 315) (by decide +kernel), List.mem_of_getElem? (i := 316) (by decide +kernel)⟩
theorem lw_p7 : lw_okq (⟨"BranchForge$Code", "writeMethod", "(II)V"⟩, 10) := ⟨⟨by decide +kernel, by decide +kernel⟩, List.mem_of_getElem? (i := 133) (by decide +kernel), List.mem_of_getElem? (i := 331) (by decide +kernel), List.mem_of_getElem? (i := 332) (by decide +kernel)⟩
theorem lw_p8 : lw_okq (⟨"BranchForge$Code", "writeCode", "(II)V"⟩, 10) := ⟨⟨by decide +kernel, by decide +kernel⟩, List.mem_of_getElem? (i := 133) (by decide +kernel), List.mem_of_getElem? (i := 343) (by decide +kernel), List.mem_of_getElem? (i := 344) (by decide +kernel)⟩
theorem lw_p9 : lw_okq (⟨"BranchForge$Code", "writePair", "(II)V"⟩, 10) := ⟨⟨by decide +kernel, by decide +kernel⟩, List.mem_of_getElem? (i := 133) (by decide +kernel), List.mem_of_getElem? (i := 348) (by decide +kernel), List.mem_of_getElem? (i := 349) (by decide +kernel)⟩
theorem lw_p10 : lw_okq (⟨"BranchForge$Code", "writeByte", "(I)V"⟩, 10) := ⟨⟨by decide +kernel, by decide +kernel⟩, List.mem_of_getElem? (i := 133) (by decide +kernel), List.mem_of_getElem? (i := 352) (by decide +kernel), List.mem_of_getElem? (i := 353) (by decide +kernel)⟩
theorem lw_p11 : lw_okq (⟨"BranchForge$Code", "writeTest", "(II)V"⟩, 10) := ⟨⟨by decide +kernel, by decide +kernel⟩, List.mem_of_getElem? (i := 133) (by decide +kernel), List.mem_of_getElem? (i := 367) (by decide +kernel), List.mem_of_getElem? (i := 368) (by decide +kernel)⟩
theorem lw_p12 : lw_okq (⟨"BranchForge$Code", "writePart", "(II)V"⟩, 10) := ⟨⟨by decide +kernel, by decide +kernel⟩, List.mem_of_getElem? (i := 133) (by decide +kernel), List.mem_of_getElem? (i := 372) (by decide +kernel), List.mem_of_getElem? (i := 373) (by decide +kernel)⟩
theorem lw_p13 : lw_okq (⟨"BranchForge$Machine", "runMethod", "(II)I"⟩, 5) := ⟨⟨by decide +kernel, by decide +kernel⟩, List.mem_of_getElem? (i := 179) (by decide +kernel), List.mem_of_getElem? (i := 437) (by decide +kernel), List.mem_of_getElem? (i := 438) (by decide +kernel)⟩
theorem lw_p14 : lw_okq (⟨"BranchForge$Machine", "testMove", "(III)I"⟩, 5) := ⟨⟨by decide +kernel, by decide +kernel⟩, List.mem_of_getElem? (i := 179) (by decide +kernel), List.mem_of_getElem? (i := 446) (by decide +kernel), List.mem_of_getElem? (i := 447) (by decide +kernel)⟩
theorem lw_p15 : lw_okq (⟨"BranchForge$Machine", "operand", "(III)I"⟩, 5) := ⟨⟨by decide +kernel, by decide +kernel⟩, List.mem_of_getElem? (i := 179) (by decide +kernel), List.mem_of_getElem? (i := 461) (by decide +kernel), List.mem_of_getElem? (i := 462) (by decide +kernel)⟩
def lw_privs_1 : List (MethodName × Nat) := [(⟨"BranchForge$Checker", "faultFrom", "(II)I"⟩, 2), (⟨"BranchForge$Checker", "faultAt", "(II)I"⟩, 2), (⟨"BranchForge$Checker", "isDangling", "(I)Z"⟩, 2), (⟨"BranchForge$Cutter", "cutFrom", "(III)V"⟩, 5), (⟨"BranchForge$Cutter", "cutChildren", "(II)V"⟩, 5), (⟨"BranchForge$Cutter", "splitLength", "(I)I"⟩, 5), (⟨"BranchForge$Cutter", "cutOut", "(I)V"⟩, 5), (⟨"BranchForge$Code", "writeMethod", "(II)V"⟩, 10), (⟨"BranchForge$Code", "writeCode", "(II)V"⟩, 10), (⟨"BranchForge$Code", "writePair", "(II)V"⟩, 10), (⟨"BranchForge$Code", "writeByte", "(I)V"⟩, 10), (⟨"BranchForge$Code", "writeTest", "(II)V"⟩, 10), (⟨"BranchForge$Code", "writePart", "(II)V"⟩, 10), (⟨"BranchForge$Machine", "runMethod", "(II)I"⟩, 5), (⟨"BranchForge$Machine", "testMove", "(III)I"⟩, 5), (⟨"BranchForge$Machine", "operand", "(III)I"⟩, 5)]
theorem lw_r1 : ∀ q ∈ lw_privs_1, lw_okq q := List.forall_mem_cons.mpr ⟨lw_p0, List.forall_mem_cons.mpr ⟨lw_p1, List.forall_mem_cons.mpr ⟨lw_p2, List.forall_mem_cons.mpr ⟨lw_p3, List.forall_mem_cons.mpr ⟨lw_p4, List.forall_mem_cons.mpr ⟨lw_p5, List.forall_mem_cons.mpr ⟨lw_p6, List.forall_mem_cons.mpr ⟨lw_p7, List.forall_mem_cons.mpr ⟨lw_p8, List.forall_mem_cons.mpr ⟨lw_p9, List.forall_mem_cons.mpr ⟨lw_p10, List.forall_mem_cons.mpr ⟨lw_p11, List.forall_mem_cons.mpr ⟨lw_p12, List.forall_mem_cons.mpr ⟨lw_p13, List.forall_mem_cons.mpr ⟨lw_p14, List.forall_mem_cons.mpr ⟨lw_p15, fun _ h => absurd h List.not_mem_nil⟩⟩⟩⟩⟩⟩⟩⟩⟩⟩⟩⟩⟩⟩⟩⟩
theorem lw_p16 : lw_okq (⟨"BranchForgeModel", "fault", "()I"⟩, 29) := ⟨⟨by decide +kernel, by decide +kernel⟩, List.mem_of_getElem? (i := 484) (by decide +kernel), List.mem_of_getElem? (i := 599) (by decide +kernel), List.mem_of_getElem? (i := 600) (by decide +kernel)⟩
theorem lw_p17 : lw_okq (⟨"BranchForgeModel", "wrong", "(II)I"⟩, 29) := ⟨⟨by decide +kernel, by decide +kernel⟩, List.mem_of_getElem? (i := 484) (by decide +kernel), List.mem_of_getElem? (i := 603) (by decide +kernel), List.mem_of_getElem? (i := 604) (by decide +kernel)⟩
theorem lw_p18 : lw_okq (⟨"BranchForgeModel", "cutTree", "(II)V"⟩, 29) := ⟨⟨by decide +kernel, by decide +kernel⟩, List.mem_of_getElem? (i := 484) (by decide +kernel), List.mem_of_getElem? (i := 607) (by decide +kernel), List.mem_of_getElem? (i := 608) (by decide +kernel)⟩
theorem lw_p19 : lw_okq (⟨"BranchForgeModel", "measure", "(II)V"⟩, 29) := ⟨⟨by decide +kernel, by decide +kernel⟩, List.mem_of_getElem? (i := 484) (by decide +kernel), List.mem_of_getElem? (i := 611) (by decide +kernel), List.mem_of_getElem? (i := 612) (by decide +kernel)⟩
theorem lw_p20 : lw_okq (⟨"BranchForgeModel", "bytesOf", "(I)I"⟩, 29) := ⟨⟨by decide +kernel, by decide +kernel⟩, List.mem_of_getElem? (i := 484) (by decide +kernel), List.mem_of_getElem? (i := 615) (by decide +kernel), List.mem_of_getElem? (i := 616) (by decide +kernel)⟩
theorem lw_p21 : lw_okq (⟨"BranchForgeModel", "far", "(I)I"⟩, 29) := ⟨⟨by decide +kernel, by decide +kernel⟩, List.mem_of_getElem? (i := 484) (by decide +kernel), List.mem_of_getElem? (i := 619) (by decide +kernel), List.mem_of_getElem? (i := 620) (by decide +kernel)⟩
theorem lw_p22 : lw_okq (⟨"BranchForgeModel", "part", "(I)I"⟩, 29) := ⟨⟨by decide +kernel, by decide +kernel⟩, List.mem_of_getElem? (i := 484) (by decide +kernel), List.mem_of_getElem? (i := 623) (by decide +kernel), List.mem_of_getElem? (i := 624) (by decide +kernel)⟩
theorem lw_p23 : lw_okq (⟨"BranchForgeModel", "cutOut", "(I)V"⟩, 29) := ⟨⟨by decide +kernel, by decide +kernel⟩, List.mem_of_getElem? (i := 484) (by decide +kernel), List.mem_of_getElem? (i := 627) (by decide +kernel), List.mem_of_getElem? (i := 628) (by decide +kernel)⟩
theorem lw_p24 : lw_okq (⟨"BranchForgeModel", "newMethod", "(I)V"⟩, 29) := ⟨⟨by decide +kernel, by decide +kernel⟩, List.mem_of_getElem? (i := 484) (by decide +kernel), List.mem_of_getElem? (i := 631) (by decide +kernel), List.mem_of_getElem? (i := 632) (by decide +kernel)⟩
theorem lw_p25 : lw_okq (⟨"BranchForgeModel", "writeAll", "(I)V"⟩, 29) := ⟨⟨by decide +kernel, by decide +kernel⟩, List.mem_of_getElem? (i := 484) (by decide +kernel), List.mem_of_getElem? (i := 635) (by decide +kernel), List.mem_of_getElem? (i := 636) (by decide +kernel)⟩
theorem lw_p26 : lw_okq (⟨"BranchForgeModel", "write", "(II)V"⟩, 29) := ⟨⟨by decide +kernel, by decide +kernel⟩, List.mem_of_getElem? (i := 484) (by decide +kernel), List.mem_of_getElem? (i := 639) (by decide +kernel), List.mem_of_getElem? (i := 640) (by decide +kernel)⟩
theorem lw_p27 : lw_okq (⟨"BranchForgeModel", "with", "(IIII)V"⟩, 29) := ⟨⟨by decide +kernel, by decide +kernel⟩, List.mem_of_getElem? (i := 484) (by decide +kernel), List.mem_of_getElem? (i := 643) (by decide +kernel), List.mem_of_getElem? (i := 644) (by decide +kernel)⟩
theorem lw_p28 : lw_okq (⟨"BranchForgeModel", "put", "(I)V"⟩, 29) := ⟨⟨by decide +kernel, by decide +kernel⟩, List.mem_of_getElem? (i := 484) (by decide +kernel), List.mem_of_getElem? (i := 647) (by decide +kernel), List.mem_of_getElem? (i := 648) (by decide +kernel)⟩
theorem lw_p29 : lw_okq (⟨"BranchForgeModel", "entryFor", "(III)I"⟩, 29) := ⟨⟨by decide +kernel, by decide +kernel⟩, List.mem_of_getElem? (i := 484) (by decide +kernel), List.mem_of_getElem? (i := 651) (by decide +kernel), List.mem_of_getElem? (i := 652) (by decide +kernel)⟩
theorem lw_p30 : lw_okq (⟨"BranchForgeModel", "isMethod", "(I)Z"⟩, 29) := ⟨⟨by decide +kernel, by decide +kernel⟩, List.mem_of_getElem? (i := 484) (by decide +kernel), List.mem_of_getElem? (i := 663) (by decide +kernel), List.mem_of_getElem? (i := 664) (by decide +kernel)⟩
theorem lw_p31 : lw_okq (⟨"BranchForgeModel", "goesToYes", "(I)Z"⟩, 29) := ⟨⟨by decide +kernel, by decide +kernel⟩, List.mem_of_getElem? (i := 484) (by decide +kernel), List.mem_of_getElem? (i := 698) (by decide +kernel), List.mem_of_getElem? (i := 699) (by decide +kernel)⟩
def lw_privs_2 : List (MethodName × Nat) := [(⟨"BranchForgeModel", "fault", "()I"⟩, 29), (⟨"BranchForgeModel", "wrong", "(II)I"⟩, 29), (⟨"BranchForgeModel", "cutTree", "(II)V"⟩, 29), (⟨"BranchForgeModel", "measure", "(II)V"⟩, 29), (⟨"BranchForgeModel", "bytesOf", "(I)I"⟩, 29), (⟨"BranchForgeModel", "far", "(I)I"⟩, 29), (⟨"BranchForgeModel", "part", "(I)I"⟩, 29), (⟨"BranchForgeModel", "cutOut", "(I)V"⟩, 29), (⟨"BranchForgeModel", "newMethod", "(I)V"⟩, 29), (⟨"BranchForgeModel", "writeAll", "(I)V"⟩, 29), (⟨"BranchForgeModel", "write", "(II)V"⟩, 29), (⟨"BranchForgeModel", "with", "(IIII)V"⟩, 29), (⟨"BranchForgeModel", "put", "(I)V"⟩, 29), (⟨"BranchForgeModel", "entryFor", "(III)I"⟩, 29), (⟨"BranchForgeModel", "isMethod", "(I)Z"⟩, 29), (⟨"BranchForgeModel", "goesToYes", "(I)Z"⟩, 29)]
theorem lw_r2 : ∀ q ∈ lw_privs_2, lw_okq q := List.forall_mem_cons.mpr ⟨lw_p16, List.forall_mem_cons.mpr ⟨lw_p17, List.forall_mem_cons.mpr ⟨lw_p18, List.forall_mem_cons.mpr ⟨lw_p19, List.forall_mem_cons.mpr ⟨lw_p20, List.forall_mem_cons.mpr ⟨lw_p21, List.forall_mem_cons.mpr ⟨lw_p22, List.forall_mem_cons.mpr ⟨lw_p23, List.forall_mem_cons.mpr ⟨lw_p24, List.forall_mem_cons.mpr ⟨lw_p25, List.forall_mem_cons.mpr ⟨lw_p26, List.forall_mem_cons.mpr ⟨lw_p27, List.forall_mem_cons.mpr ⟨lw_p28, List.forall_mem_cons.mpr ⟨lw_p29, List.forall_mem_cons.mpr ⟨lw_p30, List.forall_mem_cons.mpr ⟨lw_p31, fun _ h => absurd h List.not_mem_nil⟩⟩⟩⟩⟩⟩⟩⟩⟩⟩⟩⟩⟩⟩⟩⟩
def lw_privs : List (MethodName × Nat) := lw_privs_1 ++ (lw_privs_2)
def lw_tbl : List Cond := k2_sels lw_privs ++ tables_1
theorem lw_privs_ok : ∀ q ∈ lw_privs, lw_okq q := by
  show ∀ q ∈ lw_privs_1 ++ (lw_privs_2), lw_okq q
  exact List.forall_mem_append.mpr ⟨lw_r1, lw_r2⟩
end
section
/-- the numbers that a world's arrays and fields hold: by cell (fields: from 100 on), by place -/
abbrev St : Type := Nat → Nat → Int32
def ups (g : St) (k : Nat) (f : Nat → Int32) : St := fun j => bif Nat.beq j k then f else g j
def sc (g : St) (k : Nat) (v : Int32) : St := ups g k (fun _ => v)
def ar (g : St) (k : Nat) (i v : Int32) : St := ups g k (upd (g k) i.toNatClampNeg v)
theorem ups_s (g : St) (k : Nat) (f : Nat → Int32) : ups g k f k = f := by
  show (bif Nat.beq k k then f else g k) = f
  rw [Nat.beq_refl]; rfl
theorem ups_n (g : St) (k j : Nat) (f : Nat → Int32) (h : j ≠ k) : ups g k f j = g j := by
  show (bif Nat.beq j k then f else g j) = g j
  have : Nat.beq j k = false := by
    cases hb : Nat.beq j k with
    | false => rfl
    | true => exact absurd (Nat.eq_of_beq_eq_true hb) h
  rw [this]; rfl
theorem sc_s (g : St) (k : Nat) (v : Int32) (i : Nat) : sc g k v k i = v := by unfold sc; rw [ups_s]
theorem sc_n (g : St) (k j : Nat) (v : Int32) (h : j ≠ k) : sc g k v j = g j := ups_n _ _ _ _ h
theorem ar_s (g : St) (k : Nat) (i v : Int32) : ar g k i v k = upd (g k) i.toNatClampNeg v := ups_s _ _ _
theorem ar_n (g : St) (k j : Nat) (i v : Int32) (h : j ≠ k) : ar g k i v j = g j := ups_n _ _ _ _ h
-- world C
def pb_Fo_addNode_0 (K : Int32 → St → Prop) (x1 : Int32) (x2 : Int32) (x3 : Int32) (x4 : Int32) (x5 : Int32) (g : St) : Prop :=
  (((g 100 0) < (60 : Int32) → vp_in (g 100 0) 60 ∧ ∀ g1 : St, g1 = ar g 3 (g 100 0) x1 → vp_in (g1 100 0) 60 ∧ ∀ g2 : St, g2 = ar g1 4 (g1 100 0) x2 → vp_in (g2 100 0) 60 ∧ ∀ g3 : St, g3 = ar g2 5 (g2 100 0) x3 → vp_in (g3 100 0) 60 ∧ ∀ g4 : St, g4 = ar g3 6 (g3 100 0) x4 → vp_in (g4 100 0) 60 ∧ ∀ g5 : St, g5 = ar g4 7 (g4 100 0) x5 → ∀ g6 : St, g6 = sc g5 100 ((g5 100 0) + (1 : Int32)) → K ((g6 100 0) - (1 : Int32)) g6) ∧ (¬ (g 100 0) < (60 : Int32) → K (-1 : Int32) g))
def pc_Fo_addNode (x1 : Int32) (x2 : Int32) (x3 : Int32) (x4 : Int32) (x5 : Int32) (g : St) (K : Int32 → St → Prop) : Prop := pb_Fo_addNode_0 K x1 x2 x3 x4 x5 g
def pb_BF_leaf_0 (K : Int32 → St → Prop) (x1 : Int32) (g : St) : Prop :=
  pc_Fo_addNode (-1 : Int32) (0 : Int32) x1 (-1 : Int32) (-1 : Int32) g (fun v2 g1 => K v2 g1)
def pc_BF_leaf (x1 : Int32) (g : St) (K : Int32 → St → Prop) : Prop := pb_BF_leaf_0 K x1 g
def pb_BF_isFeature_0 (K : Int32 → St → Prop) (x0 : Int32) (g : St) : Prop :=
  ((x0 < 0 → K (0 : Int32) g) ∧ (¬ x0 < 0 → (((8 : Int32) ≤ x0 → K (0 : Int32) g) ∧ (¬ (8 : Int32) ≤ x0 → K (1 : Int32) g))))
def pc_BF_isFeature (x0 : Int32) (g : St) (K : Int32 → St → Prop) : Prop := pb_BF_isFeature_0 K x0 g
def pb_Ru_isBitRule_0 (K : Int32 → St → Prop) (x0 : Int32) (g : St) : Prop :=
  ((x0 < (4 : Int32) → K (0 : Int32) g) ∧ (¬ x0 < (4 : Int32) → K (1 : Int32) g))
def pc_Ru_isBitRule (x0 : Int32) (g : St) (K : Int32 → St → Prop) : Prop := pb_Ru_isBitRule_0 K x0 g
def pb_Ru_takesMark_0 (K : Int32 → St → Prop) (x0 : Int32) (x1 : Int32) (g : St) : Prop :=
  pc_Ru_isBitRule x0 g (fun v2 g1 => ((¬ v2 = 0 → K (1 : Int32) g1) ∧ (v2 = 0 → (((2139095040 : Int32) ≤ (x1 &&& (2147483647 : Int32)) → K (0 : Int32) g1) ∧ (¬ (2139095040 : Int32) ≤ (x1 &&& (2147483647 : Int32)) → K (1 : Int32) g1)))))
def pc_Ru_takesMark (x0 : Int32) (x1 : Int32) (g : St) (K : Int32 → St → Prop) : Prop := pb_Ru_takesMark_0 K x0 x1 g
def pb_BF_isNodeNumber_0 (K : Int32 → St → Prop) (x0 : Int32) (g : St) : Prop :=
  ((x0 < 0 → K (0 : Int32) g) ∧ (¬ x0 < 0 → (((60 : Int32) ≤ x0 → K (0 : Int32) g) ∧ (¬ (60 : Int32) ≤ x0 → K (1 : Int32) g))))
def pc_BF_isNodeNumber (x0 : Int32) (g : St) (K : Int32 → St → Prop) : Prop := pb_BF_isNodeNumber_0 K x0 g
def pb_BF_split_0 (K : Int32 → St → Prop) (x1 : Int32) (x2 : Int32) (x3 : Int32) (x4 : Int32) (x5 : Int32) (g : St) : Prop :=
  ((x1 < 0 → K (-1 : Int32) g) ∧ (¬ x1 < 0 → (((6 : Int32) ≤ x1 → K (-1 : Int32) g) ∧ (¬ (6 : Int32) ≤ x1 → pc_BF_isFeature x2 g (fun v2 g1 => ((v2 = 0 → K (-1 : Int32) g1) ∧ (¬ v2 = 0 → pc_Ru_takesMark x1 x3 g1 (fun v4 g3 => ((¬ v4 = 0 → pc_BF_isNodeNumber x4 g3 (fun v6 g5 => ((v6 = 0 → K (-1 : Int32) g5) ∧ (¬ v6 = 0 → pc_BF_isNodeNumber x5 g5 (fun v8 g7 => ((¬ v8 = 0 → pc_Fo_addNode x1 x2 x3 x4 x5 g7 (fun v10 g9 => K v10 g9)) ∧ (v8 = 0 → K (-1 : Int32) g7))))))) ∧ (v4 = 0 → K (-1 : Int32) g3))))))))))
def pc_BF_split (x1 : Int32) (x2 : Int32) (x3 : Int32) (x4 : Int32) (x5 : Int32) (g : St) (K : Int32 → St → Prop) : Prop := pb_BF_split_0 K x1 x2 x3 x4 x5 g
def pb_Fo_isNode_0 (K : Int32 → St → Prop) (x1 : Int32) (g : St) : Prop :=
  ((x1 < 0 → K (0 : Int32) g) ∧ (¬ x1 < 0 → (((g 100 0) ≤ x1 → K (0 : Int32) g) ∧ (¬ (g 100 0) ≤ x1 → K (1 : Int32) g))))
def pc_Fo_isNode (x1 : Int32) (g : St) (K : Int32 → St → Prop) : Prop := pb_Fo_isNode_0 K x1 g
def pb_Fo_addTree_0 (K : Int32 → St → Prop) (x1 : Int32) (g : St) : Prop :=
  (((8 : Int32) ≤ (g 101 0) → K (-1 : Int32) g) ∧ (¬ (8 : Int32) ≤ (g 101 0) → pc_Fo_isNode x1 g (fun v2 g1 => ((¬ v2 = 0 → vp_in (g1 101 0) 8 ∧ ∀ g3 : St, g3 = ar g1 8 (g1 101 0) x1 → ∀ g4 : St, g4 = sc g3 101 ((g3 101 0) + (1 : Int32)) → K ((g4 101 0) - (1 : Int32)) g4) ∧ (v2 = 0 → K (-1 : Int32) g1)))))
def pc_Fo_addTree (x1 : Int32) (g : St) (K : Int32 → St → Prop) : Prop := pb_Fo_addTree_0 K x1 g
def pb_BF_tree_0 (K : Int32 → St → Prop) (x1 : Int32) (g : St) : Prop :=
  pc_Fo_addTree x1 g (fun v2 g1 => K v2 g1)
def pc_BF_tree (x1 : Int32) (g : St) (K : Int32 → St → Prop) : Prop := pb_BF_tree_0 K x1 g
def pb_BF_isTableSize_0 (K : Int32 → St → Prop) (x0 : Int32) (x1 : Int32) (g : St) : Prop :=
  ((x0 = (60 : Int32) → K (1 : Int32) g) ∧ (¬ x0 = (60 : Int32) → (((60 : Int32) ≤ x0 → K (0 : Int32) g) ∧ (¬ (60 : Int32) ≤ x0 → ¬ (4 : Int32) = 0 ∧ ((x0 < (x1 / (4 : Int32)) → K (0 : Int32) g) ∧ (¬ x0 < (x1 / (4 : Int32)) → K (1 : Int32) g))))))
def pc_BF_isTableSize (x0 : Int32) (x1 : Int32) (g : St) (K : Int32 → St → Prop) : Prop := pb_BF_isTableSize_0 K x0 x1 g
def pb_Fo_isLeaf_0 (K : Int32 → St → Prop) (x1 : Int32) (g : St) : Prop :=
  vp_in x1 60 ∧ ((¬ (g 3 (x1).toNatClampNeg) = (-1 : Int32) → K (0 : Int32) g) ∧ ((g 3 (x1).toNatClampNeg) = (-1 : Int32) → K (1 : Int32) g))
def pc_Fo_isLeaf (x1 : Int32) (g : St) (K : Int32 → St → Prop) : Prop := pb_Fo_isLeaf_0 K x1 g
def pb_Ch_isDangling_0 (K : Int32 → St → Prop) (x1 : Int32) (g : St) : Prop :=
  pc_Fo_isLeaf x1 g (fun v2 g1 => ((¬ v2 = 0 → K (0 : Int32) g1) ∧ (v2 = 0 → vp_in x1 60 ∧ pc_Fo_isNode (g1 6 (x1).toNatClampNeg) g1 (fun v4 g3 => ((v4 = 0 → K (1 : Int32) g3) ∧ (¬ v4 = 0 → vp_in x1 60 ∧ pc_Fo_isNode (g3 7 (x1).toNatClampNeg) g3 (fun v6 g5 => ((¬ v6 = 0 → K (0 : Int32) g5) ∧ (v6 = 0 → K (1 : Int32) g5)))))))))
def pc_Ch_isDangling (x1 : Int32) (g : St) (K : Int32 → St → Prop) : Prop := pb_Ch_isDangling_0 K x1 g
def pb_Ch_faultAt_0 (K : Int32 → St → Prop) (x1 : Int32) (x2 : Int32) (g : St) : Prop :=
  vp_in x1 60 ∧ (((g 10 (x1).toNatClampNeg) = 0 → vp_in x1 60 ∧ ∀ g1 : St, g1 = ar g 10 x1 (1 : Int32) → ((x2 ≤ (12 : Int32) → pc_Ch_isDangling x1 g1 (fun v3 g2 => ((v3 = 0 → K (0 : Int32) g2) ∧ (¬ v3 = 0 → K ((100 : Int32) + x1) g2)))) ∧ (¬ x2 ≤ (12 : Int32) → K ((300 : Int32) + x1) g1))) ∧ (¬ (g 10 (x1).toNatClampNeg) = 0 → K ((200 : Int32) + x1) g))
def pc_Ch_faultAt (x1 : Int32) (x2 : Int32) (g : St) (K : Int32 → St → Prop) : Prop := pb_Ch_faultAt_0 K x1 x2 g
def pb_Ch_faultFrom_0 (rc : Int32 → Int32 → St → (Int32 → St → Prop) → Prop) (K : Int32 → St → Prop) (x1 : Int32) (x2 : Int32) (g : St) : Prop :=
  pc_Ch_faultAt x1 x2 g (fun v2 g1 => ∀ v3 : Int32, v3 = v2 → ((¬ v3 = 0 → K v3 g1) ∧ (v3 = 0 → pc_Fo_isLeaf x1 g1 (fun v5 g4 => ((v5 = 0 → vp_in x1 60 ∧ rc (g4 6 (x1).toNatClampNeg) (x2 + (1 : Int32)) g4 (fun v7 g6 => ∀ v8 : Int32, v8 = v7 → ((v8 = 0 → vp_in x1 60 ∧ rc (g6 7 (x1).toNatClampNeg) (x2 + (1 : Int32)) g6 (fun v10 g9 => K v10 g9)) ∧ (¬ v8 = 0 → K v8 g6)))) ∧ (¬ v5 = 0 → K v3 g4))))))
def pc_Ch_faultFrom : Nat → Int32 → Int32 → St → (Int32 → St → Prop) → Prop
  | 0 => fun _ _ _ _ => False
  | d + 1 => fun x1 x2 g K => pb_Ch_faultFrom_0 (pc_Ch_faultFrom d) K x1 x2 g
def pb_Ch_firstFault_25 (K : Int32 → St → Prop) (P25 : Int32 → Int32 → St → Prop) (x1 : Int32) (x2 : Int32) (g : St) : Prop :=
  (((g 101 0) ≤ x2 → K x1 g) ∧ (¬ (g 101 0) ≤ x2 → ((¬ x1 = 0 → K x1 g) ∧ (x1 = 0 → vp_in x2 8 ∧ pc_Ch_faultFrom 14 (g 8 (x2).toNatClampNeg) (0 : Int32) g (fun v2 g1 => ∀ v3 : Int32, v3 = v2 → ∀ v4 : Int32, v4 = x2 + (1 : Int32) → P25 v3 v4 g1)))))
def pl_Ch_firstFault_25 (K : Int32 → St → Prop) (x1 : Int32) (x2 : Int32) (g : St) : Prop :=
  ∀ P25 : Int32 → Int32 → St → Prop, (∀ (x1 : Int32) (x2 : Int32) (g : St), pb_Ch_firstFault_25 K P25 x1 x2 g → P25 x1 x2 g) → P25 x1 x2 g
def pb_Ch_firstFault_2 (K : Int32 → St → Prop) (P2 : Int32 → St → Prop) (x1 : Int32) (g : St) : Prop :=
  (((60 : Int32) ≤ x1 → ∀ v1 : Int32, v1 = (0 : Int32) → ∀ v2 : Int32, v2 = (0 : Int32) → pl_Ch_firstFault_25 K v1 v2 g) ∧ (¬ (60 : Int32) ≤ x1 → vp_in x1 60 ∧ ∀ g3 : St, g3 = ar g 10 x1 (0 : Int32) → ∀ v4 : Int32, v4 = x1 + (1 : Int32) → P2 v4 g3))
def pl_Ch_firstFault_2 (K : Int32 → St → Prop) (x1 : Int32) (g : St) : Prop :=
  ∀ P2 : Int32 → St → Prop, (∀ (x1 : Int32) (g : St), pb_Ch_firstFault_2 K P2 x1 g → P2 x1 g) → P2 x1 g
def pb_Ch_firstFault_0 (K : Int32 → St → Prop) (g : St) : Prop :=
  ∀ v1 : Int32, v1 = (0 : Int32) → pl_Ch_firstFault_2 K v1 g
def pc_Ch_firstFault (g : St) (K : Int32 → St → Prop) : Prop := pb_Ch_firstFault_0 K g
def pb_Cu_partLength_0 (K : Int32 → St → Prop) (x1 : Int32) (g : St) : Prop :=
  vp_in x1 60 ∧ ((¬ (g 13 (x1).toNatClampNeg) = (-1 : Int32) → K (3 : Int32) g) ∧ ((g 13 (x1).toNatClampNeg) = (-1 : Int32) → vp_in x1 60 ∧ K (g 12 (x1).toNatClampNeg) g))
def pc_Cu_partLength (x1 : Int32) (g : St) (K : Int32 → St → Prop) : Prop := pb_Cu_partLength_0 K x1 g
def pb_Cu_testLength_0 (K : Int32 → St → Prop) (x0 : Int32) (g : St) : Prop :=
  (((63 : Int32) < ((2 : Int32) + x0) → K (3 : Int32) g) ∧ (¬ (63 : Int32) < ((2 : Int32) + x0) → K (2 : Int32) g))
def pc_Cu_testLength (x0 : Int32) (g : St) (K : Int32 → St → Prop) : Prop := pb_Cu_testLength_0 K x0 g
def pb_Cu_splitLength_0 (K : Int32 → St → Prop) (x1 : Int32) (g : St) : Prop :=
  vp_in x1 60 ∧ pc_Cu_partLength (g 6 (x1).toNatClampNeg) g (fun v2 g1 => ∀ v3 : Int32, v3 = v2 → pc_Cu_testLength v3 g1 (fun v5 g4 => vp_in x1 60 ∧ pc_Cu_partLength (g4 7 (x1).toNatClampNeg) g4 (fun v7 g6 => K ((((4 : Int32) + v5) + v3) + v7) g6)))
def pc_Cu_splitLength (x1 : Int32) (g : St) (K : Int32 → St → Prop) : Prop := pb_Cu_splitLength_0 K x1 g
def pb_Cu_cutOut_0 (K : St → Prop) (x1 : Int32) (g : St) : Prop :=
  (((60 : Int32) ≤ (g 102 0) → K g) ∧ (¬ (60 : Int32) ≤ (g 102 0) → vp_in x1 60 ∧ ∀ g1 : St, g1 = ar g 13 x1 (g 102 0) → vp_in (g1 102 0) 60 ∧ ∀ g2 : St, g2 = ar g1 14 (g1 102 0) x1 → ∀ g3 : St, g3 = sc g2 102 ((g2 102 0) + (1 : Int32)) → K g3))
def pc_Cu_cutOut (x1 : Int32) (g : St) (K : St → Prop) : Prop := pb_Cu_cutOut_0 K x1 g
def pb_Cu_cutChildren_88 (K : St → Prop) (x1 : Int32) (x2 : Int32) (x3 : Int32) (x4 : Int32) (x5 : Int32) (t1 : Int32) (g : St) : Prop :=
  pc_Cu_cutOut t1 g (fun g1 => K g1)
def pb_Cu_cutChildren_64 (K : St → Prop) (x1 : Int32) (x2 : Int32) (x3 : Int32) (x4 : Int32) (x5 : Int32) (t1 : Int32) (g : St) : Prop :=
  pc_Cu_cutOut t1 g (fun g1 => pc_Cu_splitLength x1 g1 (fun v3 g2 => ((v3 ≤ x2 → K g2) ∧ (¬ v3 ≤ x2 → ((x5 = 0 → pb_Cu_cutChildren_88 K x1 x2 x3 x4 x5 x3 g2) ∧ (¬ x5 = 0 → pb_Cu_cutChildren_88 K x1 x2 x3 x4 x5 x4 g2))))))
def pb_Cu_cutChildren_50 (K : St → Prop) (x1 : Int32) (x2 : Int32) (x3 : Int32) (x4 : Int32) (t0 : Int32) (g : St) : Prop :=
  ∀ v1 : Int32, v1 = t0 → ((v1 = 0 → pb_Cu_cutChildren_64 K x1 x2 x3 x4 v1 x4 g) ∧ (¬ v1 = 0 → pb_Cu_cutChildren_64 K x1 x2 x3 x4 v1 x3 g))
def pb_Cu_cutChildren_0 (K : St → Prop) (x1 : Int32) (x2 : Int32) (g : St) : Prop :=
  vp_in x1 60 ∧ ∀ v1 : Int32, v1 = (g 6 (x1).toNatClampNeg) → vp_in x1 60 ∧ ∀ v2 : Int32, v2 = (g 7 (x1).toNatClampNeg) → pc_Cu_splitLength x1 g (fun v4 g3 => ((x2 < v4 → pc_Cu_partLength v1 g3 (fun v6 g5 => pc_Cu_partLength v2 g5 (fun v8 g7 => ((v6 < v8 → pb_Cu_cutChildren_50 K x1 x2 v1 v2 (0 : Int32) g7) ∧ (¬ v6 < v8 → pb_Cu_cutChildren_50 K x1 x2 v1 v2 (1 : Int32) g7))))) ∧ (¬ x2 < v4 → K g3)))
def pc_Cu_cutChildren (x1 : Int32) (x2 : Int32) (g : St) (K : St → Prop) : Prop := pb_Cu_cutChildren_0 K x1 x2 g
def pb_Cu_cutFrom_17 (rc : Int32 → Int32 → Int32 → St → (St → Prop) → Prop) (K : St → Prop) (x1 : Int32) (x2 : Int32) (x3 : Int32) (g : St) : Prop :=
  vp_in x1 60 ∧ ∀ g1 : St, g1 = ar g 12 x1 (3 : Int32) → K g1
def pb_Cu_cutFrom_0 (rc : Int32 → Int32 → Int32 → St → (St → Prop) → Prop) (K : St → Prop) (x1 : Int32) (x2 : Int32) (x3 : Int32) (g : St) : Prop :=
  pc_Fo_isLeaf x1 g (fun v2 g1 => ((¬ v2 = 0 → pb_Cu_cutFrom_17 rc K x1 x2 x3 g1) ∧ (v2 = 0 → ((x3 ≤ (12 : Int32) → vp_in x1 60 ∧ rc (g1 6 (x1).toNatClampNeg) x2 (x3 + (1 : Int32)) g1 (fun g3 => vp_in x1 60 ∧ rc (g3 7 (x1).toNatClampNeg) x2 (x3 + (1 : Int32)) g3 (fun g4 => pc_Cu_cutChildren x1 x2 g4 (fun g5 => pc_Cu_splitLength x1 g5 (fun v7 g6 => vp_in x1 60 ∧ ∀ g8 : St, g8 = ar g6 12 x1 v7 → K g8))))) ∧ (¬ x3 ≤ (12 : Int32) → pb_Cu_cutFrom_17 rc K x1 x2 x3 g1)))))
def pc_Cu_cutFrom : Nat → Int32 → Int32 → Int32 → St → (St → Prop) → Prop
  | 0 => fun _ _ _ _ _ => False
  | d + 1 => fun x1 x2 x3 g K => pb_Cu_cutFrom_0 (pc_Cu_cutFrom d) K x1 x2 x3 g
def pb_Cu_cutTrees_28 (K : St → Prop) (P28 : Int32 → Int32 → St → Prop) (x1 : Int32) (x2 : Int32) (g : St) : Prop :=
  (((g 101 0) ≤ x2 → K g) ∧ (¬ (g 101 0) ≤ x2 → vp_in x2 8 ∧ pc_Cu_cutFrom 14 (g 8 (x2).toNatClampNeg) x1 (0 : Int32) g (fun g1 => vp_in x2 8 ∧ pc_Cu_cutOut (g1 8 (x2).toNatClampNeg) g1 (fun g2 => ∀ v3 : Int32, v3 = x2 + (1 : Int32) → P28 x1 v3 g2))))
def pl_Cu_cutTrees_28 (K : St → Prop) (x1 : Int32) (x2 : Int32) (g : St) : Prop :=
  ∀ P28 : Int32 → Int32 → St → Prop, (∀ (x1 : Int32) (x2 : Int32) (g : St), pb_Cu_cutTrees_28 K P28 x1 x2 g → P28 x1 x2 g) → P28 x1 x2 g
def pb_Cu_cutTrees_7 (K : St → Prop) (P7 : Int32 → Int32 → St → Prop) (x1 : Int32) (x2 : Int32) (g : St) : Prop :=
  (((60 : Int32) ≤ x2 → ∀ v1 : Int32, v1 = (0 : Int32) → pl_Cu_cutTrees_28 K x1 v1 g) ∧ (¬ (60 : Int32) ≤ x2 → vp_in x2 60 ∧ ∀ g2 : St, g2 = ar g 13 x2 (-1 : Int32) → ∀ v3 : Int32, v3 = x2 + (1 : Int32) → P7 x1 v3 g2))
def pl_Cu_cutTrees_7 (K : St → Prop) (x1 : Int32) (x2 : Int32) (g : St) : Prop :=
  ∀ P7 : Int32 → Int32 → St → Prop, (∀ (x1 : Int32) (x2 : Int32) (g : St), pb_Cu_cutTrees_7 K P7 x1 x2 g → P7 x1 x2 g) → P7 x1 x2 g
def pb_Cu_cutTrees_0 (K : St → Prop) (x1 : Int32) (g : St) : Prop :=
  ∀ g1 : St, g1 = sc g 102 (0 : Int32) → ∀ v2 : Int32, v2 = (0 : Int32) → pl_Cu_cutTrees_7 K x1 v2 g1
def pc_Cu_cutTrees (x1 : Int32) (g : St) (K : St → Prop) : Prop := pb_Cu_cutTrees_0 K x1 g
def pb_Ta_forgetAll_0 (K : St → Prop) (g : St) : Prop :=
  ∀ g1 : St, g1 = sc g 103 (0 : Int32) → vp_in (0 : Int32) 61 ∧ ∀ g2 : St, g2 = ar g1 18 (0 : Int32) (0 : Int32) → K g2
def pc_Ta_forgetAll (g : St) (K : St → Prop) : Prop := pb_Ta_forgetAll_0 K g
def pb_Ta_openClass_0 (K : St → Prop) (g : St) : Prop :=
  (((60 : Int32) ≤ (g 103 0) → K g) ∧ (¬ (60 : Int32) ≤ (g 103 0) → vp_in (g 103 0) 61 ∧ vp_in ((g 103 0) + (1 : Int32)) 61 ∧ ∀ g1 : St, g1 = ar g 18 ((g 103 0) + (1 : Int32)) (g 18 ((g 103 0)).toNatClampNeg) → ∀ g2 : St, g2 = sc g1 103 ((g1 103 0) + (1 : Int32)) → K g2))
def pc_Ta_openClass (g : St) (K : St → Prop) : Prop := pb_Ta_openClass_0 K g
def pb_Ta_sizeOf_0 (K : Int32 → St → Prop) (x1 : Int32) (g : St) : Prop :=
  vp_in (x1 + (1 : Int32)) 61 ∧ vp_in x1 61 ∧ K ((g 18 ((x1 + (1 : Int32))).toNatClampNeg) - (g 18 (x1).toNatClampNeg)) g
def pc_Ta_sizeOf (x1 : Int32) (g : St) (K : Int32 → St → Prop) : Prop := pb_Ta_sizeOf_0 K x1 g
def pb_Ta_latestSize_0 (K : Int32 → St → Prop) (g : St) : Prop :=
  (((g 103 0) ≤ 0 → K (0 : Int32) g) ∧ (¬ (g 103 0) ≤ 0 → pc_Ta_sizeOf ((g 103 0) - (1 : Int32)) g (fun v2 g1 => K v2 g1)))
def pc_Ta_latestSize (g : St) (K : Int32 → St → Prop) : Prop := pb_Ta_latestSize_0 K g
def pb_Co_writeByte_0 (K : St → Prop) (x1 : Int32) (g : St) : Prop :=
  (((600 : Int32) ≤ (g 104 0) → K g) ∧ (¬ (600 : Int32) ≤ (g 104 0) → vp_in (g 104 0) 600 ∧ ∀ g1 : St, g1 = ar g 20 (g 104 0) x1 → ∀ g2 : St, g2 = sc g1 104 ((g1 104 0) + (1 : Int32)) → K g2))
def pc_Co_writeByte (x1 : Int32) (g : St) (K : St → Prop) : Prop := pb_Co_writeByte_0 K x1 g
def pb_Co_writePair_0 (K : St → Prop) (x1 : Int32) (x2 : Int32) (g : St) : Prop :=
  pc_Co_writeByte x1 g (fun g1 => pc_Co_writeByte x2 g1 (fun g2 => K g2))
def pc_Co_writePair (x1 : Int32) (x2 : Int32) (g : St) (K : St → Prop) : Prop := pb_Co_writePair_0 K x1 x2 g
def pb_Fo_kindOfEntry_0 (K : Int32 → St → Prop) (x1 : Int32) (g : St) : Prop :=
  pc_Fo_isLeaf x1 g (fun v2 g1 => ((v2 = 0 → vp_in x1 60 ∧ pc_Ru_isBitRule (g1 3 (x1).toNatClampNeg) g1 (fun v4 g3 => ((v4 = 0 → K (1 : Int32) g3) ∧ (¬ v4 = 0 → K (3 : Int32) g3)))) ∧ (¬ v2 = 0 → K (2 : Int32) g1)))
def pc_Fo_kindOfEntry (x1 : Int32) (g : St) (K : Int32 → St → Prop) : Prop := pb_Fo_kindOfEntry_0 K x1 g
def pb_Ta_numberFor_71 (K : Int32 → St → Prop) (P37 : Int32 → Int32 → Int32 → Int32 → Int32 → St → Prop) (x1 : Int32) (x2 : Int32) (x3 : Int32) (x4 : Int32) (x5 : Int32) (g : St) : Prop :=
  ∀ v1 : Int32, v1 = x5 + (1 : Int32) → P37 x1 x2 x3 x4 v1 g
def pb_Ta_numberFor_113 (K : Int32 → St → Prop) (x1 : Int32) (x2 : Int32) (x3 : Int32) (x4 : Int32) (x5 : Int32) (g : St) : Prop :=
  K (x4 - x3) g
def pb_Ta_numberFor_37 (K : Int32 → St → Prop) (P37 : Int32 → Int32 → Int32 → Int32 → Int32 → St → Prop) (x1 : Int32) (x2 : Int32) (x3 : Int32) (x4 : Int32) (x5 : Int32) (g : St) : Prop :=
  ((x4 ≤ x5 → (((120 : Int32) ≤ x4 → pb_Ta_numberFor_113 K x1 x2 x3 x4 x5 g) ∧ (¬ (120 : Int32) ≤ x4 → vp_in x4 120 ∧ ∀ g1 : St, g1 = ar g 16 x4 x1 → vp_in x4 120 ∧ ∀ g2 : St, g2 = ar g1 17 x4 x2 → vp_in (g2 103 0) 61 ∧ ∀ g3 : St, g3 = ar g2 18 (g2 103 0) (x4 + (1 : Int32)) → pb_Ta_numberFor_113 K x1 x2 x3 x4 x5 g3))) ∧ (¬ x4 ≤ x5 → vp_in x5 120 ∧ ((¬ (g 16 (x5).toNatClampNeg) = x1 → pb_Ta_numberFor_71 K P37 x1 x2 x3 x4 x5 g) ∧ ((g 16 (x5).toNatClampNeg) = x1 → vp_in x5 120 ∧ ((¬ (g 17 (x5).toNatClampNeg) = x2 → pb_Ta_numberFor_71 K P37 x1 x2 x3 x4 x5 g) ∧ ((g 17 (x5).toNatClampNeg) = x2 → K (x5 - x3) g))))))
def pl_Ta_numberFor_37 (K : Int32 → St → Prop) (x1 : Int32) (x2 : Int32) (x3 : Int32) (x4 : Int32) (x5 : Int32) (g : St) : Prop :=
  ∀ P37 : Int32 → Int32 → Int32 → Int32 → Int32 → St → Prop, (∀ (x1 : Int32) (x2 : Int32) (x3 : Int32) (x4 : Int32) (x5 : Int32) (g : St), pb_Ta_numberFor_37 K P37 x1 x2 x3 x4 x5 g → P37 x1 x2 x3 x4 x5 g) → P37 x1 x2 x3 x4 x5 g
def pb_Ta_numberFor_22 (K : Int32 → St → Prop) (x1 : Int32) (x2 : Int32) (t0 : Int32) (g : St) : Prop :=
  ∀ v1 : Int32, v1 = t0 → vp_in (g 103 0) 61 ∧ ∀ v2 : Int32, v2 = (g 18 ((g 103 0)).toNatClampNeg) → ∀ v3 : Int32, v3 = v1 → pl_Ta_numberFor_37 K x1 x2 v1 v2 v3 g
def pb_Ta_numberFor_0 (K : Int32 → St → Prop) (x1 : Int32) (x2 : Int32) (g : St) : Prop :=
  (((g 103 0) ≤ 0 → pb_Ta_numberFor_22 K x1 x2 (0 : Int32) g) ∧ (¬ (g 103 0) ≤ 0 → vp_in ((g 103 0) - (1 : Int32)) 61 ∧ pb_Ta_numberFor_22 K x1 x2 (g 18 (((g 103 0) - (1 : Int32))).toNatClampNeg) g))
def pc_Ta_numberFor (x1 : Int32) (x2 : Int32) (g : St) (K : Int32 → St → Prop) : Prop := pb_Ta_numberFor_0 K x1 x2 g
def pb_Co_writeTest_0 (K : St → Prop) (x1 : Int32) (x2 : Int32) (g : St) : Prop :=
  pc_Cu_testLength x2 g (fun v2 g1 => ∀ v3 : Int32, v3 = v2 → ∀ v4 : Int32, v4 = (v3 + x2) → ((¬ v3 = (2 : Int32) → pc_Co_writePair ((20 : Int32) + x1) (v4 >>> ((8 : Int32) &&& 31)) g1 (fun g5 => pc_Co_writeByte (v4 &&& (255 : Int32)) g5 (fun g6 => K g6))) ∧ (v3 = (2 : Int32) → pc_Co_writePair ((10 : Int32) + x1) v4 g1 (fun g7 => K g7))))
def pc_Co_writeTest (x1 : Int32) (x2 : Int32) (g : St) (K : St → Prop) : Prop := pb_Co_writeTest_0 K x1 x2 g
def pb_Co_writePart_0 (rc : Int32 → Int32 → St → (St → Prop) → Prop) (K : St → Prop) (x1 : Int32) (x2 : Int32) (g : St) : Prop :=
  vp_in x1 60 ∧ ∀ v1 : Int32, v1 = (g 13 (x1).toNatClampNeg) → ((¬ v1 = (-1 : Int32) → pc_Ta_numberFor (4 : Int32) v1 g (fun v3 g2 => pc_Co_writePair (4 : Int32) v3 g2 (fun g4 => pc_Co_writeByte (3 : Int32) g4 (fun g5 => K g5)))) ∧ (v1 = (-1 : Int32) → rc x1 x2 g (fun g6 => K g6)))
def pc_Co_writePart (rc : Int32 → Int32 → St → (St → Prop) → Prop) (x1 : Int32) (x2 : Int32) (g : St) (K : St → Prop) : Prop := pb_Co_writePart_0 rc K x1 x2 g
def pb_Co_writeCode_34 (rc : Int32 → Int32 → St → (St → Prop) → Prop) (K : St → Prop) (x1 : Int32) (x2 : Int32) (x3 : Int32) (g : St) : Prop :=
  pc_Fo_kindOfEntry x1 g (fun v2 g1 => vp_in x1 60 ∧ pc_Ta_numberFor v2 (g1 5 (x1).toNatClampNeg) g1 (fun v4 g3 => pc_Co_writePair (2 : Int32) v4 g3 (fun g5 => ((x3 = 0 → vp_in x1 60 ∧ vp_in x1 60 ∧ pc_Cu_partLength (g5 6 (x1).toNatClampNeg) g5 (fun v7 g6 => pc_Co_writeTest (g5 3 (x1).toNatClampNeg) v7 g6 (fun g8 => vp_in x1 60 ∧ pc_Co_writePart rc (g8 6 (x1).toNatClampNeg) (x2 + (1 : Int32)) g8 (fun g9 => vp_in x1 60 ∧ pc_Co_writePart rc (g9 7 (x1).toNatClampNeg) (x2 + (1 : Int32)) g9 (fun g10 => K g10))))) ∧ (¬ x3 = 0 → pc_Co_writeByte (3 : Int32) g5 (fun g11 => K g11))))))
def pb_Co_writeCode_0 (rc : Int32 → Int32 → St → (St → Prop) → Prop) (K : St → Prop) (x1 : Int32) (x2 : Int32) (g : St) : Prop :=
  ((x2 ≤ (12 : Int32) → pc_Fo_isLeaf x1 g (fun v2 g1 => ∀ v3 : Int32, v3 = v2 → ((¬ v3 = 0 → pb_Co_writeCode_34 rc K x1 x2 v3 g1) ∧ (v3 = 0 → vp_in x1 60 ∧ pc_Co_writePair (1 : Int32) (g1 4 (x1).toNatClampNeg) g1 (fun g4 => pb_Co_writeCode_34 rc K x1 x2 v3 g4))))) ∧ (¬ x2 ≤ (12 : Int32) → K g))
def pc_Co_writeCode : Nat → Int32 → Int32 → St → (St → Prop) → Prop
  | 0 => fun _ _ _ _ => False
  | d + 1 => fun x1 x2 g K => pb_Co_writeCode_0 (pc_Co_writeCode d) K x1 x2 g
def pb_Ta_shrinkLatest_0 (K : St → Prop) (x1 : Int32) (g : St) : Prop :=
  (((g 103 0) ≤ 0 → K g) ∧ (¬ (g 103 0) ≤ 0 → vp_in ((g 103 0) - (1 : Int32)) 61 ∧ vp_in (g 103 0) 61 ∧ ∀ g1 : St, g1 = ar g 18 (g 103 0) ((g 18 (((g 103 0) - (1 : Int32))).toNatClampNeg) + x1) → K g1))
def pc_Ta_shrinkLatest (x1 : Int32) (g : St) (K : St → Prop) : Prop := pb_Ta_shrinkLatest_0 K x1 g
def pb_Co_writeMethod_82 (K : St → Prop) (x1 : Int32) (x2 : Int32) (x3 : Int32) (g : St) : Prop :=
  vp_in (x1 + (1 : Int32)) 61 ∧ ∀ g1 : St, g1 = ar g 21 (x1 + (1 : Int32)) (g 104 0) → vp_in x1 60 ∧ ∀ g2 : St, g2 = ar g1 22 x1 ((g1 103 0) - (1 : Int32)) → K g2
def pb_Co_writeMethod_0 (K : St → Prop) (x1 : Int32) (x2 : Int32) (g : St) : Prop :=
  pc_Ta_latestSize g (fun v2 g1 => ∀ v3 : Int32, v3 = v2 → vp_in x1 61 ∧ ∀ g4 : St, g4 = ar g1 21 x1 (g1 104 0) → vp_in x1 60 ∧ pc_Co_writeCode 14 (g4 14 (x1).toNatClampNeg) (0 : Int32) g4 (fun g5 => pc_Ta_latestSize g5 (fun v7 g6 => ((v7 ≤ x2 → pb_Co_writeMethod_82 K x1 x2 v3 g6) ∧ (¬ v7 ≤ x2 → pc_Ta_shrinkLatest v3 g6 (fun g8 => pc_Ta_openClass g8 (fun g9 => vp_in x1 61 ∧ ∀ g10 : St, g10 = sc g9 104 (g9 21 (x1).toNatClampNeg) → vp_in x1 60 ∧ pc_Co_writeCode 14 (g10 14 (x1).toNatClampNeg) (0 : Int32) g10 (fun g11 => pb_Co_writeMethod_82 K x1 x2 v3 g11))))))))
def pc_Co_writeMethod (x1 : Int32) (x2 : Int32) (g : St) (K : St → Prop) : Prop := pb_Co_writeMethod_0 K x1 x2 g
def pb_Co_writeMethods_65 (K : St → Prop) (P65 : Int32 → Int32 → St → Prop) (x1 : Int32) (x2 : Int32) (g : St) : Prop :=
  (((g 106 0) ≤ x2 → K g) ∧ (¬ (g 106 0) ≤ x2 → vp_in x2 8 ∧ vp_in (g 8 (x2).toNatClampNeg) 60 ∧ vp_in x2 8 ∧ ∀ g1 : St, g1 = ar g 23 x2 (g 13 ((g 8 (x2).toNatClampNeg)).toNatClampNeg) → ∀ v2 : Int32, v2 = x2 + (1 : Int32) → P65 x1 v2 g1))
def pl_Co_writeMethods_65 (K : St → Prop) (x1 : Int32) (x2 : Int32) (g : St) : Prop :=
  ∀ P65 : Int32 → Int32 → St → Prop, (∀ (x1 : Int32) (x2 : Int32) (g : St), pb_Co_writeMethods_65 K P65 x1 x2 g → P65 x1 x2 g) → P65 x1 x2 g
def pb_Co_writeMethods_32 (K : St → Prop) (P32 : Int32 → Int32 → St → Prop) (x1 : Int32) (x2 : Int32) (g : St) : Prop :=
  (((g 105 0) ≤ x2 → ∀ g1 : St, g1 = sc g 106 (g 101 0) → ∀ v2 : Int32, v2 = (0 : Int32) → pl_Co_writeMethods_65 K x1 v2 g1) ∧ (¬ (g 105 0) ≤ x2 → pc_Co_writeMethod x2 x1 g (fun g3 => ∀ v4 : Int32, v4 = x2 + (1 : Int32) → P32 x1 v4 g3)))
def pl_Co_writeMethods_32 (K : St → Prop) (x1 : Int32) (x2 : Int32) (g : St) : Prop :=
  ∀ P32 : Int32 → Int32 → St → Prop, (∀ (x1 : Int32) (x2 : Int32) (g : St), pb_Co_writeMethods_32 K P32 x1 x2 g → P32 x1 x2 g) → P32 x1 x2 g
def pb_Co_writeMethods_0 (K : St → Prop) (x1 : Int32) (g : St) : Prop :=
  ∀ g1 : St, g1 = sc g 104 (0 : Int32) → pc_Ta_forgetAll g1 (fun g2 => pc_Ta_openClass g2 (fun g3 => ∀ g4 : St, g4 = sc g3 105 (g3 102 0) → ∀ v5 : Int32, v5 = (0 : Int32) → pl_Co_writeMethods_32 K x1 v5 g4))
def pc_Co_writeMethods (x1 : Int32) (g : St) (K : St → Prop) : Prop := pb_Co_writeMethods_0 K x1 g
def pb_BF_compile_0 (K : Int32 → St → Prop) (x1 : Int32) (x2 : Int32) (g : St) : Prop :=
  ((x1 < (20 : Int32) → K (-1 : Int32) g) ∧ (¬ x1 < (20 : Int32) → (((400 : Int32) < x1 → K (-1 : Int32) g) ∧ (¬ (400 : Int32) < x1 → pc_BF_isTableSize x2 x1 g (fun v2 g1 => ((v2 = 0 → K (-1 : Int32) g1) ∧ (¬ v2 = 0 → ((¬ (g1 101 0) = 0 → pc_Ch_firstFault g1 (fun v4 g3 => ∀ v5 : Int32, v5 = v4 → ((v5 = 0 → pc_Cu_cutTrees x1 g3 (fun g6 => pc_Co_writeMethods x2 g6 (fun g7 => K (g7 105 0) g7))) ∧ (¬ v5 = 0 → K (- v5) g3)))) ∧ ((g1 101 0) = 0 → K (-1 : Int32) g1)))))))))
def pc_BF_compile (x1 : Int32) (x2 : Int32) (g : St) (K : Int32 → St → Prop) : Prop := pb_BF_compile_0 K x1 x2 g
def pb_BF_methods_0 (K : Int32 → St → Prop) (g : St) : Prop :=
  K (g 105 0) g
def pc_BF_methods (g : St) (K : Int32 → St → Prop) : Prop := pb_BF_methods_0 K g
def pb_Co_isMethod_0 (K : Int32 → St → Prop) (x1 : Int32) (g : St) : Prop :=
  ((x1 < 0 → K (0 : Int32) g) ∧ (¬ x1 < 0 → (((g 105 0) ≤ x1 → K (0 : Int32) g) ∧ (¬ (g 105 0) ≤ x1 → K (1 : Int32) g))))
def pc_Co_isMethod (x1 : Int32) (g : St) (K : Int32 → St → Prop) : Prop := pb_Co_isMethod_0 K x1 g
def pb_BF_length_0 (K : Int32 → St → Prop) (x1 : Int32) (g : St) : Prop :=
  pc_Co_isMethod x1 g (fun v2 g1 => ((v2 = 0 → K (-1 : Int32) g1) ∧ (¬ v2 = 0 → vp_in (x1 + (1 : Int32)) 61 ∧ vp_in x1 61 ∧ K ((g1 21 ((x1 + (1 : Int32))).toNatClampNeg) - (g1 21 (x1).toNatClampNeg)) g1)))
def pc_BF_length (x1 : Int32) (g : St) (K : Int32 → St → Prop) : Prop := pb_BF_length_0 K x1 g
def pb_BF_byteAt_0 (K : Int32 → St → Prop) (x1 : Int32) (x2 : Int32) (g : St) : Prop :=
  ((x2 < 0 → K (-1 : Int32) g) ∧ (¬ x2 < 0 → pc_BF_length x1 g (fun v2 g1 => ((v2 ≤ x2 → K (-1 : Int32) g1) ∧ (¬ v2 ≤ x2 → vp_in x1 61 ∧ vp_in ((g1 21 (x1).toNatClampNeg) + x2) 600 ∧ K (g1 20 (((g1 21 (x1).toNatClampNeg) + x2)).toNatClampNeg) g1)))))
def pc_BF_byteAt (x1 : Int32) (x2 : Int32) (g : St) (K : Int32 → St → Prop) : Prop := pb_BF_byteAt_0 K x1 x2 g
def pb_BF_classOf_0 (K : Int32 → St → Prop) (x1 : Int32) (g : St) : Prop :=
  pc_Co_isMethod x1 g (fun v2 g1 => ((v2 = 0 → K (-1 : Int32) g1) ∧ (¬ v2 = 0 → vp_in x1 60 ∧ K (g1 22 (x1).toNatClampNeg) g1)))
def pc_BF_classOf (x1 : Int32) (g : St) (K : Int32 → St → Prop) : Prop := pb_BF_classOf_0 K x1 g
def pb_BF_classes_0 (K : Int32 → St → Prop) (g : St) : Prop :=
  K (g 103 0) g
def pc_BF_classes (g : St) (K : Int32 → St → Prop) : Prop := pb_BF_classes_0 K g
def pb_Ta_isClass_0 (K : Int32 → St → Prop) (x1 : Int32) (g : St) : Prop :=
  ((x1 < 0 → K (0 : Int32) g) ∧ (¬ x1 < 0 → (((g 103 0) ≤ x1 → K (0 : Int32) g) ∧ (¬ (g 103 0) ≤ x1 → K (1 : Int32) g))))
def pc_Ta_isClass (x1 : Int32) (g : St) (K : Int32 → St → Prop) : Prop := pb_Ta_isClass_0 K x1 g
def pb_BF_entries_0 (K : Int32 → St → Prop) (x1 : Int32) (g : St) : Prop :=
  pc_Ta_isClass x1 g (fun v2 g1 => ((v2 = 0 → K (-1 : Int32) g1) ∧ (¬ v2 = 0 → pc_Ta_sizeOf x1 g1 (fun v4 g3 => K v4 g3))))
def pc_BF_entries (x1 : Int32) (g : St) (K : Int32 → St → Prop) : Prop := pb_BF_entries_0 K x1 g
def pb_Ta_holds_0 (K : Int32 → St → Prop) (x1 : Int32) (x2 : Int32) (g : St) : Prop :=
  pc_Ta_isClass x1 g (fun v2 g1 => ((v2 = 0 → K (0 : Int32) g1) ∧ (¬ v2 = 0 → ((x2 < 0 → K (0 : Int32) g1) ∧ (¬ x2 < 0 → pc_Ta_sizeOf x1 g1 (fun v4 g3 => ((v4 ≤ x2 → K (0 : Int32) g3) ∧ (¬ v4 ≤ x2 → K (1 : Int32) g3))))))))
def pc_Ta_holds (x1 : Int32) (x2 : Int32) (g : St) (K : Int32 → St → Prop) : Prop := pb_Ta_holds_0 K x1 x2 g
def pb_BF_entry_0 (K : Int64 → St → Prop) (x1 : Int32) (x2 : Int32) (g : St) : Prop :=
  pc_Ta_holds x1 x2 g (fun v2 g1 => ((¬ v2 = 0 → vp_in x1 61 ∧ ∀ v3 : Int32, v3 = ((g1 18 (x1).toNatClampNeg) + x2) → vp_in v3 120 ∧ vp_in v3 120 ∧ K ((((g1 16 (v3).toNatClampNeg)).toInt64 <<< (((32 : Int32)).toInt64 &&& 63)) + (((g1 17 (v3).toNatClampNeg)).toInt64 &&& (4294967295 : Int64))) g1) ∧ (v2 = 0 → K (-1 : Int64) g1)))
def pc_BF_entry (x1 : Int32) (x2 : Int32) (g : St) (K : Int64 → St → Prop) : Prop := pb_BF_entry_0 K x1 x2 g
def pb_BF_set_0 (K : Int32 → St → Prop) (x1 : Int32) (x2 : Int32) (g : St) : Prop :=
  pc_BF_isFeature x1 g (fun v2 g1 => ((¬ v2 = 0 → vp_in x1 8 ∧ ∀ g3 : St, g3 = ar g1 1 x1 x2 → K (1 : Int32) g3) ∧ (v2 = 0 → K (0 : Int32) g1)))
def pc_BF_set (x1 : Int32) (x2 : Int32) (g : St) (K : Int32 → St → Prop) : Prop := pb_BF_set_0 K x1 x2 g
def pb_Co_byteOfAll_21 (K : Int32 → St → Prop) (x1 : Int32) (g : St) : Prop :=
  K (3 : Int32) g
def pb_Co_byteOfAll_0 (K : Int32 → St → Prop) (x1 : Int32) (g : St) : Prop :=
  ((x1 < 0 → pb_Co_byteOfAll_21 K x1 g) ∧ (¬ x1 < 0 → (((g 104 0) ≤ x1 → pb_Co_byteOfAll_21 K x1 g) ∧ (¬ (g 104 0) ≤ x1 → vp_in x1 600 ∧ K (g 20 (x1).toNatClampNeg) g))))
def pc_Co_byteOfAll (x1 : Int32) (g : St) (K : Int32 → St → Prop) : Prop := pb_Co_byteOfAll_0 K x1 g
def pb_Ru_wholeOf_0 (K : Int32 → St → Prop) (x0 : Int32) (g : St) : Prop :=
  ((¬ (x0 &&& (2147483647 : Int32)) = 0 → ∀ v1 : Int32, v1 = (((x0).toUInt32 >>> (((23 : Int32)).toUInt32 &&& Int32.toUInt32 31)).toInt32 - (127 : Int32)) → ((v1 < 0 → K (-1 : Int32) g) ∧ (¬ v1 < 0 → ((v1 ≤ (4 : Int32) → ∀ v2 : Int32, v2 = ((x0 &&& (8388607 : Int32)) ||| (8388608 : Int32)) → ∀ v3 : Int32, v3 = (v2 >>> (((23 : Int32) - v1) &&& 31)) → ((¬ (v3 <<< (((23 : Int32) - v1) &&& 31)) = v2 → K (-1 : Int32) g) ∧ ((v3 <<< (((23 : Int32) - v1) &&& 31)) = v2 → K v3 g))) ∧ (¬ v1 ≤ (4 : Int32) → K (-1 : Int32) g))))) ∧ ((x0 &&& (2147483647 : Int32)) = 0 → K (0 : Int32) g))
def pc_Ru_wholeOf (x0 : Int32) (g : St) (K : Int32 → St → Prop) : Prop := pb_Ru_wholeOf_0 K x0 g
def pb_Ru_orderOf_0 (K : Int32 → St → Prop) (x0 : Int32) (g : St) : Prop :=
  ((x0 < 0 → K (- (x0 &&& (2147483647 : Int32))) g) ∧ (¬ x0 < 0 → K x0 g))
def pc_Ru_orderOf (x0 : Int32) (g : St) (K : Int32 → St → Prop) : Prop := pb_Ru_orderOf_0 K x0 g
def pb_Ru_goesToYes_0 (K : Int32 → St → Prop) (x0 : Int32) (x1 : Int32) (x2 : Int32) (g : St) : Prop :=
  (((x1 &&& (2147483647 : Int32)) ≤ (2139095040 : Int32) → pc_Ru_isBitRule x0 g (fun v2 g1 => ((v2 = 0 → (((2 : Int32) ≤ x0 → pc_Ru_orderOf x1 g1 (fun v4 g3 => pc_Ru_orderOf x2 g3 (fun v6 g5 => ((v6 < v4 → K (0 : Int32) g5) ∧ (¬ v6 < v4 → K (1 : Int32) g5))))) ∧ (¬ (2 : Int32) ≤ x0 → pc_Ru_orderOf x1 g1 (fun v8 g7 => pc_Ru_orderOf x2 g7 (fun v10 g9 => ((v10 ≤ v8 → K (0 : Int32) g9) ∧ (¬ v10 ≤ v8 → K (1 : Int32) g9))))))) ∧ (¬ v2 = 0 → pc_Ru_wholeOf x1 g1 (fun v12 g11 => ∀ v13 : Int32, v13 = v12 → ((v13 = (-1 : Int32) → K (0 : Int32) g11) ∧ (¬ v13 = (-1 : Int32) → ((¬ (((x2).toUInt32 >>> ((v13).toUInt32 &&& Int32.toUInt32 31)).toInt32 &&& (1 : Int32)) = (1 : Int32) → K (0 : Int32) g11) ∧ ((((x2).toUInt32 >>> ((v13).toUInt32 &&& Int32.toUInt32 31)).toInt32 &&& (1 : Int32)) = (1 : Int32) → K (1 : Int32) g11))))))))) ∧ (¬ (x1 &&& (2147483647 : Int32)) ≤ (2139095040 : Int32) → ((¬ (x0 &&& (1 : Int32)) = (1 : Int32) → K (0 : Int32) g) ∧ ((x0 &&& (1 : Int32)) = (1 : Int32) → K (1 : Int32) g))))
def pc_Ru_goesToYes (x0 : Int32) (x1 : Int32) (x2 : Int32) (g : St) (K : Int32 → St → Prop) : Prop := pb_Ru_goesToYes_0 K x0 x1 x2 g
def pb_Ma_testMove_38 (K : Int32 → St → Prop) (x1 : Int32) (x2 : Int32) (x3 : Int32) (x4 : Int32) (x5 : Int32) (t0 : Int32) (t1 : Int32) (g : St) : Prop :=
  ∀ v1 : Int32, v1 = (t0 - t1) → pc_Ru_goesToYes v1 x2 x3 g (fun v3 g2 => ((v3 = 0 → pc_Co_byteOfAll (x1 + (1 : Int32)) g2 (fun v5 g4 => ∀ v6 : Int32, v6 = v5 → ((x5 = 0 → K v6 g4) ∧ (¬ x5 = 0 → pc_Co_byteOfAll (x1 + (2 : Int32)) g4 (fun v8 g7 => K (((256 : Int32) * v6) + v8) g7))))) ∧ (¬ v3 = 0 → ((x5 = 0 → K (2 : Int32) g2) ∧ (¬ x5 = 0 → K (3 : Int32) g2)))))
def pb_Ma_testMove_22 (K : Int32 → St → Prop) (x1 : Int32) (x2 : Int32) (x3 : Int32) (x4 : Int32) (t0 : Int32) (g : St) : Prop :=
  ∀ v1 : Int32, v1 = t0 → ((v1 = 0 → pb_Ma_testMove_38 K x1 x2 x3 x4 v1 x4 (10 : Int32) g) ∧ (¬ v1 = 0 → pb_Ma_testMove_38 K x1 x2 x3 x4 v1 x4 (20 : Int32) g))
def pb_Ma_testMove_0 (K : Int32 → St → Prop) (x1 : Int32) (x2 : Int32) (x3 : Int32) (g : St) : Prop :=
  pc_Co_byteOfAll x1 g (fun v2 g1 => ∀ v3 : Int32, v3 = v2 → ((v3 < (20 : Int32) → pb_Ma_testMove_22 K x1 x2 x3 v3 (0 : Int32) g1) ∧ (¬ v3 < (20 : Int32) → pb_Ma_testMove_22 K x1 x2 x3 v3 (1 : Int32) g1)))
def pc_Ma_testMove (x1 : Int32) (x2 : Int32) (x3 : Int32) (g : St) (K : Int32 → St → Prop) : Prop := pb_Ma_testMove_0 K x1 x2 x3 g
def pb_Ma_operand_0 (K : Int32 → St → Prop) (x1 : Int32) (x2 : Int32) (x3 : Int32) (g : St) : Prop :=
  ((¬ x1 = (1 : Int32) → pc_Ta_holds x2 x3 g (fun v2 g1 => ((v2 = 0 → K (0 : Int32) g1) ∧ (¬ v2 = 0 → vp_in x2 61 ∧ vp_in ((g1 18 (x2).toNatClampNeg) + x3) 120 ∧ K (g1 17 (((g1 18 (x2).toNatClampNeg) + x3)).toNatClampNeg) g1)))) ∧ (x1 = (1 : Int32) → pc_BF_isFeature x3 g (fun v4 g3 => ((v4 = 0 → K (0 : Int32) g3) ∧ (¬ v4 = 0 → vp_in x3 8 ∧ K (g3 1 (x3).toNatClampNeg) g3)))))
def pc_Ma_operand (x1 : Int32) (x2 : Int32) (x3 : Int32) (g : St) (K : Int32 → St → Prop) : Prop := pb_Ma_operand_0 K x1 x2 x3 g
def pb_Ma_runMethod_157 (rc : Int32 → Int32 → St → (Int32 → St → Prop) → Prop) (K : Int32 → St → Prop) (P38 : Int32 → Int32 → Int32 → Int32 → Int32 → Int32 → St → Prop) (x1 : Int32) (x2 : Int32) (x3 : Int32) (x4 : Int32) (x5 : Int32) (x6 : Int32) (x7 : Int32) (g : St) : Prop :=
  ∀ v1 : Int32, v1 = x6 + (1 : Int32) → P38 x1 x2 x3 x4 x5 v1 g
def pb_Ma_runMethod_154 (rc : Int32 → Int32 → St → (Int32 → St → Prop) → Prop) (K : Int32 → St → Prop) (P38 : Int32 → Int32 → Int32 → Int32 → Int32 → Int32 → St → Prop) (x1 : Int32) (x2 : Int32) (x3 : Int32) (x4 : Int32) (x5 : Int32) (x6 : Int32) (x7 : Int32) (g : St) : Prop :=
  ∀ v1 : Int32, v1 = x5 + (2 : Int32) → pb_Ma_runMethod_157 rc K P38 x1 x2 x3 x4 v1 x6 x7 g
def pb_Ma_runMethod_38 (rc : Int32 → Int32 → St → (Int32 → St → Prop) → Prop) (K : Int32 → St → Prop) (P38 : Int32 → Int32 → Int32 → Int32 → Int32 → Int32 → St → Prop) (x1 : Int32) (x2 : Int32) (x3 : Int32) (x4 : Int32) (x5 : Int32) (x6 : Int32) (g : St) : Prop :=
  (((600 : Int32) ≤ x6 → K x3 g) ∧ (¬ (600 : Int32) ≤ x6 → pc_Co_byteOfAll x5 g (fun v2 g1 => ∀ v3 : Int32, v3 = v2 → ∀ g4 : St, g4 = sc g1 107 ((g1 107 0) + (1 : Int32)) → ((¬ v3 = (3 : Int32) → ((v3 < (10 : Int32) → ∀ v5 : Int32, v5 = x3 → vp_in x1 60 ∧ pc_Co_byteOfAll (x5 + (1 : Int32)) g4 (fun v7 g6 => pc_Ma_operand v3 (g4 22 (x1).toNatClampNeg) v7 g6 (fun v9 g8 => ∀ v10 : Int32, v10 = v9 → ((¬ v3 = (4 : Int32) → pb_Ma_runMethod_154 rc K P38 x1 x2 v10 v5 x5 x6 v3 g8) ∧ (v3 = (4 : Int32) → ∀ g11 : St, g11 = sc g8 108 ((g8 108 0) + (1 : Int32)) → rc v10 (x2 + (1 : Int32)) g11 (fun v13 g12 => ∀ v14 : Int32, v14 = v13 → pb_Ma_runMethod_154 rc K P38 x1 x2 v14 v5 x5 x6 v3 g12)))))) ∧ (¬ v3 < (10 : Int32) → pc_Ma_testMove x5 x4 x3 g4 (fun v16 g15 => ∀ v17 : Int32, v17 = (x5 + v16) → pb_Ma_runMethod_157 rc K P38 x1 x2 x3 x4 v17 x6 v3 g15)))) ∧ (v3 = (3 : Int32) → K x3 g4)))))
def pl_Ma_runMethod_38 (rc : Int32 → Int32 → St → (Int32 → St → Prop) → Prop) (K : Int32 → St → Prop) (x1 : Int32) (x2 : Int32) (x3 : Int32) (x4 : Int32) (x5 : Int32) (x6 : Int32) (g : St) : Prop :=
  ∀ P38 : Int32 → Int32 → Int32 → Int32 → Int32 → Int32 → St → Prop, (∀ (x1 : Int32) (x2 : Int32) (x3 : Int32) (x4 : Int32) (x5 : Int32) (x6 : Int32) (g : St), pb_Ma_runMethod_38 rc K P38 x1 x2 x3 x4 x5 x6 g → P38 x1 x2 x3 x4 x5 x6 g) → P38 x1 x2 x3 x4 x5 x6 g
def pb_Ma_runMethod_0 (rc : Int32 → Int32 → St → (Int32 → St → Prop) → Prop) (K : Int32 → St → Prop) (x1 : Int32) (x2 : Int32) (g : St) : Prop :=
  (((12 : Int32) < x2 → K (0 : Int32) g) ∧ (¬ (12 : Int32) < x2 → pc_Co_isMethod x1 g (fun v2 g1 => ((¬ v2 = 0 → ∀ v3 : Int32, v3 = (0 : Int32) → ∀ v4 : Int32, v4 = (0 : Int32) → vp_in x1 61 ∧ ∀ v5 : Int32, v5 = (g1 21 (x1).toNatClampNeg) → ∀ v6 : Int32, v6 = (0 : Int32) → pl_Ma_runMethod_38 rc K x1 x2 v3 v4 v5 v6 g1) ∧ (v2 = 0 → K (0 : Int32) g1)))))
def pc_Ma_runMethod : Nat → Int32 → Int32 → St → (Int32 → St → Prop) → Prop
  | 0 => fun _ _ _ _ => False
  | d + 1 => fun x1 x2 g K => pb_Ma_runMethod_0 (pc_Ma_runMethod d) K x1 x2 g
def pb_Ma_runTrees_14 (K : Int64 → St → Prop) (P14 : Int64 → Int32 → St → Prop) (x1 : Int64) (x3 : Int32) (g : St) : Prop :=
  (((g 106 0) ≤ x3 → K x1 g) ∧ (¬ (g 106 0) ≤ x3 → vp_in x3 8 ∧ pc_Ma_runMethod 14 (g 23 (x3).toNatClampNeg) (0 : Int32) g (fun v2 g1 => ∀ v3 : Int64, v3 = (x1 + (v2).toInt64) → ∀ v4 : Int32, v4 = x3 + (1 : Int32) → P14 v3 v4 g1)))
def pl_Ma_runTrees_14 (K : Int64 → St → Prop) (x1 : Int64) (x3 : Int32) (g : St) : Prop :=
  ∀ P14 : Int64 → Int32 → St → Prop, (∀ (x1 : Int64) (x3 : Int32) (g : St), pb_Ma_runTrees_14 K P14 x1 x3 g → P14 x1 x3 g) → P14 x1 x3 g
def pb_Ma_runTrees_0 (K : Int64 → St → Prop) (g : St) : Prop :=
  ∀ g1 : St, g1 = sc g 107 (0 : Int32) → ∀ g2 : St, g2 = sc g1 108 (0 : Int32) → ∀ v3 : Int64, v3 = (0 : Int64) → ∀ v4 : Int32, v4 = (0 : Int32) → pl_Ma_runTrees_14 K v3 v4 g2
def pc_Ma_runTrees (g : St) (K : Int64 → St → Prop) : Prop := pb_Ma_runTrees_0 K g
def pb_BF_predict_0 (K : Int64 → St → Prop) (g : St) : Prop :=
  pc_Ma_runTrees g (fun v2 g1 => K v2 g1)
def pc_BF_predict (g : St) (K : Int64 → St → Prop) : Prop := pb_BF_predict_0 K g
def pb_BF_steps_0 (K : Int32 → St → Prop) (g : St) : Prop :=
  K (g 107 0) g
def pc_BF_steps (g : St) (K : Int32 → St → Prop) : Prop := pb_BF_steps_0 K g
def pb_BF_calls_0 (K : Int32 → St → Prop) (g : St) : Prop :=
  K (g 108 0) g
def pc_BF_calls (g : St) (K : Int32 → St → Prop) : Prop := pb_BF_calls_0 K g
def pb_Fo_leafFor_65 (K : Int32 → St → Prop) (P5 : Int32 → Int32 → Int32 → St → Prop) (x1 : Int32) (x3 : Int32) (x4 : Int32) (x5 : Int32) (t0 : Int32) (g : St) : Prop :=
  ∀ v1 : Int32, v1 = t0 → ∀ v2 : Int32, v2 = x4 + (1 : Int32) → P5 x1 v1 v2 g
def pb_Fo_leafFor_5 (K : Int32 → St → Prop) (P5 : Int32 → Int32 → Int32 → St → Prop) (x1 : Int32) (x3 : Int32) (x4 : Int32) (g : St) : Prop :=
  (((12 : Int32) < x4 → K x3 g) ∧ (¬ (12 : Int32) < x4 → pc_Fo_isLeaf x3 g (fun v2 g1 => ((¬ v2 = 0 → K x3 g1) ∧ (v2 = 0 → vp_in x3 60 ∧ vp_in x3 60 ∧ vp_in (g1 4 (x3).toNatClampNeg) 8 ∧ vp_in x3 60 ∧ pc_Ru_goesToYes (g1 3 (x3).toNatClampNeg) (g1 1 ((g1 4 (x3).toNatClampNeg)).toNatClampNeg) (g1 5 (x3).toNatClampNeg) g1 (fun v4 g3 => ∀ v5 : Int32, v5 = v4 → ((v5 = 0 → vp_in x3 60 ∧ pb_Fo_leafFor_65 K P5 x1 x3 x4 v5 (g3 7 (x3).toNatClampNeg) g3) ∧ (¬ v5 = 0 → vp_in x3 60 ∧ pb_Fo_leafFor_65 K P5 x1 x3 x4 v5 (g3 6 (x3).toNatClampNeg) g3))))))))
def pl_Fo_leafFor_5 (K : Int32 → St → Prop) (x1 : Int32) (x3 : Int32) (x4 : Int32) (g : St) : Prop :=
  ∀ P5 : Int32 → Int32 → Int32 → St → Prop, (∀ (x1 : Int32) (x3 : Int32) (x4 : Int32) (g : St), pb_Fo_leafFor_5 K P5 x1 x3 x4 g → P5 x1 x3 x4 g) → P5 x1 x3 x4 g
def pb_Fo_leafFor_0 (K : Int32 → St → Prop) (x1 : Int32) (g : St) : Prop :=
  ∀ v1 : Int32, v1 = x1 → ∀ v2 : Int32, v2 = (0 : Int32) → pl_Fo_leafFor_5 K x1 v1 v2 g
def pc_Fo_leafFor (x1 : Int32) (g : St) (K : Int32 → St → Prop) : Prop := pb_Fo_leafFor_0 K x1 g
def pb_BF_reach_0 (K : Int32 → St → Prop) (x1 : Int32) (g : St) : Prop :=
  ((x1 < 0 → K (-1 : Int32) g) ∧ (¬ x1 < 0 → (((g 106 0) ≤ x1 → K (-1 : Int32) g) ∧ (¬ (g 106 0) ≤ x1 → vp_in x1 8 ∧ pc_Fo_leafFor (g 8 (x1).toNatClampNeg) g (fun v2 g1 => K v2 g1)))))
def pc_BF_reach (x1 : Int32) (g : St) (K : Int32 → St → Prop) : Prop := pb_BF_reach_0 K x1 g
-- world M
def pb_Mo_leaf_0 (K : Int32 → St → Prop) (x1 : Int32) (g : St) : Prop :=
  ((¬ (g 100 0) = (60 : Int32) → vp_in (g 100 0) 60 ∧ ∀ g1 : St, g1 = ar g 1 (g 100 0) (-1 : Int32) → vp_in (g1 100 0) 60 ∧ ∀ g2 : St, g2 = ar g1 3 (g1 100 0) x1 → ∀ g3 : St, g3 = sc g2 100 ((g2 100 0) + (1 : Int32)) → K ((g3 100 0) - (1 : Int32)) g3) ∧ ((g 100 0) = (60 : Int32) → K (-1 : Int32) g))
def pc_Mo_leaf (x1 : Int32) (g : St) (K : Int32 → St → Prop) : Prop := pb_Mo_leaf_0 K x1 g
def pb_Mo_outside_0 (K : Int32 → St → Prop) (x0 : Int32) (x1 : Int32) (x2 : Int32) (g : St) : Prop :=
  ((x0 < x1 → K (1 : Int32) g) ∧ (¬ x0 < x1 → ((x0 ≤ x2 → K (0 : Int32) g) ∧ (¬ x0 ≤ x2 → K (1 : Int32) g))))
def pc_Mo_outside (x0 : Int32) (x1 : Int32) (x2 : Int32) (g : St) (K : Int32 → St → Prop) : Prop := pb_Mo_outside_0 K x0 x1 x2 g
def pb_Mo_split_78 (K : Int32 → St → Prop) (x1 : Int32) (x2 : Int32) (x3 : Int32) (x4 : Int32) (x5 : Int32) (x6 : Int32) (g : St) : Prop :=
  vp_in (g 100 0) 60 ∧ ∀ g1 : St, g1 = ar g 1 (g 100 0) x1 → vp_in (g1 100 0) 60 ∧ ∀ g2 : St, g2 = ar g1 2 (g1 100 0) x2 → vp_in (g2 100 0) 60 ∧ ∀ g3 : St, g3 = ar g2 3 (g2 100 0) x3 → vp_in (g3 100 0) 60 ∧ ∀ g4 : St, g4 = ar g3 4 (g3 100 0) x4 → vp_in (g4 100 0) 60 ∧ ∀ g5 : St, g5 = ar g4 5 (g4 100 0) x5 → ∀ g6 : St, g6 = sc g5 100 ((g5 100 0) + (1 : Int32)) → K ((g6 100 0) - (1 : Int32)) g6
def pb_Mo_split_46 (K : Int32 → St → Prop) (x1 : Int32) (x2 : Int32) (x3 : Int32) (x4 : Int32) (x5 : Int32) (t0 : Int32) (g : St) : Prop :=
  ∀ v1 : Int32, v1 = t0 → (((g 100 0) = (60 : Int32) → K (-1 : Int32) g) ∧ (¬ (g 100 0) = (60 : Int32) → ((¬ v1 = 0 → K (-1 : Int32) g) ∧ (v1 = 0 → (((4 : Int32) ≤ x1 → pb_Mo_split_78 K x1 x2 x3 x4 x5 v1 g) ∧ (¬ (4 : Int32) ≤ x1 → (((x3 &&& (2147483647 : Int32)) < (2139095040 : Int32) → pb_Mo_split_78 K x1 x2 x3 x4 x5 v1 g) ∧ (¬ (x3 &&& (2147483647 : Int32)) < (2139095040 : Int32) → K (-1 : Int32) g))))))))
def pb_Mo_split_41 (K : Int32 → St → Prop) (x1 : Int32) (x2 : Int32) (x3 : Int32) (x4 : Int32) (x5 : Int32) (g : St) : Prop :=
  pb_Mo_split_46 K x1 x2 x3 x4 x5 (1 : Int32) g
def pb_Mo_split_0 (K : Int32 → St → Prop) (x1 : Int32) (x2 : Int32) (x3 : Int32) (x4 : Int32) (x5 : Int32) (g : St) : Prop :=
  pc_Mo_outside x1 (0 : Int32) (5 : Int32) g (fun v2 g1 => ((¬ v2 = 0 → pb_Mo_split_41 K x1 x2 x3 x4 x5 g1) ∧ (v2 = 0 → pc_Mo_outside x2 (0 : Int32) (7 : Int32) g1 (fun v4 g3 => ((¬ v4 = 0 → pb_Mo_split_41 K x1 x2 x3 x4 x5 g3) ∧ (v4 = 0 → pc_Mo_outside x4 (0 : Int32) (59 : Int32) g3 (fun v6 g5 => ((¬ v6 = 0 → pb_Mo_split_41 K x1 x2 x3 x4 x5 g5) ∧ (v6 = 0 → pc_Mo_outside x5 (0 : Int32) (59 : Int32) g5 (fun v8 g7 => ((v8 = 0 → pb_Mo_split_46 K x1 x2 x3 x4 x5 (0 : Int32) g7) ∧ (¬ v8 = 0 → pb_Mo_split_41 K x1 x2 x3 x4 x5 g7))))))))))))
def pc_Mo_split (x1 : Int32) (x2 : Int32) (x3 : Int32) (x4 : Int32) (x5 : Int32) (g : St) (K : Int32 → St → Prop) : Prop := pb_Mo_split_0 K x1 x2 x3 x4 x5 g
def pb_Mo_tree_0 (K : Int32 → St → Prop) (x1 : Int32) (g : St) : Prop :=
  (((g 101 0) = (8 : Int32) → K (-1 : Int32) g) ∧ (¬ (g 101 0) = (8 : Int32) → pc_Mo_outside x1 (0 : Int32) ((g 100 0) - (1 : Int32)) g (fun v2 g1 => ((v2 = 0 → vp_in (g1 101 0) 8 ∧ ∀ g3 : St, g3 = ar g1 6 (g1 101 0) x1 → ∀ g4 : St, g4 = sc g3 101 ((g3 101 0) + (1 : Int32)) → K ((g4 101 0) - (1 : Int32)) g4) ∧ (¬ v2 = 0 → K (-1 : Int32) g1)))))
def pc_Mo_tree (x1 : Int32) (g : St) (K : Int32 → St → Prop) : Prop := pb_Mo_tree_0 K x1 g
def pb_Mo_wrong_63 (K : Int32 → St → Prop) (x1 : Int32) (x2 : Int32) (g : St) : Prop :=
  K ((100 : Int32) + x1) g
def pb_Mo_wrong_0 (K : Int32 → St → Prop) (x1 : Int32) (x2 : Int32) (g : St) : Prop :=
  vp_in x1 60 ∧ (((g 8 (x1).toNatClampNeg) = 0 → ((x2 ≤ (12 : Int32) → vp_in x1 60 ∧ (((g 1 (x1).toNatClampNeg) = (-1 : Int32) → K (0 : Int32) g) ∧ (¬ (g 1 (x1).toNatClampNeg) = (-1 : Int32) → vp_in x1 60 ∧ (((g 100 0) ≤ (g 4 (x1).toNatClampNeg) → pb_Mo_wrong_63 K x1 x2 g) ∧ (¬ (g 100 0) ≤ (g 4 (x1).toNatClampNeg) → vp_in x1 60 ∧ (((g 5 (x1).toNatClampNeg) < (g 100 0) → K (0 : Int32) g) ∧ (¬ (g 5 (x1).toNatClampNeg) < (g 100 0) → pb_Mo_wrong_63 K x1 x2 g))))))) ∧ (¬ x2 ≤ (12 : Int32) → K ((300 : Int32) + x1) g))) ∧ (¬ (g 8 (x1).toNatClampNeg) = 0 → K ((200 : Int32) + x1) g))
def pc_Mo_wrong (x1 : Int32) (x2 : Int32) (g : St) (K : Int32 → St → Prop) : Prop := pb_Mo_wrong_0 K x1 x2 g
def pb_Mo_fault_159 (K : Int32 → St → Prop) (P23 : Int32 → St → Prop) (P52 : Int32 → Int32 → St → Prop) (x1 : Int32) (x2 : Int32) (x3 : Int32) (x4 : Int32) (x5 : Int32) (g : St) : Prop :=
  P52 x1 x2 g
def pb_Mo_fault_52 (K : Int32 → St → Prop) (P23 : Int32 → St → Prop) (P52 : Int32 → Int32 → St → Prop) (x1 : Int32) (x2 : Int32) (g : St) : Prop :=
  ((x2 ≤ 0 → ∀ v1 : Int32, v1 = x1 + (1 : Int32) → P23 v1 g) ∧ (¬ x2 ≤ 0 → ∀ v2 : Int32, v2 = x2 + (-1 : Int32) → vp_in v2 64 ∧ ∀ v3 : Int32, v3 = (g 9 (v2).toNatClampNeg) → vp_in v2 64 ∧ ∀ v4 : Int32, v4 = (g 10 (v2).toNatClampNeg) → pc_Mo_wrong v3 v4 g (fun v6 g5 => ∀ v7 : Int32, v7 = v6 → ((v7 = 0 → vp_in v3 60 ∧ ∀ g8 : St, g8 = ar g5 8 v3 (1 : Int32) → vp_in v3 60 ∧ (((g8 1 (v3).toNatClampNeg) = (-1 : Int32) → pb_Mo_fault_159 K P23 P52 x1 v2 v3 v4 v7 g8) ∧ (¬ (g8 1 (v3).toNatClampNeg) = (-1 : Int32) → vp_in v3 60 ∧ vp_in v2 64 ∧ ∀ g9 : St, g9 = ar g8 9 v2 (g8 5 (v3).toNatClampNeg) → vp_in v2 64 ∧ ∀ g10 : St, g10 = ar g9 10 v2 (v4 + (1 : Int32)) → vp_in v3 60 ∧ vp_in (v2 + (1 : Int32)) 64 ∧ ∀ g11 : St, g11 = ar g10 9 (v2 + (1 : Int32)) (g10 4 (v3).toNatClampNeg) → vp_in (v2 + (1 : Int32)) 64 ∧ ∀ g12 : St, g12 = ar g11 10 (v2 + (1 : Int32)) (v4 + (1 : Int32)) → ∀ v13 : Int32, v13 = v2 + (2 : Int32) → pb_Mo_fault_159 K P23 P52 x1 v13 v3 v4 v7 g12))) ∧ (¬ v7 = 0 → K v7 g5)))))
def pl_Mo_fault_52 (K : Int32 → St → Prop) (P23 : Int32 → St → Prop) (x1 : Int32) (x2 : Int32) (g : St) : Prop :=
  ∀ P52 : Int32 → Int32 → St → Prop, (∀ (x1 : Int32) (x2 : Int32) (g : St), pb_Mo_fault_52 K P23 P52 x1 x2 g → P52 x1 x2 g) → P52 x1 x2 g
def pb_Mo_fault_23 (K : Int32 → St → Prop) (P23 : Int32 → St → Prop) (x1 : Int32) (g : St) : Prop :=
  (((g 101 0) ≤ x1 → K (0 : Int32) g) ∧ (¬ (g 101 0) ≤ x1 → ∀ v1 : Int32, v1 = (1 : Int32) → vp_in x1 8 ∧ vp_in (0 : Int32) 64 ∧ ∀ g2 : St, g2 = ar g 9 (0 : Int32) (g 6 (x1).toNatClampNeg) → vp_in (0 : Int32) 64 ∧ ∀ g3 : St, g3 = ar g2 10 (0 : Int32) (0 : Int32) → pl_Mo_fault_52 K P23 x1 v1 g3))
def pl_Mo_fault_23 (K : Int32 → St → Prop) (x1 : Int32) (g : St) : Prop :=
  ∀ P23 : Int32 → St → Prop, (∀ (x1 : Int32) (g : St), pb_Mo_fault_23 K P23 x1 g → P23 x1 g) → P23 x1 g
def pb_Mo_fault_2 (K : Int32 → St → Prop) (P2 : Int32 → St → Prop) (x1 : Int32) (g : St) : Prop :=
  (((60 : Int32) ≤ x1 → ∀ v1 : Int32, v1 = (0 : Int32) → pl_Mo_fault_23 K v1 g) ∧ (¬ (60 : Int32) ≤ x1 → vp_in x1 60 ∧ ∀ g2 : St, g2 = ar g 8 x1 (0 : Int32) → ∀ v3 : Int32, v3 = x1 + (1 : Int32) → P2 v3 g2))
def pl_Mo_fault_2 (K : Int32 → St → Prop) (x1 : Int32) (g : St) : Prop :=
  ∀ P2 : Int32 → St → Prop, (∀ (x1 : Int32) (g : St), pb_Mo_fault_2 K P2 x1 g → P2 x1 g) → P2 x1 g
def pb_Mo_fault_0 (K : Int32 → St → Prop) (g : St) : Prop :=
  ∀ v1 : Int32, v1 = (0 : Int32) → pl_Mo_fault_2 K v1 g
def pc_Mo_fault (g : St) (K : Int32 → St → Prop) : Prop := pb_Mo_fault_0 K g
def pb_Mo_part_0 (K : Int32 → St → Prop) (x1 : Int32) (g : St) : Prop :=
  vp_in x1 60 ∧ (((g 13 (x1).toNatClampNeg) < 0 → vp_in x1 60 ∧ K (g 12 (x1).toNatClampNeg) g) ∧ (¬ (g 13 (x1).toNatClampNeg) < 0 → K (3 : Int32) g))
def pc_Mo_part (x1 : Int32) (g : St) (K : Int32 → St → Prop) : Prop := pb_Mo_part_0 K x1 g
def pb_Mo_far_0 (K : Int32 → St → Prop) (x1 : Int32) (g : St) : Prop :=
  vp_in x1 60 ∧ pc_Mo_part (g 4 (x1).toNatClampNeg) g (fun v2 g1 => ∀ v3 : Int32, v3 = ((2 : Int32) + v2) → (((63 : Int32) < v3 → K (v3 + (1 : Int32)) g1) ∧ (¬ (63 : Int32) < v3 → K v3 g1)))
def pc_Mo_far (x1 : Int32) (g : St) (K : Int32 → St → Prop) : Prop := pb_Mo_far_0 K x1 g
def pb_Mo_bytesOf_0 (K : Int32 → St → Prop) (x1 : Int32) (g : St) : Prop :=
  pc_Mo_far x1 g (fun v2 g1 => vp_in x1 60 ∧ pc_Mo_part (g1 5 (x1).toNatClampNeg) g1 (fun v4 g3 => K (((4 : Int32) + v2) + v4) g3))
def pc_Mo_bytesOf (x1 : Int32) (g : St) (K : Int32 → St → Prop) : Prop := pb_Mo_bytesOf_0 K x1 g
def pb_Mo_newMethod_0 (K : St → Prop) (x1 : Int32) (g : St) : Prop :=
  vp_in (g 103 0) 62 ∧ ∀ g1 : St, g1 = ar g 16 (g 103 0) x1 → ∀ g2 : St, g2 = sc g1 103 ((g1 103 0) + (1 : Int32)) → K g2
def pc_Mo_newMethod (x1 : Int32) (g : St) (K : St → Prop) : Prop := pb_Mo_newMethod_0 K x1 g
def pb_Mo_cutOut_0 (K : St → Prop) (x1 : Int32) (g : St) : Prop :=
  vp_in x1 60 ∧ ∀ g1 : St, g1 = ar g 13 x1 (g 103 0) → pc_Mo_newMethod x1 g1 (fun g2 => K g2)
def pc_Mo_cutOut (x1 : Int32) (g : St) (K : St → Prop) : Prop := pb_Mo_cutOut_0 K x1 g
def pb_Mo_measure_118 (K : St → Prop) (x1 : Int32) (x2 : Int32) (g : St) : Prop :=
  pc_Mo_bytesOf x1 g (fun v2 g1 => vp_in x1 60 ∧ ∀ g3 : St, g3 = ar g1 12 x1 v2 → K g3)
def pb_Mo_measure_115 (K : St → Prop) (x1 : Int32) (x2 : Int32) (x3 : Int32) (t1 : Int32) (g : St) : Prop :=
  pc_Mo_cutOut t1 g (fun g1 => pb_Mo_measure_118 K x1 x2 g1)
def pb_Mo_measure_83 (K : St → Prop) (x1 : Int32) (x2 : Int32) (x3 : Int32) (t1 : Int32) (g : St) : Prop :=
  pc_Mo_cutOut t1 g (fun g1 => pc_Mo_bytesOf x1 g1 (fun v3 g2 => ((v3 ≤ x2 → pb_Mo_measure_118 K x1 x2 g2) ∧ (¬ v3 ≤ x2 → ((x3 = 0 → vp_in x1 60 ∧ pb_Mo_measure_115 K x1 x2 x3 (g2 4 (x1).toNatClampNeg) g2) ∧ (¬ x3 = 0 → vp_in x1 60 ∧ pb_Mo_measure_115 K x1 x2 x3 (g2 5 (x1).toNatClampNeg) g2))))))
def pb_Mo_measure_62 (K : St → Prop) (x1 : Int32) (x2 : Int32) (t0 : Int32) (g : St) : Prop :=
  ∀ v1 : Int32, v1 = t0 → ((v1 = 0 → vp_in x1 60 ∧ pb_Mo_measure_83 K x1 x2 v1 (g 5 (x1).toNatClampNeg) g) ∧ (¬ v1 = 0 → vp_in x1 60 ∧ pb_Mo_measure_83 K x1 x2 v1 (g 4 (x1).toNatClampNeg) g))
def pb_Mo_measure_0 (K : St → Prop) (x1 : Int32) (x2 : Int32) (g : St) : Prop :=
  vp_in x1 60 ∧ ∀ g1 : St, g1 = ar g 13 x1 (-1 : Int32) → vp_in x1 60 ∧ ((¬ (g1 1 (x1).toNatClampNeg) = (-1 : Int32) → pc_Mo_bytesOf x1 g1 (fun v3 g2 => ((v3 ≤ x2 → pb_Mo_measure_118 K x1 x2 g2) ∧ (¬ v3 ≤ x2 → vp_in x1 60 ∧ pc_Mo_part (g2 4 (x1).toNatClampNeg) g2 (fun v5 g4 => vp_in x1 60 ∧ pc_Mo_part (g4 5 (x1).toNatClampNeg) g4 (fun v7 g6 => ((v5 < v7 → pb_Mo_measure_62 K x1 x2 (0 : Int32) g6) ∧ (¬ v5 < v7 → pb_Mo_measure_62 K x1 x2 (1 : Int32) g6)))))))) ∧ ((g1 1 (x1).toNatClampNeg) = (-1 : Int32) → vp_in x1 60 ∧ ∀ g8 : St, g8 = ar g1 12 x1 (3 : Int32) → K g8))
def pc_Mo_measure (x1 : Int32) (x2 : Int32) (g : St) (K : St → Prop) : Prop := pb_Mo_measure_0 K x1 x2 g
def pb_Mo_cutTree_84 (K : St → Prop) (P12 : Int32 → Int32 → Int32 → Int32 → St → Prop) (x1 : Int32) (x2 : Int32) (x3 : Int32) (x4 : Int32) (x5 : Int32) (g : St) : Prop :=
  P12 x1 x2 x3 x4 g
def pb_Mo_cutTree_92 (K : St → Prop) (P92 : Int32 → Int32 → Int32 → Int32 → Int32 → St → Prop) (x1 : Int32) (x2 : Int32) (x3 : Int32) (x4 : Int32) (x5 : Int32) (g : St) : Prop :=
  ((x5 < 0 → pc_Mo_newMethod x1 g (fun g1 => K g1)) ∧ (¬ x5 < 0 → vp_in x5 64 ∧ pc_Mo_measure (g 11 (x5).toNatClampNeg) x2 g (fun g2 => ∀ v3 : Int32, v3 = x5 + (-1 : Int32) → P92 x1 x2 x3 x4 v3 g2)))
def pl_Mo_cutTree_92 (K : St → Prop) (x1 : Int32) (x2 : Int32) (x3 : Int32) (x4 : Int32) (x5 : Int32) (g : St) : Prop :=
  ∀ P92 : Int32 → Int32 → Int32 → Int32 → Int32 → St → Prop, (∀ (x1 : Int32) (x2 : Int32) (x3 : Int32) (x4 : Int32) (x5 : Int32) (g : St), pb_Mo_cutTree_92 K P92 x1 x2 x3 x4 x5 g → P92 x1 x2 x3 x4 x5 g) → P92 x1 x2 x3 x4 x5 g
def pb_Mo_cutTree_12 (K : St → Prop) (P12 : Int32 → Int32 → Int32 → Int32 → St → Prop) (x1 : Int32) (x2 : Int32) (x3 : Int32) (x4 : Int32) (g : St) : Prop :=
  ((x4 ≤ 0 → ∀ v1 : Int32, v1 = (x3 - (1 : Int32)) → pl_Mo_cutTree_92 K x1 x2 x3 x4 v1 g) ∧ (¬ x4 ≤ 0 → ∀ v2 : Int32, v2 = x4 + (-1 : Int32) → vp_in v2 64 ∧ ∀ v3 : Int32, v3 = (g 9 (v2).toNatClampNeg) → vp_in x3 64 ∧ ∀ g4 : St, g4 = ar g 11 x3 v3 → ∀ v5 : Int32, v5 = x3 + (1 : Int32) → vp_in v3 60 ∧ (((g4 1 (v3).toNatClampNeg) = (-1 : Int32) → pb_Mo_cutTree_84 K P12 x1 x2 v5 v2 v3 g4) ∧ (¬ (g4 1 (v3).toNatClampNeg) = (-1 : Int32) → vp_in v3 60 ∧ vp_in v2 64 ∧ ∀ g6 : St, g6 = ar g4 9 v2 (g4 4 (v3).toNatClampNeg) → vp_in v3 60 ∧ vp_in (v2 + (1 : Int32)) 64 ∧ ∀ g7 : St, g7 = ar g6 9 (v2 + (1 : Int32)) (g6 5 (v3).toNatClampNeg) → ∀ v8 : Int32, v8 = v2 + (2 : Int32) → pb_Mo_cutTree_84 K P12 x1 x2 v5 v8 v3 g7))))
def pl_Mo_cutTree_12 (K : St → Prop) (x1 : Int32) (x2 : Int32) (x3 : Int32) (x4 : Int32) (g : St) : Prop :=
  ∀ P12 : Int32 → Int32 → Int32 → Int32 → St → Prop, (∀ (x1 : Int32) (x2 : Int32) (x3 : Int32) (x4 : Int32) (g : St), pb_Mo_cutTree_12 K P12 x1 x2 x3 x4 g → P12 x1 x2 x3 x4 g) → P12 x1 x2 x3 x4 g
def pb_Mo_cutTree_0 (K : St → Prop) (x1 : Int32) (x2 : Int32) (g : St) : Prop :=
  ∀ v1 : Int32, v1 = (0 : Int32) → ∀ v2 : Int32, v2 = (1 : Int32) → vp_in (0 : Int32) 64 ∧ ∀ g3 : St, g3 = ar g 9 (0 : Int32) x1 → pl_Mo_cutTree_12 K x1 x2 v1 v2 g3
def pc_Mo_cutTree (x1 : Int32) (x2 : Int32) (g : St) (K : St → Prop) : Prop := pb_Mo_cutTree_0 K x1 x2 g
def pb_Mo_put_0 (K : St → Prop) (x1 : Int32) (g : St) : Prop :=
  vp_in (g 104 0) 700 ∧ ∀ g1 : St, g1 = ar g 17 (g 104 0) x1 → ∀ g2 : St, g2 = sc g1 104 ((g1 104 0) + (1 : Int32)) → K g2
def pc_Mo_put (x1 : Int32) (g : St) (K : St → Prop) : Prop := pb_Mo_put_0 K x1 g
def pb_Mo_entryFor_75 (K : Int32 → St → Prop) (x1 : Int32) (x2 : Int32) (x3 : Int32) (x4 : Int32) (g : St) : Prop :=
  K (x4 - x1) g
def pb_Mo_entryFor_40 (K : Int32 → St → Prop) (x1 : Int32) (x2 : Int32) (x3 : Int32) (x4 : Int32) (g : St) : Prop :=
  ((¬ x4 = (g 106 0) → pb_Mo_entryFor_75 K x1 x2 x3 x4 g) ∧ (x4 = (g 106 0) → vp_in x4 200 ∧ ∀ g1 : St, g1 = ar g 19 x4 x2 → vp_in x4 200 ∧ ∀ g2 : St, g2 = ar g1 20 x4 x3 → ∀ g3 : St, g3 = sc g2 106 ((g2 106 0) + (1 : Int32)) → pb_Mo_entryFor_75 K x1 x2 x3 x4 g3))
def pb_Mo_entryFor_34 (K : Int32 → St → Prop) (P3 : Int32 → Int32 → Int32 → Int32 → St → Prop) (x1 : Int32) (x2 : Int32) (x3 : Int32) (x4 : Int32) (g : St) : Prop :=
  ∀ v1 : Int32, v1 = x4 + (1 : Int32) → P3 x1 x2 x3 v1 g
def pb_Mo_entryFor_3 (K : Int32 → St → Prop) (P3 : Int32 → Int32 → Int32 → Int32 → St → Prop) (x1 : Int32) (x2 : Int32) (x3 : Int32) (x4 : Int32) (g : St) : Prop :=
  (((g 106 0) ≤ x4 → pb_Mo_entryFor_40 K x1 x2 x3 x4 g) ∧ (¬ (g 106 0) ≤ x4 → vp_in x4 200 ∧ ((¬ (g 19 (x4).toNatClampNeg) = x2 → pb_Mo_entryFor_34 K P3 x1 x2 x3 x4 g) ∧ ((g 19 (x4).toNatClampNeg) = x2 → vp_in x4 200 ∧ (((g 20 (x4).toNatClampNeg) = x3 → pb_Mo_entryFor_40 K x1 x2 x3 x4 g) ∧ (¬ (g 20 (x4).toNatClampNeg) = x3 → pb_Mo_entryFor_34 K P3 x1 x2 x3 x4 g))))))
def pl_Mo_entryFor_3 (K : Int32 → St → Prop) (x1 : Int32) (x2 : Int32) (x3 : Int32) (x4 : Int32) (g : St) : Prop :=
  ∀ P3 : Int32 → Int32 → Int32 → Int32 → St → Prop, (∀ (x1 : Int32) (x2 : Int32) (x3 : Int32) (x4 : Int32) (g : St), pb_Mo_entryFor_3 K P3 x1 x2 x3 x4 g → P3 x1 x2 x3 x4 g) → P3 x1 x2 x3 x4 g
def pb_Mo_entryFor_0 (K : Int32 → St → Prop) (x1 : Int32) (x2 : Int32) (x3 : Int32) (g : St) : Prop :=
  ∀ v1 : Int32, v1 = x1 → pl_Mo_entryFor_3 K x1 x2 x3 v1 g
def pc_Mo_entryFor (x1 : Int32) (x2 : Int32) (x3 : Int32) (g : St) (K : Int32 → St → Prop) : Prop := pb_Mo_entryFor_0 K x1 x2 x3 g
def pb_Mo_with_0 (K : St → Prop) (x1 : Int32) (x2 : Int32) (x3 : Int32) (x4 : Int32) (g : St) : Prop :=
  pc_Mo_put x1 g (fun g1 => pc_Mo_entryFor x2 x3 x4 g1 (fun v3 g2 => ∀ v4 : Int32, v4 = v3 → pc_Mo_put v4 g2 (fun g5 => K g5)))
def pc_Mo_with (x1 : Int32) (x2 : Int32) (x3 : Int32) (x4 : Int32) (g : St) (K : St → Prop) : Prop := pb_Mo_with_0 K x1 x2 x3 x4 g
def pb_Mo_write_263 (K : St → Prop) (P14 : Int32 → Int32 → Int32 → St → Prop) (x1 : Int32) (x2 : Int32) (x3 : Int32) (x4 : Int32) (g : St) : Prop :=
  P14 x1 x2 x3 g
def pb_Mo_write_222 (K : St → Prop) (P14 : Int32 → Int32 → Int32 → St → Prop) (x1 : Int32) (x2 : Int32) (x3 : Int32) (x4 : Int32) (x5 : Int32) (x6 : Int32) (g : St) : Prop :=
  ¬ (256 : Int32) = 0 ∧ pc_Mo_put (x5 - x5 / (256 : Int32) * (256 : Int32)) g (fun g1 => vp_in x4 60 ∧ vp_in x3 64 ∧ ∀ g2 : St, g2 = ar g1 9 x3 (g1 5 (x4).toNatClampNeg) → vp_in x4 60 ∧ vp_in (x3 + (1 : Int32)) 64 ∧ ∀ g3 : St, g3 = ar g2 9 (x3 + (1 : Int32)) (g2 4 (x4).toNatClampNeg) → ∀ v4 : Int32, v4 = x3 + (2 : Int32) → pb_Mo_write_263 K P14 x1 x2 v4 x4 g3)
def pb_Mo_write_196 (K : St → Prop) (P14 : Int32 → Int32 → Int32 → St → Prop) (x1 : Int32) (x2 : Int32) (x3 : Int32) (x4 : Int32) (x5 : Int32) (x6 : Int32) (t1 : Int32) (g : St) : Prop :=
  vp_in x4 60 ∧ pc_Mo_put (t1 + (g 1 (x4).toNatClampNeg)) g (fun g1 => ((¬ x6 = 0 → pb_Mo_write_222 K P14 x1 x2 x3 x4 x5 x6 g1) ∧ (x6 = 0 → ¬ (256 : Int32) = 0 ∧ pc_Mo_put (x5 / (256 : Int32)) g1 (fun g2 => pb_Mo_write_222 K P14 x1 x2 x3 x4 x5 x6 g2))))
def pb_Mo_write_181 (K : St → Prop) (P14 : Int32 → Int32 → Int32 → St → Prop) (x1 : Int32) (x2 : Int32) (x3 : Int32) (x4 : Int32) (x5 : Int32) (t0 : Int32) (g : St) : Prop :=
  ∀ v1 : Int32, v1 = t0 → ((v1 = 0 → pb_Mo_write_196 K P14 x1 x2 x3 x4 x5 v1 (20 : Int32) g) ∧ (¬ v1 = 0 → pb_Mo_write_196 K P14 x1 x2 x3 x4 x5 v1 (10 : Int32) g))
def pb_Mo_write_140 (K : St → Prop) (P14 : Int32 → Int32 → Int32 → St → Prop) (x1 : Int32) (x2 : Int32) (x3 : Int32) (x4 : Int32) (t1 : Int32) (t2 : Int32) (t3 : Int32) (g : St) : Prop :=
  vp_in x4 60 ∧ pc_Mo_with t1 t2 t3 (g 3 (x4).toNatClampNeg) g (fun g1 => pc_Mo_far x4 g1 (fun v3 g2 => ∀ v4 : Int32, v4 = v3 → vp_in x4 60 ∧ pc_Mo_part (g2 4 (x4).toNatClampNeg) g2 (fun v6 g5 => ((¬ v4 = ((2 : Int32) + v6) → pb_Mo_write_181 K P14 x1 x2 x3 x4 v4 (0 : Int32) g5) ∧ (v4 = ((2 : Int32) + v6) → pb_Mo_write_181 K P14 x1 x2 x3 x4 v4 (1 : Int32) g5)))))
def pb_Mo_write_72 (K : St → Prop) (P14 : Int32 → Int32 → Int32 → St → Prop) (x1 : Int32) (x2 : Int32) (x3 : Int32) (x4 : Int32) (g : St) : Prop :=
  vp_in x4 60 ∧ ((¬ (g 1 (x4).toNatClampNeg) = (-1 : Int32) → pc_Mo_put (1 : Int32) g (fun g1 => vp_in x4 60 ∧ pc_Mo_put (g1 2 (x4).toNatClampNeg) g1 (fun g2 => vp_in x4 60 ∧ (((4 : Int32) ≤ (g2 1 (x4).toNatClampNeg) → pb_Mo_write_140 K P14 x1 x2 x3 x4 (2 : Int32) x2 (3 : Int32) g2) ∧ (¬ (4 : Int32) ≤ (g2 1 (x4).toNatClampNeg) → pb_Mo_write_140 K P14 x1 x2 x3 x4 (2 : Int32) x2 (1 : Int32) g2))))) ∧ ((g 1 (x4).toNatClampNeg) = (-1 : Int32) → vp_in x4 60 ∧ pc_Mo_with (2 : Int32) x2 (2 : Int32) (g 3 (x4).toNatClampNeg) g (fun g3 => pc_Mo_put (3 : Int32) g3 (fun g4 => pb_Mo_write_263 K P14 x1 x2 x3 x4 g4))))
def pb_Mo_write_14 (K : St → Prop) (P14 : Int32 → Int32 → Int32 → St → Prop) (x1 : Int32) (x2 : Int32) (x3 : Int32) (g : St) : Prop :=
  ((x3 ≤ 0 → K g) ∧ (¬ x3 ≤ 0 → ∀ v1 : Int32, v1 = x3 + (-1 : Int32) → vp_in v1 64 ∧ ∀ v2 : Int32, v2 = (g 9 (v1).toNatClampNeg) → vp_in v2 60 ∧ (((g 13 (v2).toNatClampNeg) < 0 → pb_Mo_write_72 K P14 x1 x2 v1 v2 g) ∧ (¬ (g 13 (v2).toNatClampNeg) < 0 → vp_in x1 62 ∧ ((v2 = (g 16 (x1).toNatClampNeg) → pb_Mo_write_72 K P14 x1 x2 v1 v2 g) ∧ (¬ v2 = (g 16 (x1).toNatClampNeg) → vp_in v2 60 ∧ pc_Mo_with (4 : Int32) x2 (4 : Int32) (g 13 (v2).toNatClampNeg) g (fun g3 => pc_Mo_put (3 : Int32) g3 (fun g4 => pb_Mo_write_263 K P14 x1 x2 v1 v2 g4))))))))
def pl_Mo_write_14 (K : St → Prop) (x1 : Int32) (x2 : Int32) (x3 : Int32) (g : St) : Prop :=
  ∀ P14 : Int32 → Int32 → Int32 → St → Prop, (∀ (x1 : Int32) (x2 : Int32) (x3 : Int32) (g : St), pb_Mo_write_14 K P14 x1 x2 x3 g → P14 x1 x2 x3 g) → P14 x1 x2 x3 g
def pb_Mo_write_0 (K : St → Prop) (x1 : Int32) (x2 : Int32) (g : St) : Prop :=
  ∀ v1 : Int32, v1 = (1 : Int32) → vp_in x1 62 ∧ vp_in (0 : Int32) 64 ∧ ∀ g2 : St, g2 = ar g 9 (0 : Int32) (g 16 (x1).toNatClampNeg) → pl_Mo_write_14 K x1 x2 v1 g2
def pc_Mo_write (x1 : Int32) (x2 : Int32) (g : St) (K : St → Prop) : Prop := pb_Mo_write_0 K x1 x2 g
def pb_Mo_writeAll_148 (K : St → Prop) (P17 : Int32 → Int32 → St → Prop) (x1 : Int32) (x2 : Int32) (x3 : Int32) (x4 : Int32) (g : St) : Prop :=
  vp_in x2 62 ∧ ∀ g1 : St, g1 = ar g 15 x2 ((g 105 0) - (1 : Int32)) → ∀ v2 : Int32, v2 = x2 + (1 : Int32) → P17 x1 v2 g1
def pb_Mo_writeAll_102 (K : St → Prop) (P17 : Int32 → Int32 → St → Prop) (x1 : Int32) (x2 : Int32) (x3 : Int32) (x4 : Int32) (g : St) : Prop :=
  ((¬ x4 = 0 → pb_Mo_writeAll_148 K P17 x1 x2 x3 x4 g) ∧ (x4 = 0 → vp_in x2 62 ∧ ∀ g1 : St, g1 = sc g 104 (g 14 (x2).toNatClampNeg) → ∀ g2 : St, g2 = sc g1 106 x3 → vp_in (g2 105 0) 62 ∧ ∀ g3 : St, g3 = ar g2 18 (g2 105 0) x3 → ∀ g4 : St, g4 = sc g3 105 ((g3 105 0) + (1 : Int32)) → pc_Mo_write x2 x3 g4 (fun g5 => pb_Mo_writeAll_148 K P17 x1 x2 x3 x4 g5)))
def pb_Mo_writeAll_100 (K : St → Prop) (P17 : Int32 → Int32 → St → Prop) (x1 : Int32) (x2 : Int32) (x3 : Int32) (x4 : Int32) (t0 : Int32) (g : St) : Prop :=
  ∀ v1 : Int32, v1 = t0 → pb_Mo_writeAll_102 K P17 x1 x2 x3 v1 g
def pb_Mo_writeAll_52 (K : St → Prop) (P17 : Int32 → Int32 → St → Prop) (x1 : Int32) (x2 : Int32) (x3 : Int32) (t0 : Int32) (g : St) : Prop :=
  ∀ v1 : Int32, v1 = t0 → ((v1 = 0 → pb_Mo_writeAll_102 K P17 x1 x2 x3 v1 g) ∧ (¬ v1 = 0 → vp_in ((g 105 0) - (1 : Int32)) 62 ∧ pc_Mo_write x2 (g 18 (((g 105 0) - (1 : Int32))).toNatClampNeg) g (fun g2 => vp_in ((g2 105 0) - (1 : Int32)) 62 ∧ ((x1 < ((g2 106 0) - (g2 18 (((g2 105 0) - (1 : Int32))).toNatClampNeg)) → pb_Mo_writeAll_100 K P17 x1 x2 x3 v1 (0 : Int32) g2) ∧ (¬ x1 < ((g2 106 0) - (g2 18 (((g2 105 0) - (1 : Int32))).toNatClampNeg)) → pb_Mo_writeAll_100 K P17 x1 x2 x3 v1 (1 : Int32) g2)))))
def pb_Mo_writeAll_17 (K : St → Prop) (P17 : Int32 → Int32 → St → Prop) (x1 : Int32) (x2 : Int32) (g : St) : Prop :=
  (((g 103 0) ≤ x2 → vp_in (g 103 0) 62 ∧ ∀ g1 : St, g1 = ar g 14 (g 103 0) (g 104 0) → vp_in (g1 105 0) 62 ∧ ∀ g2 : St, g2 = ar g1 18 (g1 105 0) (g1 106 0) → K g2) ∧ (¬ (g 103 0) ≤ x2 → vp_in x2 62 ∧ ∀ g3 : St, g3 = ar g 14 x2 (g 104 0) → ∀ v4 : Int32, v4 = (g3 106 0) → (((g3 105 0) ≤ 0 → pb_Mo_writeAll_52 K P17 x1 x2 v4 (0 : Int32) g3) ∧ (¬ (g3 105 0) ≤ 0 → pb_Mo_writeAll_52 K P17 x1 x2 v4 (1 : Int32) g3))))
def pl_Mo_writeAll_17 (K : St → Prop) (x1 : Int32) (x2 : Int32) (g : St) : Prop :=
  ∀ P17 : Int32 → Int32 → St → Prop, (∀ (x1 : Int32) (x2 : Int32) (g : St), pb_Mo_writeAll_17 K P17 x1 x2 g → P17 x1 x2 g) → P17 x1 x2 g
def pb_Mo_writeAll_0 (K : St → Prop) (x1 : Int32) (g : St) : Prop :=
  ∀ g1 : St, g1 = sc g 104 (0 : Int32) → ∀ g2 : St, g2 = sc g1 106 (0 : Int32) → ∀ g3 : St, g3 = sc g2 105 (0 : Int32) → ∀ v4 : Int32, v4 = (0 : Int32) → pl_Mo_writeAll_17 K x1 v4 g3
def pc_Mo_writeAll (x1 : Int32) (g : St) (K : St → Prop) : Prop := pb_Mo_writeAll_0 K x1 g
def pb_Mo_compile_60 (K : Int32 → St → Prop) (P60 : Int32 → Int32 → Int32 → Int32 → St → Prop) (x1 : Int32) (x2 : Int32) (x3 : Int32) (x4 : Int32) (g : St) : Prop :=
  (((g 101 0) ≤ x4 → ∀ g1 : St, g1 = sc g 102 (g 101 0) → pc_Mo_writeAll x2 g1 (fun g2 => K (g2 103 0) g2)) ∧ (¬ (g 101 0) ≤ x4 → vp_in x4 8 ∧ pc_Mo_cutTree (g 6 (x4).toNatClampNeg) x1 g (fun g3 => ∀ v4 : Int32, v4 = x4 + (1 : Int32) → P60 x1 x2 x3 v4 g3)))
def pl_Mo_compile_60 (K : Int32 → St → Prop) (x1 : Int32) (x2 : Int32) (x3 : Int32) (x4 : Int32) (g : St) : Prop :=
  ∀ P60 : Int32 → Int32 → Int32 → Int32 → St → Prop, (∀ (x1 : Int32) (x2 : Int32) (x3 : Int32) (x4 : Int32) (g : St), pb_Mo_compile_60 K P60 x1 x2 x3 x4 g → P60 x1 x2 x3 x4 g) → P60 x1 x2 x3 x4 g
def pb_Mo_compile_31 (K : Int32 → St → Prop) (x1 : Int32) (x2 : Int32) (g : St) : Prop :=
  ((¬ (g 101 0) = 0 → pc_Mo_fault g (fun v2 g1 => ∀ v3 : Int32, v3 = v2 → ((v3 = 0 → ∀ g4 : St, g4 = sc g1 103 (0 : Int32) → ∀ v5 : Int32, v5 = (0 : Int32) → pl_Mo_compile_60 K x1 x2 v3 v5 g4) ∧ (¬ v3 = 0 → K (- v3) g1)))) ∧ ((g 101 0) = 0 → K (-1 : Int32) g))
def pb_Mo_compile_0 (K : Int32 → St → Prop) (x1 : Int32) (x2 : Int32) (g : St) : Prop :=
  pc_Mo_outside x1 (20 : Int32) (400 : Int32) g (fun v2 g1 => ((¬ v2 = 0 → K (-1 : Int32) g1) ∧ (v2 = 0 → (((60 : Int32) < x2 → K (-1 : Int32) g1) ∧ (¬ (60 : Int32) < x2 → (((60 : Int32) ≤ x2 → pb_Mo_compile_31 K x1 x2 g1) ∧ (¬ (60 : Int32) ≤ x2 → ¬ (4 : Int32) = 0 ∧ ((x2 < (x1 / (4 : Int32)) → K (-1 : Int32) g1) ∧ (¬ x2 < (x1 / (4 : Int32)) → pb_Mo_compile_31 K x1 x2 g1)))))))))
def pc_Mo_compile (x1 : Int32) (x2 : Int32) (g : St) (K : Int32 → St → Prop) : Prop := pb_Mo_compile_0 K x1 x2 g
def pb_Mo_isMethod_0 (K : Int32 → St → Prop) (x1 : Int32) (g : St) : Prop :=
  ((x1 < 0 → K (0 : Int32) g) ∧ (¬ x1 < 0 → (((g 103 0) ≤ x1 → K (0 : Int32) g) ∧ (¬ (g 103 0) ≤ x1 → K (1 : Int32) g))))
def pc_Mo_isMethod (x1 : Int32) (g : St) (K : Int32 → St → Prop) : Prop := pb_Mo_isMethod_0 K x1 g
def pb_Mo_methods_0 (K : Int32 → St → Prop) (g : St) : Prop :=
  K (g 103 0) g
def pc_Mo_methods (g : St) (K : Int32 → St → Prop) : Prop := pb_Mo_methods_0 K g
def pb_Mo_length_0 (K : Int32 → St → Prop) (x1 : Int32) (g : St) : Prop :=
  pc_Mo_isMethod x1 g (fun v2 g1 => ((v2 = 0 → K (-1 : Int32) g1) ∧ (¬ v2 = 0 → vp_in (x1 + (1 : Int32)) 62 ∧ vp_in x1 62 ∧ K ((g1 14 ((x1 + (1 : Int32))).toNatClampNeg) - (g1 14 (x1).toNatClampNeg)) g1)))
def pc_Mo_length (x1 : Int32) (g : St) (K : Int32 → St → Prop) : Prop := pb_Mo_length_0 K x1 g
def pb_Mo_byteAt_0 (K : Int32 → St → Prop) (x1 : Int32) (x2 : Int32) (g : St) : Prop :=
  pc_Mo_isMethod x1 g (fun v2 g1 => ((v2 = 0 → K (-1 : Int32) g1) ∧ (¬ v2 = 0 → ((x2 < 0 → K (-1 : Int32) g1) ∧ (¬ x2 < 0 → vp_in (x1 + (1 : Int32)) 62 ∧ vp_in x1 62 ∧ ((((g1 14 ((x1 + (1 : Int32))).toNatClampNeg) - (g1 14 (x1).toNatClampNeg)) ≤ x2 → K (-1 : Int32) g1) ∧ (¬ ((g1 14 ((x1 + (1 : Int32))).toNatClampNeg) - (g1 14 (x1).toNatClampNeg)) ≤ x2 → vp_in x1 62 ∧ vp_in ((g1 14 (x1).toNatClampNeg) + x2) 700 ∧ K (g1 17 (((g1 14 (x1).toNatClampNeg) + x2)).toNatClampNeg) g1)))))))
def pc_Mo_byteAt (x1 : Int32) (x2 : Int32) (g : St) (K : Int32 → St → Prop) : Prop := pb_Mo_byteAt_0 K x1 x2 g
def pb_Mo_classOf_0 (K : Int32 → St → Prop) (x1 : Int32) (g : St) : Prop :=
  pc_Mo_isMethod x1 g (fun v2 g1 => ((v2 = 0 → K (-1 : Int32) g1) ∧ (¬ v2 = 0 → vp_in x1 62 ∧ K (g1 15 (x1).toNatClampNeg) g1)))
def pc_Mo_classOf (x1 : Int32) (g : St) (K : Int32 → St → Prop) : Prop := pb_Mo_classOf_0 K x1 g
def pb_Mo_classes_0 (K : Int32 → St → Prop) (g : St) : Prop :=
  K (g 105 0) g
def pc_Mo_classes (g : St) (K : Int32 → St → Prop) : Prop := pb_Mo_classes_0 K g
def pb_Mo_entries_0 (K : Int32 → St → Prop) (x1 : Int32) (g : St) : Prop :=
  ((x1 < 0 → K (-1 : Int32) g) ∧ (¬ x1 < 0 → (((g 105 0) ≤ x1 → K (-1 : Int32) g) ∧ (¬ (g 105 0) ≤ x1 → vp_in (x1 + (1 : Int32)) 62 ∧ vp_in x1 62 ∧ K ((g 18 ((x1 + (1 : Int32))).toNatClampNeg) - (g 18 (x1).toNatClampNeg)) g))))
def pc_Mo_entries (x1 : Int32) (g : St) (K : Int32 → St → Prop) : Prop := pb_Mo_entries_0 K x1 g
def pb_Mo_entry_0 (K : Int64 → St → Prop) (x1 : Int32) (x2 : Int32) (g : St) : Prop :=
  ((x1 < 0 → K (-1 : Int64) g) ∧ (¬ x1 < 0 → (((g 105 0) ≤ x1 → K (-1 : Int64) g) ∧ (¬ (g 105 0) ≤ x1 → ((x2 < 0 → K (-1 : Int64) g) ∧ (¬ x2 < 0 → vp_in (x1 + (1 : Int32)) 62 ∧ vp_in x1 62 ∧ ((x2 < ((g 18 ((x1 + (1 : Int32))).toNatClampNeg) - (g 18 (x1).toNatClampNeg)) → vp_in x1 62 ∧ vp_in ((g 18 (x1).toNatClampNeg) + x2) 200 ∧ vp_in x1 62 ∧ vp_in ((g 18 (x1).toNatClampNeg) + x2) 200 ∧ K ((((g 19 (((g 18 (x1).toNatClampNeg) + x2)).toNatClampNeg)).toInt64 * (4294967296 : Int64)) + (((g 20 (((g 18 (x1).toNatClampNeg) + x2)).toNatClampNeg)).toInt64 &&& (4294967295 : Int64))) g) ∧ (¬ x2 < ((g 18 ((x1 + (1 : Int32))).toNatClampNeg) - (g 18 (x1).toNatClampNeg)) → K (-1 : Int64) g))))))))
def pc_Mo_entry (x1 : Int32) (x2 : Int32) (g : St) (K : Int64 → St → Prop) : Prop := pb_Mo_entry_0 K x1 x2 g
def pb_Mo_set_0 (K : Int32 → St → Prop) (x1 : Int32) (x2 : Int32) (g : St) : Prop :=
  pc_Mo_outside x1 (0 : Int32) (7 : Int32) g (fun v2 g1 => ((v2 = 0 → vp_in x1 8 ∧ ∀ g3 : St, g3 = ar g1 7 x1 x2 → K (1 : Int32) g3) ∧ (¬ v2 = 0 → K (0 : Int32) g1)))
def pc_Mo_set (x1 : Int32) (x2 : Int32) (g : St) (K : Int32 → St → Prop) : Prop := pb_Mo_set_0 K x1 x2 g
def pb_Mo_ordered_0 (K : Int32 → St → Prop) (x0 : Int32) (g : St) : Prop :=
  ((x0 < 0 → K (- (x0 &&& (2147483647 : Int32))) g) ∧ (¬ x0 < 0 → K x0 g))
def pc_Mo_ordered (x0 : Int32) (g : St) (K : Int32 → St → Prop) : Prop := pb_Mo_ordered_0 K x0 g
def pb_Mo_whole_2 (K : Int32 → St → Prop) (P2 : Int32 → Int32 → St → Prop) (x0 : Int32) (x1 : Int32) (g : St) : Prop :=
  ((x0 < ((2 : Int32) <<< (x1 &&& 31)) → K (((((127 : Int32) + x1) * (8388608 : Int32)) + (x0 * ((8388608 : Int32) >>> (x1 &&& 31)))) - (8388608 : Int32)) g) ∧ (¬ x0 < ((2 : Int32) <<< (x1 &&& 31)) → ∀ v1 : Int32, v1 = x1 + (1 : Int32) → P2 x0 v1 g))
def pl_Mo_whole_2 (K : Int32 → St → Prop) (x0 : Int32) (x1 : Int32) (g : St) : Prop :=
  ∀ P2 : Int32 → Int32 → St → Prop, (∀ (x0 : Int32) (x1 : Int32) (g : St), pb_Mo_whole_2 K P2 x0 x1 g → P2 x0 x1 g) → P2 x0 x1 g
def pb_Mo_whole_0 (K : Int32 → St → Prop) (x0 : Int32) (g : St) : Prop :=
  ∀ v1 : Int32, v1 = (0 : Int32) → pl_Mo_whole_2 K x0 v1 g
def pc_Mo_whole (x0 : Int32) (g : St) (K : Int32 → St → Prop) : Prop := pb_Mo_whole_0 K x0 g
def pb_Mo_goesToYes_165 (K : Int32 → St → Prop) (P124 : Int32 → Int32 → Int32 → Int32 → Int32 → St → Prop) (x1 : Int32) (x2 : Int32) (x3 : Int32) (x4 : Int32) (x5 : Int32) (t0 : Int32) (g : St) : Prop :=
  ∀ v1 : Int32, v1 = t0 → ∀ v2 : Int32, v2 = x5 + (1 : Int32) → P124 x1 x2 x3 v1 v2 g
def pb_Mo_goesToYes_160 (K : Int32 → St → Prop) (P124 : Int32 → Int32 → Int32 → Int32 → Int32 → St → Prop) (x1 : Int32) (x2 : Int32) (x3 : Int32) (x4 : Int32) (x5 : Int32) (g : St) : Prop :=
  pb_Mo_goesToYes_165 K P124 x1 x2 x3 x4 x5 (1 : Int32) g
def pb_Mo_goesToYes_164 (K : Int32 → St → Prop) (P124 : Int32 → Int32 → Int32 → Int32 → Int32 → St → Prop) (x1 : Int32) (x2 : Int32) (x3 : Int32) (x4 : Int32) (x5 : Int32) (g : St) : Prop :=
  pb_Mo_goesToYes_165 K P124 x1 x2 x3 x4 x5 (0 : Int32) g
def pb_Mo_goesToYes_124 (K : Int32 → St → Prop) (P124 : Int32 → Int32 → Int32 → Int32 → Int32 → St → Prop) (x1 : Int32) (x2 : Int32) (x3 : Int32) (x4 : Int32) (x5 : Int32) (g : St) : Prop :=
  (((32 : Int32) ≤ x5 → (x4 = 0 ∨ x4 = 1) ∧ K x4 g) ∧ (¬ (32 : Int32) ≤ x5 → ((¬ x4 = 0 → pb_Mo_goesToYes_160 K P124 x1 x2 x3 x4 x5 g) ∧ (x4 = 0 → vp_in x1 60 ∧ ((¬ ((((g 3 (x1).toNatClampNeg)).toUInt32 >>> ((x5).toUInt32 &&& Int32.toUInt32 31)).toInt32 &&& (1 : Int32)) = (1 : Int32) → pb_Mo_goesToYes_164 K P124 x1 x2 x3 x4 x5 g) ∧ (((((g 3 (x1).toNatClampNeg)).toUInt32 >>> ((x5).toUInt32 &&& Int32.toUInt32 31)).toInt32 &&& (1 : Int32)) = (1 : Int32) → pc_Mo_whole x5 g (fun v2 g1 => ((¬ x2 = v2 → pb_Mo_goesToYes_164 K P124 x1 x2 x3 x4 x5 g1) ∧ (x2 = v2 → pb_Mo_goesToYes_160 K P124 x1 x2 x3 x4 x5 g1)))))))))
def pl_Mo_goesToYes_124 (K : Int32 → St → Prop) (x1 : Int32) (x2 : Int32) (x3 : Int32) (x4 : Int32) (x5 : Int32) (g : St) : Prop :=
  ∀ P124 : Int32 → Int32 → Int32 → Int32 → Int32 → St → Prop, (∀ (x1 : Int32) (x2 : Int32) (x3 : Int32) (x4 : Int32) (x5 : Int32) (g : St), pb_Mo_goesToYes_124 K P124 x1 x2 x3 x4 x5 g → P124 x1 x2 x3 x4 x5 g) → P124 x1 x2 x3 x4 x5 g
def pb_Mo_goesToYes_119 (K : Int32 → St → Prop) (x1 : Int32) (x2 : Int32) (x3 : Int32) (t0 : Int32) (g : St) : Prop :=
  ∀ v1 : Int32, v1 = t0 → ∀ v2 : Int32, v2 = (1 : Int32) → pl_Mo_goesToYes_124 K x1 x2 x3 v1 v2 g
def pb_Mo_goesToYes_118 (K : Int32 → St → Prop) (x1 : Int32) (x2 : Int32) (x3 : Int32) (g : St) : Prop :=
  pb_Mo_goesToYes_119 K x1 x2 x3 (0 : Int32) g
def pb_Mo_goesToYes_0 (K : Int32 → St → Prop) (x1 : Int32) (g : St) : Prop :=
  vp_in x1 60 ∧ vp_in (g 2 (x1).toNatClampNeg) 8 ∧ ∀ v1 : Int32, v1 = (g 7 ((g 2 (x1).toNatClampNeg)).toNatClampNeg) → vp_in x1 60 ∧ ∀ v2 : Int32, v2 = (g 1 (x1).toNatClampNeg) → (((v1 &&& (2147483647 : Int32)) ≤ (2139095040 : Int32) → (((2 : Int32) ≤ v2 → (((4 : Int32) ≤ v2 → vp_in x1 60 ∧ ((¬ ((g 3 (x1).toNatClampNeg) &&& (1 : Int32)) = (1 : Int32) → pb_Mo_goesToYes_118 K x1 v1 v2 g) ∧ (((g 3 (x1).toNatClampNeg) &&& (1 : Int32)) = (1 : Int32) → ((¬ (v1 &&& (2147483647 : Int32)) = 0 → pb_Mo_goesToYes_118 K x1 v1 v2 g) ∧ ((v1 &&& (2147483647 : Int32)) = 0 → pb_Mo_goesToYes_119 K x1 v1 v2 (1 : Int32) g))))) ∧ (¬ (4 : Int32) ≤ v2 → pc_Mo_ordered v1 g (fun v4 g3 => vp_in x1 60 ∧ pc_Mo_ordered (g3 3 (x1).toNatClampNeg) g3 (fun v6 g5 => ((v6 < v4 → K (0 : Int32) g5) ∧ (¬ v6 < v4 → K (1 : Int32) g5))))))) ∧ (¬ (2 : Int32) ≤ v2 → pc_Mo_ordered v1 g (fun v8 g7 => vp_in x1 60 ∧ pc_Mo_ordered (g7 3 (x1).toNatClampNeg) g7 (fun v10 g9 => ((v10 ≤ v8 → K (0 : Int32) g9) ∧ (¬ v10 ≤ v8 → K (1 : Int32) g9))))))) ∧ (¬ (v1 &&& (2147483647 : Int32)) ≤ (2139095040 : Int32) → ((¬ (v2 &&& (1 : Int32)) = (1 : Int32) → K (0 : Int32) g) ∧ ((v2 &&& (1 : Int32)) = (1 : Int32) → K (1 : Int32) g))))
def pc_Mo_goesToYes (x1 : Int32) (g : St) (K : Int32 → St → Prop) : Prop := pb_Mo_goesToYes_0 K x1 g
def pb_Mo_reach_54 (K : Int32 → St → Prop) (P21 : Int32 → Int32 → St → Prop) (x1 : Int32) (x2 : Int32) (t0 : Int32) (g : St) : Prop :=
  ∀ v1 : Int32, v1 = t0 → P21 x1 v1 g
def pb_Mo_reach_21 (K : Int32 → St → Prop) (P21 : Int32 → Int32 → St → Prop) (x1 : Int32) (x2 : Int32) (g : St) : Prop :=
  vp_in x2 60 ∧ (((g 1 (x2).toNatClampNeg) = (-1 : Int32) → K x2 g) ∧ (¬ (g 1 (x2).toNatClampNeg) = (-1 : Int32) → pc_Mo_goesToYes x2 g (fun v2 g1 => ((v2 = 0 → vp_in x2 60 ∧ pb_Mo_reach_54 K P21 x1 x2 (g1 5 (x2).toNatClampNeg) g1) ∧ (¬ v2 = 0 → vp_in x2 60 ∧ pb_Mo_reach_54 K P21 x1 x2 (g1 4 (x2).toNatClampNeg) g1)))))
def pl_Mo_reach_21 (K : Int32 → St → Prop) (x1 : Int32) (x2 : Int32) (g : St) : Prop :=
  ∀ P21 : Int32 → Int32 → St → Prop, (∀ (x1 : Int32) (x2 : Int32) (g : St), pb_Mo_reach_21 K P21 x1 x2 g → P21 x1 x2 g) → P21 x1 x2 g
def pb_Mo_reach_0 (K : Int32 → St → Prop) (x1 : Int32) (g : St) : Prop :=
  ((x1 < 0 → K (-1 : Int32) g) ∧ (¬ x1 < 0 → ((x1 < (g 102 0) → vp_in x1 8 ∧ ∀ v1 : Int32, v1 = (g 6 (x1).toNatClampNeg) → pl_Mo_reach_21 K x1 v1 g) ∧ (¬ x1 < (g 102 0) → K (-1 : Int32) g))))
def pc_Mo_reach (x1 : Int32) (g : St) (K : Int32 → St → Prop) : Prop := pb_Mo_reach_0 K x1 g
def pb_Mo_predict_117 (K : Int64 → St → Prop) (P14 : Int64 → Int32 → St → Prop) (P30 : Int64 → Int32 → Int32 → St → Prop) (x1 : Int64) (x3 : Int32) (x4 : Int32) (t1 : Int32) (g : St) : Prop :=
  ∀ g1 : St, g1 = sc g 108 t1 → P30 x1 x3 x4 g1
def pb_Mo_predict_89 (K : Int64 → St → Prop) (P14 : Int64 → Int32 → St → Prop) (P30 : Int64 → Int32 → Int32 → St → Prop) (x1 : Int64) (x3 : Int32) (x4 : Int32) (t1 : Int32) (t2 : Int32) (g : St) : Prop :=
  ∀ g1 : St, g1 = sc g 107 (t1 + t2) → vp_in x4 60 ∧ (((g1 13 (x4).toNatClampNeg) < 0 → pb_Mo_predict_117 K P14 P30 x1 x3 x4 (g1 108 0) g1) ∧ (¬ (g1 13 (x4).toNatClampNeg) < 0 → pb_Mo_predict_117 K P14 P30 x1 x3 x4 ((g1 108 0) + (1 : Int32)) g1))
def pb_Mo_predict_67 (K : Int64 → St → Prop) (P14 : Int64 → Int32 → St → Prop) (P30 : Int64 → Int32 → Int32 → St → Prop) (x1 : Int64) (x3 : Int32) (x4 : Int32) (t0 : Int32) (g : St) : Prop :=
  ∀ v1 : Int32, v1 = t0 → vp_in v1 60 ∧ (((g 13 (v1).toNatClampNeg) < 0 → pb_Mo_predict_89 K P14 P30 x1 x3 v1 (g 107 0) (3 : Int32) g) ∧ (¬ (g 13 (v1).toNatClampNeg) < 0 → pb_Mo_predict_89 K P14 P30 x1 x3 v1 (g 107 0) (5 : Int32) g))
def pb_Mo_predict_30 (K : Int64 → St → Prop) (P14 : Int64 → Int32 → St → Prop) (P30 : Int64 → Int32 → Int32 → St → Prop) (x1 : Int64) (x3 : Int32) (x4 : Int32) (g : St) : Prop :=
  vp_in x4 60 ∧ (((g 1 (x4).toNatClampNeg) = (-1 : Int32) → ∀ g1 : St, g1 = sc g 107 ((g 107 0) + (2 : Int32)) → vp_in x4 60 ∧ ∀ v2 : Int64, v2 = (x1 + ((g1 3 (x4).toNatClampNeg)).toInt64) → ∀ v3 : Int32, v3 = x3 + (1 : Int32) → P14 v2 v3 g1) ∧ (¬ (g 1 (x4).toNatClampNeg) = (-1 : Int32) → pc_Mo_goesToYes x4 g (fun v5 g4 => ((v5 = 0 → vp_in x4 60 ∧ pb_Mo_predict_67 K P14 P30 x1 x3 x4 (g4 5 (x4).toNatClampNeg) g4) ∧ (¬ v5 = 0 → vp_in x4 60 ∧ pb_Mo_predict_67 K P14 P30 x1 x3 x4 (g4 4 (x4).toNatClampNeg) g4)))))
def pl_Mo_predict_30 (K : Int64 → St → Prop) (P14 : Int64 → Int32 → St → Prop) (x1 : Int64) (x3 : Int32) (x4 : Int32) (g : St) : Prop :=
  ∀ P30 : Int64 → Int32 → Int32 → St → Prop, (∀ (x1 : Int64) (x3 : Int32) (x4 : Int32) (g : St), pb_Mo_predict_30 K P14 P30 x1 x3 x4 g → P30 x1 x3 x4 g) → P30 x1 x3 x4 g
def pb_Mo_predict_14 (K : Int64 → St → Prop) (P14 : Int64 → Int32 → St → Prop) (x1 : Int64) (x3 : Int32) (g : St) : Prop :=
  (((g 102 0) ≤ x3 → K x1 g) ∧ (¬ (g 102 0) ≤ x3 → vp_in x3 8 ∧ ∀ v1 : Int32, v1 = (g 6 (x3).toNatClampNeg) → pl_Mo_predict_30 K P14 x1 x3 v1 g))
def pl_Mo_predict_14 (K : Int64 → St → Prop) (x1 : Int64) (x3 : Int32) (g : St) : Prop :=
  ∀ P14 : Int64 → Int32 → St → Prop, (∀ (x1 : Int64) (x3 : Int32) (g : St), pb_Mo_predict_14 K P14 x1 x3 g → P14 x1 x3 g) → P14 x1 x3 g
def pb_Mo_predict_0 (K : Int64 → St → Prop) (g : St) : Prop :=
  ∀ v1 : Int64, v1 = (0 : Int64) → ∀ g2 : St, g2 = sc g 107 (0 : Int32) → ∀ g3 : St, g3 = sc g2 108 (0 : Int32) → ∀ v4 : Int32, v4 = (0 : Int32) → pl_Mo_predict_14 K v1 v4 g3
def pc_Mo_predict (g : St) (K : Int64 → St → Prop) : Prop := pb_Mo_predict_0 K g
def pb_Mo_steps_0 (K : Int32 → St → Prop) (g : St) : Prop :=
  K (g 107 0) g
def pc_Mo_steps (g : St) (K : Int32 → St → Prop) : Prop := pb_Mo_steps_0 K g
def pb_Mo_calls_0 (K : Int32 → St → Prop) (g : St) : Prop :=
  K (g 108 0) g
def pc_Mo_calls (g : St) (K : Int32 → St → Prop) : Prop := pb_Mo_calls_0 K g
end
