/-! compile: the shape of trees without a fault -/
section TREE
variable (n : Nat) (ru : Nat → Int32) (ye no : Nat → Nat)
/-- a proper tree of at most d levels -/
def TR : Nat → Nat → Prop
  | 0, _ => False
  | d + 1, i => i < n ∧ (ru i = -1 ∨ (¬ ru i = -1 ∧ TR d (ye i) ∧ TR d (no i)))
/-- its nodes -/
def nds : Nat → Nat → List Nat
  | 0, _ => []
  | d + 1, i => if ru i = -1 then [i] else i :: (nds d (ye i) ++ nds d (no i))
end TREE
theorem nds_leaf {ru : Nat → Int32} {ye no : Nat → Nat} {d i : Nat} (h : ru i = -1) : nds ru ye no (d + 1) i = [i] := by
  unfold nds; rw [if_pos h]
theorem nds_split {ru : Nat → Int32} {ye no : Nat → Nat} {d i : Nat} (h : ¬ ru i = -1) : nds ru ye no (d + 1) i = i :: (nds ru ye no d (ye i) ++ nds ru ye no d (no i)) := by
  conv => lhs; unfold nds
  rw [if_neg h]
theorem nds_self {n : Nat} {ru : Nat → Int32} {ye no : Nat → Nat} : ∀ {d i : Nat}, TR n ru ye no d i → i ∈ nds ru ye no d i := by
  intro d i h
  cases d with
  | zero => exact h.elim
  | succ d =>
    by_cases hl : ru i = -1
    · rw [nds_leaf hl]; simp
    · rw [nds_split hl]; simp
theorem nds_lt {n : Nat} {ru : Nat → Int32} {ye no : Nat → Nat} : ∀ (d i : Nat), TR n ru ye no d i → ∀ x ∈ nds ru ye no d i, x < n := by
  intro d
  induction d with
  | zero => intro i h; exact h.elim
  | succ d ih =>
    intro i h x hx
    obtain ⟨hi, h⟩ := h
    rcases h with hl | ⟨hl, h1, h2⟩
    · rw [nds_leaf hl] at hx
      simp at hx
      rw [hx]; exact hi
    · rw [nds_split hl] at hx
      simp only [List.mem_cons, List.mem_append] at hx
      rcases hx with rfl | hx | hx
      · exact hi
      · exact ih _ h1 x hx
      · exact ih _ h2 x hx
theorem flt_tree {n : Nat} {ru : Nat → Int32} {ye no : Nat → Nat} : ∀ (d i dep : Nat) (S : Nat → Bool), dep + d = 13 → i < n → (flt n ru ye no (d + 1) i dep S).1 = 0 →
    TR n ru ye no d i ∧ (∀ j ∈ nds ru ye no d i, S j = false) ∧ (nds ru ye no d i).Nodup ∧ ∀ j, (flt n ru ye no (d + 1) i dep S).2 j = (decide (j ∈ nds ru ye no d i) || S j) := by
  intro d
  induction d with
  | zero =>
    intro i dep S hd hi hz
    exfalso
    unfold flt at hz
    split at hz
    · exact absurd hz (by show ¬ 200 + i = 0; omega)
    · rw [if_pos (by omega)] at hz
      exact absurd hz (by show ¬ 300 + i = 0; omega)
  | succ d ih =>
    intro i dep S hd hi hz
    have hS : S i = false := by
      cases hS : S i with
      | false => rfl
      | true =>
        exfalso
        unfold flt at hz
        rw [if_pos hS] at hz
        exact absurd hz (by show ¬ 200 + i = 0; omega)
    by_cases hl : ru i = -1
    · have ef : flt n ru ye no (d + 1 + 1) i dep S = (0, mark S i) := by
        unfold flt; rw [if_neg (by rw [hS]; decide), if_neg (by omega), if_pos hl]
      rw [ef, nds_leaf hl]
      refine ⟨⟨hi, Or.inl hl⟩, fun j hj => ?_, by simp, fun j => ?_⟩
      · simp at hj; rw [hj]; exact hS
      · show mark S i j = _
        unfold mark
        by_cases hj : j = i
        · subst hj; simp
        · rw [beq_eq_false_iff_ne.mpr hj]; simp [hj]
    · by_cases hb : n ≤ ye i ∨ n ≤ no i
      · exfalso
        unfold flt at hz
        rw [if_neg (by rw [hS]; decide), if_neg (by omega), if_neg hl, if_pos hb] at hz
        exact absurd hz (by show ¬ 100 + i = 0; omega)
      have ef : flt n ru ye no (d + 1 + 1) i dep S = if (flt n ru ye no (d + 1) (ye i) (dep + 1) (mark S i)).1 = 0 then flt n ru ye no (d + 1) (no i) (dep + 1) (flt n ru ye no (d + 1) (ye i) (dep + 1) (mark S i)).2 else flt n ru ye no (d + 1) (ye i) (dep + 1) (mark S i) := by
        conv => lhs; unfold flt
        rw [if_neg (by rw [hS]; decide), if_neg (by omega), if_neg hl, if_neg hb]
      rw [ef] at hz ⊢
      by_cases h1 : (flt n ru ye no (d + 1) (ye i) (dep + 1) (mark S i)).1 = 0
      · rw [if_pos h1] at hz ⊢
        obtain ⟨a1, a2, a3, a4⟩ := ih (ye i) (dep + 1) (mark S i) (by omega) (by omega) h1
        obtain ⟨b1, b2, b3, b4⟩ := ih (no i) (dep + 1) _ (by omega) (by omega) hz
        have m1 : ∀ j, mark S i j = false → j ≠ i ∧ S j = false := by
          intro j hj
          unfold mark at hj
          simp only [Bool.or_eq_false_iff, beq_eq_false_iff_ne] at hj
          exact hj
        have m2 : ∀ j ∈ nds ru ye no d (no i), j ≠ i ∧ S j = false ∧ j ∉ nds ru ye no d (ye i) := by
          intro j hj
          have := b2 j hj
          rw [a4 j] at this
          simp only [Bool.or_eq_false_iff, decide_eq_false_iff_not] at this
          exact ⟨(m1 j this.2).1, (m1 j this.2).2, this.1⟩
        rw [nds_split hl]
        refine ⟨⟨hi, Or.inr ⟨hl, a1, b1⟩⟩, fun j hj => ?_, ?_, fun j => ?_⟩
        · simp only [List.mem_cons, List.mem_append] at hj
          rcases hj with rfl | hj | hj
          · exact hS
          · exact (m1 j (a2 j hj)).2
          · exact (m2 j hj).2.1
        · rw [List.nodup_cons, List.nodup_append]
          refine ⟨?_, a3, b3, fun a ha b hb e => ?_⟩
          · intro hj
            rcases List.mem_append.mp hj with hj | hj
            · exact (m1 i (a2 i hj)).1 rfl
            · exact (m2 i hj).1 rfl
          · subst e
            exact (m2 a hb).2.2 ha
        · rw [b4 j, a4 j]
          unfold mark
          simp only [List.mem_cons, List.mem_append]
          by_cases q1 : j = i
          · subst q1; simp
          · by_cases q2 : j ∈ nds ru ye no d (ye i) <;> by_cases q3 : j ∈ nds ru ye no d (no i) <;> simp [q1, q2, q3]
      · rw [if_neg h1] at hz
        exact absurd hz h1
/-- the nodes of the first k trees -/
def AN (ru : Nat → Int32) (ye no ro : Nat → Nat) : Nat → List Nat
  | 0 => []
  | k + 1 => AN ru ye no ro k ++ nds ru ye no 13 (ro k)
theorem fltI_trees {n : Nat} {ru : Nat → Int32} {ye no ro : Nat → Nat} : ∀ (k i : Nat) (S : Nat → Bool), (∀ j, j < i + k → ro j < n) → (∀ j, S j = decide (j ∈ AN ru ye no ro i)) → (AN ru ye no ro i).Nodup → (∀ j, j < i → TR n ru ye no 13 (ro j)) → (fltI n ru ye no ro k i S).1 = 0 →
    (AN ru ye no ro (i + k)).Nodup ∧ ∀ j, j < i + k → TR n ru ye no 13 (ro j) := by
  intro k
  induction k with
  | zero => intro i S _ _ hN hT _; exact ⟨hN, fun j hj => hT j (by omega)⟩
  | succ k ih =>
    intro i S hro hS hN hT hz
    unfold fltI at hz
    by_cases h1 : (flt n ru ye no 14 (ro i) 0 S).1 = 0
    · rw [if_pos h1] at hz
      obtain ⟨a1, a2, a3, a4⟩ := flt_tree 13 (ro i) 0 S (by omega) (hro i (by omega)) h1
      have := ih (i + 1) _ (fun j hj => hro j (by omega)) (fun j => ?_) ?_ (fun j hj => ?_) hz
      · rw [show i + (k + 1) = i + 1 + k by omega]
        exact this
      · rw [a4 j, hS j]
        show _ = decide (j ∈ AN ru ye no ro i ++ nds ru ye no 13 (ro i))
        by_cases q2 : j ∈ nds ru ye no 13 (ro i) <;> by_cases q3 : j ∈ AN ru ye no ro i <;> simp [q2, q3]
      · show (AN ru ye no ro i ++ nds ru ye no 13 (ro i)).Nodup
        rw [List.nodup_append]
        refine ⟨hN, a3, fun a ha b hb e => ?_⟩
        subst e
        have := a2 a hb
        rw [hS a] at this
        simp at this
        exact this ha
      · by_cases hj' : j = i
        · subst hj'; exact a1
        · exact hT j (by omega)
    · rw [if_neg h1] at hz
      exact absurd hz h1
