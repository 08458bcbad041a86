/-! compile, second stage: all trees -/
section CUTA
variable (ru : Nat → Int32) (ye no ro : Nat → Nat) (lim : Nat)
def cutA : Nat → Cs
  | 0 => (fun _ => 0, fun _ => 0, [])
  | k + 1 => ((cutn ru ye no lim 13 (ro k) (cutA k)).1, (cutn ru ye no lim 13 (ro k) (cutA k)).2.1, (cutn ru ye no lim 13 (ro k) (cutA k)).2.2 ++ [ro k])
/-- the method of tree j -/
def rmo (j : Nat) : Nat := (cutn ru ye no lim 13 (ro j) (cutA ru ye no ro lim j)).2.2.length
end CUTA
section CUTAP
variable {n lim t : Nat} {ru bi : Nat → Int32} {fe ye no ro : Nat → Nat}
theorem AN_sub : ∀ {k m : Nat}, k ≤ m → ∀ x ∈ AN ru ye no ro k, x ∈ AN ru ye no ro m := by
  intro k m h x hx
  induction m with
  | zero => rw [show k = 0 by omega] at hx; exact hx
  | succ m ih =>
    by_cases e : k = m + 1
    · rw [← e]; exact hx
    · exact List.mem_append_left _ (ih (by omega))
theorem AN_nodup : ∀ {k m : Nat}, k ≤ m → (AN ru ye no ro m).Nodup → (AN ru ye no ro k).Nodup := by
  intro k m h hN
  induction m with
  | zero => rw [show k = 0 by omega]; exact hN
  | succ m ih =>
    by_cases e : k = m + 1
    · rw [e]; exact hN
    · exact ih (by omega) (List.nodup_append.mp hN).1
theorem AN_len : ∀ {k m : Nat}, k ≤ m → (AN ru ye no ro k).length ≤ (AN ru ye no ro m).length := by
  intro k m h
  induction m with
  | zero => rw [show k = 0 by omega]; exact Nat.le_refl _
  | succ m ih =>
    by_cases e : k = m + 1
    · rw [e]; exact Nat.le_refl _
    · refine Nat.le_trans (ih (by omega)) ?_
      show _ ≤ (AN ru ye no ro m ++ nds ru ye no 13 (ro m)).length
      simp
theorem AN_lt : ∀ {k : Nat}, (∀ j, j < k → TR n ru ye no 13 (ro j)) → ∀ x ∈ AN ru ye no ro k, x < n := by
  intro k
  induction k with
  | zero => intro _ x hx; cases hx
  | succ k ih =>
    intro hT x hx
    rcases List.mem_append.mp hx with hx | hx
    · exact ih (fun j hj => hT j (by omega)) x hx
    · exact nds_lt 13 _ (hT k (by omega)) x hx
theorem AN_60 (hn : n ≤ 60) {k : Nat} (hN : (AN ru ye no ro k).Nodup) (hT : ∀ j, j < k → TR n ru ye no 13 (ro j)) : (AN ru ye no ro k).length ≤ 60 := by
  have h := List.Nodup.length_le_of_subset hN (l₂ := List.range 60) (fun x hx => by
    rw [List.mem_range]
    exact Nat.lt_of_lt_of_le (AN_lt hT x hx) hn)
  rw [List.length_range] at h
  exact h
/-- what the function keeps -/
def CaOk (ru : Nat → Int32) (ye no ro : Nat → Nat) (lim k : Nat) (s : Cs) : Prop :=
  (∀ x, x ∉ AN ru ye no ro k → s.2.1 x = 0) ∧ (∀ j, j < k → s.2.1 (ro j) = 0 ∧ s.2.2[rmo ru ye no ro lim j]? = some (ro j)) ∧ (∀ x ∈ AN ru ye no ro k, ∀ m : Nat, s.2.1 x = m + 1 → s.2.2[m]? = some x) ∧ (∀ x ∈ AN ru ye no ro k, 3 ≤ s.1 x ∧ s.1 x ≤ lim) ∧ (∀ x ∈ AN ru ye no ro k, (ru x = -1 → s.1 x = 3) ∧ (¬ ru x = -1 → s.1 x = sln ye no s x)) ∧ s.2.2.length ≤ (AN ru ye no ro k).length ∧ (∀ x ∈ s.2.2, x ∈ AN ru ye no ro k) ∧ sumL s.1 s.2.2 ≤ 10 * (AN ru ye no ro k).length
theorem AN_child {k : Nat} (hT : ∀ j, j < k → TR n ru ye no 13 (ro j)) (hN : (AN ru ye no ro k).Nodup) : ∀ x ∈ AN ru ye no ro k, ¬ ru x = -1 → (ye x ∈ AN ru ye no ro k ∧ no x ∈ AN ru ye no ro k) := by
  induction k with
  | zero => intro x hx; cases hx
  | succ k ih =>
    intro x hx hl
    have hN' := List.nodup_append.mp hN
    rcases List.mem_append.mp hx with hx | hx
    · have := ih (fun j hj => hT j (by omega)) hN'.1 x hx hl
      exact ⟨List.mem_append_left _ this.1, List.mem_append_left _ this.2⟩
    · have := nds_child 13 (ro k) (hT k (by omega)) hN'.2.1 x hx hl
      exact ⟨List.mem_append_right _ this.1.1, List.mem_append_right _ this.2.1.1⟩
theorem cutA_ok (h20 : 20 ≤ lim) : ∀ k, (∀ j, j < k → TR n ru ye no 13 (ro j)) → (AN ru ye no ro k).Nodup → CaOk ru ye no ro lim k (cutA ru ye no ro lim k) := by
  intro k
  induction k with
  | zero =>
    intro _ _
    exact ⟨fun _ _ => rfl, fun j hj => by omega, fun x hx => absurd hx List.not_mem_nil, fun x hx => absurd hx List.not_mem_nil, fun x hx => absurd hx List.not_mem_nil, Nat.le_refl _, fun x hx => absurd hx List.not_mem_nil, Nat.le_refl _⟩
  | succ k ih =>
    intro hT hN
    have hN' := List.nodup_append.mp hN
    obtain ⟨n1, n2, n3⟩ := hN'
    have hTk := hT k (by omega)
    obtain ⟨i1, i2, i3, i4, i5, i6, i7, i8⟩ := ih (fun j hj => hT j (by omega)) n1
    obtain ⟨A, a1, a2, a3, a4, a5, a6, a7, a8, a9⟩ := cutn_ok (lim := lim) h20 13 (ro k) (cutA ru ye no ro lim k) hTk n2 (fun x hx => i1 x (fun q => n3 x q x hx rfl))
    have es : cutA ru ye no ro lim (k + 1) = ((cutn ru ye no lim 13 (ro k) (cutA ru ye no ro lim k)).1, (cutn ru ye no lim 13 (ro k) (cutA ru ye no ro lim k)).2.1, (cutn ru ye no lim 13 (ro k) (cutA ru ye no ro lim k)).2.2 ++ [ro k]) := rfl
    have er : rmo ru ye no ro lim k = (cutn ru ye no lim 13 (ro k) (cutA ru ye no ro lim k)).2.2.length := rfl
    rw [es]
    generalize hs0 : cutA ru ye no ro lim k = s0 at *
    generalize hs1 : cutn ru ye no lim 13 (ro k) s0 = s1 at *
    have mr : ro k ∈ nds ru ye no 13 (ro k) := nds_self hTk
    have old : ∀ x ∈ AN ru ye no ro k, s1.1 x = s0.1 x ∧ s1.2.1 x = s0.2.1 x := fun x hx => a4 x (fun q => n3 x hx x q rfl)
    have getO : ∀ (m x : Nat), s0.2.2[m]? = some x → (s1.2.2 ++ [ro k])[m]? = some x := fun m x hm => by
      have hlt := (List.getElem?_eq_some_iff.mp hm).1
      rw [a1, List.append_assoc, List.getElem?_append_left hlt]; exact hm
    refine ⟨fun x hx => ?_, fun j hj => ?_, fun x hx m hm => ?_, fun x hx => ?_, fun x hx => ?_, ?_, fun x hx => ?_, ?_⟩
    · have hx1 : x ∉ AN ru ye no ro k := fun q => hx (List.mem_append_left _ q)
      have hx2 : x ∉ nds ru ye no 13 (ro k) := fun q => hx (List.mem_append_right _ q)
      show s1.2.1 x = 0
      rw [(a4 x hx2).2]; exact i1 x hx1
    · by_cases e : j = k
      · rw [e, er]
        exact ⟨a5, List.getElem?_concat_length⟩
      · have := i2 j (by omega)
        have hm : ro j ∈ AN ru ye no ro k := AN_sub (show j + 1 ≤ k by omega) _ (List.mem_append_right _ (nds_self (hT j (by omega))))
        exact ⟨by show s1.2.1 (ro j) = 0; rw [(old _ hm).2]; exact this.1, getO _ _ this.2⟩
    · have hm : s1.2.1 x = m + 1 := hm
      show (s1.2.2 ++ [ro k])[m]? = some x
      rcases List.mem_append.mp hx with hx | hx
      · rw [(old x hx).2] at hm
        exact getO m x (i3 x hx m hm)
      · have h1 := a6 x hx m hm
        rw [List.getElem?_append_left ((List.getElem?_eq_some_iff.mp h1).1)]; exact h1
    · show 3 ≤ s1.1 x ∧ s1.1 x ≤ lim
      rcases List.mem_append.mp hx with hx | hx
      · rw [(old x hx).1]; exact i4 x hx
      · exact a7 x hx
    · show (ru x = -1 → s1.1 x = 3) ∧ (¬ ru x = -1 → s1.1 x = sln ye no (s1.1, s1.2.1, s1.2.2 ++ [ro k]) x)
      have e0 : sln ye no (s1.1, s1.2.1, s1.2.2 ++ [ro k]) x = sln ye no s1 x := sln_eq (prt_eq rfl rfl) (prt_eq rfl rfl)
      rw [e0]
      rcases List.mem_append.mp hx with hx | hx
      · rw [(old x hx).1]
        refine ⟨(i5 x hx).1, fun q => ?_⟩
        rw [(i5 x hx).2 q]
        have hc := AN_child (fun j hj => hT j (by omega)) n1 x hx q
        exact (sln_eq (prt_eq (old _ hc.1).1 (old _ hc.1).2) (prt_eq (old _ hc.2).1 (old _ hc.2).2)).symm
      · exact a8 x hx
    · show (s1.2.2 ++ [ro k]).length ≤ (AN ru ye no ro k ++ nds ru ye no 13 (ro k)).length
      rw [a1]
      simp only [List.length_append, List.length_cons, List.length_nil]
      omega
    · have hx : x ∈ s1.2.2 ++ [ro k] := hx
      rw [a1] at hx
      simp only [List.mem_append, List.mem_singleton] at hx
      rcases hx with (hx | hx) | hx
      · exact List.mem_append_left _ (i7 x hx)
      · exact List.mem_append_right _ (a2 x hx).1
      · rw [hx]; exact List.mem_append_right _ mr
    · show sumL s1.1 (s1.2.2 ++ [ro k]) ≤ 10 * (AN ru ye no ro k ++ nds ru ye no 13 (ro k)).length
      rw [a1, sumL_app, sumL_app, sumL_eq (L := s0.1) s0.2.2 (fun x hx => (old x (i7 x hx)).1)]
      show _ + (s1.1 (ro k) + 0) ≤ _
      rw [List.length_append]
      omega
/-- the class's cells behind the cutting of the first k trees -/
def CaC (ru : Nat → Int32) (ye no ro : Nat → Nat) (lim k : Nat) (g0 g : St) (s : Cs) : Prop :=
  g 102 0 = nI s.2.2.length ∧ (∀ x ∈ AN ru ye no ro k, g 12 x = nI (s.1 x)) ∧ (∀ x ∈ AN ru ye no ro k, (∀ j, j < k → x ≠ ro j) → g 13 x = cI0 (s.2.1 x)) ∧ (∀ j, j < k → g 13 (ro j) = nI (rmo ru ye no ro lim j)) ∧ (∀ x, x < 60 → x ∉ AN ru ye no ro k → g 13 x = -1) ∧ (∀ m x : Nat, s.2.2[m]? = some x → g 14 m = nI x) ∧ (∀ j, j ≠ 12 → j ≠ 13 → j ≠ 14 → j ≠ 102 → g j = g0 j)
theorem s_cutTrees {g : St} {K : St → Prop} (hV : FoV n ru fe ye no) (h20 : 20 ≤ lim) (h400 : lim ≤ 400) (ht : t ≤ 8) (hT : ∀ j, j < t → TR n ru ye no 13 (ro j)) (hN : (AN ru ye no ro t).Nodup) (hF : FoC n ru bi fe ye no g) (hR : RoC g t ro)
    (hk : ∀ g', CaC ru ye no ro lim t g g' (cutA ru ye no ro lim t) → K g') : pc_Cu_cutTrees (nI lim) g K := by
  have hn := hV.1
  unfold pc_Cu_cutTrees pb_Cu_cutTrees_0
  intro g1 e1 v2 e2
  rw [e2]
  have trees : ∀ (r k : Nat) (g' : St) (P : Int32 → Int32 → St → Prop), (∀ x1 x2 g, pb_Cu_cutTrees_28 K P x1 x2 g → P x1 x2 g) → k + r = t → CaC ru ye no ro lim k g g' (cutA ru ye no ro lim k) → P (nI lim) (nI k) g' := by
    intro r
    induction r with
    | zero =>
      intro k g' P hP hkr hA
      apply hP
      unfold pb_Cu_cutTrees_28
      refine zb_t ?_ (hk g' (by rw [show t = k by omega]; exact hA))
      rw [hA.2.2.2.2.2.2 101 (by decide) (by decide) (by decide) (by decide), hR.1]
      exact nI_le (by omega) (by omega)
    | succ r ih =>
      intro k g' P hP hkr hA
      have hkt : k < t := by omega
      have hN1 : (AN ru ye no ro (k + 1)).Nodup := AN_nodup (show k + 1 ≤ t by omega) hN
      obtain ⟨n1, n2, n3⟩ := List.nodup_append.mp hN1
      have hTk := hT k hkt
      have ok := cutA_ok (lim := lim) h20 k (fun j hj => hT j (by omega)) n1
      have l60 := AN_60 hn hN1 (fun j hj => hT j (by omega))
      have l1 : (AN ru ye no ro (k + 1)).length = (AN ru ye no ro k).length + (nds ru ye no 13 (ro k)).length := by
        show (AN ru ye no ro k ++ nds ru ye no 13 (ro k)).length = _; simp
      obtain ⟨A, a1, a2, a3, a4, a5, a6, a7, a8, a9⟩ := cutn_ok (lim := lim) h20 13 (ro k) (cutA ru ye no ro lim k) hTk n2 (fun x hx => ok.1 x (fun q => n3 x q x hx rfl))
      obtain ⟨q1, q2, q3, q4, q5, q6, q7⟩ := hA
      have hro60 : ro k < 60 := Nat.lt_of_lt_of_le (nds_lt 13 _ hTk _ (nds_self hTk)) hn
      apply hP
      unfold pb_Cu_cutTrees_28
      have ik : vp_in (nI k) 8 := vp_in_nI (by omega) (by decide)
      refine zb_f ?_ ⟨ik, ?_⟩
      · rw [q7 101 (by decide) (by decide) (by decide) (by decide), hR.1]
        exact nI_ge (by omega) (by omega)
      rw [q7 8 (by decide) (by decide) (by decide) (by decide), nI_clamp (by omega : k < 2 ^ 31), hR.2 k hkt]
      have hF' : FoC n ru bi fe ye no g' := FoC_of (q7 3 (by decide) (by decide) (by decide) (by decide)) (q7 4 (by decide) (by decide) (by decide) (by decide)) (q7 5 (by decide) (by decide) (by decide) (by decide)) (q7 6 (by decide) (by decide) (by decide) (by decide)) (q7 7 (by decide) (by decide) (by decide) (by decide)) (q7 100 (by decide) (by decide) (by decide) (by decide)) hF
      refine s_cutFrom (bi := bi) hV h20 h400 13 14 0 (ro k) (cutA ru ye no ro lim k) g' _ (by omega) (by omega) hTk n2 (fun x hx => ?_) (by have := ok.2.2.2.2.2.1; omega) q1 hF' (fun g2 P2 => ⟨ik, ?_⟩)
      · have hx' : x ∉ AN ru ye no ro k := fun q => n3 x q x hx rfl
        exact ⟨ok.1 x hx', q5 x (Nat.lt_of_lt_of_le (nds_lt 13 _ hTk x hx) hn) hx'⟩
      have es : cutA ru ye no ro lim (k + 1) = ((cutn ru ye no lim 13 (ro k) (cutA ru ye no ro lim k)).1, (cutn ru ye no lim 13 (ro k) (cutA ru ye no ro lim k)).2.1, (cutn ru ye no lim 13 (ro k) (cutA ru ye no ro lim k)).2.2 ++ [ro k]) := rfl
      have er : rmo ru ye no ro lim k = (cutn ru ye no lim 13 (ro k) (cutA ru ye no ro lim k)).2.2.length := rfl
      obtain ⟨p1, p2, p3, p4, p5, p6⟩ := P2
      have okl := ok.2.2.2.2.2.1
      generalize hs0 : cutA ru ye no ro lim k = s0 at *
      generalize hs1 : cutn ru ye no lim 13 (ro k) s0 = s1 at *
      have len1 : s1.2.2.length = s0.2.2.length + A.length := by rw [a1]; simp
      rw [p4 8 (by decide) (by decide) (by decide) (by decide), q7 8 (by decide) (by decide) (by decide) (by decide), hR.2 k hkt]
      refine s_cutOut hro60 p1 (by omega) ?_
      intro v3 e3
      rw [nI_1] at e3
      rw [e3]
      refine ih (k + 1) _ P hP (by omega) ?_
      rw [es]
      have old : ∀ x ∈ AN ru ye no ro k, s1.1 x = s0.1 x ∧ s1.2.1 x = s0.2.1 x := fun x hx => a4 x (fun q => n3 x hx x q rfl)
      have notroot : ∀ x ∈ AN ru ye no ro k, x ≠ ro k := fun x hx e => n3 x hx (ro k) (nds_self hTk) e
      refine ⟨by rw [cutS_M]; show _ = nI (s1.2.2 ++ [ro k]).length; simp, fun x hx => ?_, fun x hx hnr => ?_, fun j hj => ?_, fun x hx60 hx => ?_, fun m x hm => ?_, fun j j1 j2 j3 j4 => ?_⟩
      · rw [cutS_o (by decide) (by decide) (by decide)]
        show _ = nI (s1.1 x)
        rcases List.mem_append.mp hx with hx | hx
        · rw [(p3 x (fun q => n3 x hx x q rfl)).1, (old x hx).1]; exact q2 x hx
        · exact (p2 x hx).1
      · rw [cutS_13 hro60, if_neg (hnr k (by omega))]
        show _ = cI0 (s1.2.1 x)
        rcases List.mem_append.mp hx with hx | hx
        · rw [(p3 x (fun q => n3 x hx x q rfl)).2, (old x hx).2]; exact q3 x hx (fun j hj => hnr j (by omega))
        · exact (p2 x hx).2
      · rw [cutS_13 hro60]
        by_cases e : j = k
        · rw [e, if_pos rfl, er]
        · have hm : ro j ∈ AN ru ye no ro k := AN_sub (show j + 1 ≤ k by omega) _ (List.mem_append_right _ (nds_self (hT j (by omega))))
          rw [if_neg (notroot _ hm), (p3 _ (fun q => n3 _ hm _ q rfl)).2]
          exact q4 j (by omega)
      · have hx1 : x ∉ AN ru ye no ro k := fun q => hx (List.mem_append_left _ q)
        have hx2 : x ∉ nds ru ye no 13 (ro k) := fun q => hx (List.mem_append_right _ q)
        rw [cutS_13 hro60, if_neg (fun e => hx2 (by rw [e]; exact nds_self hTk)), (p3 x hx2).2]
        exact q5 x hx60 hx1
      · have hm : (s1.2.2 ++ [ro k])[m]? = some x := hm
        rw [cutS_14 (by omega)]
        by_cases e : m = s1.2.2.length
        · rw [if_pos e]
          rw [e, List.getElem?_concat_length] at hm
          rw [Option.some.inj hm]
        · rw [if_neg e]
          have hlt := (List.getElem?_eq_some_iff.mp hm).1
          simp at hlt
          rw [List.getElem?_append_left (by omega)] at hm
          by_cases w : s0.2.2.length ≤ m
          · exact p6 m x w hm
          · rw [p5 m (by omega)]
            rw [a1, List.getElem?_append_left (by omega)] at hm
            exact q6 m x hm
      · rw [cutS_o j2 j3 j4, p4 j j1 j2 j3 j4]; exact q7 j j1 j2 j3 j4
  unfold pl_Cu_cutTrees_7
  intro P hP
  have clear : ∀ (r k : Nat) (g' : St), k + r = 60 → (∀ j, j ≠ 13 → j ≠ 102 → g' j = g j) → g' 102 0 = 0 → (∀ x, x < k → g' 13 x = -1) → P (nI lim) (nI k) g' := by
    intro r
    induction r with
    | zero =>
      intro k g' hkr ho h0 h13
      apply hP
      unfold pb_Cu_cutTrees_7
      refine zb_t (nI_le (a := 60) (by omega) (by omega)) ?_
      intro v1 w1
      rw [w1]
      unfold pl_Cu_cutTrees_28
      intro P2 hP2
      refine trees t 0 g' P2 hP2 (by omega) ⟨h0, fun x hx => absurd hx List.not_mem_nil, fun x hx => absurd hx List.not_mem_nil, fun j hj => by omega, fun x hx _ => h13 x (by omega), fun m x hm => ?_, fun j j1 j2 j3 j4 => ho j j2 j4⟩
      have := (List.getElem?_eq_some_iff.mp hm).1
      exact absurd this (Nat.not_lt_zero _)
    | succ r ih =>
      intro k g' hkr ho h0 h13
      apply hP
      unfold pb_Cu_cutTrees_7
      refine zb_f (nI_ge (b := 60) (by omega) (by decide)) ⟨vp_in_nI (by omega) (by decide), fun g2 f2 v3 f3 => ?_⟩
      rw [nI_1] at f3
      rw [f3]
      refine ih (k + 1) g2 (by omega) (fun j j1 j2 => by rw [f2, ar_n _ _ _ _ _ j1]; exact ho j j1 j2) (by rw [f2, ar_n _ _ _ _ _ (by decide)]; exact h0) (fun x hx => ?_)
      rw [f2, ar_at k (nI_clamp (by omega))]
      by_cases e : x = k
      · rw [if_pos e]
      · rw [if_neg e]; exact h13 x (by omega)
  exact clear 60 0 g1 (by omega) (fun j j1 j2 => by rw [e1, sc_n _ _ _ _ j2]) (by rw [e1, sc_s]) (fun x hx => by omega)
end CUTAP
