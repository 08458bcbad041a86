/-! compile, second stage: what is cut out, as a function. A state: lengths, cut numbers (0: not cut, k + 1: method k), the methods' nodes. -/
def updN (f : Nat → Nat) (k v : Nat) : Nat → Nat := fun j => if j = k then v else f j
theorem updN_s {f : Nat → Nat} {k v : Nat} : updN f k v k = v := if_pos rfl
theorem updN_n {f : Nat → Nat} {k v j : Nat} (h : j ≠ k) : updN f k v j = f j := if_neg h
abbrev Cs : Type := (Nat → Nat) × (Nat → Nat) × List Nat
def prt (s : Cs) (x : Nat) : Nat := if s.2.1 x = 0 then s.1 x else 3
def tl (y : Nat) : Nat := if y ≤ 61 then 2 else 3
def cto (s : Cs) (x : Nat) : Cs := (s.1, updN s.2.1 x (s.2.2.length + 1), s.2.2 ++ [x])
section CUT
variable (ru : Nat → Int32) (ye no : Nat → Nat) (lim : Nat)
def sln (s : Cs) (i : Nat) : Nat := 4 + tl (prt s (ye i)) + prt s (ye i) + prt s (no i)
def c1st (s : Cs) (i : Nat) : Nat := if prt s (ye i) < prt s (no i) then no i else ye i
def c2nd (s : Cs) (i : Nat) : Nat := if prt s (ye i) < prt s (no i) then ye i else no i
def ctc (i : Nat) (s : Cs) : Cs := if sln ye no s i ≤ lim then s else if sln ye no (cto s (c1st ye no s i)) i ≤ lim then cto s (c1st ye no s i) else cto (cto s (c1st ye no s i)) (c2nd ye no s i)
def stp (i : Nat) (s : Cs) : Cs := if ru i = -1 then (updN s.1 i 3, s.2.1, s.2.2) else (updN (ctc ye no lim i s).1 i (sln ye no (ctc ye no lim i s) i), (ctc ye no lim i s).2.1, (ctc ye no lim i s).2.2)
def cutn : Nat → Nat → Cs → Cs
  | 0, _, s => s
  | d + 1, i, s => if ru i = -1 then stp ru ye no lim i s else stp ru ye no lim i (cutn d (no i) (cutn d (ye i) s))
end CUT
theorem tl_b (y : Nat) : 2 ≤ tl y ∧ tl y ≤ 3 := by unfold tl; split <;> omega
def sumL (L : Nat → Nat) : List Nat → Nat
  | [] => 0
  | x :: l => L x + sumL L l
theorem sumL_app (L : Nat → Nat) : ∀ a b : List Nat, sumL L (a ++ b) = sumL L a + sumL L b := by
  intro a b
  induction a with
  | nil => show sumL L b = 0 + sumL L b; omega
  | cons x a ih => show L x + sumL L (a ++ b) = L x + sumL L a + sumL L b; omega
theorem sumL_eq {L L' : Nat → Nat} : ∀ a : List Nat, (∀ x ∈ a, L' x = L x) → sumL L' a = sumL L a := by
  intro a
  induction a with
  | nil => intro _; rfl
  | cons x a ih =>
    intro h
    show L' x + sumL L' a = L x + sumL L a
    rw [h x (by simp), ih (fun y hy => h y (by simp [hy]))]
theorem prt_eq {s s' : Cs} {x : Nat} (h1 : s'.1 x = s.1 x) (h2 : s'.2.1 x = s.2.1 x) : prt s' x = prt s x := by unfold prt; rw [h1, h2]
theorem sln_eq {ye no : Nat → Nat} {s s' : Cs} {i : Nat} (h1 : prt s' (ye i) = prt s (ye i)) (h2 : prt s' (no i) = prt s (no i)) : sln ye no s' i = sln ye no s i := by unfold sln; rw [h1, h2]
theorem cto_C {s : Cs} {x : Nat} : (cto s x).2.1 x = s.2.2.length + 1 := updN_s
theorem cto_Cn {s : Cs} {x y : Nat} (h : y ≠ x) : (cto s x).2.1 y = s.2.1 y := updN_n h
theorem cto_prt {s : Cs} {x : Nat} : prt (cto s x) x = 3 := by unfold prt; rw [cto_C, if_neg (by omega)]
theorem cto_prtn {s : Cs} {x y : Nat} (h : y ≠ x) : prt (cto s x) y = prt s y := prt_eq rfl (cto_Cn h)
/-- what the cut at a split comes to -/
theorem ctc_cases {ye no : Nat → Nat} {lim i : Nat} {s : Cs} (hlim : 20 ≤ lim) (hne : ye i ≠ no i) :
    (ctc ye no lim i s = s ∧ sln ye no s i ≤ lim) ∨ (ctc ye no lim i s = cto s (ye i) ∧ sln ye no (cto s (ye i)) i ≤ lim) ∨ (ctc ye no lim i s = cto s (no i) ∧ sln ye no (cto s (no i)) i ≤ lim) ∨ (ctc ye no lim i s = cto (cto s (ye i)) (no i) ∧ sln ye no (cto (cto s (ye i)) (no i)) i ≤ lim) ∨ (ctc ye no lim i s = cto (cto s (no i)) (ye i) ∧ sln ye no (cto (cto s (no i)) (ye i)) i ≤ lim) := by
  unfold ctc
  by_cases h1 : sln ye no s i ≤ lim
  · rw [if_pos h1]; exact Or.inl ⟨rfl, h1⟩
  rw [if_neg h1]
  have t3 : tl 3 = 2 := rfl
  unfold c1st c2nd
  by_cases hf : prt s (ye i) < prt s (no i)
  · rw [if_pos hf, if_pos hf]
    by_cases h2 : sln ye no (cto s (no i)) i ≤ lim
    · rw [if_pos h2]; exact Or.inr (Or.inr (Or.inl ⟨rfl, h2⟩))
    · rw [if_neg h2]
      refine Or.inr (Or.inr (Or.inr (Or.inr ⟨rfl, ?_⟩)))
      unfold sln
      rw [cto_prt, cto_prtn hne.symm, cto_prt, t3]
      omega
  · rw [if_neg hf, if_neg hf]
    by_cases h2 : sln ye no (cto s (ye i)) i ≤ lim
    · rw [if_pos h2]; exact Or.inr (Or.inl ⟨rfl, h2⟩)
    · rw [if_neg h2]
      refine Or.inr (Or.inr (Or.inr (Or.inl ⟨rfl, ?_⟩)))
      unfold sln
      rw [cto_prt, cto_prtn hne, cto_prt, t3]
      omega
theorem ne_mem {a b : Nat} {l : List Nat} (hb : b ∉ l) (ha : a ∈ l) : a ≠ b := fun e => hb (e ▸ ha)
theorem nds_child {n : Nat} {ru : Nat → Int32} {ye no : Nat → Nat} : ∀ (d j : Nat), TR n ru ye no d j → (nds ru ye no d j).Nodup → ∀ x ∈ nds ru ye no d j, ¬ ru x = -1 → (ye x ∈ nds ru ye no d j ∧ ye x ≠ j) ∧ (no x ∈ nds ru ye no d j ∧ no x ≠ j) ∧ ye x ≠ no x := by
  intro d
  induction d with
  | zero => intro j h; exact h.elim
  | succ d ih =>
    intro j h hN x hx hl
    obtain ⟨hj, h⟩ := h
    rcases h with hlj | ⟨hlj, h1, h2⟩
    · rw [nds_leaf hlj] at hx
      simp at hx
      rw [hx] at hl
      exact absurd hlj hl
    · rw [nds_split hlj] at hx hN ⊢
      rw [List.nodup_cons, List.nodup_append] at hN
      obtain ⟨n1, n2, n3, n4⟩ := hN
      have my : ye j ∈ nds ru ye no d (ye j) := nds_self h1
      have mo : no j ∈ nds ru ye no d (no j) := nds_self h2
      simp only [List.mem_append, not_or] at n1
      simp only [List.mem_cons, List.mem_append] at hx ⊢
      rcases hx with rfl | hx | hx
      · exact ⟨⟨Or.inr (Or.inl my), ne_mem n1.1 my⟩, ⟨Or.inr (Or.inr mo), ne_mem n1.2 mo⟩, n4 _ my _ mo⟩
      · obtain ⟨⟨a1, a2⟩, ⟨a3, a4⟩, a5⟩ := ih _ h1 n2 x hx hl
        exact ⟨⟨Or.inr (Or.inl a1), ne_mem n1.1 (a1)⟩, ⟨Or.inr (Or.inl a3), ne_mem n1.1 (a3)⟩, a5⟩
      · obtain ⟨⟨a1, a2⟩, ⟨a3, a4⟩, a5⟩ := ih _ h2 n3 x hx hl
        exact ⟨⟨Or.inr (Or.inr a1), ne_mem n1.2 (a1)⟩, ⟨Or.inr (Or.inr a3), ne_mem n1.2 (a3)⟩, a5⟩
/-- what cutting a tree does -/
def CutOk (ru : Nat → Int32) (ye no : Nat → Nat) (lim : Nat) (l : List Nat) (i : Nat) (s s' : Cs) : Prop :=
  ∃ A : List Nat, s'.2.2 = s.2.2 ++ A ∧ (∀ x ∈ A, x ∈ l ∧ x ≠ i) ∧ A.length + 1 ≤ l.length ∧ (∀ x, x ∉ l → s'.1 x = s.1 x ∧ s'.2.1 x = s.2.1 x) ∧ s'.2.1 i = 0 ∧ (∀ x ∈ l, ∀ k, s'.2.1 x = k + 1 → s'.2.2[k]? = some x) ∧ (∀ x ∈ l, 3 ≤ s'.1 x ∧ s'.1 x ≤ lim) ∧ (∀ x ∈ l, (ru x = -1 → s'.1 x = 3) ∧ (¬ ru x = -1 → s'.1 x = sln ye no s' x)) ∧ sumL s'.1 A + s'.1 i + 3 ≤ 10 * l.length
theorem cutn_ok {n lim : Nat} {ru : Nat → Int32} {ye no : Nat → Nat} (hlim : 20 ≤ lim) : ∀ (d i : Nat) (s : Cs), TR n ru ye no d i → (nds ru ye no d i).Nodup → (∀ x ∈ nds ru ye no d i, s.2.1 x = 0) → CutOk ru ye no lim (nds ru ye no d i) i s (cutn ru ye no lim d i s) := by
  intro d
  induction d with
  | zero => intro i s h; exact h.elim
  | succ d ih =>
    intro i s hT hN hC
    obtain ⟨hi, hT⟩ := hT
    rcases hT with hl | ⟨hl, h1, h2⟩
    · have e : cutn ru ye no lim (d + 1) i s = (updN s.1 i 3, s.2.1, s.2.2) := by
        unfold cutn; rw [if_pos hl]; unfold stp; rw [if_pos hl]
      rw [e, nds_leaf hl]
      rw [nds_leaf hl] at hC
      refine ⟨[], by simp, by simp, by simp, fun x hx => ?_, hC i (by simp), fun x hx k hk => ?_, fun x hx => ?_, fun x hx => ?_, ?_⟩
      · simp at hx
        exact ⟨updN_n hx, rfl⟩
      · simp at hx
        subst hx
        have := hC x (by simp)
        exact absurd (this.symm.trans hk) (by omega)
      · simp at hx
        subst hx
        rw [show (updN s.1 x 3, s.2.1, s.2.2).1 x = 3 from updN_s]
        omega
      · simp at hx
        subst hx
        exact ⟨fun _ => updN_s, fun q => absurd hl q⟩
      · show 0 + updN s.1 i 3 i + 3 ≤ 10 * 1
        rw [updN_s]; omega
    · have hNs := hN
      rw [nds_split hl, List.nodup_cons, List.nodup_append] at hN
      obtain ⟨n1, n2, n3, n4⟩ := hN
      simp only [List.mem_append, not_or] at n1
      have my : ye i ∈ nds ru ye no d (ye i) := nds_self h1
      have mo : no i ∈ nds ru ye no d (no i) := nds_self h2
      have hne : ye i ≠ no i := n4 _ my _ mo
      have hyi : ye i ≠ i := ne_mem n1.1 my
      have hoi : no i ≠ i := ne_mem n1.2 mo
      rw [nds_split hl] at hC
      have hCy : ∀ x ∈ nds ru ye no d (ye i), s.2.1 x = 0 := fun x hx => hC x (by simp [hx])
      have hCo : ∀ x ∈ nds ru ye no d (no i), s.2.1 x = 0 := fun x hx => hC x (by simp [hx])
      obtain ⟨A1, a1, a2, a3, a4, a5, a6, a7, a8, a9⟩ := ih (ye i) s h1 n2 hCy
      generalize hs1 : cutn ru ye no lim d (ye i) s = s1 at *
      have hCo1 : ∀ x ∈ nds ru ye no d (no i), s1.2.1 x = 0 := fun x hx => by
        rw [(a4 x (fun q => n4 x q x hx rfl)).2]; exact hCo x hx
      obtain ⟨A2, b1, b2, b3, b4, b5, b6, b7, b8, b9⟩ := ih (no i) s1 h2 n3 hCo1
      generalize hs2 : cutn ru ye no lim d (no i) s1 = s2 at *
      have keepY : ∀ x ∈ nds ru ye no d (ye i), s2.1 x = s1.1 x ∧ s2.2.1 x = s1.2.1 x := fun x hx => b4 x (fun q => n4 x hx x q rfl)
      have hCy2 : s2.2.1 (ye i) = 0 := by rw [(keepY _ my).2]; exact a5
      have hCi2 : s2.2.1 i = 0 := by rw [(b4 i n1.2).2, (a4 i n1.1).2]; exact hC i (by simp)
      have Ly := a7 _ my
      rw [← (keepY _ my).1] at Ly
      have Lo := b7 _ mo
      have e : cutn ru ye no lim (d + 1) i s = (updN (ctc ye no lim i s2).1 i (sln ye no (ctc ye no lim i s2) i), (ctc ye no lim i s2).2.1, (ctc ye no lim i s2).2.2) := by
        conv => lhs; unfold cutn
        rw [if_neg hl, hs1, hs2]; unfold stp; rw [if_neg hl]
      rw [e, nds_split hl]
      -- one frame for all five cases
      have fin : ∀ (A3 : List Nat) (s3 : Cs), s3.1 = s2.1 → s3.2.2 = s2.2.2 ++ A3 → (∀ x ∈ A3, x = ye i ∨ x = no i) → A3.length ≤ 2 → (∀ x, x ≠ ye i → x ≠ no i → s3.2.1 x = s2.2.1 x) → (∀ x k, (x = ye i ∨ x = no i) → s3.2.1 x = k + 1 → s3.2.2[k]? = some x) → sln ye no s3 i ≤ lim → sumL s2.1 A3 + prt s3 (ye i) + prt s3 (no i) ≤ s2.1 (ye i) + 3 + s2.1 (no i) + 3 → 3 ≤ prt s3 (ye i) → 3 ≤ prt s3 (no i) →
          CutOk ru ye no lim (i :: (nds ru ye no d (ye i) ++ nds ru ye no d (no i))) i s (updN s3.1 i (sln ye no s3 i), s3.2.1, s3.2.2) := by
        intro A3 s3 p1 p2 p3 p4 p5 p6 p7 p8 p9 p10
        obtain ⟨s4, hs4⟩ : ∃ s4 : Cs, s4 = (updN s3.1 i (sln ye no s3 i), s3.2.1, s3.2.2) := ⟨_, rfl⟩
        rw [← hs4]
        have L4 : s4.1 i = sln ye no s3 i := by rw [hs4]; exact updN_s
        have Lx : ∀ x, x ≠ i → s4.1 x = s2.1 x := fun x hx => by rw [hs4, ← p1]; exact updN_n hx
        have C4 : s4.2.1 = s3.2.1 := by rw [hs4]
        have O4 : s4.2.2 = s3.2.2 := by rw [hs4]
        have P4 : ∀ x, x ≠ i → prt s4 x = prt s3 x := fun x hx => prt_eq (by rw [Lx x hx, p1]) (by rw [C4])
        have O3 : s3.2.2 = s.2.2 ++ (A1 ++ (A2 ++ A3)) := by rw [p2, b1, a1]; simp
        have getO : ∀ k x, s2.2.2[k]? = some x → s3.2.2[k]? = some x := fun k x hk => by
          rw [p2, List.getElem?_append_left ((List.getElem?_eq_some_iff.mp hk).1)]; exact hk
        have getO1 : ∀ k x, s1.2.2[k]? = some x → s3.2.2[k]? = some x := fun k x hk => by
          refine getO k x ?_
          rw [b1, List.getElem?_append_left ((List.getElem?_eq_some_iff.mp hk).1)]; exact hk
        have Sx : ∀ x, ye x ≠ i → no x ≠ i → ye x ≠ ye i → ye x ≠ no i → no x ≠ ye i → no x ≠ no i → sln ye no s4 x = sln ye no s2 x := by
          intro x q1 q2 q3 q4 q5 q6
          exact sln_eq (prt_eq (Lx _ q1) (by rw [C4]; exact p5 _ q3 q4)) (prt_eq (Lx _ q2) (by rw [C4]; exact p5 _ q5 q6))
        refine ⟨A1 ++ (A2 ++ A3), by rw [O4]; exact O3, fun x hx => ?_, ?_, fun x hx => ?_, ?_, fun x hx k hk => ?_, fun x hx => ?_, fun x hx => ?_, ?_⟩
        · simp only [List.mem_append] at hx
          simp only [List.mem_cons, List.mem_append]
          rcases hx with hx | hx | hx
          · exact ⟨Or.inr (Or.inl (a2 x hx).1), ne_mem n1.1 (a2 x hx).1⟩
          · exact ⟨Or.inr (Or.inr (b2 x hx).1), ne_mem n1.2 (b2 x hx).1⟩
          · rcases p3 x hx with rfl | rfl
            · exact ⟨Or.inr (Or.inl my), hyi⟩
            · exact ⟨Or.inr (Or.inr mo), hoi⟩
        · simp only [List.length_append, List.length_cons]
          omega
        · simp only [List.mem_cons, List.mem_append, not_or] at hx
          obtain ⟨x1, x2, x3⟩ := hx
          refine ⟨?_, ?_⟩
          · rw [Lx x x1, (b4 x x3).1, (a4 x x2).1]
          · rw [C4, p5 x (fun q => x2 (by rw [q]; exact my)) (fun q => x3 (by rw [q]; exact mo)), (b4 x x3).2, (a4 x x2).2]
        · rw [C4, p5 i hyi.symm hoi.symm]; exact hCi2
        · rw [C4] at hk
          rw [O4]
          by_cases q : x = ye i ∨ x = no i
          · exact p6 x k q hk
          · simp only [not_or] at q
            rw [p5 x q.1 q.2] at hk
            simp only [List.mem_cons, List.mem_append] at hx
            rcases hx with hx | hx | hx
            · rw [hx, hCi2] at hk; omega
            · rw [(keepY x hx).2] at hk
              exact getO1 k x (a6 x hx k hk)
            · exact getO k x (b6 x hx k hk)
        · simp only [List.mem_cons, List.mem_append] at hx
          rcases hx with hx | hx | hx
          · rw [hx, L4]
            refine ⟨?_, p7⟩
            unfold sln; omega
          · rw [Lx x (ne_mem n1.1 hx), (keepY x hx).1]
            exact a7 x hx
          · rw [Lx x (ne_mem n1.2 hx)]
            exact b7 x hx
        · simp only [List.mem_cons, List.mem_append] at hx
          rcases hx with hx | hx | hx
          · rw [hx]
            refine ⟨fun q => absurd q hl, fun _ => ?_⟩
            rw [L4]
            exact (sln_eq (P4 _ hyi) (P4 _ hoi)).symm
          · have xi : x ≠ i := ne_mem n1.1 hx
            refine ⟨fun q => ?_, fun q => ?_⟩
            · rw [Lx x xi, (keepY x hx).1]; exact (a8 x hx).1 q
            · obtain ⟨⟨c1, c2⟩, ⟨c3, c4⟩, -⟩ := nds_child d (ye i) h1 n2 x hx q
              rw [Lx x xi, (keepY x hx).1, (a8 x hx).2 q, Sx x (ne_mem n1.1 c1) (ne_mem n1.1 c3) c2 (fun w => n4 _ c1 _ mo w) c4 (fun w => n4 _ c3 _ mo w)]
              exact (sln_eq (prt_eq (keepY _ c1).1 (keepY _ c1).2) (prt_eq (keepY _ c3).1 (keepY _ c3).2)).symm
          · have xi : x ≠ i := ne_mem n1.2 hx
            refine ⟨fun q => ?_, fun q => ?_⟩
            · rw [Lx x xi]; exact (b8 x hx).1 q
            · obtain ⟨⟨c1, c2⟩, ⟨c3, c4⟩, -⟩ := nds_child d (no i) h2 n3 x hx q
              rw [Lx x xi, (b8 x hx).2 q, Sx x (ne_mem n1.2 c1) (ne_mem n1.2 c3) (fun w => n4 _ my _ c1 w.symm) c2 (fun w => n4 _ my _ c3 w.symm) c4]
        · have e1 : sumL s4.1 A1 = sumL s1.1 A1 := sumL_eq A1 (fun x hx => by
            rw [Lx x (ne_mem n1.1 (a2 x hx).1)]; exact (keepY x (a2 x hx).1).1)
          have e2 : sumL s4.1 A2 = sumL s2.1 A2 := sumL_eq A2 (fun x hx => Lx x (ne_mem n1.2 (b2 x hx).1))
          have e3 : sumL s4.1 A3 = sumL s2.1 A3 := sumL_eq A3 (fun x hx => Lx x (by rcases p3 x hx with w | w <;> rw [w]; exact hyi; exact hoi))
          rw [sumL_app, sumL_app, e1, e2, e3, L4]
          simp only [List.length_cons, List.length_append]
          have ht := tl_b (prt s3 (ye i))
          have h9 : sumL s1.1 A1 + s2.1 (ye i) + 3 ≤ 10 * (nds ru ye no d (ye i)).length := by rw [(keepY _ my).1]; exact a9
          unfold sln
          omega
      have py : prt s2 (ye i) = s2.1 (ye i) := by unfold prt; rw [if_pos hCy2]
      have po : prt s2 (no i) = s2.1 (no i) := by unfold prt; rw [if_pos b5]
      have gl : ∀ (O : List Nat) (x : Nat), (O ++ [x])[O.length]? = some x := fun O x => List.getElem?_concat_length
      rcases ctc_cases (s := s2) hlim hne with ⟨e3, h3⟩ | ⟨e3, h3⟩ | ⟨e3, h3⟩ | ⟨e3, h3⟩ | ⟨e3, h3⟩
      · rw [e3]
        refine fin [] s2 rfl (by simp) (by simp) (by simp) (fun _ _ _ => rfl) (fun x k hx hk => ?_) h3 (by show 0 + _ + _ ≤ _; rw [py, po]; omega) (by rw [py]; exact Ly.1) (by rw [po]; exact Lo.1)
        rcases hx with rfl | rfl
        · rw [hCy2] at hk; omega
        · rw [b5] at hk; omega
      · rw [e3]
        refine fin [ye i] (cto s2 (ye i)) rfl rfl (by simp) (by simp) (fun x q _ => cto_Cn q) (fun x k hx hk => ?_) h3 (by rw [cto_prt, cto_prtn hne.symm, po]; show s2.1 (ye i) + 0 + _ + _ ≤ _; omega) (by rw [cto_prt]; omega) (by rw [cto_prtn hne.symm, po]; exact Lo.1)
        rcases hx with rfl | rfl
        · rw [cto_C] at hk
          have : k = s2.2.2.length := by omega
          subst this
          exact gl _ _
        · rw [cto_Cn hne.symm, b5] at hk; omega
      · rw [e3]
        refine fin [no i] (cto s2 (no i)) rfl rfl (by simp) (by simp) (fun x _ q => cto_Cn q) (fun x k hx hk => ?_) h3 (by rw [cto_prt, cto_prtn hne, py]; show s2.1 (no i) + 0 + _ + _ ≤ _; omega) (by rw [cto_prtn hne, py]; exact Ly.1) (by rw [cto_prt]; omega)
        rcases hx with rfl | rfl
        · rw [cto_Cn hne, hCy2] at hk; omega
        · rw [cto_C] at hk
          have : k = s2.2.2.length := by omega
          subst this
          exact gl _ _
      · rw [e3]
        refine fin [ye i, no i] (cto (cto s2 (ye i)) (no i)) rfl (by show (s2.2.2 ++ [ye i]) ++ [no i] = _; simp) (by simp) (by simp) (fun x q1 q2 => by rw [cto_Cn q2, cto_Cn q1]) (fun x k hx hk => ?_) h3 (by rw [cto_prt, cto_prtn hne, cto_prt]; show s2.1 (ye i) + (s2.1 (no i) + 0) + _ + _ ≤ _; omega) (by rw [cto_prtn hne, cto_prt]; omega) (by rw [cto_prt]; omega)
        rcases hx with rfl | rfl
        · rw [cto_Cn hne, cto_C] at hk
          have : k = s2.2.2.length := by omega
          subst this
          show ((s2.2.2 ++ [ye i]) ++ [no i])[s2.2.2.length]? = some (ye i)
          rw [List.getElem?_append_left (by simp)]
          exact gl _ _
        · rw [cto_C] at hk
          have : k = (cto s2 (ye i)).2.2.length := by omega
          subst this
          exact gl _ _
      · rw [e3]
        refine fin [no i, ye i] (cto (cto s2 (no i)) (ye i)) rfl (by show (s2.2.2 ++ [no i]) ++ [ye i] = _; simp) (by simp [or_comm]) (by simp) (fun x q1 q2 => by rw [cto_Cn q1, cto_Cn q2]) (fun x k hx hk => ?_) h3 (by rw [cto_prt, cto_prtn hne.symm, cto_prt]; show s2.1 (no i) + (s2.1 (ye i) + 0) + _ + _ ≤ _; omega) (by rw [cto_prt]; omega) (by rw [cto_prtn hne.symm, cto_prt]; omega)
        rcases hx with rfl | rfl
        · rw [cto_C] at hk
          have : k = (cto s2 (no i)).2.2.length := by omega
          subst this
          exact gl _ _
        · rw [cto_Cn hne.symm, cto_C] at hk
          have : k = s2.2.2.length := by omega
          subst this
          show ((s2.2.2 ++ [no i]) ++ [ye i])[s2.2.2.length]? = some (no i)
          rw [List.getElem?_append_left (by simp)]
          exact gl _ _
