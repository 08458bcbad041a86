/-! compile, second stage: the reference cuts a tree: it lists the nodes, then measures them from the list's end -/
section CUTT
variable {n lim t : Nat} {ru bi : Nat → Int32} {fe ye no ro : Nat → Nat}
def preN (ru : Nat → Int32) (ye no : Nat → Nat) : Nat → Nat → List Nat
  | 0, _ => []
  | d + 1, i => if ru i = -1 then [i] else i :: (preN ru ye no d (no i) ++ preN ru ye no d (ye i))
theorem preN_leaf {d i : Nat} (h : ru i = -1) : preN ru ye no (d + 1) i = [i] := by unfold preN; rw [if_pos h]
theorem preN_split {d i : Nat} (h : ¬ ru i = -1) : preN ru ye no (d + 1) i = i :: (preN ru ye no d (no i) ++ preN ru ye no d (ye i)) := by
  conv => lhs; unfold preN
  rw [if_neg h]
theorem preN_len : ∀ (d i : Nat), (preN ru ye no d i).length = (nds ru ye no d i).length := by
  intro d
  induction d with
  | zero => intro i; rfl
  | succ d ih =>
    intro i
    by_cases hl : ru i = -1
    · rw [preN_leaf hl, nds_leaf hl]
    · rw [preN_split hl, nds_split hl]
      simp only [List.length_cons, List.length_append, ih]
      omega
theorem preN_pos {d i : Nat} (h : TR n ru ye no d i) : 1 ≤ (preN ru ye no d i).length := by
  cases d with
  | zero => exact h.elim
  | succ d =>
    by_cases hl : ru i = -1
    · rw [preN_leaf hl]; simp
    · rw [preN_split hl]; simp
def SegO (g : St) : Nat → List Nat → Prop
  | _, [] => True
  | a, x :: l => g 11 a = nI x ∧ SegO g (a + 1) l
theorem SegO_app {g : St} : ∀ (l1 l2 : List Nat) (a : Nat), SegO g a (l1 ++ l2) ↔ SegO g a l1 ∧ SegO g (a + l1.length) l2 := by
  intro l1
  induction l1 with
  | nil => intro l2 a; simp [SegO]
  | cons x l1 ih =>
    intro l2 a
    show (g 11 a = nI x ∧ SegO g (a + 1) (l1 ++ l2)) ↔ (g 11 a = nI x ∧ SegO g (a + 1) l1) ∧ SegO g (a + (l1.length + 1)) l2
    rw [ih l2 (a + 1), show a + 1 + l1.length = a + (l1.length + 1) by omega]
    constructor
    · rintro ⟨h1, h2, h3⟩; exact ⟨⟨h1, h2⟩, h3⟩
    · rintro ⟨⟨h1, h2⟩, h3⟩; exact ⟨h1, h2, h3⟩
theorem SegO_eq {g g' : St} : ∀ (l : List Nat) (a : Nat), (∀ j, a ≤ j → j < a + l.length → g' 11 j = g 11 j) → SegO g a l → SegO g' a l := by
  intro l
  induction l with
  | nil => intro a _ _; trivial
  | cons x l ih =>
    intro a h hs
    exact ⟨(h a (Nat.le_refl _) (by simp)).trans hs.1, ih (a + 1) (fun j h1 h2 => h j (by omega) (by simp; omega)) hs.2⟩
def ixq (q : Nat) : Int32 := if q = 0 then -1 else nI (q - 1)
theorem ixq_s (q : Nat) : ixq (q + 1) = nI q := by unfold ixq; rw [if_neg (by omega)]; rfl
theorem ixq_m (q : Nat) : nI q + (-1) = ixq q := by
  cases q with
  | zero => decide
  | succ q => rw [ixq_s]; exact pk_m1 q
/-- the reference's cells behind the cutting of a tree with the nodes l -/
def CuPM (l : List Nat) (g : St) (s : Cs) (g' : St) (s' : Cs) : Prop :=
  g' 103 0 = nI s'.2.2.length ∧ (∀ x ∈ l, g' 12 x = nI (s'.1 x) ∧ g' 13 x = cI0 (s'.2.1 x)) ∧ (∀ x, x ∉ l → g' 12 x = g 12 x ∧ g' 13 x = g 13 x) ∧ (∀ j, j ≠ 12 → j ≠ 13 → j ≠ 16 → j ≠ 103 → g' j = g j) ∧ (∀ k, k < s.2.2.length → g' 16 k = g 16 k) ∧ (∀ k x, s.2.2.length ≤ k → s'.2.2[k]? = some x → g' 16 k = nI x)
theorem CuPM_FoM {l : List Nat} {g g' : St} {s s' : Cs} (h : CuPM l g s g' s') (hF : FoM n ru bi fe ye no g) : FoM n ru bi fe ye no g' := by
  obtain ⟨-, -, -, o, -⟩ := h
  exact FoM_but (o 100 (by decide) (by decide) (by decide) (by decide)) (o 1 (by decide) (by decide) (by decide) (by decide)) (o 2 (by decide) (by decide) (by decide) (by decide)) (o 3 (by decide) (by decide) (by decide) (by decide)) (o 4 (by decide) (by decide) (by decide) (by decide)) (o 5 (by decide) (by decide) (by decide) (by decide)) hF
theorem s_Mseg {K : St → Prop} {P : Int32 → Int32 → Int32 → Int32 → Int32 → St → Prop} {X1 X3 X4 : Int32} (hP : ∀ x1 x2 x3 x4 x5 g, pb_Mo_cutTree_92 K P x1 x2 x3 x4 x5 g → P x1 x2 x3 x4 x5 g) (hV : FoV n ru fe ye no) (h20 : 20 ≤ lim) (h400 : lim ≤ 400) :
    ∀ (d i a : Nat) (s : Cs) (g : St), TR n ru ye no d i → (nds ru ye no d i).Nodup → (∀ x ∈ nds ru ye no d i, s.2.1 x = 0) → s.2.2.length + (nds ru ye no d i).length ≤ 60 → a + (preN ru ye no d i).length ≤ 64 → SegO g a (preN ru ye no d i) → g 103 0 = nI s.2.2.length → FoM n ru bi fe ye no g →
      (∀ g', CuPM (nds ru ye no d i) g s g' (cutn ru ye no lim d i s) → P X1 (nI lim) X3 X4 (ixq a) g') → P X1 (nI lim) X3 X4 (ixq (a + (preN ru ye no d i).length)) g := by
  have hn := hV.1
  intro d
  induction d with
  | zero => intro i a s g h; exact h.elim
  | succ d ih =>
    intro i a s g hT hN hC hM60 ha hS hM hF hk
    obtain ⟨hi, hT⟩ := hT
    have ci : (nI i).toNatClampNeg = i := nI_clamp (by omega)
    rcases hT with hl | ⟨hl, h1, h2⟩
    · rw [preN_leaf hl] at ha hS ⊢
      rw [nds_leaf hl] at hC hk
      show P X1 (nI lim) X3 X4 (ixq (a + 1)) g
      rw [ixq_s]
      apply hP
      unfold pb_Mo_cutTree_92
      refine zb_f (nI_pos (by simp at ha; omega)) ⟨vp_in_nI (by simp at ha; omega) (by decide), ?_⟩
      rw [nI_clamp (by simp at ha; omega : a < 2 ^ 31), hS.1]
      refine s_measure (s := s) hV hF hi h400 (fun q => absurd hl q) (fun q => absurd hl q) (fun q => absurd hl q) hM (fun q => absurd hl q) (fun _ => ?_) (fun q => absurd hl q)
      intro v3 e3
      rw [ixq_m] at e3
      rw [e3]
      apply hk
      have e : cutn ru ye no lim (d + 1) i s = (updN s.1 i 3, s.2.1, s.2.2) := by
        unfold cutn; rw [if_pos hl]; unfold stp; rw [if_pos hl]
      rw [e]
      refine ⟨by rw [ar_n _ _ _ _ _ (by decide), ar_n _ _ _ _ _ (by decide)]; exact hM, fun x hx => ?_, fun x hx => ?_, fun j j1 j2 j3 j4 => by rw [ar_n _ _ _ _ _ j1, ar_n _ _ _ _ _ j2], fun k _ => by rw [ar_n _ _ _ _ _ (by decide), ar_n _ _ _ _ _ (by decide)], fun k x q1 q2 => ?_⟩
      · simp at hx
        subst hx
        refine ⟨?_, ?_⟩
        · rw [ar_e x ci]
          show (3 : Int32) = nI (updN s.1 x 3 x)
          rw [updN_s]; rfl
        · rw [ar_n _ _ _ _ _ (by decide), ar_e x ci]
          show (-1 : Int32) = cI0 (s.2.1 x)
          rw [hC x (by simp)]; rfl
      · simp at hx
        exact ⟨by rw [ar_o i ci hx, ar_n _ _ _ _ _ (by decide)], by rw [ar_n _ _ _ _ _ (by decide), ar_o i ci hx]⟩
      · have := (List.getElem?_eq_some_iff.mp q2).1
        exact absurd this (by show ¬ k < s.2.2.length; omega)
    · rw [preN_split hl] at ha hS ⊢
      have hNs := hN
      rw [nds_split hl, List.nodup_cons, List.nodup_append] at hN
      obtain ⟨n1, n2, n3, n4⟩ := hN
      simp only [List.mem_append, not_or] at n1
      have my : ye i ∈ nds ru ye no d (ye i) := nds_self h1
      have mo : no i ∈ nds ru ye no d (no i) := nds_self h2
      have hne : ye i ≠ no i := n4 _ my _ mo
      have hyi : ye i ≠ i := ne_mem n1.1 my
      have hoi : no i ≠ i := ne_mem n1.2 mo
      rw [nds_split hl] at hC hM60 hk
      simp only [List.length_cons, List.length_append] at hM60 ha
      obtain ⟨hS0, hS1⟩ := hS
      obtain ⟨hSo, hSy⟩ := (SegO_app _ _ _).mp hS1
      have e : cutn ru ye no lim (d + 1) i s = stp ru ye no lim i (cutn ru ye no lim d (no i) (cutn ru ye no lim d (ye i) s)) := by
        conv => lhs; unfold cutn
        rw [if_neg hl]
      have ok1 := cutn_ok (lim := lim) h20 d (ye i) s h1 n2 (fun x hx => hC x (by simp [hx]))
      rw [show a + (i :: (preN ru ye no d (no i) ++ preN ru ye no d (ye i))).length = (a + 1 + (preN ru ye no d (no i)).length) + (preN ru ye no d (ye i)).length by simp only [List.length_cons, List.length_append]; omega]
      refine ih (ye i) _ s g h1 n2 (fun x hx => hC x (by simp [hx])) (by omega) (by omega) hSy hM hF (fun g1 P1 => ?_)
      obtain ⟨A1, a1, a2, a3, a4, a5, a6, a7, a8, a9⟩ := ok1
      generalize hs1 : cutn ru ye no lim d (ye i) s = s1 at *
      have hF1 := CuPM_FoM P1 hF
      have len1 : s1.2.2.length = s.2.2.length + A1.length := by rw [a1]; simp
      have hC1 : ∀ x ∈ nds ru ye no d (no i), s1.2.1 x = 0 := fun x hx => by
        rw [(a4 x (fun q => n4 x q x hx rfl)).2]
        exact hC x (by simp [hx])
      have ok2 := cutn_ok (lim := lim) h20 d (no i) s1 h2 n3 hC1
      have g11 : g1 11 = g 11 := P1.2.2.2.1 11 (by decide) (by decide) (by decide) (by decide)
      refine ih (no i) (a + 1) s1 g1 h2 n3 hC1 (by omega) (by omega) (SegO_eq _ _ (fun j _ _ => by rw [g11]) hSo) P1.1 hF1 (fun g2 P2 => ?_)
      obtain ⟨A2, b1, b2, b3, b4, b5, b6, b7, b8, b9⟩ := ok2
      generalize hs2 : cutn ru ye no lim d (no i) s1 = s2 at *
      have hF2 := CuPM_FoM P2 hF1
      have len2 : s2.2.2.length = s1.2.2.length + A2.length := by rw [b1]; simp
      have keepY : ∀ x ∈ nds ru ye no d (ye i), s2.1 x = s1.1 x ∧ s2.2.1 x = s1.2.1 x := fun x hx => b4 x (fun q => n4 x hx x q rfl)
      have keepG : ∀ x ∈ nds ru ye no d (ye i), g2 12 x = nI (s2.1 x) ∧ g2 13 x = cI0 (s2.2.1 x) := fun x hx => by
        have q := P2.2.2.1 x (fun w => n4 x hx x w rfl)
        rw [q.1, q.2, (keepY x hx).1, (keepY x hx).2]
        exact P1.2.1 x hx
      have hCy2 : s2.2.1 (ye i) = 0 := by rw [(keepY _ my).2]; exact a5
      have hCi2 : s2.2.1 i = 0 := by rw [(b4 i n1.2).2, (a4 i n1.1).2]; exact hC i (by simp)
      have ry : Arr2 g2 s2 (ye i) := ⟨(keepG _ my).1, (keepG _ my).2, by rw [(keepY _ my).1]; have := (a7 _ my).2; omega, by rw [hCy2]; omega⟩
      have rn : Arr2 g2 s2 (no i) := ⟨(P2.2.1 _ mo).1, (P2.2.1 _ mo).2, by have := (b7 _ mo).2; omega, by rw [b5]; omega⟩
      have g211 : g2 11 = g 11 := by rw [P2.2.2.2.1 11 (by decide) (by decide) (by decide) (by decide), g11]
      rw [ixq_s]
      apply hP
      unfold pb_Mo_cutTree_92
      refine zb_f (nI_pos (by omega)) ⟨vp_in_nI (by omega) (by decide), ?_⟩
      rw [nI_clamp (by omega : a < 2 ^ 31), g211, hS0]
      refine s_measure (s := s2) hV hF2 hi h400 (fun _ => ⟨hyi, hoi⟩) (fun _ => ry) (fun _ => rn) P2.1 (fun _ => by omega) (fun q => absurd q hl) (fun _ g3 P3 => ?_)
      intro v3 e3
      rw [ixq_m] at e3
      rw [e3]
      apply hk
      have es : cutn ru ye no lim (d + 1) i s = (updN (ctc ye no lim i s2).1 i (sln ye no (ctc ye no lim i s2) i), (ctc ye no lim i s2).2.1, (ctc ye no lim i s2).2.2) := by
        rw [e]; unfold stp; rw [if_neg hl]
      rw [es]
      obtain ⟨c1, c2, c3, c4, c5, c6, c7, c8⟩ := P3
      have cL : (ctc ye no lim i s2).1 = s2.1 := by
        rcases ctc_cases (s := s2) h20 hne with ⟨w, -⟩ | ⟨w, -⟩ | ⟨w, -⟩ | ⟨w, -⟩ | ⟨w, -⟩ <;> rw [w] <;> rfl
      have cC : ∀ x, x ≠ ye i → x ≠ no i → (ctc ye no lim i s2).2.1 x = s2.2.1 x := by
        intro x x1 x2
        rcases ctc_cases (s := s2) h20 hne with ⟨w, -⟩ | ⟨w, -⟩ | ⟨w, -⟩ | ⟨w, -⟩ | ⟨w, -⟩ <;> rw [w]
        · rw [cto_Cn x1]
        · rw [cto_Cn x2]
        · rw [cto_Cn x2, cto_Cn x1]
        · rw [cto_Cn x1, cto_Cn x2]
      have cO : ∀ (k x : Nat), s2.2.2[k]? = some x → (ctc ye no lim i s2).2.2[k]? = some x := by
        intro k x hk
        have hlt := (List.getElem?_eq_some_iff.mp hk).1
        rcases ctc_cases (s := s2) h20 hne with ⟨w, -⟩ | ⟨w, -⟩ | ⟨w, -⟩ | ⟨w, -⟩ | ⟨w, -⟩ <;> rw [w]
        · exact hk
        · show (s2.2.2 ++ [_])[k]? = _
          rw [List.getElem?_append_left hlt]; exact hk
        · show (s2.2.2 ++ [_])[k]? = _
          rw [List.getElem?_append_left hlt]; exact hk
        · show ((s2.2.2 ++ [_]) ++ [_])[k]? = _
          rw [List.append_assoc, List.getElem?_append_left hlt]; exact hk
        · show ((s2.2.2 ++ [_]) ++ [_])[k]? = _
          rw [List.append_assoc, List.getElem?_append_left hlt]; exact hk
      generalize hg4 : ar g3 12 (nI i) (nI (sln ye no (ctc ye no lim i s2) i)) = g4 at *
      have g412 : ∀ x, g4 12 x = if x = i then nI (sln ye no (ctc ye no lim i s2) i) else g2 12 x := fun x => by
        rw [← hg4, ar_at i ci, c4 12 (by decide) (by decide) (by decide), ar_n _ _ _ _ _ (by decide)]
      have g4o : ∀ j, j ≠ 12 → g4 j = g3 j := fun j hj => by rw [← hg4, ar_n _ _ _ _ _ hj]
      have b13 : ∀ x, (ar g2 13 (nI i) (-1)) 13 x = if x = i then -1 else g2 13 x := fun x => ar_at i ci
      have in13 : ∀ x, (x = i ∨ x ∈ nds ru ye no d (ye i) ∨ x ∈ nds ru ye no d (no i)) → g4 13 x = cI0 ((ctc ye no lim i s2).2.1 x) := by
        intro x hx
        rw [g4o 13 (by decide)]
        by_cases q1 : x = ye i
        · rw [q1]; exact c2.2.1
        by_cases q2 : x = no i
        · rw [q2]; exact c3.2.1
        rw [c5 x q1 q2, cC x q1 q2, b13]
        by_cases q3 : x = i
        · rw [if_pos q3, q3, hCi2]; rfl
        · rw [if_neg q3]
          rcases hx with hx | hx | hx
          · exact absurd hx q3
          · exact (keepG x hx).2
          · exact (P2.2.1 x hx).2
      refine ⟨by rw [g4o 103 (by decide)]; exact c1, fun x hx => ?_, fun x hx => ?_, fun j j1 j2 j3 j4 => ?_, fun k hk => ?_, fun k x q1 q2 => ?_⟩
      · simp only [List.mem_cons, List.mem_append] at hx
        refine ⟨?_, in13 x hx⟩
        rw [g412]
        show _ = nI (updN (ctc ye no lim i s2).1 i (sln ye no (ctc ye no lim i s2) i) x)
        by_cases q : x = i
        · rw [if_pos q, q, updN_s]
        · rw [if_neg q, updN_n q, cL]
          rcases hx with hx | hx | hx
          · exact absurd hx q
          · exact (keepG x hx).1
          · exact (P2.2.1 x hx).1
      · simp only [List.mem_cons, List.mem_append, not_or] at hx
        obtain ⟨x1, x2, x3⟩ := hx
        refine ⟨?_, ?_⟩
        · rw [g412, if_neg x1, (P2.2.2.1 x x3).1, (P1.2.2.1 x x2).1]
        · rw [g4o 13 (by decide), c5 x (fun q => x2 (by rw [q]; exact my)) (fun q => x3 (by rw [q]; exact mo)), b13, if_neg x1, (P2.2.2.1 x x3).2, (P1.2.2.1 x x2).2]
      · rw [g4o j j1, c4 j j2 j3 j4, ar_n _ _ _ _ _ j2, P2.2.2.2.1 j j1 j2 j3 j4, P1.2.2.2.1 j j1 j2 j3 j4]
      · rw [g4o 16 (by decide), c6 k (by omega), ar_n _ _ _ _ _ (by decide), P2.2.2.2.2.1 k (by omega), P1.2.2.2.2.1 k hk]
      · rw [g4o 16 (by decide)]
        have q2 : (ctc ye no lim i s2).2.2[k]? = some x := q2
        by_cases w2 : s2.2.2.length ≤ k
        · exact c7 k x w2 q2
        · rw [c6 k (by omega), ar_n _ _ _ _ _ (by decide)]
          have z2 : s2.2.2[k]? = some x := by
            cases hz : s2.2.2[k]? with
            | none => rw [List.getElem?_eq_none_iff] at hz; omega
            | some y => rw [cO k y hz] at q2; exact q2
          by_cases w1 : s1.2.2.length ≤ k
          · exact P2.2.2.2.2.2 k x w1 z2
          · rw [P2.2.2.2.2.1 k (by omega)]
            rw [b1, List.getElem?_append_left (by omega)] at z2
            exact P1.2.2.2.2.2 k x q1 z2
end CUTT
