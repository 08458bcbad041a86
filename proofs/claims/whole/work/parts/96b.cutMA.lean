/-! compile, second stage: the reference, all trees -/
section CUTMA
variable {n lim t : Nat} {ru bi : Nat → Int32} {fe ye no ro : Nat → Nat}
def catN (ru : Nat → Int32) (ye no : Nat → Nat) : List (Nat × Nat) → List Nat
  | [] => []
  | x :: L => preN ru ye no x.2 x.1 ++ catN ru ye no L
def StkN (g : St) : List (Nat × Nat) → Prop
  | [] => True
  | x :: L => g 9 L.length = nI x.1 ∧ StkN g L
theorem StkN_keep {g g' : St} : ∀ L : List (Nat × Nat), (∀ j, j < L.length → g' 9 j = g 9 j) → StkN g L → StkN g' L := by
  intro L
  induction L with
  | nil => intro _ _; trivial
  | cons x L ih =>
    intro hk h
    exact ⟨(hk L.length (by simp)).trans h.1, ih (fun j hj => hk j (by simp; omega)) h.2⟩
theorem catN_len : ∀ L : List (Nat × Nat), (∀ x ∈ L, TR n ru ye no x.2 x.1) → L.length ≤ (catN ru ye no L).length := by
  intro L
  induction L with
  | nil => intro _; exact Nat.le_refl _
  | cons x L ih =>
    intro h
    have h1 := preN_pos (h x (by simp))
    have h2 := ih (fun y hy => h y (by simp [hy]))
    show L.length + 1 ≤ (preN ru ye no x.2 x.1 ++ catN ru ye no L).length
    rw [List.length_append]
    omega
theorem s_Morder {K : St → Prop} {P : Int32 → Int32 → Int32 → Int32 → St → Prop} {X1 X2 : Int32} {g0 : St} (hP : ∀ x1 x2 x3 x4 g, pb_Mo_cutTree_12 K P x1 x2 x3 x4 g → P x1 x2 x3 x4 g) (hV : FoV n ru fe ye no) :
    ∀ (u : Nat) (L : List (Nat × Nat)) (done : List Nat) (g : St), (catN ru ye no L).length = u → done.length + u ≤ 60 → (∀ x ∈ L, TR n ru ye no x.2 x.1) → StkN g L → SegO g 0 done → FoM n ru bi fe ye no g → (∀ j, j ≠ 9 → j ≠ 11 → g j = g0 j) →
      (∀ g', (∀ j, j ≠ 9 → j ≠ 11 → g' j = g0 j) → SegO g' 0 (done ++ catN ru ye no L) → pl_Mo_cutTree_92 K X1 X2 (nI (done.length + u)) (nI 0) (nI (done.length + u) - 1) g') → P X1 X2 (nI done.length) (nI L.length) g := by
  have hn := hV.1
  intro u
  induction u with
  | zero =>
    intro L done g hu hlen hT hs hd hF ho hk
    have := catN_len L hT
    cases L with
    | cons x L => simp at this; omega
    | nil =>
      apply hP
      unfold pb_Mo_cutTree_12
      refine zb_t (by decide) ?_
      intro v1 e1
      rw [e1]
      have := hk g ho (by show SegO g 0 (done ++ []); rw [List.append_nil]; exact hd)
      exact this
  | succ u ih =>
    intro L done g hu hlen hT hs hd hF ho hk
    cases L with
    | nil => exact absurd hu (by show ¬ (0 : Nat) = u + 1; omega)
    | cons x L =>
      obtain ⟨i, dd⟩ := x
      have hTi : TR n ru ye no dd i := hT (i, dd) (by simp)
      have hL := catN_len ((i, dd) :: L) hT
      have hL' : L.length + 1 ≤ u + 1 := by rw [← hu]; exact hL
      cases dd with
      | zero => exact hTi.elim
      | succ d =>
        obtain ⟨hi, hTi⟩ := hTi
        have cl : (nI L.length).toNatClampNeg = L.length := nI_clamp (by omega)
        have cd : (nI done.length).toNatClampNeg = done.length := nI_clamp (by omega)
        have ii : vp_in (nI i) 60 := vp_in_nI (by omega) (by decide)
        have ci : (nI i).toNatClampNeg = i := nI_clamp (by omega)
        have il : vp_in (nI L.length) 64 := vp_in_nI (by omega) (by decide)
        apply hP
        unfold pb_Mo_cutTree_12
        refine zb_f (nI_nle (n := L.length + 1) (by omega) (by omega)) ?_
        intro v2 e2
        have ev2 : v2 = nI L.length := by rw [e2]; exact pk_m1 _
        rw [ev2, cl, show g 9 L.length = nI i from hs.1]
        refine ⟨il, fun v3 e3 => ⟨vp_in_nI (by omega) (by decide), fun g4 e4 v5 e5 => ?_⟩⟩
        rw [e3] at e4 ⊢
        rw [nI_1] at e5
        rw [e5]
        refine ⟨ii, ?_⟩
        have o4 : ∀ j, j ≠ 11 → g4 j = g j := fun j hj => by rw [e4, ar_n _ _ _ _ _ hj]
        have hF4 : FoM n ru bi fe ye no g4 := FoM_but (o4 100 (by decide)) (o4 1 (by decide)) (o4 2 (by decide)) (o4 3 (by decide)) (o4 4 (by decide)) (o4 5 (by decide)) hF
        obtain ⟨f1, f3, fs⟩ := hF4.2 i hi
        have d4 : SegO g4 0 (done ++ [i]) := by
          rw [SegO_app]
          refine ⟨SegO_eq done 0 (fun j _ hj => by rw [e4, ar_o done.length cd (by omega)]) hd, ?_, trivial⟩
          rw [Nat.zero_add, e4, ar_e done.length cd]
        rw [ci, f1]
        have dl : (done ++ [i]).length = done.length + 1 := by simp
        rcases hTi with hl | ⟨hl, h1, h2⟩
        · refine zb_t hl ?_
          unfold pb_Mo_cutTree_84
          have ec : catN ru ye no ((i, d + 1) :: L) = i :: catN ru ye no L := by
            show preN ru ye no (d + 1) i ++ catN ru ye no L = _
            rw [preN_leaf hl]; rfl
          rw [ec] at hu hk
          rw [← dl]
          refine ih L (done ++ [i]) g4 (by simpa using hu) (by rw [dl]; omega) (fun y hy => hT y (by simp [hy])) (StkN_keep L (fun j _ => by rw [o4 9 (by decide)]) hs.2) d4 hF4 (fun j j1 j2 => by rw [o4 j j2]; exact ho j j1 j2) (fun g' o' s' => ?_)
          rw [dl, show done.length + 1 + u = done.length + (u + 1) by omega]
          refine hk g' o' ?_
          rw [List.append_assoc] at s'
          exact s'
        · obtain ⟨f2, f4, f5⟩ := fs hl
          refine zb_f hl ⟨ii, il, fun g6 e6 => ⟨ii, ?_, fun g7 e7 v8 e8 => ?_⟩⟩
          · rw [nI_1]; exact vp_in_nI (by omega) (by decide)
          unfold pb_Mo_cutTree_84
          rw [f4] at e6
          have h5 : g6 5 i = nI (no i) := by rw [e6, ar_n _ _ _ _ _ (by decide)]; exact f5
          rw [h5, nI_1] at e7
          have cl1 : (nI (L.length + 1)).toNatClampNeg = L.length + 1 := nI_clamp (by omega)
          have c9 : ∀ j, g7 9 j = if j = L.length + 1 then nI (no i) else if j = L.length then nI (ye i) else g 9 j := by
            intro j
            rw [e7, ar_at (L.length + 1) cl1]
            by_cases h1 : j = L.length + 1
            · rw [if_pos h1, if_pos h1]
            · rw [if_neg h1, if_neg h1, e6, ar_at L.length cl, o4 9 (by decide)]
          have o7 : ∀ j, j ≠ 9 → g7 j = g4 j := fun j hj => by rw [e7, ar_n _ _ _ _ _ hj, e6, ar_n _ _ _ _ _ hj]
          have ec : catN ru ye no ((i, d + 1) :: L) = i :: catN ru ye no ((no i, d) :: (ye i, d) :: L) := by
            show preN ru ye no (d + 1) i ++ catN ru ye no L = i :: (preN ru ye no d (no i) ++ (preN ru ye no d (ye i) ++ catN ru ye no L))
            rw [preN_split hl]; simp
          rw [ec] at hu hk
          have ev : v8 = nI ((no i, d) :: (ye i, d) :: L).length := by rw [e8]; exact nI_add L.length 2
          rw [ev, ← dl]
          have hF7 : FoM n ru bi fe ye no g7 := FoM_but (o7 100 (by decide)) (o7 1 (by decide)) (o7 2 (by decide)) (o7 3 (by decide)) (o7 4 (by decide)) (o7 5 (by decide)) hF4
          refine ih _ (done ++ [i]) g7 (by simpa using hu) (by rw [dl]; omega) ?_ ⟨?_, ?_, ?_⟩ (SegO_eq _ _ (fun j _ _ => by rw [o7 11 (by decide)]) d4) hF7 (fun j j1 j2 => by rw [o7 j j1, o4 j j2]; exact ho j j1 j2) (fun g' o' s' => ?_)
          · intro y hy
            simp only [List.mem_cons] at hy
            rcases hy with rfl | rfl | hy
            · exact h2
            · exact h1
            · exact hT y (by simp [hy])
          · show g7 9 (L.length + 1) = _
            rw [c9, if_pos rfl]
          · rw [c9, if_neg (by omega), if_pos rfl]
          · exact StkN_keep L (fun j hj => by rw [c9, if_neg (by omega), if_neg (by omega)]) hs.2
          · rw [dl, show done.length + 1 + u = done.length + (u + 1) by omega]
            refine hk g' o' ?_
            rw [List.append_assoc] at s'
            exact s'
/-- the reference's cells behind the cutting of the first k trees -/
def CaM (ru : Nat → Int32) (ye no ro : Nat → Nat) (k : Nat) (g0 g : St) (s : Cs) : Prop :=
  g 103 0 = nI s.2.2.length ∧ (∀ x ∈ AN ru ye no ro k, g 12 x = nI (s.1 x) ∧ g 13 x = cI0 (s.2.1 x)) ∧ (∀ m x : Nat, s.2.2[m]? = some x → g 16 m = nI x) ∧ (∀ j, j ≠ 9 → j ≠ 11 → j ≠ 12 → j ≠ 13 → j ≠ 16 → j ≠ 103 → g j = g0 j)
theorem s_McutTrees {g : St} {K : Int32 → St → Prop} {X2 X3 : Int32} (hV : FoV n ru fe ye no) (h20 : 20 ≤ lim) (h400 : lim ≤ 400) (ht : t ≤ 8) (hT : ∀ j, j < t → TR n ru ye no 13 (ro j)) (hN : (AN ru ye no ro t).Nodup) (hF : FoM n ru bi fe ye no g) (hR : RoM g t ro) (h0 : g 103 0 = 0)
    (hk : ∀ g', CaM ru ye no ro t g g' (cutA ru ye no ro lim t) → pc_Mo_writeAll X2 (sc g' 102 (nI t)) (fun g2 => K (g2 103 0) g2)) : pl_Mo_compile_60 K (nI lim) X2 X3 0 g := by
  have hn := hV.1
  unfold pl_Mo_compile_60
  intro P hP
  have trees : ∀ (r k : Nat) (g' : St), k + r = t → CaM ru ye no ro k g g' (cutA ru ye no ro lim k) → P (nI lim) X2 X3 (nI k) g' := by
    intro r
    induction r with
    | zero =>
      intro k g' hkr hA
      apply hP
      unfold pb_Mo_compile_60
      have e101 : g' 101 0 = nI t := by rw [hA.2.2.2 101 (by decide) (by decide) (by decide) (by decide) (by decide) (by decide)]; exact hR.1
      rw [e101]
      refine zb_t (nI_le (by omega) (by omega)) ?_
      intro g1 e1
      rw [e1]
      exact hk g' (by rw [show t = k by omega]; exact hA)
    | succ r ih =>
      intro k g' hkr hA
      have hkt : k < t := by omega
      have hN1 : (AN ru ye no ro (k + 1)).Nodup := AN_nodup (show k + 1 ≤ t by omega) hN
      obtain ⟨n1, n2, n3⟩ := List.nodup_append.mp hN1
      have hTk := hT k hkt
      have ok := cutA_ok (lim := lim) h20 k (fun j hj => hT j (by omega)) n1
      have l60 := AN_60 hn hN1 (fun j hj => hT j (by omega))
      have l1 : (AN ru ye no ro (k + 1)).length = (AN ru ye no ro k).length + (nds ru ye no 13 (ro k)).length := by
        show (AN ru ye no ro k ++ nds ru ye no 13 (ro k)).length = _; simp
      have hC0 : ∀ x ∈ nds ru ye no 13 (ro k), (cutA ru ye no ro lim k).2.1 x = 0 := fun x hx => ok.1 x (fun q => n3 x q x hx rfl)
      obtain ⟨A, a1, a2, a3, a4, a5, a6, a7, a8, a9⟩ := cutn_ok (lim := lim) h20 13 (ro k) (cutA ru ye no ro lim k) hTk n2 hC0
      obtain ⟨q1, q2, q3, q4⟩ := hA
      have hro60 : ro k < 60 := Nat.lt_of_lt_of_le (nds_lt 13 _ hTk _ (nds_self hTk)) hn
      have hF' : FoM n ru bi fe ye no g' := FoM_but (q4 100 (by decide) (by decide) (by decide) (by decide) (by decide) (by decide)) (q4 1 (by decide) (by decide) (by decide) (by decide) (by decide) (by decide)) (q4 2 (by decide) (by decide) (by decide) (by decide) (by decide) (by decide)) (q4 3 (by decide) (by decide) (by decide) (by decide) (by decide) (by decide)) (q4 4 (by decide) (by decide) (by decide) (by decide) (by decide) (by decide)) (q4 5 (by decide) (by decide) (by decide) (by decide) (by decide) (by decide)) hF
      have okl := ok.2.2.2.2.2.1
      have pl := preN_len (ru := ru) (ye := ye) (no := no) 13 (ro k)
      have pp := preN_pos hTk
      apply hP
      unfold pb_Mo_compile_60
      refine zb_f ?_ ⟨vp_in_nI (by omega) (by decide), ?_⟩
      · rw [q4 101 (by decide) (by decide) (by decide) (by decide) (by decide) (by decide), hR.1]
        exact nI_ge (by omega) (by omega)
      rw [q4 6 (by decide) (by decide) (by decide) (by decide) (by decide) (by decide), nI_clamp (by omega : k < 2 ^ 31), hR.2 k hkt]
      unfold pc_Mo_cutTree pb_Mo_cutTree_0
      intro v1 e1 v2 e2
      refine ⟨vp_in_nI (n := 0) (by decide) (by decide), fun g3 e3 => ?_⟩
      have o3 : ∀ j, j ≠ 9 → g3 j = g' j := fun j hj => by rw [e3, ar_n _ _ _ _ _ hj]
      have hF3 : FoM n ru bi fe ye no g3 := FoM_but (o3 100 (by decide)) (o3 1 (by decide)) (o3 2 (by decide)) (o3 3 (by decide)) (o3 4 (by decide)) (o3 5 (by decide)) hF'
      rw [e1, e2]
      unfold pl_Mo_cutTree_12
      intro P2 hP2
      have ecat : catN ru ye no [(ro k, 13)] = preN ru ye no 13 (ro k) := by
        show preN ru ye no 13 (ro k) ++ [] = _
        rw [List.append_nil]
      refine s_Morder (bi := bi) (g0 := g') hP2 hV (preN ru ye no 13 (ro k)).length [(ro k, 13)] [] g3 (by rw [ecat]) (by show 0 + _ ≤ 60; omega) ?_ ⟨?_, trivial⟩ trivial hF3 (fun j j1 j2 => o3 j j1) (fun g4 o4 s4 => ?_)
      · intro x hx
        simp only [List.mem_singleton] at hx
        subst hx
        exact hTk
      · show g3 9 0 = nI (ro k)
        rw [e3, ar_e 0 rfl]
      have s4 : SegO g4 0 (preN ru ye no 13 (ro k)) := by rw [← ecat]; exact s4
      have hF4 : FoM n ru bi fe ye no g4 := FoM_but (o4 100 (by decide) (by decide)) (o4 1 (by decide) (by decide)) (o4 2 (by decide) (by decide)) (o4 3 (by decide) (by decide)) (o4 4 (by decide) (by decide)) (o4 5 (by decide) (by decide)) hF'
      unfold pl_Mo_cutTree_92
      intro P3 hP3
      have ex : nI (([] : List Nat).length + (preN ru ye no 13 (ro k)).length) - 1 = ixq (0 + (preN ru ye no 13 (ro k)).length) := by
        obtain ⟨z, hz⟩ : ∃ z, (preN ru ye no 13 (ro k)).length = z + 1 := ⟨(preN ru ye no 13 (ro k)).length - 1, by omega⟩
        rw [hz]
        show nI (0 + (z + 1)) - 1 = ixq (0 + (z + 1))
        rw [Nat.zero_add, ixq_s]
        exact nI_pred z
      rw [ex]
      refine s_Mseg (bi := bi) hP3 hV h20 h400 13 (ro k) 0 (cutA ru ye no ro lim k) g4 hTk n2 hC0 (by omega) (by omega) s4 (by rw [o4 103 (by decide) (by decide)]; exact q1) hF4 (fun g5 P5 => ?_)
      apply hP3
      unfold pb_Mo_cutTree_92
      refine zb_t (by decide) ?_
      have es : cutA ru ye no ro lim (k + 1) = ((cutn ru ye no lim 13 (ro k) (cutA ru ye no ro lim k)).1, (cutn ru ye no lim 13 (ro k) (cutA ru ye no ro lim k)).2.1, (cutn ru ye no lim 13 (ro k) (cutA ru ye no ro lim k)).2.2 ++ [ro k]) := rfl
      obtain ⟨p1, p2, p3, p4, p5, p6⟩ := P5
      generalize hs0 : cutA ru ye no ro lim k = s0 at *
      generalize hs1 : cutn ru ye no lim 13 (ro k) s0 = s1 at *
      have len1 : s1.2.2.length = s0.2.2.length + A.length := by rw [a1]; simp
      refine s_newMethod p1 (by omega) ?_
      intro v4 e4
      rw [nI_1] at e4
      rw [e4]
      refine ih (k + 1) _ (by omega) ?_
      rw [es]
      have old : ∀ x ∈ AN ru ye no ro k, s1.1 x = s0.1 x ∧ s1.2.1 x = s0.2.1 x := fun x hx => a4 x (fun q => n3 x hx x q rfl)
      have no_ : ∀ j, j ≠ 16 → j ≠ 103 → newS g5 (ro k) s1.2.2.length j = g5 j := fun j j1 j2 => by unfold newS; rw [sc_n _ _ _ _ j2, ar_n _ _ _ _ _ j1]
      refine ⟨by unfold newS; rw [sc_s]; show _ = nI (s1.2.2 ++ [ro k]).length; simp, fun x hx => ?_, fun m x hm => ?_, fun j j1 j2 j3 j4 j5 j6 => ?_⟩
      · rw [no_ 12 (by decide) (by decide), no_ 13 (by decide) (by decide)]
        show g5 12 x = nI (s1.1 x) ∧ g5 13 x = cI0 (s1.2.1 x)
        rcases List.mem_append.mp hx with hx | hx
        · have w := p3 x (fun q => n3 x hx x q rfl)
          rw [w.1, w.2, (old x hx).1, (old x hx).2, o4 12 (by decide) (by decide), o4 13 (by decide) (by decide)]
          exact q2 x hx
        · exact p2 x hx
      · have hm : (s1.2.2 ++ [ro k])[m]? = some x := hm
        have e16 : newS g5 (ro k) s1.2.2.length 16 m = if m = s1.2.2.length then nI (ro k) else g5 16 m := by
          unfold newS
          rw [sc_n _ _ _ _ (by decide), ar_at s1.2.2.length (nI_clamp (by omega))]
        rw [e16]
        by_cases e : m = s1.2.2.length
        · rw [if_pos e]
          rw [e, List.getElem?_concat_length] at hm
          rw [Option.some.inj hm]
        · rw [if_neg e]
          have hlt := (List.getElem?_eq_some_iff.mp hm).1
          simp at hlt
          rw [List.getElem?_append_left (by omega)] at hm
          by_cases w : s0.2.2.length ≤ m
          · exact p6 m x w hm
          · rw [p5 m (by omega), o4 16 (by decide) (by decide)]
            rw [a1, List.getElem?_append_left (by omega)] at hm
            exact q3 m x hm
      · rw [no_ j j5 j6, p4 j j3 j4 j5 j6, o4 j j1 j2]
        exact q4 j j1 j2 j3 j4 j5 j6
  refine trees t 0 g (by omega) ⟨h0, fun x hx => absurd hx List.not_mem_nil, fun m x hm => ?_, fun _ _ _ _ _ _ _ => rfl⟩
  have := (List.getElem?_eq_some_iff.mp hm).1
  exact absurd this (Nat.not_lt_zero _)
end CUTMA
