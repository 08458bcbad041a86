/-! compile, all of it -/
theorem m_ok {lim most : Nat} {m : St} {K : Int32 → St → Prop} (h20 : 20 ≤ lim) (h400 : lim ≤ 400) (hmo : most ≤ 60) (hq : lim / 4 ≤ most ∨ most = 60) (hk : pb_Mo_compile_31 K (nI lim) (nI most) m) : pc_Mo_compile (nI lim) (nI most) m K := by
  unfold pc_Mo_compile pb_Mo_compile_0 pc_Mo_outside pb_Mo_outside_0
  refine zb_f (nI_nlt (b := 20) h20 (by omega)) (zb_t (nI_le (b := 400) h400 (by decide)) ?_)
  refine zr_t rfl ?_
  refine pk_lt 60 most (fun q => absurd q (by omega)) (fun _ => ?_) rfl rfl (by omega) (by omega)
  refine pk_le 60 most (fun _ => hk) (fun q => ⟨by decide, ?_⟩) rfl rfl (by omega) (by omega)
  have ed : nI lim / (4 : Int32) = nI (lim / 4) := pk_div (d := 4) (by omega) (by decide) (by decide)
  rw [ed]
  exact pk_lt most (lim / 4) (fun q => absurd q (by omega)) (fun _ => hk) rfl rfl (by omega) (by omega)
theorem Fo_ex {c m : St} {n : Nat} (hN : RN c m n) : ∃ (ru bi : Nat → Int32) (fe ye no : Nat → Nat), FoV n ru fe ye no ∧ FoC n ru bi fe ye no c ∧ FoM n ru bi fe ye no m := by
  obtain ⟨n60, c100, m100, hn⟩ := hN
  refine ⟨c 3, c 5, fun i => (c 4 i).toNatClampNeg, fun i => (c 6 i).toNatClampNeg, fun i => (c 7 i).toNatClampNeg, ⟨n60, fun i hi hl => ?_⟩, ⟨c100, fun i hi => ⟨rfl, rfl, fun hl => ?_⟩⟩, ⟨m100, fun i hi => ?_⟩⟩
  · obtain ⟨-, -, h⟩ := hn i hi
    rcases h with h | ⟨r, f, y, o, s1, s2, s3, s4, s5, s6, s7, s8, -⟩
    · exact absurd h hl
    · refine ⟨⟨r, s1, s5⟩, ?_, ?_, ?_⟩
      · show (c 4 i).toNatClampNeg < 8
        rw [s6, nI_clamp (by omega)]; exact s2
      · show (c 6 i).toNatClampNeg < 60
        rw [s7, nI_clamp (by omega)]; exact s3
      · show (c 7 i).toNatClampNeg < 60
        rw [s8, nI_clamp (by omega)]; exact s4
  · obtain ⟨-, -, h⟩ := hn i hi
    rcases h with h | ⟨r, f, y, o, s1, s2, s3, s4, s5, s6, s7, s8, -⟩
    · exact absurd h hl
    · show c 4 i = nI (c 4 i).toNatClampNeg ∧ c 6 i = nI (c 6 i).toNatClampNeg ∧ c 7 i = nI (c 7 i).toNatClampNeg
      rw [s6, s7, s8, nI_clamp (by omega), nI_clamp (by omega), nI_clamp (by omega)]
      exact ⟨rfl, rfl, rfl⟩
  · obtain ⟨h1, h2, h⟩ := hn i hi
    refine ⟨h1.symm, h2.symm, fun hl => ?_⟩
    rcases h with h | ⟨r, f, y, o, s1, s2, s3, s4, s5, s6, s7, s8, s9, s10, s11⟩
    · exact absurd h hl
    · show m 2 i = nI (c 4 i).toNatClampNeg ∧ m 4 i = nI (c 6 i).toNatClampNeg ∧ m 5 i = nI (c 7 i).toNatClampNeg
      rw [s6, s7, s8, s9, s10, s11, nI_clamp (by omega), nI_clamp (by omega), nI_clamp (by omega)]
      exact ⟨rfl, rfl, rfl⟩
theorem Ro_ex {c m : St} {n t : Nat} (n60 : n ≤ 60) (hT : RT c m n t) : ∃ ro : Nat → Nat, (∀ i, i < t → ro i < n) ∧ RoC c t ro ∧ RoM m t ro := by
  obtain ⟨t8, c101, m101, hr⟩ := hT
  have hc : ∀ i, i < t → (c 8 i).toNatClampNeg < n ∧ c 8 i = nI (c 8 i).toNatClampNeg ∧ m 6 i = nI (c 8 i).toNatClampNeg := fun i hi => by
    obtain ⟨r, r1, r2, r3⟩ := hr i hi
    rw [r2, r3, nI_clamp (by omega)]
    exact ⟨r1, rfl, rfl⟩
  exact ⟨fun i => (c 8 i).toNatClampNeg, fun i hi => (hc i hi).1, ⟨c101, fun i hi => (hc i hi).2.1⟩, ⟨m101, fun i hi => (hc i hi).2.2⟩⟩
theorem fltI_lt {n : Nat} {ru : Nat → Int32} {ye no ro : Nat → Nat} (hn : n ≤ 60) : ∀ (k i : Nat) (S : Nat → Bool), (∀ j, j < i + k → ro j < n) → (fltI n ru ye no ro k i S).1 < 400 := by
  intro k
  induction k with
  | zero => intro i S _; exact (by decide : (0 : Nat) < 400)
  | succ k ih =>
    intro i S hro
    unfold fltI
    split
    · exact ih (i + 1) _ (fun j hj => hro j (by omega))
    · exact flt_lt hn 14 (ro i) 0 S (hro i (by omega))
theorem c_core {c m : St} {lim most : Nat} (h20 : 20 ≤ lim) (h400 : lim ≤ 400) (hmo : most ≤ 60) (hq : lim / 4 ≤ most ∨ most = 60) (h : Rel c m) (h101 : ¬ c 101 0 = 0) (K : Int32 → St → Prop) (hK : ∀ r1 c', pc_Mo_compile (nI lim) (nI most) m (fun r2 m => r1 = r2 ∧ Rel c' m) → K r1 c') :
    pc_Ch_firstFault c (fun v4 g3 => ∀ v5 : Int32, v5 = v4 → ((v5 = 0 → pc_Cu_cutTrees (nI lim) g3 (fun g6 => pc_Co_writeMethods (nI most) g6 (fun g7 => K (g7 105 0) g7))) ∧ (¬ v5 = 0 → K (- v5) g3))) := by
  have h' := h
  obtain ⟨n, t, M0, z0, st0, ts0, hN, hT, hR, hS, -, -⟩ := h'
  obtain ⟨ru, bi, fe, ye, no, hV, fC, fM⟩ := Fo_ex hN
  obtain ⟨ro, hro, rC, rM⟩ := Ro_ex hN.1 hT
  have n60 := hV.1
  have t8 := hT.1
  have t0 : 0 < t := by
    rcases Nat.eq_zero_or_pos t with e | e
    · exact absurd (by rw [rC.1, e]; rfl) h101
    · exact e
  have m101 : ¬ m 101 0 = 0 := by
    rw [rM.1]
    exact fun q => absurd ((nI_eq32 (a := t) (b := 0) (by omega) (by omega)).mp q) (by omega)
  refine s_firstFault hV t8 hro fC rC (fun g3 b3 => ?_)
  intro v5 e5
  have f400 : (fltI n ru ye no ro t 0 (fun _ => false)).1 < 400 := fltI_lt n60 t 0 _ (fun j hj => hro j (by omega))
  by_cases hz : (fltI n ru ye no ro t 0 (fun _ => false)).1 = 0
  · refine zb_t (by rw [e5, hz]; rfl) ?_
    obtain ⟨hND, hTR⟩ := fltI_trees t 0 (fun _ => false) (fun j hj => hro j (by omega)) (fun j => (decide_eq_false (fun q => absurd q List.not_mem_nil)).symm) List.nodup_nil (fun j hj => absurd hj (Nat.not_lt_zero _)) hz
    rw [Nat.zero_add] at hND hTR
    have fC3 : FoC n ru bi fe ye no g3 := FoC_of (b3 3 (by decide)) (b3 4 (by decide)) (b3 5 (by decide)) (b3 6 (by decide)) (b3 7 (by decide)) (b3 100 (by decide)) fC
    have rC3 : RoC g3 t ro := ⟨by rw [b3 101 (by decide)]; exact rC.1, fun i hi => by rw [b3 8 (by decide)]; exact rC.2 i hi⟩
    refine s_cutTrees (bi := bi) hV h20 h400 t8 hTR hND fC3 rC3 (fun g6 C6 => ?_)
    have ok := cutA_ok (lim := lim) h20 t hTR hND
    have a60 := AN_60 n60 hND hTR
    have sumE := cutA_sum (lim := lim) h20 t hTR hND
    have child := AN_child hTR hND
    generalize hs : cutA ru ye no ro lim t = s at *
    obtain ⟨k1, k2, k3, k4, k5, k6, k7, k8⟩ := ok
    obtain ⟨q1, q2, q3, q4, q5, q6, q7⟩ := C6
    have o6 : ∀ j, j ≠ 10 → j ≠ 12 → j ≠ 13 → j ≠ 14 → j ≠ 102 → g6 j = c j := fun j j0 j1 j2 j3 j4 => by rw [q7 j j1 j2 j3 j4]; exact b3 j j0
    have c60 : ∀ y ∈ AN ru ye no ro t, s.2.1 y ≤ 60 := fun y hy => by
      rcases Nat.eq_zero_or_pos (s.2.1 y) with e | e
      · omega
      · have := getLt (k3 y hy (s.2.1 y - 1) (by omega))
        omega
    have top : ∀ x ∈ s.2.2, TR n ru ye no 13 x ∧ (nds ru ye no 13 x).Nodup ∧ (∀ y ∈ nds ru ye no 13 x, y ∈ AN ru ye no ro t) ∧ ∀ y ∈ nds ru ye no 13 x, y ≠ x → ∀ j, j < t → y ≠ ro j := fun x hx => AN_in t hTR hND x (k7 x hx)
    have lens : ∀ x ∈ s.2.2, Len ru ye no s (nds ru ye no 13 x) := fun x hx y hy => k5 y ((top x hx).2.2.1 y hy)
    have l60 : ∀ x ∈ s.2.2, (nds ru ye no 13 x).length ≤ 60 := fun x hx => Nat.le_trans (List.Nodup.length_le_of_subset (top x hx).2.1 (fun y hy => (top x hx).2.2.1 y hy)) a60
    have hem : ∀ x ∈ s.2.2, eN ru ye no s 13 x ≤ most := fun x hx => by
      obtain ⟨b1, b2, b3⟩ := eN_bytes (s := s) 13 x (top x hx).1 (lens x hx)
      have := l60 x hx
      have := (k4 x (k7 x hx)).2
      by_cases hl : ru x = -1
      · rw [eN_leaf hl]; omega
      · have := b2 hl
        omega
    have O60 : s.2.2.length ≤ 60 := by omega
    have O0 : ¬ s.2.2 = [] := fun q => by
      have := getLt (k2 0 t0).2
      rw [q] at this
      exact absurd this (Nat.not_lt_zero _)
    have hB : sumL s.1 s.2.2 ≤ 600 := by omega
    have hE : sumL (eN ru ye no s 13) s.2.2 ≤ 120 := by omega
    have fC6 : FoC n ru bi fe ye no g6 := FoC_of (q7 3 (by decide) (by decide) (by decide) (by decide)) (q7 4 (by decide) (by decide) (by decide) (by decide)) (q7 5 (by decide) (by decide) (by decide) (by decide)) (q7 6 (by decide) (by decide) (by decide) (by decide)) (q7 7 (by decide) (by decide) (by decide) (by decide)) (q7 100 (by decide) (by decide) (by decide) (by decide)) fC3
    refine s_writeMethods (bi := bi) (s := s) (t := t) (ro := ro) (rm := rmo ru ye no ro lim) hV fC6 O60 q1 q6 (fun x hx => ⟨(top x hx).1, (top x hx).2.1, lens x hx, fun y hy => ?_⟩) hmo hem hB hE t8 (by rw [q7 101 (by decide) (by decide) (by decide) (by decide)]; exact rC3.1) (fun i hi => ⟨Nat.lt_of_lt_of_le (hro i hi) n60, by rw [q7 8 (by decide) (by decide) (by decide) (by decide)]; exact rC3.2 i hi, q4 i hi⟩) (fun g7 W7 I7 e105 e106 e23 o7 => ?_)
    · have hy' := (top x hx).2.2.1 y hy
      exact ⟨Nat.le_trans (k4 y hy').2 h400, c60 y hy', q2 y hy', fun hne => q3 y hy' ((top x hx).2.2.2 y hy hne)⟩
    refine hK _ _ ?_
    refine m_ok h20 h400 hmo hq ?_
    unfold pb_Mo_compile_31
    refine zr_f m101 ?_
    refine s_Mfault hV t8 hro fM rM (fun m1 b1 => ?_)
    intro v3 e3
    refine zb_t (by rw [e3, hz]; rfl) ?_
    intro m4 f4 v5' f5
    rw [f5]
    have o4 : ∀ j, j ≠ 8 → j ≠ 9 → j ≠ 10 → j ≠ 103 → m4 j = m j := fun j j1 j2 j3 j4 => by rw [f4, sc_n _ _ _ _ j4]; exact b1 j j1 j2 j3
    have fM4 : FoM n ru bi fe ye no m4 := FoM_but (o4 100 (by decide) (by decide) (by decide) (by decide)) (o4 1 (by decide) (by decide) (by decide) (by decide)) (o4 2 (by decide) (by decide) (by decide) (by decide)) (o4 3 (by decide) (by decide) (by decide) (by decide)) (o4 4 (by decide) (by decide) (by decide) (by decide)) (o4 5 (by decide) (by decide) (by decide) (by decide)) fM
    have rM4 : RoM m4 t ro := ⟨by rw [o4 101 (by decide) (by decide) (by decide) (by decide)]; exact rM.1, fun i hi => by rw [o4 6 (by decide) (by decide) (by decide) (by decide)]; exact rM.2 i hi⟩
    refine s_McutTrees (bi := bi) (lim := lim) hV h20 h400 t8 hTR hND fM4 rM4 (by rw [f4, sc_s]) (fun m5 C5 => ?_)
    rw [hs] at C5
    obtain ⟨p1, p2, p3, p4⟩ := C5
    have o5 : ∀ j, j ≠ 102 → sc m5 102 (nI t) j = m5 j := fun j hj => sc_n _ _ _ _ hj
    have fM5 : FoM n ru bi fe ye no (sc m5 102 (nI t)) := by
      have e5 : ∀ j, (j = 100 ∨ j = 1 ∨ j = 2 ∨ j = 3 ∨ j = 4 ∨ j = 5) → sc m5 102 (nI t) j = m4 j := fun j hj => by rw [o5 j (by omega)]; exact p4 j (by omega) (by omega) (by omega) (by omega) (by omega) (by omega)
      exact FoM_but (e5 100 (by omega)) (e5 1 (by omega)) (e5 2 (by omega)) (e5 3 (by omega)) (e5 4 (by omega)) (e5 5 (by omega)) fM4
    refine s_MwriteAll (bi := bi) (s := s) (O := s.2.2) hV fM5 O60 O0 (by rw [o5 103 (by decide)]; exact p1) (fun k x hx => by rw [o5 16 (by decide)]; exact p3 k x hx) (fun x hx => ⟨(top x hx).1, (top x hx).2.1, lens x hx, l60 x hx, fun y hy => ?_⟩) hmo hem hB hE (fun m6 D6 m14 m18 r6 => ?_)
    · have hy' := (top x hx).2.2.1 y hy
      rw [o5 12 (by decide), o5 13 (by decide)]
      exact ⟨Nat.le_trans (k4 y hy').2 h400, c60 y hy', (p2 y hy').1, (p2 y hy').2⟩
    generalize drv (wr13 ru bi fe ye no s) most s.2.2 dv0 = dv at *
    have co : ∀ j, (j ≤ 8 ∨ j = 100 ∨ j = 101 ∨ 107 ≤ j) → g7 j = c j := fun j hj => by
      rw [o7 j (by omega) (by omega) (by omega) (by omega) (by omega) (by omega) (by omega) (by omega) (by omega) (by omega) (by omega)]
      exact o6 j (by omega) (by omega) (by omega) (by omega) (by omega)
    have mo : ∀ j, (j ≤ 7 ∨ j = 100 ∨ j = 101 ∨ 107 ≤ j) → m6 j = m j := fun j hj => by
      rw [r6 j (by omega) (by omega) (by omega) (by omega) (by omega) (by omega) (by omega) (by omega) (by omega) (by omega), o5 j (by omega), p4 j (by omega) (by omega) (by omega) (by omega) (by omega) (by omega)]
      exact o4 j (by omega) (by omega) (by omega) (by omega)
    have m103 : m6 103 0 = nI s.2.2.length := by
      rw [r6 103 (by omega) (by omega) (by omega) (by omega) (by omega) (by omega) (by omega) (by omega) (by omega) (by omega), o5 103 (by omega)]; exact p1
    have m102 : m6 102 0 = nI t := by
      rw [r6 102 (by omega) (by omega) (by omega) (by omega) (by omega) (by omega) (by omega) (by omega) (by omega) (by omega), sc_s]
    have m13 : ∀ x ∈ AN ru ye no ro t, m6 13 x = cI0 (s.2.1 x) := fun x hx => by
      rw [r6 13 (by omega) (by omega) (by omega) (by omega) (by omega) (by omega) (by omega) (by omega) (by omega) (by omega), o5 13 (by omega)]; exact (p2 x hx).2
    have fC7 : FoC n ru bi fe ye no g7 := FoC_of (co 3 (by omega)) (co 4 (by omega)) (co 5 (by omega)) (co 6 (by omega)) (co 7 (by omega)) (co 100 (by omega)) fC
    have fM6 : FoM n ru bi fe ye no m6 := FoM_but (mo 100 (by omega)) (mo 1 (by omega)) (mo 2 (by omega)) (mo 3 (by omega)) (mo 4 (by omega)) (mo 5 (by omega)) fM
    refine ⟨e105.trans m103.symm, n, t, s.2.2.length, _, _, _, RN_of (co 3 (by omega)) (co 4 (by omega)) (co 5 (by omega)) (co 6 (by omega)) (co 7 (by omega)) (co 100 (by omega)) (mo 1 (by omega)) (mo 2 (by omega)) (mo 3 (by omega)) (mo 4 (by omega)) (mo 5 (by omega)) (mo 100 (by omega)) hN, RT_of (co 8 (by omega)) (co 101 (by omega)) (mo 6 (by omega)) (mo 101 (by omega)) hT, fun i hi => by rw [co 1 (by omega), mo 7 (by omega)]; exact hR i hi, ⟨by rw [co 107 (by omega), mo 107 (by omega)]; exact hS.1, by rw [co 108 (by omega), mo 108 (by omega)]; exact hS.2⟩, RB_of I7 W7 D6 O0 O60 hB hE e105 m103 m14 m18, ⟨t, Nat.le_refl _, e106, m102, fun i hi => ?_⟩⟩
    obtain ⟨B, F, E, ts, st, ho⟩ := dv
    obtain ⟨w1, w2, w3, w4, w5, w6⟩ := W7
    have I := I7
    obtain ⟨i1, i2, i3, i4, i5, i6, i7, i8, i9, i10, i11, i12, i13⟩ := I7
    have w1 : SC ts.length F.length g7 (B, E) := w1
    have w2 : ∀ (k : Nat) (x : KB), F[k]? = some x → g7 16 k = x.1 ∧ g7 17 k = x.2 := w2
    have i1 : B.length = sumL s.1 s.2.2 := i1
    have i2 : F.length + E.length ≤ sumL (eN ru ye no s 13) s.2.2 := i2
    have hri := (k2 i hi).2
    obtain ⟨w, hh, ah, c1, c2, c3, c4, c5⟩ := i13 _ _ hri
    have hAN : ro i ∈ AN ru ye no ro t := AN_sub (show i + 1 ≤ t by omega) _ (List.mem_append_right _ (nds_self (hTR i hi)))
    have hcode := code_at (M := s.2.2.length) (bi := bi) (fe := fe) (s := s) (S := fun x => x ∈ AN ru ye no ro t) (c := g7) (m := m6) (B := B) (F := F) (E := E) (ts := ts) (st := st) (ho := ho) hV fC7 fM6 m13 child (fun x hx => ⟨(k4 x hx).1, Nat.le_trans (k4 x hx).2 h400⟩) k5 (fun x hx q hq => ⟨getLt (k3 x hx q hq), i13 q x (k3 x hx q hq)⟩) w1.2.1 w1.1 (by omega) w1.2.2.2.2.1 w1.2.2.2.1 w3 w1.2.2.2.2.2.2.1 (by omega) i9 (fun k kb hk => ?_) w4 w5 13 (ro i) w hh ah (Nat.le_refl _) (hTR i hi) hAN c3 ⟨c4, c5⟩
    · have lw : w.1.length + 3 ≤ B.length := by
        obtain ⟨X, hX⟩ := c4
        have hX : B = (wrN ru bi fe ye no s 13 (ro i) w).1 ++ X := hX
        obtain ⟨X3, Y3, x3, -, l3, -⟩ := wrN_ext (bi := bi) (fe := fe) (s := s) 13 (ro i) w (hTR i hi) (fun y hy => k5 y (nds_S child 13 _ hAN y hy))
        have := congrArg List.length hX
        rw [x3, List.length_append, List.length_append, l3] at this
        have := (k4 _ hAN).1
        omega
      have := getLt c3
      have : hh < ts.length := this
      have := w1.2.2.2.1
      exact ⟨ro i, rmo ru ye no ro lim i, w.1.length, hh, hro i hi, getLt hri, by rw [co 8 (by omega)]; exact rC.2 i hi, e23 i hi, w4 _ _ c1, w5 _ _ c2, by omega, by omega, hcode⟩
    · by_cases hlt : k < F.length
      · rw [List.getElem?_append_left hlt] at hk; exact (w2 k kb hk).2
      · rw [List.getElem?_append_right (by omega)] at hk
        have := (w1.2.2.2.2.2.2.2 _ kb hk).2
        rw [show F.length + (k - F.length) = k by omega] at this
        exact this
  · have nz : ¬ nI (fltI n ru ye no ro t 0 (fun _ => false)).1 = 0 := fun q => hz ((nI_eq32 (b := 0) (by omega) (by omega)).mp q)
    refine zb_f (by rw [e5]; exact nz) ?_
    refine hK _ _ ?_
    refine m_ok h20 h400 hmo hq ?_
    unfold pb_Mo_compile_31
    refine zr_f m101 ?_
    refine s_Mfault hV t8 hro fM rM (fun m1 b1 => ?_)
    intro v3 e3
    refine zb_f (by rw [e3]; exact nz) ⟨by rw [e5, e3], Rel_but b3 b1 h⟩
theorem sim_compile (c m : St) (x1 x2 : Int32) (h : Rel c m) : pc_BF_compile x1 x2 c (fun r1 c => pc_Mo_compile x1 x2 m (fun r2 m => r1 = r2 ∧ Rel c m)) := by
  unfold pc_BF_compile pb_BF_compile_0
  by_cases a1 : x1 < 20
  · refine zb_t a1 ?_
    unfold pc_Mo_compile pb_Mo_compile_0 pc_Mo_outside pb_Mo_outside_0
    exact zb_t a1 (zr_f (by decide) ⟨rfl, h⟩)
  refine zb_f a1 ?_
  by_cases a2 : (400 : Int32) < x1
  · refine zb_t a2 ?_
    unfold pc_Mo_compile pb_Mo_compile_0 pc_Mo_outside pb_Mo_outside_0
    exact zb_f a1 (zb_f (Int32.not_le.mpr a2) (zr_f (by decide) ⟨rfl, h⟩))
  refine zb_f a2 ?_
  obtain ⟨lim, e1, h20, h400⟩ := lim_of a1 a2
  have ed : nI lim / (4 : Int32) = nI (lim / 4) := pk_div (d := 4) (by omega) (by decide) (by decide)
  have good : ∀ most : Nat, x2 = nI most → most ≤ 60 → (lim / 4 ≤ most ∨ most = 60) → ((¬ (c 101 0) = 0 → pc_Ch_firstFault c (fun v4 g3 => ∀ v5 : Int32, v5 = v4 → ((v5 = 0 → pc_Cu_cutTrees x1 g3 (fun g6 => pc_Co_writeMethods x2 g6 (fun g7 => pc_Mo_compile x1 x2 m (fun r2 m => (g7 105 0) = r2 ∧ Rel g7 m)))) ∧ (¬ v5 = 0 → pc_Mo_compile x1 x2 m (fun r2 m => (- v5) = r2 ∧ Rel g3 m))))) ∧ ((c 101 0) = 0 → pc_Mo_compile x1 x2 m (fun r2 m => (-1 : Int32) = r2 ∧ Rel c m))) := by
    intro most e2 hmo hq
    rw [e1, e2]
    refine ⟨fun h101 => c_core h20 h400 hmo hq h h101 (fun r1 c' => pc_Mo_compile (nI lim) (nI most) m (fun r2 m => r1 = r2 ∧ Rel c' m)) (fun _ _ k => k), fun h101 => ?_⟩
    refine m_ok h20 h400 hmo hq ?_
    unfold pb_Mo_compile_31
    have : m 101 0 = 0 := by
      obtain ⟨n, t, M0, z0, st0, ts0, hN, hT, hR, hS, -, -⟩ := h
      rw [hT.2.2.1, ← hT.2.1]; exact h101
    exact zr_t this ⟨rfl, h⟩
  unfold pc_BF_isTableSize pb_BF_isTableSize_0
  by_cases b1 : x2 = 60
  · exact zb_t b1 (zb_f (by decide) (good 60 b1 (by omega) (Or.inr rfl)))
  refine zb_f b1 ?_
  by_cases b2 : (60 : Int32) ≤ x2
  · refine zb_t b2 (zb_t rfl ?_)
    unfold pc_Mo_compile pb_Mo_compile_0 pc_Mo_outside pb_Mo_outside_0
    refine zb_f a1 (zb_t (Int32.not_lt.mp a2) (zr_t rfl (zb_t ?_ ⟨rfl, h⟩)))
    rw [Int32.lt_iff_toInt_lt]
    rw [Int32.le_iff_toInt_le] at b2
    have : x2.toInt ≠ (60 : Int32).toInt := fun q => b1 (Int32.toInt_inj.mp q)
    omega
  refine zb_f b2 ⟨by decide, ?_⟩
  by_cases b3 : x2 < x1 / (4 : Int32)
  · refine zb_t b3 (zb_t rfl ?_)
    unfold pc_Mo_compile pb_Mo_compile_0 pc_Mo_outside pb_Mo_outside_0
    refine zb_f a1 (zb_t (Int32.not_lt.mp a2) (zr_t rfl (zb_f ?_ (zb_f b2 ⟨by decide, zb_t b3 ⟨rfl, h⟩⟩))))
    exact fun q => b2 (Int32.le_of_lt q)
  · refine zb_f b3 ?_
    rw [e1, ed] at b3
    obtain ⟨most, e2, hq1, hq2⟩ := most_of (by omega) b2 b3
    exact zb_f (by decide) (good most e2 (by omega) (Or.inl hq1))
