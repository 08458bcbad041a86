/-! compile: the new relation -/
def fD (l : List Nat) (i : Nat) : Nat := (l[i]?).getD 0
theorem fD_eq {l : List Nat} {i v : Nat} (h : l[i]? = some v) : fD l i = v := by unfold fD; rw [h]; rfl
theorem getS {α : Type} {l : List α} {i : Nat} (h : i < l.length) : ∃ v, l[i]? = some v := ⟨_, List.getElem?_eq_getElem h⟩
theorem RB_of {wr : Nat → Ws → Ws} {b e : Nat → Nat} {most : Nat} {O : List Nat} {dv : Dv} {c m : St} (hI : DI wr b e most O dv) (hW : DW O.length dv c) (hM : DM dv m) (h0 : ¬ O = []) (h60 : O.length ≤ 60) (hB : sumL b O ≤ 600) (hE : sumL e O ≤ 120) (c105 : c 105 0 = nI O.length) (m103 : m 103 0 = nI O.length) (m14 : m 14 O.length = nI dv.1.length) (m18 : m 18 dv.2.2.2.1.length = m 106 0) :
    RB c m O.length dv.2.2.2.1.length (fD (dv.2.2.2.2.1 ++ [dv.1.length])) (fD (dv.2.2.2.1 ++ [dv.2.1.length + dv.2.2.1.length])) := by
  obtain ⟨B, F, E, ts, st, ho⟩ := dv
  obtain ⟨i1, i2, i3, i4, i5, i6, i7, i8, i9, i10, i11, i12, i13⟩ := hI
  obtain ⟨w1, w2, w3, w4, w5, w6⟩ := hW
  obtain ⟨d1, d2, d3, d4, d5, d6⟩ := hM
  have i1 : B.length = sumL b O := i1
  have i2 : F.length + E.length ≤ sumL e O := i2
  have i3 : 1 ≤ ts.length := i3
  have i5 : ts.length ≤ O.length := i5 h0
  have i7 : st.length = O.length := i7
  have i8 : ho.length = O.length := i8
  have i9 : ∀ (j v : Nat), ts[j]? = some v → v ≤ F.length := i9
  have i10 : ∀ (j v v' : Nat), ts[j]? = some v → ts[j + 1]? = some v' → v ≤ v' := i10
  have i11 : ∀ (j v : Nat), st[j]? = some v → v ≤ B.length := i11
  have i12 : ∀ (j v v' : Nat), st[j]? = some v → st[j + 1]? = some v' → v ≤ v' := i12
  have w1 : SC ts.length F.length c (B, E) := w1
  have w2 : ∀ (k : Nat) (x : KB), F[k]? = some x → c 16 k = x.1 ∧ c 17 k = x.2 := w2
  have w3 : ∀ j v : Nat, ts[j]? = some v → c 18 j = nI v := w3
  have w4 : ∀ j v : Nat, st[j]? = some v → c 21 j = nI v := w4
  have w5 : ∀ j v : Nat, ho[j]? = some v → c 22 j = nI v := w5
  have hpos : 0 < O.length := List.length_pos_iff.mpr h0
  have w6 : c 21 O.length = nI B.length := w6 hpos
  have d1 : SM F.length m (B, E) := d1
  have d2 : ∀ (k : Nat) (x : KB), F[k]? = some x → m 19 k = x.1 ∧ m 20 k = x.2 := d2
  have d3 : m 105 0 = nI ts.length := d3
  have d4 : ∀ j v : Nat, ts[j]? = some v → m 18 j = nI v := d4
  have d5 : ∀ j v : Nat, st[j]? = some v → m 14 j = nI v := d5
  have d6 : ∀ j v : Nat, ho[j]? = some v → m 15 j = nI v := d6
  have m14 : m 14 O.length = nI B.length := m14
  have m18 : m 18 ts.length = m 106 0 := m18
  show RB c m O.length ts.length (fD (st ++ [B.length])) (fD (ts ++ [F.length + E.length]))
  have sM : fD (st ++ [B.length]) O.length = B.length := fD_eq (by rw [← i7]; exact List.getElem?_concat_length)
  have si : ∀ i, i < O.length → ∃ v, st[i]? = some v ∧ fD (st ++ [B.length]) i = v := fun i hi => by
    obtain ⟨v, hv⟩ := getS (l := st) (i := i) (by omega)
    exact ⟨v, hv, fD_eq (getA hv)⟩
  have tz : fD (ts ++ [F.length + E.length]) ts.length = F.length + E.length := fD_eq List.getElem?_concat_length
  have ti : ∀ i, i < ts.length → ∃ v, ts[i]? = some v ∧ fD (ts ++ [F.length + E.length]) i = v := fun i hi => by
    obtain ⟨v, hv⟩ := getS hi
    exact ⟨v, hv, fD_eq (getA hv)⟩
  refine ⟨h60, by omega, c105, m103, w1.2.2.2.2.1, d3, fun i hi => ?_, fun i hi => ?_, fun i hi => ?_, by rw [sM]; omega, by rw [sM]; exact w1.1, fun i hi => ?_, fun i hi => ?_, fun i hi => ?_, fun i hi => ?_, fun i hi => ?_, by rw [tz]; omega, fun i hi => ?_⟩
  · by_cases e : i = O.length
    · rw [e, sM]; exact ⟨w6, m14⟩
    · obtain ⟨v, hv, ev⟩ := si i (by omega)
      rw [ev]; exact ⟨w4 i v hv, d5 i v hv⟩
  · obtain ⟨v, hv, ev⟩ := si i hi
    rw [ev]
    by_cases e : i + 1 = O.length
    · rw [e, sM]; exact i11 i v hv
    · obtain ⟨v', hv', ev'⟩ := si (i + 1) (by omega)
      rw [ev']; exact i12 i v v' hv hv'
  · rw [sM]
    by_cases e : i = O.length
    · rw [e, sM]; exact Nat.le_refl _
    · obtain ⟨v, hv, ev⟩ := si i (by omega)
      rw [ev]; exact i11 i v hv
  · rw [sM] at hi
    obtain ⟨v, hv⟩ := getS hi
    rw [w1.2.1 i v hv, d1.2.1 i v hv]
  · obtain ⟨v, hv⟩ := getS (l := ho) (i := i) (by omega)
    rw [w5 i v hv, d6 i v hv]
  · by_cases e : i = ts.length
    · rw [e, tz]; exact ⟨w1.2.2.2.2.2.2.1, m18.trans d1.2.2.1⟩
    · obtain ⟨v, hv, ev⟩ := ti i (by omega)
      rw [ev]; exact ⟨w3 i v hv, d4 i v hv⟩
  · obtain ⟨v, hv, ev⟩ := ti i hi
    rw [ev]
    by_cases e : i + 1 = ts.length
    · rw [e, tz]
      have := i9 i v hv
      omega
    · obtain ⟨v', hv', ev'⟩ := ti (i + 1) (by omega)
      rw [ev']; exact i10 i v v' hv hv'
  · rw [tz]
    by_cases e : i = ts.length
    · rw [e, tz]; exact Nat.le_refl _
    · obtain ⟨v, hv, ev⟩ := ti i (by omega)
      have := i9 i v hv
      rw [ev]; omega
  · rw [tz] at hi
    by_cases hlt : i < F.length
    · obtain ⟨x, hx⟩ := getS hlt
      obtain ⟨a1, a2⟩ := w2 i x hx
      obtain ⟨a3, a4⟩ := d2 i x hx
      exact ⟨a1.trans a3.symm, a2.trans a4.symm⟩
    · obtain ⟨x, hx⟩ := getS (l := E) (i := i - F.length) (by omega)
      obtain ⟨a1, a2⟩ := w1.2.2.2.2.2.2.2 _ x hx
      obtain ⟨a3, a4⟩ := d1.2.2.2 _ x hx
      rw [show F.length + (i - F.length) = i by omega] at a1 a2 a3 a4
      exact ⟨a1.trans a3.symm, a2.trans a4.symm⟩
theorem RN_of {c m c' m' : St} {n : Nat} (c3 : c' 3 = c 3) (c4 : c' 4 = c 4) (c5 : c' 5 = c 5) (c6 : c' 6 = c 6) (c7 : c' 7 = c 7) (c100 : c' 100 = c 100) (m1 : m' 1 = m 1) (m2 : m' 2 = m 2) (m3 : m' 3 = m 3) (m4 : m' 4 = m 4) (m5 : m' 5 = m 5) (m100 : m' 100 = m 100) (h : RN c m n) : RN c' m' n := by
  unfold RN NodeOk SplitN at *
  rw [c3, c4, c5, c6, c7, c100, m1, m2, m3, m4, m5, m100]; exact h
theorem RT_of {c m c' m' : St} {n t : Nat} (c8 : c' 8 = c 8) (c101 : c' 101 = c 101) (m6 : m' 6 = m 6) (m101 : m' 101 = m 101) (h : RT c m n t) : RT c' m' n t := by
  unfold RT at *
  rw [c8, c101, m6, m101]; exact h
/-- the scratch cells of the checks don't matter -/
theorem Rel_but {c m c' m' : St} (hc : But1 c c' 10) (hm : But3 m m') (h : Rel c m) : Rel c' m' := by
  obtain ⟨n, t, M, z, st, ts, hN, hT, hR, hS, hB, hK⟩ := h
  have c_ : ∀ j, j ≠ 10 → c' j = c j := hc
  have m_ : ∀ j, j ≠ 8 → j ≠ 9 → j ≠ 10 → m' j = m j := hm
  refine ⟨n, t, M, z, st, ts, RN_of (c_ 3 (by decide)) (c_ 4 (by decide)) (c_ 5 (by decide)) (c_ 6 (by decide)) (c_ 7 (by decide)) (c_ 100 (by decide)) (m_ 1 (by decide) (by decide) (by decide)) (m_ 2 (by decide) (by decide) (by decide)) (m_ 3 (by decide) (by decide) (by decide)) (m_ 4 (by decide) (by decide) (by decide)) (m_ 5 (by decide) (by decide) (by decide)) (m_ 100 (by decide) (by decide) (by decide)) hN, RT_of (c_ 8 (by decide)) (c_ 101 (by decide)) (m_ 6 (by decide) (by decide) (by decide)) (m_ 101 (by decide) (by decide) (by decide)) hT, fun i hi => by rw [c_ 1 (by decide), m_ 7 (by decide) (by decide) (by decide)]; exact hR i hi, ⟨by rw [c_ 107 (by decide), m_ 107 (by decide) (by decide) (by decide)]; exact hS.1, by rw [c_ 108 (by decide), m_ 108 (by decide) (by decide) (by decide)]; exact hS.2⟩, ?_, ?_⟩
  · exact RB_same (c_ 105 (by decide)) (m_ 103 (by decide) (by decide) (by decide)) (c_ 103 (by decide)) (m_ 105 (by decide) (by decide) (by decide)) (c_ 21 (by decide)) (m_ 14 (by decide) (by decide) (by decide)) (c_ 104 (by decide)) (c_ 20 (by decide)) (m_ 17 (by decide) (by decide) (by decide)) (c_ 22 (by decide)) (m_ 15 (by decide) (by decide) (by decide)) (c_ 18 (by decide)) (m_ 18 (by decide) (by decide) (by decide)) (c_ 16 (by decide)) (m_ 19 (by decide) (by decide) (by decide)) (c_ 17 (by decide)) (m_ 20 (by decide) (by decide) (by decide)) hB
  · refine RK_same ⟨fun i _ => ?_, c_ 17 (by decide), c_ 18 (by decide), c_ 20 (by decide), c_ 21 (by decide), c_ 22 (by decide), c_ 103 (by decide), c_ 104 (by decide)⟩ (Nat.le_refl _) (Nat.le_refl _) (fun i _ => by rw [c_ 8 (by decide)]) (c_ 23 (by decide)) (c_ 106 (by decide)) (m_ 102 (by decide) (by decide) (by decide)) hK
    rw [c_ 3 (by decide), c_ 4 (by decide), c_ 5 (by decide), c_ 6 (by decide), c_ 7 (by decide), m_ 2 (by decide) (by decide) (by decide), m_ 4 (by decide) (by decide) (by decide), m_ 5 (by decide) (by decide) (by decide), m_ 13 (by decide) (by decide) (by decide)]
    exact ⟨rfl, rfl, rfl, rfl, rfl, rfl, rfl, rfl, rfl⟩
theorem lim_of {x : Int32} (h1 : ¬ x < 20) (h2 : ¬ (400 : Int32) < x) : ∃ j : Nat, x = nI j ∧ 20 ≤ j ∧ j ≤ 400 := by
  have t20 : (20 : Int32).toInt = 20 := by decide
  have t0 : (0 : Int32).toInt = 0 := by decide
  have t400 : (400 : Int32).toInt = 400 := by decide
  rcases pk_ix x (n := 401) (by decide) with h | h | ⟨j, hj, e⟩
  · rw [Int32.lt_iff_toInt_lt] at h h1
    omega
  · rw [Int32.le_iff_toInt_le, nI_toInt (by omega)] at h
    rw [Int32.lt_iff_toInt_lt] at h2
    omega
  · refine ⟨j, e, ?_, by omega⟩
    rw [e, Int32.lt_iff_toInt_lt, nI_toInt (by omega)] at h1
    omega
theorem most_of {x : Int32} {q : Nat} (hq : q < 1000) (h1 : ¬ (60 : Int32) ≤ x) (h2 : ¬ x < nI q) : ∃ j : Nat, x = nI j ∧ q ≤ j ∧ j < 60 := by
  have t0 : (0 : Int32).toInt = 0 := by decide
  rcases pk_ix x (n := 60) (by decide) with h | h | ⟨j, hj, e⟩
  · rw [Int32.lt_iff_toInt_lt] at h h2
    rw [nI_toInt (by omega)] at h2
    omega
  · exact absurd h h1
  · refine ⟨j, e, ?_, hj⟩
    rw [e, Int32.lt_iff_toInt_lt, nI_toInt (by omega), nI_toInt (by omega)] at h2
    omega
