/-! compile, third stage: the methods one behind the other, as a function. A state: bytes, entries of closed tables, entries of the latest, where the tables begin, where the methods begin, their tables. -/
abbrev Dv : Type := List Int32 × List KB × List KB × List Nat × List Nat × List Nat
def dfit (wr : Nat → Ws → Ws) (dv : Dv) (x : Nat) : Dv := ((wr x (dv.1, dv.2.2.1)).1, dv.2.1, (wr x (dv.1, dv.2.2.1)).2, dv.2.2.2.1, dv.2.2.2.2.1 ++ [dv.1.length], dv.2.2.2.2.2 ++ [dv.2.2.2.1.length - 1])
def dnew (wr : Nat → Ws → Ws) (dv : Dv) (x : Nat) : Dv := ((wr x (dv.1, [])).1, dv.2.1 ++ dv.2.2.1, (wr x (dv.1, [])).2, dv.2.2.2.1 ++ [dv.2.1.length + dv.2.2.1.length], dv.2.2.2.2.1 ++ [dv.1.length], dv.2.2.2.2.2 ++ [dv.2.2.2.1.length])
def dstep (wr : Nat → Ws → Ws) (most : Nat) (dv : Dv) (x : Nat) : Dv := if (wr x (dv.1, dv.2.2.1)).2.length ≤ most then dfit wr dv x else dnew wr dv x
def dv0 : Dv := ([], [], [], [0], [], [])
def drv (wr : Nat → Ws → Ws) (most : Nat) : List Nat → Dv → Dv
  | [], dv => dv
  | x :: l, dv => drv wr most l (dstep wr most dv x)
/-- the code of method m, at w, in table h that begins at ah -/
def DCode (wr : Nat → Ws → Ws) (dv : Dv) (x m : Nat) : Prop :=
  ∃ (w : Ws) (h ah : Nat), dv.2.2.2.2.1[m]? = some w.1.length ∧ dv.2.2.2.2.2[m]? = some h ∧ dv.2.2.2.1[h]? = some ah ∧ (∃ X, dv.1 = (wr x w).1 ++ X) ∧ ∀ (k : Nat) (kb : KB), (wr x w).2[k]? = some kb → (dv.2.1 ++ dv.2.2.1)[ah + k]? = some kb ∧ ∀ v, dv.2.2.2.1[h + 1]? = some v → ah + k < v
/-- what holds behind the methods l -/
def DI (wr : Nat → Ws → Ws) (b e : Nat → Nat) (most : Nat) (l : List Nat) (dv : Dv) : Prop :=
  dv.1.length = sumL b l ∧ dv.2.1.length + dv.2.2.1.length ≤ sumL e l ∧ 1 ≤ dv.2.2.2.1.length ∧ (l = [] → dv = dv0) ∧ (¬ l = [] → dv.2.2.2.1.length ≤ l.length) ∧ dv.2.2.2.1[dv.2.2.2.1.length - 1]? = some dv.2.1.length ∧ dv.2.2.2.2.1.length = l.length ∧ dv.2.2.2.2.2.length = l.length ∧ (∀ (j v : Nat), dv.2.2.2.1[j]? = some v → v ≤ dv.2.1.length) ∧ (∀ (j v v' : Nat), dv.2.2.2.1[j]? = some v → dv.2.2.2.1[j + 1]? = some v' → v ≤ v') ∧ (∀ (j v : Nat), dv.2.2.2.2.1[j]? = some v → v ≤ dv.1.length) ∧ (∀ (j v v' : Nat), dv.2.2.2.2.1[j]? = some v → dv.2.2.2.2.1[j + 1]? = some v' → v ≤ v') ∧ (∀ (m x : Nat), l[m]? = some x → DCode wr dv x m)
theorem getA {α : Type} {l l' : List α} {k : Nat} {x : α} (h : l[k]? = some x) : (l ++ l')[k]? = some x := by
  rw [List.getElem?_append_left (List.getElem?_eq_some_iff.mp h).1]; exact h
theorem getLt {α : Type} {l : List α} {k : Nat} {x : α} (h : l[k]? = some x) : k < l.length := (List.getElem?_eq_some_iff.mp h).1
section DSP
variable {wr : Nat → Ws → Ws} {b e : Nat → Nat} {most : Nat}
theorem DI_0 : DI wr b e most [] dv0 :=
  ⟨rfl, Nat.le_refl _, Nat.le_refl _, fun _ => rfl, fun q => absurd rfl q, rfl, rfl, rfl, fun j v h => by
      cases j with
      | zero => have : 0 = v := Option.some.inj h; omega
      | succ j => have := getLt h; exact absurd this (by show ¬ j + 1 < 1; omega), fun j v v' h h' => by
      have := getLt h'; exact absurd this (by show ¬ j + 1 < 1; omega), fun j v h => by have := getLt h; exact absurd this (Nat.not_lt_zero _), fun j v v' h => by have := getLt h; exact absurd this (Nat.not_lt_zero _), fun m x h => by have := getLt h; exact absurd this (Nat.not_lt_zero _)⟩
theorem sumL_snoc (f : Nat → Nat) (l : List Nat) (x : Nat) : sumL f (l ++ [x]) = sumL f l + f x := by
  rw [sumL_app]; rfl
theorem DI_fit {l : List Nat} {dv : Dv} {x : Nat} (hx : ∀ w, Ext w (wr x w) (b x) (e x)) (h : DI wr b e most l dv) : DI wr b e most (l ++ [x]) (dfit wr dv x) := by
  obtain ⟨B, F, E, ts, st, ho⟩ := dv
  obtain ⟨i1, i2, i3, i4, i5, i6, i7, i8, i9, i10, i11, i12, i13⟩ := h
  obtain ⟨X, Y, x1, y1, l1, m1⟩ := hx (B, E)
  have i1 : B.length = sumL b l := i1
  have i2 : F.length + E.length ≤ sumL e l := i2
  have i3 : 1 ≤ ts.length := i3
  have i6 : ts[ts.length - 1]? = some F.length := i6
  have i7 : st.length = l.length := i7
  have i8 : ho.length = l.length := i8
  have x1 : (wr x (B, E)).1 = B ++ X := x1
  have y1 : (wr x (B, E)).2 = E ++ Y := y1
  have ed : dfit wr (B, F, E, ts, st, ho) x = ((wr x (B, E)).1, F, (wr x (B, E)).2, ts, st ++ [B.length], ho ++ [ts.length - 1]) := rfl
  rw [ed]
  refine ⟨?_, ?_, i3, fun q => absurd q (by simp), fun _ => ?_, i6, by simp [i7], by simp [i8], i9, i10, fun j v hv => ?_, fun j v v' hv hv' => ?_, fun m y hy => ?_⟩
  · show (wr x (B, E)).1.length = _
    rw [x1, sumL_snoc, List.length_append, i1, l1]
  · show F.length + (wr x (B, E)).2.length ≤ _
    rw [y1, sumL_snoc, List.length_append]
    omega
  · show ts.length ≤ _
    by_cases q : l = []
    · have := i4 q
      have : ts = [0] := congrArg (fun z : Dv => z.2.2.2.1) this
      rw [this, q]; simp
    · have := i5 q
      have : ts.length ≤ l.length := this
      simp; omega
  · show v ≤ (wr x (B, E)).1.length
    rw [x1, List.length_append]
    rcases get_put hv with ⟨-, q⟩ | ⟨-, q⟩
    · omega
    · have := i11 j v q
      have : v ≤ B.length := this
      omega
  · rcases get_put hv' with ⟨q1, q2⟩ | ⟨q1, q2⟩
    · rcases get_put hv with ⟨w1, w2⟩ | ⟨w1, w2⟩
      · have : j = st.length := w1
        have : j + 1 = st.length := q1
        omega
      · have := i11 j v w2
        rw [q2]; exact this
    · rcases get_put hv with ⟨w1, w2⟩ | ⟨w1, w2⟩
      · have : j = st.length := w1
        have : j + 1 < st.length := q1
        omega
      · exact i12 j v v' w2 q2
  · rcases get_put hy with ⟨q1, q2⟩ | ⟨q1, q2⟩
    · rw [q2]
      refine ⟨(B, E), ts.length - 1, F.length, ?_, ?_, i6, ⟨[], by simp⟩, fun k kb hk => ⟨?_, fun v hv => ?_⟩⟩
      · show (st ++ [B.length])[m]? = some B.length
        rw [q1, ← i7]; exact List.getElem?_concat_length
      · show (ho ++ [ts.length - 1])[m]? = some (ts.length - 1)
        rw [q1, ← i8]; exact List.getElem?_concat_length
      · show (F ++ (wr x (B, E)).2)[F.length + k]? = some kb
        rw [List.getElem?_append_right (by omega), show F.length + k - F.length = k by omega]; exact hk
      · have := getLt hv
        have : ts.length - 1 + 1 < ts.length := this
        omega
    · obtain ⟨w, h, ah, c1, c2, c3, ⟨X', c4⟩, c5⟩ := i13 m y q2
      refine ⟨w, h, ah, getA c1, getA c2, c3, ⟨X' ++ X, ?_⟩, fun k kb hk => ⟨?_, (c5 k kb hk).2⟩⟩
      · show (wr x (B, E)).1 = _
        have c4 : B = (wr y w).1 ++ X' := c4
        rw [x1, ← List.append_assoc, ← c4]
      · show (F ++ (wr x (B, E)).2)[ah + k]? = some kb
        rw [y1, ← List.append_assoc]
        exact getA (c5 k kb hk).1
theorem DI_new {l : List Nat} {dv : Dv} {x : Nat} (hx : ∀ w, Ext w (wr x w) (b x) (e x)) (hl : ¬ l = []) (h : DI wr b e most l dv) : DI wr b e most (l ++ [x]) (dnew wr dv x) := by
  obtain ⟨B, F, E, ts, st, ho⟩ := dv
  obtain ⟨i1, i2, i3, i4, i5, i6, i7, i8, i9, i10, i11, i12, i13⟩ := h
  obtain ⟨X, Y, x1, y1, l1, m1⟩ := hx (B, [])
  have i1 : B.length = sumL b l := i1
  have i2 : F.length + E.length ≤ sumL e l := i2
  have i3 : 1 ≤ ts.length := i3
  have i5 : ts.length ≤ l.length := i5 hl
  have i6 : ts[ts.length - 1]? = some F.length := i6
  have i7 : st.length = l.length := i7
  have i8 : ho.length = l.length := i8
  have x1 : (wr x (B, [])).1 = B ++ X := x1
  have y1 : (wr x (B, [])).2 = [] ++ Y := y1
  have ed : dnew wr (B, F, E, ts, st, ho) x = ((wr x (B, [])).1, F ++ E, (wr x (B, [])).2, ts ++ [F.length + E.length], st ++ [B.length], ho ++ [ts.length]) := rfl
  rw [ed]
  refine ⟨?_, ?_, by show 1 ≤ (ts ++ [_]).length; simp, fun q => absurd q (by simp), fun _ => by show (ts ++ [_]).length ≤ _; simp; omega, ?_, by simp [i7], by simp [i8], fun j v hv => ?_, fun j v v' hv hv' => ?_, fun j v hv => ?_, fun j v v' hv hv' => ?_, fun m y hy => ?_⟩
  · show (wr x (B, [])).1.length = _
    rw [x1, sumL_snoc, List.length_append, i1, l1]
  · show (F ++ E).length + (wr x (B, [])).2.length ≤ _
    rw [y1, sumL_snoc, List.length_append, List.length_append]
    show F.length + E.length + (0 + Y.length) ≤ _
    omega
  · show (ts ++ [F.length + E.length])[(ts ++ [F.length + E.length]).length - 1]? = some (F ++ E).length
    rw [show (ts ++ [F.length + E.length]).length - 1 = ts.length by simp, List.length_append]
    exact List.getElem?_concat_length
  · show v ≤ (F ++ E).length
    rw [List.length_append]
    rcases get_put hv with ⟨-, q⟩ | ⟨-, q⟩
    · omega
    · have := i9 j v q
      have : v ≤ F.length := this
      omega
  · rcases get_put hv' with ⟨q1, q2⟩ | ⟨q1, q2⟩
    · rcases get_put hv with ⟨w1, w2⟩ | ⟨w1, w2⟩
      · have : j = ts.length := w1
        have : j + 1 = ts.length := q1
        omega
      · have := i9 j v w2
        have : v ≤ F.length := this
        omega
    · rcases get_put hv with ⟨w1, w2⟩ | ⟨w1, w2⟩
      · have : j = ts.length := w1
        have : j + 1 < ts.length := q1
        omega
      · exact i10 j v v' w2 q2
  · show v ≤ (wr x (B, [])).1.length
    rw [x1, List.length_append]
    rcases get_put hv with ⟨-, q⟩ | ⟨-, q⟩
    · omega
    · have := i11 j v q
      have : v ≤ B.length := this
      omega
  · rcases get_put hv' with ⟨q1, q2⟩ | ⟨q1, q2⟩
    · rcases get_put hv with ⟨w1, w2⟩ | ⟨w1, w2⟩
      · have : j = st.length := w1
        have : j + 1 = st.length := q1
        omega
      · have := i11 j v w2
        rw [q2]; exact this
    · rcases get_put hv with ⟨w1, w2⟩ | ⟨w1, w2⟩
      · have : j = st.length := w1
        have : j + 1 < st.length := q1
        omega
      · exact i12 j v v' w2 q2
  · rcases get_put hy with ⟨q1, q2⟩ | ⟨q1, q2⟩
    · rw [q2]
      refine ⟨(B, []), ts.length, F.length + E.length, ?_, ?_, ?_, ⟨[], by simp⟩, fun k kb hk => ⟨?_, fun v hv => ?_⟩⟩
      · show (st ++ [B.length])[m]? = some B.length
        rw [q1, ← i7]; exact List.getElem?_concat_length
      · show (ho ++ [ts.length])[m]? = some ts.length
        rw [q1, ← i8]; exact List.getElem?_concat_length
      · show (ts ++ [F.length + E.length])[ts.length]? = _
        exact List.getElem?_concat_length
      · show ((F ++ E) ++ (wr x (B, [])).2)[F.length + E.length + k]? = some kb
        rw [List.getElem?_append_right (by rw [List.length_append]; omega), List.length_append, show F.length + E.length + k - (F.length + E.length) = k by omega]; exact hk
      · have := getLt hv
        have : ts.length + 1 < (ts ++ [F.length + E.length]).length := this
        simp at this
    · obtain ⟨w, h, ah, c1, c2, c3, ⟨X', c4⟩, c5⟩ := i13 m y q2
      refine ⟨w, h, ah, getA c1, getA c2, getA c3, ⟨X' ++ X, ?_⟩, fun k kb hk => ⟨?_, fun v hv => ?_⟩⟩
      · show (wr x (B, [])).1 = _
        have c4 : B = (wr y w).1 ++ X' := c4
        rw [x1, ← List.append_assoc, ← c4]
      · show ((F ++ E) ++ (wr x (B, [])).2)[ah + k]? = some kb
        exact getA (c5 k kb hk).1
      · rcases get_put hv with ⟨w1, w2⟩ | ⟨w1, w2⟩
        · have := getLt (c5 k kb hk).1
          have : ah + k < (F ++ E).length := this
          rw [List.length_append] at this
          rw [w2]; exact this
        · exact (c5 k kb hk).2 v w2
theorem DI_step {l : List Nat} {dv : Dv} {x : Nat} (hx : ∀ w, Ext w (wr x w) (b x) (e x)) (hm : e x ≤ most) (h : DI wr b e most l dv) : DI wr b e most (l ++ [x]) (dstep wr most dv x) := by
  unfold dstep
  by_cases hf : (wr x (dv.1, dv.2.2.1)).2.length ≤ most
  · rw [if_pos hf]; exact DI_fit hx h
  · rw [if_neg hf]
    refine DI_new hx (fun q => hf ?_) h
    obtain ⟨X, Y, x1, y1, l1, m1⟩ := hx (dv.1, dv.2.2.1)
    rw [h.2.2.2.1 q] at y1 ⊢
    rw [y1]
    show ([] ++ Y).length ≤ most
    simp; omega
end DSP
