/-! compile, third stage: the reference writes the methods one behind the other -/
/-- the reference's cells behind methods -/
def DM (dv : Dv) (g : St) : Prop :=
  SM dv.2.1.length g (dv.1, dv.2.2.1) ∧ (∀ (k : Nat) (x : KB), dv.2.1[k]? = some x → g 19 k = x.1 ∧ g 20 k = x.2) ∧ g 105 0 = nI dv.2.2.2.1.length ∧ (∀ j v : Nat, dv.2.2.2.1[j]? = some v → g 18 j = nI v) ∧ (∀ j v : Nat, dv.2.2.2.2.1[j]? = some v → g 14 j = nI v) ∧ (∀ j v : Nat, dv.2.2.2.2.2[j]? = some v → g 15 j = nI v)
def FrM (b g : St) : Prop := ∀ j, j ≠ 9 → j ≠ 14 → j ≠ 15 → j ≠ 17 → j ≠ 18 → j ≠ 19 → j ≠ 20 → j ≠ 104 → j ≠ 105 → j ≠ 106 → g j = b j
theorem SM_of {a : Nat} {g g' : St} {w : Ws} (h104 : g' 104 = g 104) (h17 : g' 17 = g 17) (h106 : g' 106 = g 106) (h19 : g' 19 = g 19) (h20 : g' 20 = g 20) (h : SM a g w) : SM a g' w := by
  unfold SM at *
  rw [h104, h17, h106, h19, h20]; exact h
theorem s_148 {m : Nat} {x1 x3 x4 : Int32} {B : List Int32} {F E : List KB} {ts st ho : List Nat} {g : St} {K : St → Prop} {P : Int32 → Int32 → St → Prop} (hS : SM F.length g (B, E)) (hF : ∀ (k : Nat) (x : KB), F[k]? = some x → g 19 k = x.1 ∧ g 20 k = x.2) (h105 : g 105 0 = nI ts.length) (h1 : 1 ≤ ts.length) (hts : ∀ j v : Nat, ts[j]? = some v → g 18 j = nI v) (hst : ∀ j v : Nat, st[j]? = some v → g 14 j = nI v) (hho : ∀ j v : Nat, ho[j]? = some v → g 15 j = nI v) (hm : m < 60) (lh : ho.length = m)
    (hk : ∀ g', DM (B, F, E, ts, st, ho ++ [ts.length - 1]) g' → (∀ j, j ≠ 15 → g' j = g j) → P x1 (nI (m + 1)) g') : pb_Mo_writeAll_148 K P x1 (nI m) x3 x4 g := by
  unfold pb_Mo_writeAll_148
  have cm : (nI m).toNatClampNeg = m := nI_clamp (by omega)
  obtain ⟨c1, hc⟩ : ∃ c1, ts.length = c1 + 1 := ⟨ts.length - 1, by omega⟩
  rw [h105, hc, nI_pred, nI_1]
  refine ⟨vp_in_nI (by omega) (by decide), fun g1 e1 v2 e2 => ?_⟩
  rw [e2]
  have o : ∀ j, j ≠ 15 → g1 j = g j := fun j hj => by rw [e1, ar_n _ _ _ _ _ hj]
  refine hk g1 ⟨SM_of (o 104 (by decide)) (o 17 (by decide)) (o 106 (by decide)) (o 19 (by decide)) (o 20 (by decide)) hS, fun k x hx => by rw [o 19 (by decide), o 20 (by decide)]; exact hF k x hx, by rw [o 105 (by decide)]; exact h105, fun j v hv => by rw [o 18 (by decide)]; exact hts j v hv, fun j v hv => by rw [o 14 (by decide)]; exact hst j v hv, fun j v hv => ?_⟩ o
  rw [e1, ar_at m cm]
  rcases get_put hv with ⟨q1, q2⟩ | ⟨q1, q2⟩
  · rw [if_pos (by omega), q2, hc]; rfl
  · rw [if_neg (by omega)]; exact hho j v q2
section DRM
variable {n : Nat} {ru bi : Nat → Int32} {fe ye no : Nat → Nat} {s : Cs} {most : Nat}
/-- what is known of a method's top, in the reference -/
def TopM (n : Nat) (ru : Nat → Int32) (ye no : Nat → Nat) (s : Cs) (b : St) (x : Nat) : Prop := TR n ru ye no 13 x ∧ (nds ru ye no 13 x).Nodup ∧ Len ru ye no s (nds ru ye no 13 x) ∧ (nds ru ye no 13 x).length ≤ 60 ∧ ∀ y ∈ nds ru ye no 13 x, s.1 y ≤ 400 ∧ s.2.1 y ≤ 60 ∧ b 12 y = nI (s.1 y) ∧ b 13 y = cI0 (s.2.1 y)
theorem FrM_fo {b g : St} {x m : Nat} (hFb : FoM n ru bi fe ye no b) (hX : TopM n ru ye no s b x) (h16 : b 16 m = nI x) (r : FrM b g) : FoM n ru bi fe ye no g ∧ (∀ y ∈ nds ru ye no 13 x, s.1 y ≤ 400 ∧ s.2.1 y ≤ 60 ∧ g 12 y = nI (s.1 y) ∧ g 13 y = cI0 (s.2.1 y)) ∧ g 16 m = nI x := by
  have rr : ∀ j, (j = 1 ∨ j = 2 ∨ j = 3 ∨ j = 4 ∨ j = 5 ∨ j = 100 ∨ j = 12 ∨ j = 13 ∨ j = 16) → g j = b j := fun j hj => r j (by omega) (by omega) (by omega) (by omega) (by omega) (by omega) (by omega) (by omega) (by omega) (by omega)
  refine ⟨FoM_but (rr 100 (by omega)) (rr 1 (by omega)) (rr 2 (by omega)) (rr 3 (by omega)) (rr 4 (by omega)) (rr 5 (by omega)) hFb, fun y hy => ?_, by rw [rr 16 (by omega)]; exact h16⟩
  rw [rr 12 (by omega), rr 13 (by omega)]; exact hX.2.2.2.2 y hy
theorem s_102 {b g : St} {K : St → Prop} {P : Int32 → Int32 → St → Prop} {x1 : Int32} {B : List Int32} {F : List KB} {ts st ho : List Nat} {x m : Nat} (hV : FoV n ru fe ye no) (hFb : FoM n ru bi fe ye no b) (hX : TopM n ru ye no s b x) (hm : m < 60) (h16 : b 16 m = nI x) (hFr : FrM b g) (hB : B.length + s.1 x ≤ 600) (hE : F.length + eN ru ye no s 13 x ≤ 120) (hby : ∀ (p : Nat) (v : Int32), B[p]? = some v → g 17 p = v) (h14 : g 14 m = nI B.length) (hF : ∀ (k : Nat) (x : KB), F[k]? = some x → g 19 k = x.1 ∧ g 20 k = x.2) (h105 : g 105 0 = nI ts.length) (lt : ts.length ≤ 60) (hts : ∀ j v : Nat, ts[j]? = some v → g 18 j = nI v) (hst : ∀ j v : Nat, st[j]? = some v → g 14 j = nI v) (hho : ∀ j v : Nat, ho[j]? = some v → g 15 j = nI v) (lh : ho.length = m)
    (hk : ∀ g', DM ((wrN ru bi fe ye no s 13 x (B, [])).1, F, (wrN ru bi fe ye no s 13 x (B, [])).2, ts ++ [F.length], st, ho ++ [ts.length]) g' → FrM b g' → P x1 (nI (m + 1)) g') : pb_Mo_writeAll_102 K P x1 (nI m) (nI F.length) 0 g := by
  unfold pb_Mo_writeAll_102
  have cm : (nI m).toNatClampNeg = m := nI_clamp (by omega)
  have ct : (nI ts.length).toNatClampNeg = ts.length := nI_clamp (by omega)
  rw [cm, h14]
  refine zr_t rfl ⟨vp_in_nI (by omega) (by decide), fun g1 e1 g2 e2 => ?_⟩
  have m2 : g2 105 0 = nI ts.length := by rw [e2, sc_n _ _ _ _ (by decide), e1, sc_n _ _ _ _ (by decide)]; exact h105
  rw [m2]
  refine ⟨vp_in_nI (by omega) (by decide), fun g3 e3 g4 e4 => ?_⟩
  have m3 : g3 105 0 = nI ts.length := by rw [e3, ar_n _ _ _ _ _ (by decide)]; exact m2
  rw [m3, nI_1] at e4
  have o4 : ∀ j, j ≠ 18 → j ≠ 104 → j ≠ 105 → j ≠ 106 → g4 j = g j := fun j j1 j2 j3 j4 => by rw [e4, sc_n _ _ _ _ j3, e3, ar_n _ _ _ _ _ j1, e2, sc_n _ _ _ _ j4, e1, sc_n _ _ _ _ j2]
  have e18 : ∀ p, g4 18 p = if p = ts.length then nI F.length else g 18 p := fun p => by
    rw [e4, sc_n _ _ _ _ (by decide), e3, ar_at _ ct, e2, sc_n _ _ _ _ (by decide), e1, sc_n _ _ _ _ (by decide)]
  have r4 : FrM b g4 := fun j j1 j2 j3 j4 j5 j6 j7 j8 j9 j10 => by rw [o4 j j5 j8 j9 j10]; exact hFr j j1 j2 j3 j4 j5 j6 j7 j8 j9 j10
  have S4 : SM F.length g4 (B, []) := by
    refine ⟨?_, fun p v hp => by rw [o4 17 (by decide) (by decide) (by decide) (by decide)]; exact hby p v hp, ?_, fun k z hz => absurd (getLt hz) (Nat.not_lt_zero _)⟩
    · rw [e4, sc_n _ _ _ _ (by decide), e3, ar_n _ _ _ _ _ (by decide), e2, sc_n _ _ _ _ (by decide), e1, sc_s]
    · rw [e4, sc_n _ _ _ _ (by decide), e3, ar_n _ _ _ _ _ (by decide), e2, sc_s]; rfl
  obtain ⟨f1, f2, f3⟩ := FrM_fo hFb hX h16 r4
  obtain ⟨T, N, L, l60, -⟩ := hX
  refine s_Mwrite (d := 12) (bi := bi) (fe := fe) (s := s) (w := (B, [])) hV f1 (by omega) f3 T N L l60 f2 S4 hB (by show F.length + 0 + _ ≤ 120; omega) (fun g5 S5 F5 => ?_)
  have o5 : ∀ j, j ≠ 9 → j ≠ 17 → j ≠ 19 → j ≠ 20 → j ≠ 104 → j ≠ 106 → g5 j = g4 j := F5.1
  have le : (ts ++ [F.length]).length = ts.length + 1 := by simp
  refine s_148 (B := (wrN ru bi fe ye no s 13 x (B, [])).1) (F := F) (E := (wrN ru bi fe ye no s 13 x (B, [])).2) (ts := ts ++ [F.length]) (st := st) (ho := ho) S5 (fun k z hz => ?_) ?_ (by omega) (fun j v hv => ?_) (fun j v hv => ?_) (fun j v hv => ?_) hm lh (fun g6 D6 O6 => hk g6 (by rw [le, show ts.length + 1 - 1 = ts.length by omega] at D6; exact D6) (fun j j1 j2 j3 j4 j5 j6 j7 j8 j9 j10 => by rw [O6 j j3, o5 j j1 j4 j6 j7 j8 j10]; exact r4 j j1 j2 j3 j4 j5 j6 j7 j8 j9 j10))
  · have := F5.2 k (getLt hz)
    rw [this.1, this.2, o4 19 (by decide) (by decide) (by decide) (by decide), o4 20 (by decide) (by decide) (by decide) (by decide)]; exact hF k z hz
  · rw [o5 105 (by decide) (by decide) (by decide) (by decide) (by decide) (by decide), le, e4, sc_s]
  · rw [o5 18 (by decide) (by decide) (by decide) (by decide) (by decide) (by decide), e18]
    rcases get_put hv with ⟨q1, q2⟩ | ⟨q1, q2⟩
    · rw [if_pos q1, q2]
    · rw [if_neg (by omega)]; exact hts j v q2
  · rw [o5 14 (by decide) (by decide) (by decide) (by decide) (by decide) (by decide), o4 14 (by decide) (by decide) (by decide) (by decide)]; exact hst j v hv
  · rw [o5 15 (by decide) (by decide) (by decide) (by decide) (by decide) (by decide), o4 15 (by decide) (by decide) (by decide) (by decide)]; exact hho j v hv
theorem s_Mwriting {b g : St} {K : St → Prop} {P : Int32 → Int32 → St → Prop} {dv : Dv} {l : List Nat} {x m : Nat} (hV : FoV n ru fe ye no) (hFb : FoM n ru bi fe ye no b) (hX : TopM n ru ye no s b x) (hm : m < 60) (hl : l.length = m) (h16 : b 16 m = nI x) (hmo : most ≤ 60) (hex : eN ru ye no s 13 x ≤ most) (hI : DI (wr13 ru bi fe ye no s) s.1 (eN ru ye no s 13) most l dv) (hD0 : l = [] → SM 0 g ([], []) ∧ g 105 0 = nI 0) (hD : ¬ l = [] → DM dv g) (hFr : FrM b g) (hB : sumL s.1 l + s.1 x ≤ 600) (hE : sumL (eN ru ye no s 13) l + eN ru ye no s 13 x ≤ 120)
    (hk : ∀ g', DM (dstep (wr13 ru bi fe ye no s) most dv x) g' → FrM b g' → P (nI most) (nI (m + 1)) g') :
    ∀ g3 : St, g3 = ar g 14 (nI m) (g 104 0) → ∀ v4 : Int32, v4 = (g3 106 0) → (((g3 105 0) ≤ 0 → pb_Mo_writeAll_52 K P (nI most) (nI m) v4 (0 : Int32) g3) ∧ (¬ (g3 105 0) ≤ 0 → pb_Mo_writeAll_52 K P (nI most) (nI m) v4 (1 : Int32) g3)) := by
  intro g3 e3 v4 e4
  have cm : (nI m).toNatClampNeg = m := nI_clamp (by omega)
  have o3 : ∀ j, j ≠ 14 → g3 j = g j := fun j hj => by rw [e3, ar_n _ _ _ _ _ hj]
  have e14 : ∀ p, g3 14 p = if p = m then g 104 0 else g 14 p := fun p => by rw [e3, ar_at m cm]
  have r3 : FrM b g3 := fun j j1 j2 j3 j4 j5 j6 j7 j8 j9 j10 => by rw [o3 j j2]; exact hFr j j1 j2 j3 j4 j5 j6 j7 j8 j9 j10
  have hX0 := hX
  obtain ⟨T, N, L, l60, -⟩ := hX
  by_cases hne : l = []
  · obtain ⟨s0, z0⟩ := hD0 hne
    have hdv := hI.2.2.2.1 hne
    have hm0 : m = 0 := by rw [← hl, hne]; rfl
    have q105 : g3 105 0 = nI 0 := by rw [o3 105 (by decide)]; exact z0
    rw [q105]
    refine zb_t (by decide) ?_
    unfold pb_Mo_writeAll_52
    intro v1 f1
    refine zb_t f1 ?_
    have ev : v4 = nI 0 := by rw [e4, o3 106 (by decide)]; exact s0.2.2.1
    rw [f1, ev]
    obtain ⟨X, Y, x1, y1, l1, m1⟩ := wrN_ext (bi := bi) (fe := fe) 13 x ([], []) T L
    have ed : dstep (wr13 ru bi fe ye no s) most dv x = ((wrN ru bi fe ye no s 13 x ([], [])).1, [], (wrN ru bi fe ye no s 13 x ([], [])).2, [] ++ [0], [0], [] ++ [0]) := by
      rw [hdv]
      unfold dstep
      rw [if_pos (show ((wr13 ru bi fe ye no s) x (dv0.1, dv0.2.2.1)).2.length ≤ most from (show (wrN ru bi fe ye no s 13 x ([], [])).2.length ≤ most by rw [y1]; simp; omega))]
      rfl
    rw [ed] at hk
    refine s_102 (B := []) (F := []) (ts := []) (st := [0]) (ho := []) (b := b) hV hFb hX0 hm h16 r3 (by show 0 + _ ≤ 600; omega) (by show 0 + _ ≤ 120; omega) (fun p v hp => absurd (getLt hp) (Nat.not_lt_zero _)) ?_ (fun k z hz => absurd (getLt hz) (Nat.not_lt_zero _)) q105 (Nat.zero_le _) (fun j v hv => absurd (getLt hv) (Nat.not_lt_zero _)) (fun j v hv => ?_) (fun j v hv => absurd (getLt hv) (Nat.not_lt_zero _)) hm0.symm hk
    · rw [e14, if_pos rfl]; exact s0.1
    · have := getLt hv
      have : j < 1 := this
      have hj : j = 0 := by omega
      subst hj
      have : 0 = v := Option.some.inj hv
      rw [e14, if_pos hm0.symm, ← this]; exact s0.1
  · obtain ⟨B, F, E, ts, st, ho⟩ := dv
    obtain ⟨hS, hFe, h105, hts, hst, hho⟩ := hD hne
    have hS : SM F.length g (B, E) := hS
    have hFe : ∀ (k : Nat) (x : KB), F[k]? = some x → g 19 k = x.1 ∧ g 20 k = x.2 := hFe
    have h105 : g 105 0 = nI ts.length := h105
    have hts : ∀ j v : Nat, ts[j]? = some v → g 18 j = nI v := hts
    have hst : ∀ j v : Nat, st[j]? = some v → g 14 j = nI v := hst
    have hho : ∀ j v : Nat, ho[j]? = some v → g 15 j = nI v := hho
    have i1 : B.length = sumL s.1 l := hI.1
    have i2 : F.length + E.length ≤ sumL (eN ru ye no s 13) l := hI.2.1
    have i3 : 1 ≤ ts.length := hI.2.2.1
    have i5 : ts.length ≤ l.length := hI.2.2.2.2.1 hne
    have i6 : ts[ts.length - 1]? = some F.length := hI.2.2.2.2.2.1
    have i7 : st.length = l.length := hI.2.2.2.2.2.2.1
    have i8 : ho.length = l.length := hI.2.2.2.2.2.2.2.1
    obtain ⟨c1, hc⟩ : ∃ c1, ts.length = c1 + 1 := ⟨ts.length - 1, by omega⟩
    have q105 : g3 105 0 = nI (c1 + 1) := by rw [o3 105 (by decide), ← hc]; exact h105
    have q18 : g 18 c1 = nI F.length := hts c1 _ (by rw [hc] at i6; exact i6)
    rw [q105]
    refine zb_f (nI_nle (by omega) (by omega)) ?_
    unfold pb_Mo_writeAll_52
    intro v1 f1
    refine zb_f (by rw [f1]; decide) ?_
    have ev : v4 = nI (F.length + E.length) := by rw [e4, o3 106 (by decide)]; exact hS.2.2.1
    rw [q105, nI_pred, nI_clamp (by omega : c1 < 2 ^ 31), o3 18 (by decide), q18, ev]
    refine ⟨vp_in_nI (by omega) (by decide), ?_⟩
    have S3 : SM F.length g3 (B, E) := SM_of (o3 104 (by decide)) (o3 17 (by decide)) (o3 106 (by decide)) (o3 19 (by decide)) (o3 20 (by decide)) hS
    have hX := hX0
    obtain ⟨p1, p2, p3⟩ := FrM_fo hFb hX h16 r3
    obtain ⟨X, Y, x1, y1, l1, m1⟩ := wrN_ext (bi := bi) (fe := fe) 13 x (B, E) T L
    have x1 : (wrN ru bi fe ye no s 13 x (B, E)).1 = B ++ X := x1
    have y1 : (wrN ru bi fe ye no s 13 x (B, E)).2 = E ++ Y := y1
    refine s_Mwrite (d := 12) (bi := bi) (fe := fe) (s := s) (w := (B, E)) hV p1 (by omega) p3 T N L l60 p2 S3 (by show B.length + _ ≤ 600; omega) (by show F.length + E.length + eN ru ye no s 13 x ≤ 120; omega) (fun g5 S5 F5 => ?_)
    have o5 : ∀ j, j ≠ 9 → j ≠ 17 → j ≠ 19 → j ≠ 20 → j ≠ 104 → j ≠ 106 → g5 j = g3 j := F5.1
    have r5 : FrM b g5 := fun j j1 j2 j3 j4 j5 j6 j7 j8 j9 j10 => by rw [o5 j j1 j4 j6 j7 j8 j10]; exact r3 j j1 j2 j3 j4 j5 j6 j7 j8 j9 j10
    have hE5 : F.length + (wrN ru bi fe ye no s 13 x (B, E)).2.length ≤ 120 := by rw [y1, List.length_append]; omega
    have w105 : g5 105 0 = nI (c1 + 1) := by rw [o5 105 (by decide) (by decide) (by decide) (by decide) (by decide) (by decide)]; exact q105
    have w18 : ∀ j v : Nat, ts[j]? = some v → g5 18 j = nI v := fun j v hv => by
      rw [o5 18 (by decide) (by decide) (by decide) (by decide) (by decide) (by decide), o3 18 (by decide)]; exact hts j v hv
    have w14 : ∀ j v : Nat, (st ++ [B.length])[j]? = some v → g5 14 j = nI v := fun j v hv => by
      rw [o5 14 (by decide) (by decide) (by decide) (by decide) (by decide) (by decide), e14, hS.1]
      rcases get_put hv with ⟨q1, q2⟩ | ⟨q1, q2⟩
      · rw [if_pos (by omega), q2]
      · rw [if_neg (by omega)]; exact hst j v q2
    have w15 : ∀ j v : Nat, ho[j]? = some v → g5 15 j = nI v := fun j v hv => by
      rw [o5 15 (by decide) (by decide) (by decide) (by decide) (by decide) (by decide), o3 15 (by decide)]; exact hho j v hv
    have wF : ∀ (k : Nat) (x : KB), F[k]? = some x → g5 19 k = x.1 ∧ g5 20 k = x.2 := fun k z hz => by
      have := F5.2 k (getLt hz)
      rw [this.1, this.2, o3 19 (by decide), o3 20 (by decide)]; exact hFe k z hz
    have g18' : g5 18 c1 = nI F.length := w18 c1 _ (by rw [hc] at i6; exact i6)
    have s106 : g5 106 0 = nI (F.length + (wrN ru bi fe ye no s 13 x (B, E)).2.length) := S5.2.2.1
    show vp_in ((g5 105 0) - (1 : Int32)) 62 ∧ _
    rw [w105, nI_pred, nI_clamp (by omega : c1 < 2 ^ 31), g18', s106, pk_sub (by omega), show F.length + (wrN ru bi fe ye no s 13 x (B, E)).2.length - F.length = (wrN ru bi fe ye no s 13 x (B, E)).2.length by omega]
    refine ⟨vp_in_nI (by omega) (by decide), ?_⟩
    unfold dstep at hk
    by_cases hf : (wrN ru bi fe ye no s 13 x (B, E)).2.length ≤ most
    · rw [if_pos (show ((wr13 ru bi fe ye no s) x (((B, F, E, ts, st, ho) : Dv).1, ((B, F, E, ts, st, ho) : Dv).2.2.1)).2.length ≤ most from hf)] at hk
      refine pk_lt most (wrN ru bi fe ye no s 13 x (B, E)).2.length (fun q => absurd q (by omega)) (fun _ => ?_) rfl rfl (by omega) (by omega)
      unfold pb_Mo_writeAll_100
      intro v2 f2
      unfold pb_Mo_writeAll_102
      refine zr_f (by rw [f2]; decide) ?_
      refine s_148 (B := (wrN ru bi fe ye no s 13 x (B, E)).1) (F := F) (E := (wrN ru bi fe ye no s 13 x (B, E)).2) (ts := ts) (st := st ++ [B.length]) (ho := ho) S5 wF (by rw [hc]; exact w105) i3 w18 w14 w15 hm (by omega) (fun g6 D6 O6 => hk g6 D6 (fun j j1 j2 j3 j4 j5 j6 j7 j8 j9 j10 => by rw [O6 j j3]; exact r5 j j1 j2 j3 j4 j5 j6 j7 j8 j9 j10))
    · rw [if_neg (show ¬ ((wr13 ru bi fe ye no s) x (((B, F, E, ts, st, ho) : Dv).1, ((B, F, E, ts, st, ho) : Dv).2.2.1)).2.length ≤ most from hf)] at hk
      refine pk_lt most (wrN ru bi fe ye no s 13 x (B, E)).2.length (fun _ => ?_) (fun q => absurd q (by omega)) rfl rfl (by omega) (by omega)
      unfold pb_Mo_writeAll_100
      intro v2 f2
      rw [f2, show F.length + E.length = (F ++ E).length by rw [List.length_append]]
      have ed : dnew (wr13 ru bi fe ye no s) (B, F, E, ts, st, ho) x = ((wrN ru bi fe ye no s 13 x (B, [])).1, F ++ E, (wrN ru bi fe ye no s 13 x (B, [])).2, ts ++ [(F ++ E).length], st ++ [B.length], ho ++ [ts.length]) := by
        rw [List.length_append]; rfl
      rw [ed] at hk
      refine s_102 (B := B) (F := F ++ E) (ts := ts) (st := st ++ [B.length]) (ho := ho) (b := b) hV hFb hX hm h16 r5 (by omega) (by rw [List.length_append]; omega) (fun p v hp => S5.2.1 p v (by rw [x1]; exact getA hp)) (w14 m _ (by rw [← hl, ← i7]; exact List.getElem?_concat_length)) (fun k z hz => ?_) (by rw [hc]; exact w105) (by omega) w18 w14 w15 (by omega) hk
      by_cases hlt : k < F.length
      · rw [List.getElem?_append_left hlt] at hz; exact wF k z hz
      · rw [List.getElem?_append_right (by omega)] at hz
        have := S5.2.2.2 (k - F.length) z (by rw [y1]; exact getA hz)
        rw [show F.length + (k - F.length) = k by omega] at this
        exact this
theorem s_MwriteAll {O : List Nat} {g : St} {K : St → Prop} (hV : FoV n ru fe ye no) (hFo : FoM n ru bi fe ye no g) (hM : O.length ≤ 60) (hM1 : ¬ O = []) (h103 : g 103 0 = nI O.length) (h16 : ∀ m x : Nat, O[m]? = some x → g 16 m = nI x) (hTop : ∀ x ∈ O, TopM n ru ye no s g x) (hmo : most ≤ 60) (hem : ∀ x ∈ O, eN ru ye no s 13 x ≤ most) (hB : sumL s.1 O ≤ 600) (hE : sumL (eN ru ye no s 13) O ≤ 120)
    (hk : ∀ g', DM (drv (wr13 ru bi fe ye no s) most O dv0) g' → g' 14 O.length = nI (drv (wr13 ru bi fe ye no s) most O dv0).1.length → g' 18 (drv (wr13 ru bi fe ye no s) most O dv0).2.2.2.1.length = g' 106 0 → FrM g g' → K g') : pc_Mo_writeAll (nI most) g K := by
  unfold pc_Mo_writeAll pb_Mo_writeAll_0
  intro g1 e1 g2 e2 b eb v4 e4
  have ob : ∀ j, j ≠ 104 → j ≠ 105 → j ≠ 106 → b j = g j := fun j j1 j2 j3 => by rw [eb, sc_n _ _ _ _ j2, e2, sc_n _ _ _ _ j3, e1, sc_n _ _ _ _ j1]
  have fb : FrM g b := fun j _ _ _ _ _ _ _ j8 j9 j10 => ob j j8 j9 j10
  have hFb : FoM n ru bi fe ye no b := FoM_but (ob 100 (by decide) (by decide) (by decide)) (ob 1 (by decide) (by decide) (by decide)) (ob 2 (by decide) (by decide) (by decide)) (ob 3 (by decide) (by decide) (by decide)) (ob 4 (by decide) (by decide) (by decide)) (ob 5 (by decide) (by decide) (by decide)) hFo
  have hTb : ∀ x ∈ O, TopM n ru ye no s b x := fun x hx => by
    have := hTop x hx
    unfold TopM at this ⊢
    rw [ob 12 (by decide) (by decide) (by decide), ob 13 (by decide) (by decide) (by decide)]
    exact this
  have s0 : SM 0 b ([], []) ∧ b 105 0 = nI 0 := by
    refine ⟨⟨?_, fun p v hp => absurd (getLt hp) (Nat.not_lt_zero _), ?_, fun k z hz => absurd (getLt hz) (Nat.not_lt_zero _)⟩, ?_⟩
    · rw [eb, sc_n _ _ _ _ (by decide), e2, sc_n _ _ _ _ (by decide), e1, sc_s]; rfl
    · rw [eb, sc_n _ _ _ _ (by decide), e2, sc_s]; rfl
    · rw [eb, sc_s]; rfl
  rw [e4]
  unfold pl_Mo_writeAll_17
  intro P hP
  have main : ∀ (rest done : List Nat) (dv : Dv) (g' : St), done ++ rest = O → DI (wr13 ru bi fe ye no s) s.1 (eN ru ye no s 13) most done dv → (done = [] → SM 0 g' ([], []) ∧ g' 105 0 = nI 0) → (¬ done = [] → DM dv g') → FrM b g' → drv (wr13 ru bi fe ye no s) most rest dv = drv (wr13 ru bi fe ye no s) most O dv0 → P (nI most) (nI done.length) g' := by
    intro rest
    induction rest with
    | nil =>
      intro done dv g' hO hI hD0 hD hr hd
      rw [List.append_nil] at hO
      rw [hO] at hI hD
      have hD := hD hM1
      have hd : dv = drv (wr13 ru bi fe ye no s) most O dv0 := hd
      rw [hd] at hI hD
      apply hP
      unfold pb_Mo_writeAll_17
      have g103 : g' 103 0 = nI O.length := by rw [hr 103 (by decide) (by decide) (by decide) (by decide) (by decide) (by decide) (by decide) (by decide) (by decide) (by decide), ob 103 (by decide) (by decide) (by decide)]; exact h103
      have cO : (nI O.length).toNatClampNeg = O.length := nI_clamp (by omega)
      generalize drv (wr13 ru bi fe ye no s) most O dv0 = dw at *
      have i5 := hI.2.2.2.2.1 hM1
      have i7 := hI.2.2.2.2.2.2.1
      have ct : (nI dw.2.2.2.1.length).toNatClampNeg = dw.2.2.2.1.length := nI_clamp (by omega)
      obtain ⟨d1, d2, d3, d4, d5, d6⟩ := hD
      rw [g103, hO, d1.1]
      refine zb_t (nI_le (by omega) (by omega)) ⟨vp_in_nI (by omega) (by decide), fun h1 f1 => ?_⟩
      have m1 : h1 105 0 = nI dw.2.2.2.1.length := by rw [f1, ar_n _ _ _ _ _ (by decide)]; exact d3
      rw [m1]
      refine ⟨vp_in_nI (by omega) (by decide), fun h2 f2 => ?_⟩
      have o2 : ∀ j, j ≠ 14 → j ≠ 18 → h2 j = g' j := fun j j1 j2 => by rw [f2, ar_n _ _ _ _ _ j2, f1, ar_n _ _ _ _ _ j1]
      have e14 : ∀ p, h2 14 p = if p = O.length then nI dw.1.length else g' 14 p := fun p => by rw [f2, ar_n _ _ _ _ _ (by decide), f1, ar_at _ cO]
      have e18 : ∀ p, h2 18 p = if p = dw.2.2.2.1.length then g' 106 0 else g' 18 p := fun p => by rw [f2, ar_at _ ct, f1, ar_n _ _ _ _ _ (by decide), ar_n _ _ _ _ _ (by decide)]
      refine hk h2 ⟨SM_of (o2 104 (by decide) (by decide)) (o2 17 (by decide) (by decide)) (o2 106 (by decide) (by decide)) (o2 19 (by decide) (by decide)) (o2 20 (by decide) (by decide)) d1, fun k z hz => by rw [o2 19 (by decide) (by decide), o2 20 (by decide) (by decide)]; exact d2 k z hz, by rw [o2 105 (by decide) (by decide)]; exact d3, fun j v hv => ?_, fun j v hv => ?_, fun j v hv => by rw [o2 15 (by decide) (by decide)]; exact d6 j v hv⟩ ?_ ?_ (fun j j1 j2 j3 j4 j5 j6 j7 j8 j9 j10 => by rw [o2 j j2 j5, hr j j1 j2 j3 j4 j5 j6 j7 j8 j9 j10]; exact ob j j8 j9 j10)
      · have := getLt hv
        rw [e18, if_neg (by omega)]; exact d4 j v hv
      · have := getLt hv
        rw [e14, if_neg (by omega)]; exact d5 j v hv
      · rw [e14, if_pos rfl]
      · rw [e18, if_pos rfl, o2 106 (by decide) (by decide)]
    | cons x rest ih =>
      intro done dv g' hO hI hD0 hD hr hd
      have lO : O.length = done.length + (rest.length + 1) := by rw [← hO, List.length_append]; rfl
      have xO : x ∈ O := by rw [← hO]; simp
      have xm : O[done.length]? = some x := by rw [← hO, List.getElem?_append_right (Nat.le_refl _)]; simp
      have sB : sumL s.1 done + s.1 x ≤ 600 := by
        rw [← hO, sumL_app] at hB
        have : sumL s.1 (x :: rest) = s.1 x + sumL s.1 rest := rfl
        omega
      have sE : sumL (eN ru ye no s 13) done + eN ru ye no s 13 x ≤ 120 := by
        rw [← hO, sumL_app] at hE
        have : sumL (eN ru ye no s 13) (x :: rest) = eN ru ye no s 13 x + sumL (eN ru ye no s 13) rest := rfl
        omega
      have hTx := hTb x xO
      apply hP
      unfold pb_Mo_writeAll_17
      have g103 : g' 103 0 = nI O.length := by rw [hr 103 (by decide) (by decide) (by decide) (by decide) (by decide) (by decide) (by decide) (by decide) (by decide) (by decide), ob 103 (by decide) (by decide) (by decide)]; exact h103
      rw [g103]
      refine zb_f (nI_ge (by omega) (by omega)) ⟨vp_in_nI (by omega) (by decide), ?_⟩
      refine s_Mwriting (b := b) (l := done) (m := done.length) hV hFb hTx (by omega) rfl (by rw [ob 16 (by decide) (by decide) (by decide)]; exact h16 _ _ xm) hmo (hem x xO) hI hD0 hD hr sB sE (fun g6 D6 r6 => ?_)
      have := ih (done ++ [x]) (dstep (wr13 ru bi fe ye no s) most dv x) g6 (by rw [← hO]; simp) (DI_step (fun w => wrN_ext (bi := bi) (fe := fe) 13 x w hTx.1 hTx.2.2.1) (hem x xO) hI) (fun q => absurd q (by simp)) (fun _ => D6) r6 hd
      rw [List.length_append] at this
      exact this
  exact main O [] dv0 b rfl DI_0 (fun _ => s0) (fun q => absurd rfl q) (fun _ _ _ _ _ _ _ _ _ _ _ => rfl) rfl
end DRM
