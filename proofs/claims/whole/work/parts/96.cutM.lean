/-! compile, second stage: the reference -/
section CUTM
variable {n lim : Nat} {ru bi : Nat → Int32} {fe ye no : Nat → Nat}
theorem s_Mpart {g : St} {K : Int32 → St → Prop} {s : Cs} {x : Nat} (hx : x < 60) (h : Arr2 g s x) (hk : K (nI (prt s x)) g) : pc_Mo_part (nI x) g K := by
  unfold pc_Mo_part pb_Mo_part_0
  have ix : vp_in (nI x) 60 := vp_in_nI hx (by decide)
  obtain ⟨h1, h2, h3, h4⟩ := h
  rw [nI_clamp (by omega : x < 2 ^ 31), h1, h2]
  refine ⟨ix, ?_⟩
  unfold prt at hk
  by_cases hc : s.2.1 x = 0
  · rw [if_pos hc] at hk
    exact zb_t ((cI0_neg (by omega)).mpr hc) ⟨ix, hk⟩
  · rw [if_neg hc] at hk
    exact zb_f (fun q => hc ((cI0_neg (by omega)).mp q)) hk
theorem s_Mfar {g : St} {K : Int32 → St → Prop} {s : Cs} {i : Nat} (hV : FoV n ru fe ye no) (hF : FoM n ru bi fe ye no g) (hi : i < n) (hl : ¬ ru i = -1) (hy : Arr2 g s (ye i)) (hk : K (nI (tl (prt s (ye i)) + prt s (ye i))) g) : pc_Mo_far (nI i) g K := by
  have hn := hV.1
  obtain ⟨-, -, y60, o60⟩ := hV.2 i hi hl
  obtain ⟨f2, f4, f5⟩ := (hF.2 i hi).2.2 hl
  unfold pc_Mo_far pb_Mo_far_0
  rw [nI_clamp (by omega : i < 2 ^ 31), f4]
  refine ⟨vp_in_nI (by omega) (by decide), s_Mpart y60 hy ?_⟩
  have hp := prt_le hy
  intro v3 e3
  rw [show ((2 : Int32) + nI (prt s (ye i))) = nI (2 + prt s (ye i)) from nI_add 2 _] at e3
  rw [e3]
  unfold tl at hk
  refine pk_lt 63 (2 + prt s (ye i)) (fun h => ?_) (fun h => ?_) rfl rfl (by omega) (by omega)
  · rw [if_neg (by omega)] at hk
    rw [nI_1, show 2 + prt s (ye i) + 1 = 3 + prt s (ye i) by omega]
    exact hk
  · rw [if_pos (by omega)] at hk; exact hk
theorem s_Mbytes {g : St} {K : Int32 → St → Prop} {s : Cs} {i : Nat} (hV : FoV n ru fe ye no) (hF : FoM n ru bi fe ye no g) (hi : i < n) (hl : ¬ ru i = -1) (hy : Arr2 g s (ye i)) (ho : Arr2 g s (no i)) (hk : K (nI (sln ye no s i)) g) : pc_Mo_bytesOf (nI i) g K := by
  have hn := hV.1
  obtain ⟨-, -, y60, o60⟩ := hV.2 i hi hl
  obtain ⟨f2, f4, f5⟩ := (hF.2 i hi).2.2 hl
  unfold pc_Mo_bytesOf pb_Mo_bytesOf_0
  refine s_Mfar hV hF hi hl hy ⟨vp_in_nI (by omega) (by decide), ?_⟩
  rw [nI_clamp (by omega : i < 2 ^ 31), f5]
  refine s_Mpart o60 ho ?_
  rw [show ((4 : Int32) + nI (tl (prt s (ye i)) + prt s (ye i))) = nI (4 + (tl (prt s (ye i)) + prt s (ye i))) from nI_add 4 _, nI_add, show 4 + (tl (prt s (ye i)) + prt s (ye i)) + prt s (no i) = sln ye no s i by unfold sln; omega]
  exact hk
def newS (g : St) (x M : Nat) : St := sc (ar g 16 (nI M) (nI x)) 103 (nI (M + 1))
theorem s_newMethod {g : St} {K : St → Prop} {x M : Nat} (hM : g 103 0 = nI M) (hM60 : M < 62) (hk : K (newS g x M)) : pc_Mo_newMethod (nI x) g K := by
  unfold pc_Mo_newMethod pb_Mo_newMethod_0
  rw [hM]
  refine ⟨vp_in_nI hM60 (by decide), fun g1 e1 g2 e2 => ?_⟩
  have m1 : g1 103 0 = nI M := by rw [e1, ar_n _ _ _ _ _ (by decide)]; exact hM
  rw [m1, nI_1] at e2
  rw [e2, e1]
  exact hk
def cutSM (g : St) (x M : Nat) : St := newS (ar g 13 (nI x) (nI M)) x M
theorem s_McutOut {g : St} {K : St → Prop} {x M : Nat} (hx : x < 60) (hM : g 103 0 = nI M) (hM60 : M < 60) (hk : K (cutSM g x M)) : pc_Mo_cutOut (nI x) g K := by
  unfold pc_Mo_cutOut pb_Mo_cutOut_0
  rw [hM]
  refine ⟨vp_in_nI hx (by decide), fun g1 e1 => ?_⟩
  refine s_newMethod (M := M) (by rw [e1, ar_n _ _ _ _ _ (by decide)]; exact hM) (by omega) ?_
  rw [e1]
  exact hk
theorem cutSM_M {g : St} {x M : Nat} : cutSM g x M 103 0 = nI (M + 1) := by unfold cutSM newS; rw [sc_s]
theorem cutSM_13 {g : St} {x M y : Nat} (hx : x < 60) : cutSM g x M 13 y = if y = x then nI M else g 13 y := by
  unfold cutSM newS; rw [sc_n _ _ _ _ (by decide), ar_n _ _ _ _ _ (by decide), ar_at x (nI_clamp (by omega))]
theorem cutSM_16 {g : St} {x M k : Nat} (hM : M < 60) : cutSM g x M 16 k = if k = M then nI x else g 16 k := by
  unfold cutSM newS; rw [sc_n _ _ _ _ (by decide), ar_at M (nI_clamp (by omega)), ar_n _ _ _ _ _ (by decide)]
theorem cutSM_o {g : St} {x M j : Nat} (h13 : j ≠ 13) (h16 : j ≠ 16) (h103 : j ≠ 103) : cutSM g x M j = g j := by
  unfold cutSM newS; rw [sc_n _ _ _ _ h103, ar_n _ _ _ _ _ h16, ar_n _ _ _ _ _ h13]
def CtPM (a b : Nat) (g : St) (s : Cs) (g' : St) (s' : Cs) : Prop :=
  g' 103 0 = nI s'.2.2.length ∧ Arr2 g' s' a ∧ Arr2 g' s' b ∧ (∀ j, j ≠ 13 → j ≠ 16 → j ≠ 103 → g' j = g j) ∧ (∀ x, x ≠ a → x ≠ b → g' 13 x = g 13 x) ∧ (∀ k, k < s.2.2.length → g' 16 k = g 16 k) ∧ (∀ k x, s.2.2.length ≤ k → s'.2.2[k]? = some x → g' 16 k = nI x) ∧ s.2.2.length ≤ s'.2.2.length
theorem CtPM_cto {a b x : Nat} {g g' : St} {s s' : Cs} (h : CtPM a b g s g' s') (hx : x = a ∨ x = b) (hx60 : x < 60) (hM : s'.2.2.length < 60) : CtPM a b g s (cutSM g' x s'.2.2.length) (cto s' x) := by
  obtain ⟨h1, h2, h3, h4, h5, h6, h7, h8⟩ := h
  have len : (cto s' x).2.2.length = s'.2.2.length + 1 := by show (s'.2.2 ++ [x]).length = _; simp
  have arr : ∀ y, Arr2 g' s' y → Arr2 (cutSM g' x s'.2.2.length) (cto s' x) y := by
    intro y hy
    obtain ⟨q1, q2, q3, q4⟩ := hy
    refine ⟨by rw [cutSM_o (by decide) (by decide) (by decide)]; exact q1, ?_, q3, ?_⟩
    · rw [cutSM_13 hx60]
      by_cases e : y = x
      · rw [if_pos e, e, cto_C, cI0_s]
      · rw [if_neg e, cto_Cn e]; exact q2
    · by_cases e : y = x
      · rw [e, cto_C]; omega
      · rw [cto_Cn e]; exact q4
  refine ⟨by rw [cutSM_M, len], arr a h2, arr b h3, fun j j1 j2 j3 => by rw [cutSM_o j1 j2 j3]; exact h4 j j1 j2 j3, fun y y1 y2 => ?_, fun k hk => ?_, fun k y hk hy => ?_, by rw [len]; omega⟩
  · rw [cutSM_13 hx60, if_neg (fun e => by rcases hx with q | q <;> rw [q] at e; exact y1 e; exact y2 e)]
    exact h5 y y1 y2
  · rw [cutSM_16 hM, if_neg (by omega)]; exact h6 k hk
  · rw [cutSM_16 hM]
    have hy : (s'.2.2 ++ [x])[k]? = some y := hy
    by_cases e : k = s'.2.2.length
    · rw [if_pos e]
      rw [e, List.getElem?_concat_length] at hy
      rw [Option.some.inj hy]
    · rw [if_neg e]
      have hk2 : k < (s'.2.2 ++ [x]).length := (List.getElem?_eq_some_iff.mp hy).1
      simp at hk2
      rw [List.getElem?_append_left (by omega)] at hy
      exact h7 k y hk hy

theorem CtPM_FoM {a b : Nat} {g g' : St} {s s' : Cs} (h : CtPM a b g s g' s') (hF : FoM n ru bi fe ye no g) : FoM n ru bi fe ye no g' := by
  obtain ⟨-, -, -, o, -⟩ := h
  exact FoM_but (o 100 (by decide) (by decide) (by decide)) (o 1 (by decide) (by decide) (by decide)) (o 2 (by decide) (by decide) (by decide)) (o 3 (by decide) (by decide) (by decide)) (o 4 (by decide) (by decide) (by decide)) (o 5 (by decide) (by decide) (by decide)) hF
/-- one node measured -/
theorem s_measure {g : St} {K : St → Prop} {s : Cs} {i : Nat} (hV : FoV n ru fe ye no) (hF : FoM n ru bi fe ye no g) (hi : i < n) (hlim : lim ≤ 400) (hne : ¬ ru i = -1 → ye i ≠ i ∧ no i ≠ i) (hy : ¬ ru i = -1 → Arr2 g s (ye i)) (ho : ¬ ru i = -1 → Arr2 g s (no i)) (hM : g 103 0 = nI s.2.2.length) (hM60 : ¬ ru i = -1 → s.2.2.length + 2 ≤ 60)
    (h0 : ru i = -1 → K (ar (ar g 13 (nI i) (-1)) 12 (nI i) 3)) (hk : ¬ ru i = -1 → ∀ g', CtPM (ye i) (no i) (ar g 13 (nI i) (-1)) s g' (ctc ye no lim i s) → K (ar g' 12 (nI i) (nI (sln ye no (ctc ye no lim i s) i)))) : pc_Mo_measure (nI i) (nI lim) g K := by
  have hn := hV.1
  have ii : vp_in (nI i) 60 := vp_in_nI (by omega) (by decide)
  have ci : (nI i).toNatClampNeg = i := nI_clamp (by omega)
  unfold pc_Mo_measure pb_Mo_measure_0
  refine ⟨ii, fun g1 e1 => ⟨ii, ?_⟩⟩
  rw [← e1] at h0 hk
  have o1 : ∀ j, j ≠ 13 → g1 j = g j := fun j hj => by rw [e1, ar_n _ _ _ _ _ hj]
  have hF1 : FoM n ru bi fe ye no g1 := FoM_but (o1 100 (by decide)) (o1 1 (by decide)) (o1 2 (by decide)) (o1 3 (by decide)) (o1 4 (by decide)) (o1 5 (by decide)) hF
  obtain ⟨f1, f3, fs⟩ := hF1.2 i hi
  rw [ci, f1]
  by_cases hl : ru i = -1
  · refine zr_t hl ⟨ii, fun g8 e8 => ?_⟩
    rw [e8]
    exact h0 hl
  refine zr_f hl ?_
  obtain ⟨-, -, y60, o60⟩ := hV.2 i hi hl
  obtain ⟨f2, f4, f5⟩ := fs hl
  have hy := hy hl
  have ho := ho hl
  have hk := hk hl
  have hM60 := hM60 hl
  have k13 : ∀ x, x ≠ i → g1 13 x = g 13 x := fun x hx => by rw [e1, ar_o i ci hx]
  have hy : Arr2 g1 s (ye i) := ⟨by rw [o1 12 (by decide)]; exact hy.1, by rw [k13 _ (hne hl).1]; exact hy.2.1, hy.2.2.1, hy.2.2.2⟩
  have ho : Arr2 g1 s (no i) := ⟨by rw [o1 12 (by decide)]; exact ho.1, by rw [k13 _ (hne hl).2]; exact ho.2.1, ho.2.2.1, ho.2.2.2⟩
  have hM : g1 103 0 = nI s.2.2.length := by rw [o1 103 (by decide)]; exact hM
  have P0 : CtPM (ye i) (no i) g1 s g1 s := ⟨hM, hy, ho, fun _ _ _ _ => rfl, fun _ _ _ => rfl, fun _ _ => rfl, fun k x h1 h2 => by have := (List.getElem?_eq_some_iff.mp h2).1; omega, Nat.le_refl _⟩
  have ln : ∀ {g' : St} {s' : Cs}, CtPM (ye i) (no i) g1 s g' s' → sln ye no s' i ≤ 1000 := by
    intro g' s' h
    have a1 := prt_le h.2.1
    have a2 := prt_le h.2.2.1
    have a3 := tl_b (prt s' (ye i))
    unfold sln
    omega
  have last : ∀ g', CtPM (ye i) (no i) g1 s g' (ctc ye no lim i s) → pb_Mo_measure_118 K (nI i) (nI lim) g' := by
    intro g' P
    unfold pb_Mo_measure_118
    refine s_Mbytes hV (CtPM_FoM P hF1) hi hl P.2.1 P.2.2.1 ⟨ii, fun g3 e3 => ?_⟩
    rw [e3]
    exact hk g' P
  refine s_Mbytes hV hF1 hi hl hy ho ?_
  refine pk_le (sln ye no s i) lim (fun hle => ?_) (fun hgt => ⟨ii, ?_⟩) rfl rfl (by have := ln P0; omega) (by omega)
  · have ec : ctc ye no lim i s = s := by unfold ctc; rw [if_pos hle]
    exact last g1 (by rw [ec]; exact P0)
  rw [f4]
  refine s_Mpart y60 hy ⟨ii, ?_⟩
  rw [f5]
  refine s_Mpart o60 ho ?_
  have second : ∀ (x1 x2 : Nat) (first : Int32), (x1 = ye i ∧ x2 = no i ∧ ¬ first = 0) ∨ (x1 = no i ∧ x2 = ye i ∧ first = 0) → x1 < 60 → x2 < 60 → c1st ye no s i = x1 → c2nd ye no s i = x2 → pb_Mo_measure_83 K (nI i) (nI lim) first (nI x1) g1 := by
    intro x1 x2 first hc h1 h2 q1 q2
    have hin1 : x1 = ye i ∨ x1 = no i := by
      rcases hc with ⟨a, -, -⟩ | ⟨a, -, -⟩
      · exact Or.inl a
      · exact Or.inr a
    have hin2 : x2 = ye i ∨ x2 = no i := by
      rcases hc with ⟨-, a, -⟩ | ⟨-, a, -⟩
      · exact Or.inr a
      · exact Or.inl a
    have P1 := CtPM_cto P0 hin1 h1 (by omega)
    unfold pb_Mo_measure_83
    refine s_McutOut h1 hM (by omega) ?_
    have hF2 := CtPM_FoM P1 hF1
    obtain ⟨-, f4', f5'⟩ := (hF2.2 i hi).2.2 hl
    refine s_Mbytes hV hF2 hi hl P1.2.1 P1.2.2.1 ?_
    have ec : ctc ye no lim i s = if sln ye no (cto s x1) i ≤ lim then cto s x1 else cto (cto s x1) x2 := by
      unfold ctc; rw [if_neg (by omega), q1, q2]
    refine pk_le (sln ye no (cto s x1) i) lim (fun hle => ?_) (fun hgt2 => ?_) rfl rfl (by have := ln P1; omega) (by omega)
    · exact last _ (by rw [ec, if_pos hle]; exact P1)
    · have len : (cto s x1).2.2.length = s.2.2.length + 1 := by show (s.2.2 ++ [x1]).length = _; simp
      have P2 := CtPM_cto P1 hin2 h2 (by omega)
      have fin : pb_Mo_measure_115 K (nI i) (nI lim) first (nI x2) (cutSM g1 x1 s.2.2.length) := by
        unfold pb_Mo_measure_115
        exact s_McutOut h2 P1.1 (by omega) (last _ (by rw [ec, if_neg (by omega)]; exact P2))
      rw [ci, f4', f5']
      rcases hc with ⟨-, a, b⟩ | ⟨-, a, b⟩
      · exact zb_f b ⟨ii, by rw [← a]; exact fin⟩
      · exact zb_t b ⟨ii, by rw [← a]; exact fin⟩
  unfold pb_Mo_measure_62
  rw [ci, f4, f5]
  refine pk_lt (prt s (ye i)) (prt s (no i)) (fun hf => ?_) (fun hf => ?_) rfl rfl (by have := prt_le hy; omega) (by have := prt_le ho; omega)
  · intro v ev
    refine zb_t ev ⟨ii, ?_⟩
    exact second (no i) (ye i) v (Or.inr ⟨rfl, rfl, ev⟩) o60 y60 (by unfold c1st; rw [if_pos hf]) (by unfold c2nd; rw [if_pos hf])
  · intro v ev
    have hne : ¬ v = 0 := by rw [ev]; decide
    refine zb_f hne ⟨ii, ?_⟩
    exact second (ye i) (no i) v (Or.inl ⟨rfl, rfl, hne⟩) y60 o60 (by unfold c1st; rw [if_neg (by omega)]) (by unfold c2nd; rw [if_neg (by omega)])
end CUTM
