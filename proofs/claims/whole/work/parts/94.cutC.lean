/-! compile, second stage: the class's cutter does what the function says -/
def cI0 (k : Nat) : Int32 := if k = 0 then -1 else nI (k - 1)
theorem cI0_0 : cI0 0 = -1 := rfl
theorem cI0_s (k : Nat) : cI0 (k + 1) = nI k := by unfold cI0; rw [if_neg (by omega)]; rfl
theorem cI0_m {k : Nat} (h : k < 1000) : cI0 k = -1 ↔ k = 0 := by
  constructor
  · intro e
    cases k with
    | zero => rfl
    | succ k => rw [cI0_s] at e; exact absurd e (nI_m1 (by omega))
  · intro e; rw [e]; rfl
theorem cI0_neg {k : Nat} (h : k < 1000) : cI0 k < 0 ↔ k = 0 := by
  constructor
  · intro e
    cases k with
    | zero => rfl
    | succ k => rw [cI0_s] at e; exact absurd e (nI_pos (by omega))
  · intro e; rw [e]; decide
/-- length and cut number of a node, in cells 12 and 13 -/
def Arr2 (g : St) (s : Cs) (x : Nat) : Prop := g 12 x = nI (s.1 x) ∧ g 13 x = cI0 (s.2.1 x) ∧ s.1 x ≤ 400 ∧ s.2.1 x ≤ 60
theorem prt_le {g : St} {s : Cs} {x : Nat} (h : Arr2 g s x) : prt s x ≤ 400 := by
  unfold prt
  split
  · exact h.2.2.1
  · omega
theorem s_partLength {g : St} {K : Int32 → St → Prop} {s : Cs} {x : Nat} (hx : x < 60) (h : Arr2 g s x) (hk : K (nI (prt s x)) g) : pc_Cu_partLength (nI x) g K := by
  unfold pc_Cu_partLength pb_Cu_partLength_0
  have ix : vp_in (nI x) 60 := vp_in_nI hx (by decide)
  obtain ⟨h1, h2, h3, h4⟩ := h
  rw [nI_clamp (by omega : x < 2 ^ 31), h1, h2]
  refine ⟨ix, ?_⟩
  unfold prt at hk
  by_cases hc : s.2.1 x = 0
  · rw [if_pos hc] at hk
    exact zr_t ((cI0_m (by omega)).mpr hc) ⟨ix, hk⟩
  · rw [if_neg hc] at hk
    exact zr_f (fun q => hc ((cI0_m (by omega)).mp q)) hk
theorem s_testLength {g : St} {K : Int32 → St → Prop} {y : Nat} (hy : y ≤ 400) (hk : K (nI (tl y)) g) : pc_Cu_testLength (nI y) g K := by
  unfold pc_Cu_testLength pb_Cu_testLength_0
  rw [show ((2 : Int32) + nI y) = nI (2 + y) from nI_add 2 y]
  unfold tl at hk
  refine pk_lt 63 (2 + y) (fun h => ?_) (fun h => ?_) rfl rfl (by omega) (by omega)
  · rw [if_neg (by omega)] at hk; exact hk
  · rw [if_pos (by omega)] at hk; exact hk
section CUTC
variable {n lim : Nat} {ru bi : Nat → Int32} {fe ye no : Nat → Nat}
theorem s_splitLength {g : St} {K : Int32 → St → Prop} {s : Cs} {i : Nat} (hV : FoV n ru fe ye no) (hF : FoC n ru bi fe ye no g) (hi : i < n) (hl : ¬ ru i = -1) (hy : Arr2 g s (ye i)) (ho : Arr2 g s (no i)) (hk : K (nI (sln ye no s i)) g) : pc_Cu_splitLength (nI i) g K := by
  have hn := hV.1
  obtain ⟨-, -, y60, o60⟩ := hV.2 i hi hl
  obtain ⟨f4, f6, f7⟩ := (hF.2 i hi).2.2 hl
  unfold pc_Cu_splitLength pb_Cu_splitLength_0
  have ii : vp_in (nI i) 60 := vp_in_nI (by omega) (by decide)
  rw [nI_clamp (by omega : i < 2 ^ 31), f6]
  refine ⟨ii, s_partLength y60 hy ?_⟩
  intro v3 e3
  rw [e3]
  refine s_testLength (prt_le hy) ⟨ii, ?_⟩
  rw [f7]
  refine s_partLength o60 ho ?_
  rw [show ((4 : Int32) + nI (tl (prt s (ye i)))) = nI (4 + tl (prt s (ye i))) from nI_add 4 _, nI_add, nI_add]
  exact hk
/-- a node is cut out -/
def cutS (g : St) (x M : Nat) : St := sc (ar (ar g 13 (nI x) (nI M)) 14 (nI M) (nI x)) 102 (nI (M + 1))
theorem s_cutOut {g : St} {K : St → Prop} {x M : Nat} (hx : x < 60) (hM : g 102 0 = nI M) (hM60 : M < 60) (hk : K (cutS g x M)) : pc_Cu_cutOut (nI x) g K := by
  unfold pc_Cu_cutOut pb_Cu_cutOut_0
  rw [hM]
  refine zb_f (nI_ge (b := 60) hM60 (by decide)) ⟨vp_in_nI hx (by decide), fun g1 e1 => ?_⟩
  have m1 : g1 102 0 = nI M := by rw [e1, ar_n _ _ _ _ _ (by decide)]; exact hM
  rw [m1]
  refine ⟨vp_in_nI hM60 (by decide), fun g2 e2 g3 e3 => ?_⟩
  have m2 : g2 102 0 = nI M := by rw [e2, ar_n _ _ _ _ _ (by decide)]; exact m1
  rw [m2, nI_1] at e3
  rw [e3, e2, e1]
  exact hk
theorem cutS_M {g : St} {x M : Nat} : cutS g x M 102 0 = nI (M + 1) := by unfold cutS; rw [sc_s]
theorem cutS_13 {g : St} {x M y : Nat} (hx : x < 60) : cutS g x M 13 y = if y = x then nI M else g 13 y := by
  unfold cutS; rw [sc_n _ _ _ _ (by decide), ar_n _ _ _ _ _ (by decide), ar_at x (nI_clamp (by omega))]
theorem cutS_14 {g : St} {x M k : Nat} (hM : M < 60) : cutS g x M 14 k = if k = M then nI x else g 14 k := by
  unfold cutS; rw [sc_n _ _ _ _ (by decide), ar_at M (nI_clamp (by omega)), ar_n _ _ _ _ _ (by decide)]
theorem cutS_o {g : St} {x M j : Nat} (h13 : j ≠ 13) (h14 : j ≠ 14) (h102 : j ≠ 102) : cutS g x M j = g j := by
  unfold cutS; rw [sc_n _ _ _ _ h102, ar_n _ _ _ _ _ h14, ar_n _ _ _ _ _ h13]
/-- g' and s' are g and s with some of the nodes a and b cut out -/
def CtP (a b : Nat) (g : St) (s : Cs) (g' : St) (s' : Cs) : Prop :=
  g' 102 0 = nI s'.2.2.length ∧ Arr2 g' s' a ∧ Arr2 g' s' b ∧ (∀ j, j ≠ 13 → j ≠ 14 → j ≠ 102 → g' j = g j) ∧ (∀ x, x ≠ a → x ≠ b → g' 13 x = g 13 x) ∧ (∀ k, k < s.2.2.length → g' 14 k = g 14 k) ∧ (∀ k x, s.2.2.length ≤ k → s'.2.2[k]? = some x → g' 14 k = nI x) ∧ s.2.2.length ≤ s'.2.2.length
theorem CtP_cto {a b x : Nat} {g g' : St} {s s' : Cs} (h : CtP a b g s g' s') (hx : x = a ∨ x = b) (hx60 : x < 60) (hM : s'.2.2.length < 60) : CtP a b g s (cutS g' x s'.2.2.length) (cto s' x) := by
  obtain ⟨h1, h2, h3, h4, h5, h6, h7, h8⟩ := h
  have len : (cto s' x).2.2.length = s'.2.2.length + 1 := by show (s'.2.2 ++ [x]).length = _; simp
  have arr : ∀ y, Arr2 g' s' y → Arr2 (cutS g' x s'.2.2.length) (cto s' x) y := by
    intro y hy
    obtain ⟨q1, q2, q3, q4⟩ := hy
    refine ⟨by rw [cutS_o (by decide) (by decide) (by decide)]; exact q1, ?_, q3, ?_⟩
    · rw [cutS_13 hx60]
      by_cases e : y = x
      · rw [if_pos e, e, cto_C, cI0_s]
      · rw [if_neg e, cto_Cn e]; exact q2
    · by_cases e : y = x
      · rw [e, cto_C]; omega
      · rw [cto_Cn e]; exact q4
  refine ⟨by rw [cutS_M, len], arr a h2, arr b h3, fun j j1 j2 j3 => by rw [cutS_o j1 j2 j3]; exact h4 j j1 j2 j3, fun y y1 y2 => ?_, fun k hk => ?_, fun k y hk hy => ?_, by rw [len]; omega⟩
  · rw [cutS_13 hx60, if_neg (fun e => by rcases hx with q | q <;> rw [q] at e; exact y1 e; exact y2 e)]
    exact h5 y y1 y2
  · rw [cutS_14 hM, if_neg (by omega)]; exact h6 k hk
  · rw [cutS_14 hM]
    have hy : (s'.2.2 ++ [x])[k]? = some y := hy
    by_cases e : k = s'.2.2.length
    · rw [if_pos e]
      rw [e, List.getElem?_concat_length] at hy
      rw [Option.some.inj hy]
    · rw [if_neg e]
      have hk2 : k < (s'.2.2 ++ [x]).length := (List.getElem?_eq_some_iff.mp hy).1
      simp at hk2
      rw [List.getElem?_append_left (by omega)] at hy
      exact h7 k y hk hy
theorem FoC_of {g g' : St} (h3 : g' 3 = g 3) (h4 : g' 4 = g 4) (h5 : g' 5 = g 5) (h6 : g' 6 = g 6) (h7 : g' 7 = g 7) (h100 : g' 100 = g 100) (h : FoC n ru bi fe ye no g) : FoC n ru bi fe ye no g' := by
  unfold FoC at *
  rw [h3, h4, h5, h6, h7, h100]
  exact h
theorem CtP_FoC {a b : Nat} {g g' : St} {s s' : Cs} (h : CtP a b g s g' s') (hF : FoC n ru bi fe ye no g) : FoC n ru bi fe ye no g' := by
  obtain ⟨-, -, -, o, -⟩ := h
  exact FoC_of (o 3 (by decide) (by decide) (by decide)) (o 4 (by decide) (by decide) (by decide)) (o 5 (by decide) (by decide) (by decide)) (o 6 (by decide) (by decide) (by decide)) (o 7 (by decide) (by decide) (by decide)) (o 100 (by decide) (by decide) (by decide)) hF
theorem s_cutChildren {g : St} {K : St → Prop} {s : Cs} {i : Nat} (hV : FoV n ru fe ye no) (hF : FoC n ru bi fe ye no g) (hi : i < n) (hl : ¬ ru i = -1) (hlim : lim ≤ 400) (hy : Arr2 g s (ye i)) (ho : Arr2 g s (no i)) (hM : g 102 0 = nI s.2.2.length) (hM60 : s.2.2.length + 2 ≤ 60)
    (hk : ∀ g', CtP (ye i) (no i) g s g' (ctc ye no lim i s) → K g') : pc_Cu_cutChildren (nI i) (nI lim) g K := by
  have hn := hV.1
  obtain ⟨-, -, y60, o60⟩ := hV.2 i hi hl
  obtain ⟨f4, f6, f7⟩ := (hF.2 i hi).2.2 hl
  have P0 : CtP (ye i) (no i) g s g s := ⟨hM, hy, ho, fun _ _ _ _ => rfl, fun _ _ _ => rfl, fun _ _ => rfl, fun k x h1 h2 => by have := (List.getElem?_eq_some_iff.mp h2).1; omega, Nat.le_refl _⟩
  have ii : vp_in (nI i) 60 := vp_in_nI (by omega) (by decide)
  have ln : ∀ {g' : St} {s' : Cs}, CtP (ye i) (no i) g s g' s' → sln ye no s' i ≤ 1000 := by
    intro g' s' h
    have a1 := prt_le h.2.1
    have a2 := prt_le h.2.2.1
    have a3 := tl_b (prt s' (ye i))
    unfold sln
    omega
  unfold pc_Cu_cutChildren pb_Cu_cutChildren_0
  rw [nI_clamp (by omega : i < 2 ^ 31), f6, f7]
  refine ⟨ii, fun v1 e1 => ⟨ii, fun v2 e2 => ?_⟩⟩
  rw [e1, e2]
  refine s_splitLength hV hF hi hl hy ho ?_
  refine pk_lt lim (sln ye no s i) (fun hgt => ?_) (fun hle => ?_) rfl rfl (by omega) (by have := ln P0; omega)
  · refine s_partLength y60 hy (s_partLength o60 ho ?_)
    -- after the first cut
    have second : ∀ (x1 x2 : Nat) (first : Int32), (x1 = ye i ∧ x2 = no i ∧ ¬ first = 0) ∨ (x1 = no i ∧ x2 = ye i ∧ first = 0) → x1 < 60 → x2 < 60 → c1st ye no s i = x1 → c2nd ye no s i = x2 → pb_Cu_cutChildren_64 K (nI i) (nI lim) (nI (ye i)) (nI (no i)) first (nI x1) g := by
      intro x1 x2 first hc h1 h2 q1 q2
      have hin1 : x1 = ye i ∨ x1 = no i := by
        rcases hc with ⟨a, -, -⟩ | ⟨a, -, -⟩
        · exact Or.inl a
        · exact Or.inr a
      have hin2 : x2 = ye i ∨ x2 = no i := by
        rcases hc with ⟨-, a, -⟩ | ⟨-, a, -⟩
        · exact Or.inr a
        · exact Or.inl a
      have P1 := CtP_cto P0 hin1 h1 (by omega)
      unfold pb_Cu_cutChildren_64
      refine s_cutOut h1 hM (by omega) ?_
      refine s_splitLength hV (CtP_FoC P1 hF) hi hl P1.2.1 P1.2.2.1 ?_
      have ec : ctc ye no lim i s = if sln ye no (cto s x1) i ≤ lim then cto s x1 else cto (cto s x1) x2 := by
        unfold ctc; rw [if_neg (by omega), q1, q2]
      refine pk_le (sln ye no (cto s x1) i) lim (fun hle => ?_) (fun hgt2 => ?_) rfl rfl (by have := ln P1; omega) (by omega)
      · rw [ec, if_pos hle] at hk
        exact hk _ P1
      · rw [ec, if_neg (by omega)] at hk
        have len : (cto s x1).2.2.length = s.2.2.length + 1 := by show (s.2.2 ++ [x1]).length = _; simp
        have P2 := CtP_cto P1 hin2 h2 (by omega)
        have fin : pb_Cu_cutChildren_88 K (nI i) (nI lim) (nI (ye i)) (nI (no i)) first (nI x2) (cutS g x1 s.2.2.length) := by
          unfold pb_Cu_cutChildren_88
          exact s_cutOut h2 P1.1 (by omega) (hk _ P2)
        rcases hc with ⟨-, a, b⟩ | ⟨-, a, b⟩
        · exact zb_f b (by rw [← a]; exact fin)
        · exact zb_t b (by rw [← a]; exact fin)
    unfold pb_Cu_cutChildren_50
    refine pk_lt (prt s (ye i)) (prt s (no i)) (fun hf => ?_) (fun hf => ?_) rfl rfl (by have := prt_le hy; omega) (by have := prt_le ho; omega)
    · intro v ev
      refine zb_t ev ?_
      exact second (no i) (ye i) v (Or.inr ⟨rfl, rfl, ev⟩) o60 y60 (by unfold c1st; rw [if_pos hf]) (by unfold c2nd; rw [if_pos hf])
    · intro v ev
      have hne : ¬ v = 0 := by rw [ev]; decide
      refine zb_f hne ?_
      exact second (ye i) (no i) v (Or.inl ⟨rfl, rfl, hne⟩) y60 o60 (by unfold c1st; rw [if_neg (by omega)]) (by unfold c2nd; rw [if_neg (by omega)])
  · have ec : ctc ye no lim i s = s := by unfold ctc; rw [if_pos hle]
    rw [ec] at hk
    exact hk g P0
/-- the class's cells behind the cutting of a tree with the nodes l -/
def CuP (l : List Nat) (g : St) (s : Cs) (g' : St) (s' : Cs) : Prop :=
  g' 102 0 = nI s'.2.2.length ∧ (∀ x ∈ l, g' 12 x = nI (s'.1 x) ∧ g' 13 x = cI0 (s'.2.1 x)) ∧ (∀ x, x ∉ l → g' 12 x = g 12 x ∧ g' 13 x = g 13 x) ∧ (∀ j, j ≠ 12 → j ≠ 13 → j ≠ 14 → j ≠ 102 → g' j = g j) ∧ (∀ k, k < s.2.2.length → g' 14 k = g 14 k) ∧ (∀ k x, s.2.2.length ≤ k → s'.2.2[k]? = some x → g' 14 k = nI x)
theorem CuP_FoC {l : List Nat} {g g' : St} {s s' : Cs} (h : CuP l g s g' s') (hF : FoC n ru bi fe ye no g) : FoC n ru bi fe ye no g' := by
  obtain ⟨-, -, -, o, -⟩ := h
  exact FoC_of (o 3 (by decide) (by decide) (by decide) (by decide)) (o 4 (by decide) (by decide) (by decide) (by decide)) (o 5 (by decide) (by decide) (by decide) (by decide)) (o 6 (by decide) (by decide) (by decide) (by decide)) (o 7 (by decide) (by decide) (by decide) (by decide)) (o 100 (by decide) (by decide) (by decide) (by decide)) hF
theorem s_cutFrom (hV : FoV n ru fe ye no) (h20 : 20 ≤ lim) (h400 : lim ≤ 400) : ∀ (d D dep i : Nat) (s : Cs) (g : St) (K : St → Prop), d ≤ D → dep + d ≤ 13 → TR n ru ye no d i → (nds ru ye no d i).Nodup → (∀ x ∈ nds ru ye no d i, s.2.1 x = 0 ∧ g 13 x = -1) → s.2.2.length + (nds ru ye no d i).length ≤ 60 → g 102 0 = nI s.2.2.length → FoC n ru bi fe ye no g →
    (∀ g', CuP (nds ru ye no d i) g s g' (cutn ru ye no lim d i s) → K g') → pc_Cu_cutFrom D (nI i) (nI lim) (nI dep) g K := by
  have hn := hV.1
  intro d
  induction d with
  | zero => intro D dep i s g K _ _ h; exact h.elim
  | succ d ih =>
    intro D dep i s g K hD hdep hT hN hC hM60 hM hF hk
    have ok := cutn_ok (lim := lim) h20 (d + 1) i s hT hN (fun x hx => (hC x hx).1)
    obtain ⟨hi, hT⟩ := hT
    obtain ⟨D', rfl⟩ : ∃ D', D = D' + 1 := ⟨D - 1, by omega⟩
    show pb_Cu_cutFrom_0 (pc_Cu_cutFrom D') K (nI i) (nI lim) (nI dep) g
    unfold pb_Cu_cutFrom_0
    have ii : vp_in (nI i) 60 := vp_in_nI (by omega) (by decide)
    have ci : (nI i).toNatClampNeg = i := nI_clamp (by omega)
    obtain ⟨f3, f5, fs⟩ := hF.2 i hi
    rcases hT with hl | ⟨hl, h1, h2⟩
    · refine s_isLeaf (by omega) (fun _ => zr_f (by decide) ?_) (fun q => absurd (f3.trans hl) q)
      unfold pb_Cu_cutFrom_17
      refine ⟨ii, fun g1 e1 => hk g1 ?_⟩
      have e : cutn ru ye no lim (d + 1) i s = (updN s.1 i 3, s.2.1, s.2.2) := by
        unfold cutn; rw [if_pos hl]; unfold stp; rw [if_pos hl]
      rw [e, nds_leaf hl]
      rw [nds_leaf hl] at hC
      refine ⟨by rw [e1, ar_n _ _ _ _ _ (by decide)]; exact hM, fun x hx => ?_, fun x hx => ?_, fun j j1 j2 j3 j4 => by rw [e1, ar_n _ _ _ _ _ j1], fun k _ => by rw [e1, ar_n _ _ _ _ _ (by decide)], fun k x q1 q2 => ?_⟩
      · simp at hx
        subst hx
        refine ⟨?_, ?_⟩
        · rw [e1, ar_e x ci]
          show (3 : Int32) = nI (updN s.1 x 3 x)
          rw [updN_s]; rfl
        · rw [e1, ar_n _ _ _ _ _ (by decide), (hC x (by simp)).2]
          show (-1 : Int32) = cI0 (s.2.1 x)
          rw [(hC x (by simp)).1]; rfl
      · simp at hx
        exact ⟨by rw [e1, ar_o i ci hx], by rw [e1, ar_n _ _ _ _ _ (by decide)]⟩
      · have := (List.getElem?_eq_some_iff.mp q2).1
        exact absurd this (by show ¬ k < s.2.2.length; omega)
    · obtain ⟨f4, f6, f7⟩ := fs hl
      refine s_isLeaf (by omega) (fun q => absurd (f3.symm.trans q) hl) (fun _ => zr_t rfl ?_)
      refine zb_t (nI_le (b := 12) (by omega) (by decide)) ⟨ii, ?_⟩
      have hNs := hN
      rw [nds_split hl, List.nodup_cons, List.nodup_append] at hN
      obtain ⟨n1, n2, n3, n4⟩ := hN
      simp only [List.mem_append, not_or] at n1
      have my : ye i ∈ nds ru ye no d (ye i) := nds_self h1
      have mo : no i ∈ nds ru ye no d (no i) := nds_self h2
      have hne : ye i ≠ no i := n4 _ my _ mo
      rw [nds_split hl] at hC hM60
      simp only [List.length_cons, List.length_append] at hM60
      have e : cutn ru ye no lim (d + 1) i s = stp ru ye no lim i (cutn ru ye no lim d (no i) (cutn ru ye no lim d (ye i) s)) := by
        conv => lhs; unfold cutn
        rw [if_neg hl]
      have ok1 := cutn_ok (lim := lim) h20 (d) (ye i) s h1 n2 (fun x hx => (hC x (by simp [hx])).1)
      rw [ci, f6, nI_1]
      refine ih D' (dep + 1) (ye i) s g _ (by omega) (by omega) h1 n2 (fun x hx => hC x (by simp [hx])) (by omega) hM hF (fun g1 P1 => ⟨ii, ?_⟩)
      obtain ⟨A1, a1, a2, a3, a4, a5, a6, a7, a8, a9⟩ := ok1
      generalize hs1 : cutn ru ye no lim d (ye i) s = s1 at *
      have hF1 := CuP_FoC P1 hF
      rw [((hF1.2 i hi).2.2 hl).2.2]
      have len1 : s1.2.2.length = s.2.2.length + A1.length := by rw [a1]; simp
      have hC1 : ∀ x ∈ nds ru ye no d (no i), s1.2.1 x = 0 ∧ g1 13 x = -1 := fun x hx => by
        have hx' : x ∉ nds ru ye no d (ye i) := fun q => n4 x q x hx rfl
        rw [(a4 x hx').2, (P1.2.2.1 x hx').2]
        exact hC x (by simp [hx])
      have ok2 := cutn_ok (lim := lim) h20 (d) (no i) s1 h2 n3 (fun x hx => (hC1 x hx).1)
      refine ih D' (dep + 1) (no i) s1 g1 _ (by omega) (by omega) h2 n3 hC1 (by omega) P1.1 hF1 (fun g2 P2 => ?_)
      obtain ⟨A2, b1, b2, b3, b4, b5, b6, b7, b8, b9⟩ := ok2
      generalize hs2 : cutn ru ye no lim d (no i) s1 = s2 at *
      have hF2 := CuP_FoC P2 hF1
      have len2 : s2.2.2.length = s1.2.2.length + A2.length := by rw [b1]; simp
      have keepY : ∀ x ∈ nds ru ye no d (ye i), s2.1 x = s1.1 x ∧ s2.2.1 x = s1.2.1 x := fun x hx => b4 x (fun q => n4 x hx x q rfl)
      have keepG : ∀ x ∈ nds ru ye no d (ye i), g2 12 x = nI (s2.1 x) ∧ g2 13 x = cI0 (s2.2.1 x) := fun x hx => by
        have q := P2.2.2.1 x (fun w => n4 x hx x w rfl)
        rw [q.1, q.2, (keepY x hx).1, (keepY x hx).2]
        exact P1.2.1 x hx
      have hCy2 : s2.2.1 (ye i) = 0 := by rw [(keepY _ my).2]; exact a5
      have ry : Arr2 g2 s2 (ye i) := ⟨(keepG _ my).1, (keepG _ my).2, by rw [(keepY _ my).1]; have := (a7 _ my).2; omega, by rw [hCy2]; omega⟩
      have ro : Arr2 g2 s2 (no i) := ⟨(P2.2.1 _ mo).1, (P2.2.1 _ mo).2, by have := (b7 _ mo).2; omega, by rw [b5]; omega⟩
      refine s_cutChildren hV hF2 hi hl h400 ry ro P2.1 (by omega) (fun g3 P3 => ?_)
      refine s_splitLength hV (CtP_FoC P3 hF2) hi hl P3.2.1 P3.2.2.1 ⟨ii, fun g4 e4 => hk g4 ?_⟩
      rw [nds_split hl]
      have es : cutn ru ye no lim (d + 1) i s = (updN (ctc ye no lim i s2).1 i (sln ye no (ctc ye no lim i s2) i), (ctc ye no lim i s2).2.1, (ctc ye no lim i s2).2.2) := by
        rw [e]; unfold stp; rw [if_neg hl]
      rw [es]
      obtain ⟨c1, c2, c3, c4, c5, c6, c7, c8⟩ := P3
      -- lengths are not touched by the cut at i; cut numbers only at the children
      have cL : (ctc ye no lim i s2).1 = s2.1 := by
        rcases ctc_cases (s := s2) h20 hne with ⟨w, -⟩ | ⟨w, -⟩ | ⟨w, -⟩ | ⟨w, -⟩ | ⟨w, -⟩ <;> rw [w] <;> rfl
      have cC : ∀ x, x ≠ ye i → x ≠ no i → (ctc ye no lim i s2).2.1 x = s2.2.1 x := by
        intro x x1 x2
        rcases ctc_cases (s := s2) h20 hne with ⟨w, -⟩ | ⟨w, -⟩ | ⟨w, -⟩ | ⟨w, -⟩ | ⟨w, -⟩ <;> rw [w]
        · rw [cto_Cn x1]
        · rw [cto_Cn x2]
        · rw [cto_Cn x2, cto_Cn x1]
        · rw [cto_Cn x1, cto_Cn x2]
      have cO : ∀ (k x : Nat), s2.2.2[k]? = some x → (ctc ye no lim i s2).2.2[k]? = some x := by
        intro k x hk
        have hlt := (List.getElem?_eq_some_iff.mp hk).1
        rcases ctc_cases (s := s2) h20 hne with ⟨w, -⟩ | ⟨w, -⟩ | ⟨w, -⟩ | ⟨w, -⟩ | ⟨w, -⟩ <;> rw [w]
        · exact hk
        · show (s2.2.2 ++ [_])[k]? = _
          rw [List.getElem?_append_left hlt]; exact hk
        · show (s2.2.2 ++ [_])[k]? = _
          rw [List.getElem?_append_left hlt]; exact hk
        · show ((s2.2.2 ++ [_]) ++ [_])[k]? = _
          rw [List.append_assoc, List.getElem?_append_left hlt]; exact hk
        · show ((s2.2.2 ++ [_]) ++ [_])[k]? = _
          rw [List.append_assoc, List.getElem?_append_left hlt]; exact hk
      have g412 : ∀ x, g4 12 x = if x = i then nI (sln ye no (ctc ye no lim i s2) i) else g2 12 x := fun x => by
        rw [e4, ar_at i ci, c4 12 (by decide) (by decide) (by decide)]
      have g4o : ∀ j, j ≠ 12 → g4 j = g3 j := fun j hj => by rw [e4, ar_n _ _ _ _ _ hj]
      have hyi : ye i ≠ i := ne_mem n1.1 my
      have hoi : no i ≠ i := ne_mem n1.2 mo
      have in13 : ∀ x, (x = i ∨ x ∈ nds ru ye no d (ye i) ∨ x ∈ nds ru ye no d (no i)) → g4 13 x = cI0 ((ctc ye no lim i s2).2.1 x) := by
        intro x hx
        rw [g4o 13 (by decide)]
        by_cases q1 : x = ye i
        · rw [q1]; exact c2.2.1
        by_cases q2 : x = no i
        · rw [q2]; exact c3.2.1
        rw [c5 x q1 q2, cC x q1 q2]
        rcases hx with hx | hx | hx
        · rw [hx, (P2.2.2.1 i n1.2).2, (P1.2.2.1 i n1.1).2, (b4 i n1.2).2, (a4 i n1.1).2, (hC i (by simp)).1, (hC i (by simp)).2]; rfl
        · exact (keepG x hx).2
        · exact (P2.2.1 x hx).2
      refine ⟨by rw [g4o 102 (by decide)]; exact c1, fun x hx => ?_, fun x hx => ?_, fun j j1 j2 j3 j4 => ?_, fun k hk => ?_, fun k x q1 q2 => ?_⟩
      · simp only [List.mem_cons, List.mem_append] at hx
        refine ⟨?_, in13 x hx⟩
        rw [g412]
        show _ = nI (updN (ctc ye no lim i s2).1 i (sln ye no (ctc ye no lim i s2) i) x)
        by_cases q : x = i
        · rw [if_pos q, q, updN_s]
        · rw [if_neg q, updN_n q, cL]
          rcases hx with hx | hx | hx
          · exact absurd hx q
          · exact (keepG x hx).1
          · exact (P2.2.1 x hx).1
      · simp only [List.mem_cons, List.mem_append, not_or] at hx
        obtain ⟨x1, x2, x3⟩ := hx
        refine ⟨?_, ?_⟩
        · rw [g412, if_neg x1, (P2.2.2.1 x x3).1, (P1.2.2.1 x x2).1]
        · rw [g4o 13 (by decide), c5 x (fun q => x2 (by rw [q]; exact my)) (fun q => x3 (by rw [q]; exact mo)), (P2.2.2.1 x x3).2, (P1.2.2.1 x x2).2]
      · rw [g4o j j1, c4 j j2 j3 j4, P2.2.2.2.1 j j1 j2 j3 j4, P1.2.2.2.1 j j1 j2 j3 j4]
      · rw [g4o 14 (by decide), c6 k (by omega), P2.2.2.2.2.1 k (by omega), P1.2.2.2.2.1 k hk]
      · rw [g4o 14 (by decide)]
        have q2 : (ctc ye no lim i s2).2.2[k]? = some x := q2
        by_cases w2 : s2.2.2.length ≤ k
        · exact c7 k x w2 q2
        · rw [c6 k (by omega)]
          have z2 : s2.2.2[k]? = some x := by
            cases hz : s2.2.2[k]? with
            | none => rw [List.getElem?_eq_none_iff] at hz; omega
            | some y => rw [cO k y hz] at q2; exact q2
          by_cases w1 : s1.2.2.length ≤ k
          · exact P2.2.2.2.2.2 k x w1 z2
          · rw [P2.2.2.2.2.1 k (by omega)]
            rw [b1, List.getElem?_append_left (by omega)] at z2
            exact P1.2.2.2.2.2 k x q1 z2
end CUTC
