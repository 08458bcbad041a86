/-! compile, first stage, the reference: a stack of nodes that wait -/
def fls (n : Nat) (ru : Nat → Int32) (ye no : Nat → Nat) : List (Nat × Nat) → (Nat → Bool) → Nat × (Nat → Bool)
  | [], S => (0, S)
  | x :: L, S => if (flt n ru ye no (14 - x.2) x.1 x.2 S).1 = 0 then fls n ru ye no L (flt n ru ye no (14 - x.2) x.1 x.2 S).2 else flt n ru ye no (14 - x.2) x.1 x.2 S
theorem fls_leaf {n i dep : Nat} {ru : Nat → Int32} {ye no : Nat → Nat} {S : Nat → Bool} {L : List (Nat × Nat)} (hS : S i = false) (hd : dep ≤ 12) (hl : ru i = -1) : fls n ru ye no ((i, dep) :: L) S = fls n ru ye no L (mark S i) := by
  have ef : flt n ru ye no (14 - dep) i dep S = (0, mark S i) := by
    rw [show 14 - dep = (13 - dep) + 1 by omega]
    unfold flt
    rw [if_neg (by rw [hS]; decide), if_neg (by omega), if_pos hl]
  show (if (flt n ru ye no (14 - dep) i dep S).1 = 0 then fls n ru ye no L (flt n ru ye no (14 - dep) i dep S).2 else flt n ru ye no (14 - dep) i dep S) = _
  rw [ef, if_pos rfl]
theorem fls_split {n i dep : Nat} {ru : Nat → Int32} {ye no : Nat → Nat} {S : Nat → Bool} {L : List (Nat × Nat)} (hS : S i = false) (hd : dep ≤ 12) (hl : ¬ ru i = -1) (hy : ye i < n) (ho : no i < n) : fls n ru ye no ((i, dep) :: L) S = fls n ru ye no ((ye i, dep + 1) :: (no i, dep + 1) :: L) (mark S i) := by
  have ef : flt n ru ye no (14 - dep) i dep S = if (flt n ru ye no (14 - (dep + 1)) (ye i) (dep + 1) (mark S i)).1 = 0 then flt n ru ye no (14 - (dep + 1)) (no i) (dep + 1) (flt n ru ye no (14 - (dep + 1)) (ye i) (dep + 1) (mark S i)).2 else flt n ru ye no (14 - (dep + 1)) (ye i) (dep + 1) (mark S i) := by
    rw [show 14 - dep = (14 - (dep + 1)) + 1 by omega]
    conv => lhs; unfold flt
    rw [if_neg (by rw [hS]; decide), if_neg (by omega), if_neg hl, if_neg (by omega)]
  show (if (flt n ru ye no (14 - dep) i dep S).1 = 0 then fls n ru ye no L (flt n ru ye no (14 - dep) i dep S).2 else flt n ru ye no (14 - dep) i dep S) = (if (flt n ru ye no (14 - (dep + 1)) (ye i) (dep + 1) (mark S i)).1 = 0 then (if (flt n ru ye no (14 - (dep + 1)) (no i) (dep + 1) (flt n ru ye no (14 - (dep + 1)) (ye i) (dep + 1) (mark S i)).2).1 = 0 then fls n ru ye no L (flt n ru ye no (14 - (dep + 1)) (no i) (dep + 1) (flt n ru ye no (14 - (dep + 1)) (ye i) (dep + 1) (mark S i)).2).2 else flt n ru ye no (14 - (dep + 1)) (no i) (dep + 1) (flt n ru ye no (14 - (dep + 1)) (ye i) (dep + 1) (mark S i)).2) else flt n ru ye no (14 - (dep + 1)) (ye i) (dep + 1) (mark S i))
  rw [ef]
  by_cases hz : (flt n ru ye no (14 - (dep + 1)) (ye i) (dep + 1) (mark S i)).1 = 0
  · rw [if_pos hz, if_pos hz]
  · rw [if_neg hz, if_neg hz, if_neg hz]
theorem fls_bad {n i dep f : Nat} {ru : Nat → Int32} {ye no : Nat → Nat} {S S' : Nat → Bool} {L : List (Nat × Nat)} (hf : ¬ f = 0) (ef : flt n ru ye no (14 - dep) i dep S = (f, S')) : (fls n ru ye no ((i, dep) :: L) S).1 = f := by
  show (if (flt n ru ye no (14 - dep) i dep S).1 = 0 then fls n ru ye no L (flt n ru ye no (14 - dep) i dep S).2 else flt n ru ye no (14 - dep) i dep S).1 = f
  rw [ef, if_neg hf]
def cu : Nat → (Nat → Bool) → Nat
  | 0, _ => 0
  | k + 1, S => cu k S + (if S k = true then 0 else 1)
theorem cu_ge {i : Nat} {S : Nat → Bool} : ∀ k, k ≤ i → cu k (mark S i) = cu k S := by
  intro k
  induction k with
  | zero => intro _; rfl
  | succ k ih =>
    intro h
    unfold cu
    rw [ih (by omega)]
    have : mark S i k = S k := by unfold mark; rw [beq_eq_false_iff_ne.mpr (by omega : k ≠ i), Bool.false_or]
    rw [this]
theorem cu_lt {i : Nat} {S : Nat → Bool} (hS : S i = false) : ∀ k, i < k → cu k (mark S i) + 1 = cu k S := by
  intro k
  induction k with
  | zero => intro h; omega
  | succ k ih =>
    intro h
    unfold cu
    by_cases hki : k = i
    · subst hki
      rw [cu_ge k (Nat.le_refl _), hS]
      have : mark S k k = true := by unfold mark; rw [beq_self_eq_true, Bool.true_or]
      rw [this, if_pos rfl, if_neg (by decide)]
    · have : mark S i k = S k := by unfold mark; rw [beq_eq_false_iff_ne.mpr hki, Bool.false_or]
      rw [this]
      have := ih (by omega)
      omega
theorem cu_le : ∀ (k : Nat) (S : Nat → Bool), cu k S ≤ k := by
  intro k S
  induction k with
  | zero => exact Nat.le_refl _
  | succ k ih =>
    unfold cu
    split <;> omega
theorem FoM_but {n : Nat} {ru bi : Nat → Int32} {fe ye no : Nat → Nat} {g g' : St} (h1 : g' 100 = g 100) (h2 : g' 1 = g 1) (h3 : g' 2 = g 2) (h4 : g' 3 = g 3) (h5 : g' 4 = g 4) (h6 : g' 5 = g 5) (h : FoM n ru bi fe ye no g) : FoM n ru bi fe ye no g' := by
  unfold FoM at *
  rw [h1, h2, h3, h4, h5, h6]
  exact h
def But3 (g g' : St) : Prop := ∀ j, j ≠ 8 → j ≠ 9 → j ≠ 10 → g' j = g j
theorem But3.tr {a b c : St} (h1 : But3 a b) (h2 : But3 b c) : But3 a c := fun j x y z => (h2 j x y z).trans (h1 j x y z)
theorem But3.FoM {n : Nat} {ru bi : Nat → Int32} {fe ye no : Nat → Nat} {g g' : St} (hb : But3 g g') (h : FoM n ru bi fe ye no g) : FoM n ru bi fe ye no g' :=
  FoM_but (hb 100 (by decide) (by decide) (by decide)) (hb 1 (by decide) (by decide) (by decide)) (hb 2 (by decide) (by decide) (by decide)) (hb 3 (by decide) (by decide) (by decide)) (hb 4 (by decide) (by decide) (by decide)) (hb 5 (by decide) (by decide) (by decide)) h
def StkP (g : St) : List (Nat × Nat) → Prop
  | [] => True
  | x :: L => g 9 L.length = nI x.1 ∧ g 10 L.length = nI x.2 ∧ StkP g L
theorem StkP_keep {g g' : St} : ∀ L : List (Nat × Nat), (∀ j, j < L.length → g' 9 j = g 9 j ∧ g' 10 j = g 10 j) → StkP g L → StkP g' L := by
  intro L
  induction L with
  | nil => intro _ _; trivial
  | cons x L ih =>
    intro hk h
    have hl := hk L.length (by simp)
    exact ⟨hl.1.trans h.1, hl.2.trans h.2.1, ih (fun j hj => hk j (by simp; omega)) h.2.2⟩
theorem s_wrong {n : Nat} {ru bi : Nat → Int32} {fe ye no : Nat → Nat} {g : St} {K : Int32 → St → Prop} {i dep : Nat} {S : Nat → Bool} (hV : FoV n ru fe ye no) (hi : i < n) (hd : dep < 1000) (hF : FoM n ru bi fe ye no g) (hM : Marks g 8 S)
    (h1 : S i = true → K (nI (200 + i)) g) (h2 : S i = false → 12 < dep → K (nI (300 + i)) g) (h3 : S i = false → ¬ 12 < dep → ¬ ru i = -1 → (n ≤ ye i ∨ n ≤ no i) → K (nI (100 + i)) g) (h4 : S i = false → ¬ 12 < dep → (ru i = -1 ∨ (¬ ru i = -1 ∧ ye i < n ∧ no i < n)) → K 0 g) : pc_Mo_wrong (nI i) (nI dep) g K := by
  have hn := hV.1
  unfold pc_Mo_wrong pb_Mo_wrong_0 pb_Mo_wrong_63
  have ci : (nI i).toNatClampNeg = i := nI_clamp (by omega)
  have ii : vp_in (nI i) 60 := vp_in_nI (by omega) (by decide)
  rw [ci, hM i (by omega)]
  refine ⟨ii, ?_⟩
  cases hS : S i with
  | true => exact zb_f (by decide) (by rw [show ((200 : Int32) + nI i) = nI (200 + i) from nI_add 200 i]; exact h1 hS)
  | false =>
    refine zb_t rfl ?_
    refine pk_le dep 12 (fun hle => ⟨ii, ?_⟩) (fun hgt => ?_) rfl rfl (by omega) (by decide)
    · obtain ⟨f1, f3, fs⟩ := hF.2 i hi
      rw [f1]
      by_cases hl : ru i = -1
      · exact zb_t hl (h4 hS (by omega) (Or.inl hl))
      · refine zb_f hl ⟨ii, ?_⟩
        obtain ⟨-, -, hy, ho⟩ := hV.2 i hi hl
        obtain ⟨f2, f4, f5⟩ := fs hl
        have bad : (n ≤ ye i ∨ n ≤ no i) → K ((100 : Int32) + nI i) g := fun q => by
          rw [show ((100 : Int32) + nI i) = nI (100 + i) from nI_add 100 i]
          exact h3 hS (by omega) hl q
        refine pk_le n (ye i) (fun q => bad (Or.inl q)) (fun hyn => ⟨ii, ?_⟩) hF.1 f4 (by omega) (by omega)
        exact pk_lt (no i) n (fun hon => h4 hS (by omega) (Or.inr ⟨hl, hyn, hon⟩)) (fun q => bad (Or.inr q)) f5 hF.1 (by omega) (by omega)
    · rw [show ((300 : Int32) + nI i) = nI (300 + i) from nI_add 300 i]
      exact h2 hS hgt
theorem s_Mstack {n t : Nat} {ru bi : Nat → Int32} {fe ye no : Nat → Nat} {g0 : St} {K : Int32 → St → Prop} {P23 : Int32 → St → Prop} {P52 : Int32 → Int32 → St → Prop} (hV : FoV n ru fe ye no) (hP : ∀ x1 x2 g, pb_Mo_fault_52 K P23 P52 x1 x2 g → P52 x1 x2 g) :
    ∀ (u : Nat) (L : List (Nat × Nat)) (S : Nat → Bool) (g : St), cu 60 S ≤ u → L.length + cu 60 S ≤ 61 → (∀ x ∈ L, x.1 < n ∧ x.2 ≤ 13) → StkP g L → FoM n ru bi fe ye no g → Marks g 8 S → But3 g0 g →
      ((fls n ru ye no L S).1 = 0 → ∀ g', But3 g0 g' → Marks g' 8 (fls n ru ye no L S).2 → P23 (nI (t + 1)) g') → (¬ (fls n ru ye no L S).1 = 0 → ∀ g', But3 g0 g' → K (nI (fls n ru ye no L S).1) g') → P52 (nI t) (nI L.length) g := by
  have hn := hV.1
  intro u
  induction u with
  | zero =>
    intro L S g hu hlen hL hs hF hM hb k0 k1
    cases L with
    | nil =>
      apply hP
      unfold pb_Mo_fault_52
      refine zb_t (by decide) ?_
      intro v e
      rw [nI_1] at e
      rw [e]
      exact k0 rfl g hb hM
    | cons x L =>
      obtain ⟨hx1, hx2⟩ := hL x (by simp)
      apply hP
      unfold pb_Mo_fault_52
      have hlen' : L.length + 1 ≤ 61 := by simp at hlen; omega
      refine zb_f (nI_nle (n := L.length + 1) (by omega) (by omega)) ?_
      intro v2 e2
      have ev2 : v2 = nI L.length := by rw [e2]; exact pk_m1 _
      rw [ev2, nI_clamp (by omega : L.length < 2 ^ 31), hs.1, hs.2.1]
      refine ⟨vp_in_nI (by omega) (by decide), fun v3 e3 => ⟨vp_in_nI (by omega) (by decide), fun v4 e4 => ?_⟩⟩
      rw [e3, e4]
      refine s_wrong hV hx1 (by omega) hF hM (fun hS => ?_) (fun hS hd => ?_) (fun hS hd hl hbad => ?_) (fun hS hd hok => ?_)
      · intro v7 e7
        have ef : flt n ru ye no (14 - x.2) x.1 x.2 S = (200 + x.1, S) := by
          rw [show 14 - x.2 = (13 - x.2) + 1 by omega]; unfold flt; rw [if_pos hS]
        have eb := fls_bad (L := L) (by omega) ef
        refine zb_f (by rw [e7]; exact nI_ne0 (by omega) (by omega)) ?_
        rw [e7, ← eb]
        exact k1 (by show ¬ (fls n ru ye no ((x.1, x.2) :: L) S).1 = 0; rw [eb]; omega) g hb
      all_goals (have := cu_lt (i := x.1) hS 60 (by omega); omega)
  | succ u ih =>
    intro L S g hu hlen hL hs hF hM hb k0 k1
    cases L with
    | nil =>
      apply hP
      unfold pb_Mo_fault_52
      refine zb_t (by decide) ?_
      intro v e
      rw [nI_1] at e
      rw [e]
      exact k0 rfl g hb hM
    | cons x L =>
      obtain ⟨i, dep⟩ := x
      obtain ⟨hx1, hx2⟩ := hL (i, dep) (by simp)
      have hx1 : i < n := hx1
      have hx2 : dep ≤ 13 := hx2
      apply hP
      unfold pb_Mo_fault_52
      have hlen' : L.length + 1 + cu 60 S ≤ 61 := by simpa using hlen
      refine zb_f (nI_nle (n := L.length + 1) (by omega) (by omega)) ?_
      intro v2 e2
      have ev2 : v2 = nI L.length := by rw [e2]; exact pk_m1 _
      have cl : (nI L.length).toNatClampNeg = L.length := nI_clamp (by omega)
      have ii : vp_in (nI i) 60 := vp_in_nI (by omega) (by decide)
      have ci : (nI i).toNatClampNeg = i := nI_clamp (by omega)
      have il : vp_in (nI L.length) 64 := vp_in_nI (by omega) (by decide)
      rw [ev2, cl, show g 9 L.length = nI i from hs.1, show g 10 L.length = nI dep from hs.2.1]
      refine ⟨il, fun v3 e3 => ⟨il, fun v4 e4 => ?_⟩⟩
      rw [e3, e4]
      refine s_wrong hV hx1 (by omega) hF hM (fun hS => ?_) (fun hS hd => ?_) (fun hS hd hl hbad => ?_) (fun hS hd hok => ?_)
      · intro v7 e7
        have ef : flt n ru ye no (14 - dep) i dep S = (200 + i, S) := by
          rw [show 14 - dep = (13 - dep) + 1 by omega]; unfold flt; rw [if_pos hS]
        have eb := fls_bad (L := L) (by omega) ef
        refine zb_f (by rw [e7]; exact nI_ne0 (by omega) (by omega)) ?_
        rw [e7, ← eb]
        exact k1 (by rw [eb]; omega) g hb
      · intro v7 e7
        have ef : flt n ru ye no (14 - dep) i dep S = (300 + i, mark S i) := by
          rw [show 14 - dep = (13 - dep) + 1 by omega]; unfold flt; rw [if_neg (by rw [hS]; decide), if_pos hd]
        have eb := fls_bad (L := L) (by omega) ef
        refine zb_f (by rw [e7]; exact nI_ne0 (by omega) (by omega)) ?_
        rw [e7, ← eb]
        exact k1 (by rw [eb]; omega) g hb
      · intro v7 e7
        have ef : flt n ru ye no (14 - dep) i dep S = (100 + i, mark S i) := by
          rw [show 14 - dep = (13 - dep) + 1 by omega]; unfold flt; rw [if_neg (by rw [hS]; decide), if_neg hd, if_neg hl, if_pos hbad]
        have eb := fls_bad (L := L) (by omega) ef
        refine zb_f (by rw [e7]; exact nI_ne0 (by omega) (by omega)) ?_
        rw [e7, ← eb]
        exact k1 (by rw [eb]; omega) g hb
      · intro v7 e7
        refine zb_t e7 ⟨ii, fun g8 e8 => ⟨ii, ?_⟩⟩
        have hcu := cu_lt (i := i) hS 60 (by omega)
        have b8 : But3 g0 g8 := hb.tr (fun j a b c => by rw [e8, ar_n _ _ _ _ _ a])
        have hF8 : FoM n ru bi fe ye no g8 := (show But3 g g8 from fun j a b c => by rw [e8, ar_n _ _ _ _ _ a]).FoM hF
        have hM8 : Marks g8 8 (mark S i) := by rw [e8]; exact Marks_set (by omega) hM
        have s8 : ∀ j, g8 9 j = g 9 j ∧ g8 10 j = g 10 j := fun j => by rw [e8, ar_n _ _ _ _ _ (by decide), ar_n _ _ _ _ _ (by decide)]; exact ⟨rfl, rfl⟩
        obtain ⟨f1, f3, fs⟩ := hF8.2 i hx1
        rw [ci, f1]
        by_cases hl : ru i = -1
        · refine zb_t hl ?_
          unfold pb_Mo_fault_159
          have e := fls_leaf (n := n) (ye := ye) (no := no) (L := L) hS (by omega : dep ≤ 12) hl
          rw [e] at k0 k1
          exact ih L (mark S i) g8 (by omega) (by omega) (fun x hx => hL x (by simp [hx])) (StkP_keep L (fun j _ => s8 j) hs.2.2) hF8 hM8 b8 k0 k1
        · refine zb_f hl ⟨ii, il, fun g9 e9 => ⟨il, fun g10 e10 => ⟨ii, ?_, fun g11 e11 => ⟨?_, fun g12 e12 v13 e13 => ?_⟩⟩⟩⟩
          · rw [nI_1]; exact vp_in_nI (by omega) (by decide)
          · rw [nI_1]; exact vp_in_nI (by omega) (by decide)
          unfold pb_Mo_fault_159
          rcases hok with hok | ⟨-, hy, ho⟩
          · exact absurd hok hl
          obtain ⟨f2, f4, f5⟩ := fs hl
          have e := fls_split (n := n) (ye := ye) (no := no) (L := L) hS (by omega : dep ≤ 12) hl hy ho
          rw [e] at k0 k1
          rw [f5] at e9
          have h4 : g10 4 i = nI (ye i) := by rw [e10, ar_n _ _ _ _ _ (by decide), e9, ar_n _ _ _ _ _ (by decide)]; exact f4
          rw [h4, nI_1] at e11
          rw [nI_1] at e10
          rw [nI_1, nI_1] at e12
          have cl1 : (nI (L.length + 1)).toNatClampNeg = L.length + 1 := nI_clamp (by omega)
          have b12 : But3 g0 g12 := b8.tr (fun j a b c => by rw [e12, ar_n _ _ _ _ _ c, e11, ar_n _ _ _ _ _ b, e10, ar_n _ _ _ _ _ c, e9, ar_n _ _ _ _ _ b])
          have hF12 : FoM n ru bi fe ye no g12 := (show But3 g8 g12 from fun j a b c => by rw [e12, ar_n _ _ _ _ _ c, e11, ar_n _ _ _ _ _ b, e10, ar_n _ _ _ _ _ c, e9, ar_n _ _ _ _ _ b]).FoM hF8
          have hM12 : Marks g12 8 (mark S i) := by
            intro j hj
            rw [e12, ar_n _ _ _ _ _ (by decide), e11, ar_n _ _ _ _ _ (by decide), e10, ar_n _ _ _ _ _ (by decide), e9, ar_n _ _ _ _ _ (by decide)]
            exact hM8 j hj
          have c9 : ∀ j, g12 9 j = if j = L.length + 1 then nI (ye i) else if j = L.length then nI (no i) else g 9 j := by
            intro j
            rw [e12, ar_n _ _ _ _ _ (by decide), e11, ar_at (L.length + 1) cl1]
            by_cases h1 : j = L.length + 1
            · rw [if_pos h1, if_pos h1]
            · rw [if_neg h1, if_neg h1, e10, ar_n _ _ _ _ _ (by decide), e9, ar_at L.length cl, (s8 j).1]
          have c10 : ∀ j, g12 10 j = if j = L.length + 1 then nI (dep + 1) else if j = L.length then nI (dep + 1) else g 10 j := by
            intro j
            rw [e12, ar_at (L.length + 1) cl1]
            by_cases h1 : j = L.length + 1
            · rw [if_pos h1, if_pos h1]
            · rw [if_neg h1, if_neg h1, e11, ar_n _ _ _ _ _ (by decide), e10, ar_at L.length cl, e9, ar_n _ _ _ _ _ (by decide), (s8 j).2]
          have ev : v13 = nI ((ye i, dep + 1) :: (no i, dep + 1) :: L).length := by rw [e13]; exact nI_add L.length 2
          rw [ev]
          refine ih _ (mark S i) g12 (by omega) (by simp; omega) ?_ ⟨?_, ?_, ?_, ?_, ?_⟩ hF12 hM12 b12 k0 k1
          · intro x hx
            simp only [List.mem_cons] at hx
            rcases hx with rfl | rfl | hx
            · exact ⟨hy, by show dep + 1 ≤ 13; omega⟩
            · exact ⟨ho, by show dep + 1 ≤ 13; omega⟩
            · exact hL x (by simp [hx])
          · show g12 9 (L.length + 1) = _
            rw [c9, if_pos rfl]
          · show g12 10 (L.length + 1) = _
            rw [c10, if_pos rfl]
          · rw [c9, if_neg (by omega), if_pos rfl]
          · rw [c10, if_neg (by omega), if_pos rfl]
          · refine StkP_keep L (fun j hj => ⟨?_, ?_⟩) hs.2.2
            · rw [c9, if_neg (by omega), if_neg (by omega)]
            · rw [c10, if_neg (by omega), if_neg (by omega)]
def RoM (g : St) (t : Nat) (ro : Nat → Nat) : Prop := g 101 0 = nI t ∧ ∀ i, i < t → g 6 i = nI (ro i)
theorem s_Mfault {n t : Nat} {ru bi : Nat → Int32} {fe ye no ro : Nat → Nat} {g : St} {K : Int32 → St → Prop} (hV : FoV n ru fe ye no) (ht : t ≤ 8) (hro : ∀ i, i < t → ro i < n) (hF : FoM n ru bi fe ye no g) (hR : RoM g t ro)
    (hk : ∀ g', But3 g g' → K (nI (fltI n ru ye no ro t 0 (fun _ => false)).1) g') : pc_Mo_fault g K := by
  have hn := hV.1
  unfold pc_Mo_fault pb_Mo_fault_0
  intro v1 e1
  rw [e1]
  unfold pl_Mo_fault_2
  intro P hP
  have trees : ∀ (k i : Nat) (S : Nat → Bool) (g' : St) (P2 : Int32 → St → Prop), (∀ x1 g, pb_Mo_fault_23 K P2 x1 g → P2 x1 g) → i + k = t → But3 g g' → Marks g' 8 S → cu 60 S ≤ 60 → (∀ g'', But3 g g'' → K (nI (fltI n ru ye no ro k i S).1) g'') → P2 (nI i) g' := by
    intro k
    induction k with
    | zero =>
      intro i S g' P2 hP2 hi hb hM hcu hk
      apply hP2
      unfold pb_Mo_fault_23
      refine zb_t ?_ (hk g' hb)
      rw [hb 101 (by decide) (by decide) (by decide), hR.1]
      exact nI_le (by omega) (by omega)
    | succ k ih =>
      intro i S g' P2 hP2 hi hb hM hcu hk
      apply hP2
      unfold pb_Mo_fault_23
      refine zb_f ?_ ?_
      · rw [hb 101 (by decide) (by decide) (by decide), hR.1]
        exact nI_ge (by omega) (by omega)
      intro v1 e1
      refine ⟨vp_in_nI (by omega) (by decide), vp_in_nI (n := 0) (by decide) (by decide), fun g2 e2 => ⟨vp_in_nI (n := 0) (by decide) (by decide), fun g3 e3 => ?_⟩⟩
      rw [hb 6 (by decide) (by decide) (by decide), nI_clamp (by omega : i < 2 ^ 31), hR.2 i (by omega)] at e2
      have b3 : But3 g' g3 := fun j a b c => by rw [e3, ar_n _ _ _ _ _ c, e2, ar_n _ _ _ _ _ b]
      rw [e1]
      unfold pl_Mo_fault_52
      intro P3 hP3
      have ef : fls n ru ye no [(ro i, 0)] S = flt n ru ye no 14 (ro i) 0 S := by
        show (if (flt n ru ye no 14 (ro i) 0 S).1 = 0 then (0, (flt n ru ye no 14 (ro i) 0 S).2) else flt n ru ye no 14 (ro i) 0 S) = flt n ru ye no 14 (ro i) 0 S
        by_cases hz : (flt n ru ye no 14 (ro i) 0 S).1 = 0
        · rw [if_pos hz]; exact Prod.ext hz.symm rfl
        · rw [if_neg hz]
      refine s_Mstack (g0 := g) hV hP3 60 [(ro i, 0)] S g3 hcu (by simp; omega) ?_ ⟨?_, ?_, trivial⟩ ((hb.tr b3).FoM hF) ?_ (hb.tr b3) ?_ ?_
      · intro x hx
        simp only [List.mem_singleton] at hx
        subst hx
        exact ⟨hro i (by omega), Nat.zero_le _⟩
      · show g3 9 0 = nI (ro i)
        rw [e3, ar_n _ _ _ _ _ (by decide), e2, ar_e 0 rfl]
      · show g3 10 0 = nI 0
        rw [e3, ar_e 0 rfl]; rfl
      · intro j hj
        rw [e3, ar_n _ _ _ _ _ (by decide), e2, ar_n _ _ _ _ _ (by decide)]
        exact hM j hj
      · rw [ef]
        intro hz g4 hb4 hm4
        refine ih (i + 1) _ g4 P2 hP2 (by omega) hb4 hm4 ?_ (fun g5 hb5 => ?_)
        · exact Nat.le_trans (cu_le 60 _) (Nat.le_refl _)
        · have := hk g5 hb5
          unfold fltI at this
          rw [if_pos hz] at this
          exact this
      · rw [ef]
        intro hz g4 hb4
        have := hk g4 hb4
        unfold fltI at this
        rw [if_neg hz] at this
        exact this
  have main : ∀ (k i : Nat) (g' : St), i + k = 60 → But3 g g' → (∀ j, j < i → g' 8 j = 0) → P (nI i) g' := by
    intro k
    induction k with
    | zero =>
      intro i g' hi hb hz
      apply hP
      unfold pb_Mo_fault_2
      refine zb_t (nI_le (a := 60) (by omega) (by omega)) ?_
      intro w1 f1
      rw [f1]
      unfold pl_Mo_fault_23
      intro P2 hP2
      exact trees t 0 (fun _ => false) g' P2 hP2 (by omega) hb (fun j hj => hz j (by omega)) (cu_le 60 _) hk
    | succ k ih =>
      intro i g' hi hb hz
      apply hP
      unfold pb_Mo_fault_2
      refine zb_f (nI_ge (b := 60) (by omega) (by decide)) ⟨vp_in_nI (by omega) (by decide), fun g3 e3 v4 e4 => ?_⟩
      rw [nI_1] at e4
      rw [e4]
      refine ih (i + 1) g3 (by omega) (hb.tr (fun j a b c => by rw [e3, ar_n _ _ _ _ _ a])) (fun j hj => ?_)
      rw [e3, ar_at i (nI_clamp (by omega))]
      by_cases hji : j = i
      · rw [if_pos hji]
      · rw [if_neg hji]; exact hz j (by omega)
  exact main 60 0 g (by omega) (fun _ _ _ _ => rfl) (fun j hj => by omega)
