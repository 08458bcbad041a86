/-! compile, first stage: the first fault. The forest by its functions: ru (rule, -1: a leaf), ye, no (children), n (how many nodes). -/
section FOREST
variable (n : Nat) (ru bi : Nat → Int32) (fe ye no : Nat → Nat)
def FoV : Prop := n ≤ 60 ∧ ∀ i, i < n → ¬ ru i = -1 → (∃ r : Nat, r < 6 ∧ ru i = nI r) ∧ fe i < 8 ∧ ye i < 60 ∧ no i < 60
def FoC (g : St) : Prop := g 100 0 = nI n ∧ ∀ i, i < n → g 3 i = ru i ∧ g 5 i = bi i ∧ (¬ ru i = -1 → g 4 i = nI (fe i) ∧ g 6 i = nI (ye i) ∧ g 7 i = nI (no i))
def FoM (g : St) : Prop := g 100 0 = nI n ∧ ∀ i, i < n → g 1 i = ru i ∧ g 3 i = bi i ∧ (¬ ru i = -1 → g 2 i = nI (fe i) ∧ g 4 i = nI (ye i) ∧ g 5 i = nI (no i))
def mark (S : Nat → Bool) (i : Nat) : Nat → Bool := fun j => j == i || S j
/-- the first fault from node i at depth dep (0: none), and the nodes that were come to -/
def flt : Nat → Nat → Nat → (Nat → Bool) → Nat × (Nat → Bool)
  | 0, _, _, S => (0, S)
  | d + 1, i, dep, S => if S i = true then (200 + i, S) else if 12 < dep then (300 + i, mark S i) else if ru i = -1 then (0, mark S i) else if n ≤ ye i ∨ n ≤ no i then (100 + i, mark S i) else
      if (flt d (ye i) (dep + 1) (mark S i)).1 = 0 then flt d (no i) (dep + 1) (flt d (ye i) (dep + 1) (mark S i)).2 else flt d (ye i) (dep + 1) (mark S i)
def fltI (ro : Nat → Nat) : Nat → Nat → (Nat → Bool) → Nat × (Nat → Bool)
  | 0, _, S => (0, S)
  | k + 1, i, S => if (flt n ru ye no 14 (ro i) 0 S).1 = 0 then fltI ro k (i + 1) (flt n ru ye no 14 (ro i) 0 S).2 else flt n ru ye no 14 (ro i) 0 S
end FOREST
theorem flt_lt {n : Nat} {ru : Nat → Int32} {ye no : Nat → Nat} (hn : n ≤ 60) : ∀ (d i dep : Nat) (S : Nat → Bool), i < n → (flt n ru ye no d i dep S).1 < 400 := by
  intro d
  induction d with
  | zero => intro i dep S _; exact (by decide : 0 < 400)
  | succ d ih =>
    intro i dep S hi
    unfold flt
    split
    · show 200 + i < 400; omega
    split
    · show 300 + i < 400; omega
    split
    · exact (by decide : 0 < 400)
    split
    · show 100 + i < 400; omega
    rename_i h
    split
    · exact ih _ _ _ (by omega)
    · exact ih _ _ _ (by omega)
/-- only cell k differs -/
def But1 (g g' : St) (k : Nat) : Prop := ∀ j, j ≠ k → g' j = g j
theorem But1.rf {g : St} {k : Nat} : But1 g g k := fun _ _ => rfl
theorem But1.tr {a b c : St} {k : Nat} (h1 : But1 a b k) (h2 : But1 b c k) : But1 a c k := fun j h => (h2 j h).trans (h1 j h)
theorem But1.ar {g : St} {k : Nat} {i v : Int32} : But1 g (ar g k i v) k := fun j h => ar_n _ _ _ _ _ h
theorem FoC_but {n : Nat} {ru bi : Nat → Int32} {fe ye no : Nat → Nat} {g g' : St} {k : Nat} (hk : 7 < k) (hk2 : k < 100) (hb : But1 g g' k) (h : FoC n ru bi fe ye no g) : FoC n ru bi fe ye no g' := by
  unfold FoC at *
  rw [hb 100 (by omega), hb 3 (by omega), hb 4 (by omega), hb 5 (by omega), hb 6 (by omega), hb 7 (by omega)]
  exact h
def Marks (g : St) (k : Nat) (S : Nat → Bool) : Prop := ∀ j, j < 60 → g k j = bB (S j)
theorem Marks_set {g : St} {k i : Nat} {S : Nat → Bool} (hi : i < 60) (h : Marks g k S) : Marks (ar g k (nI i) 1) k (mark S i) := by
  intro j hj
  rw [ar_at i (nI_clamp (by omega))]
  unfold mark
  by_cases hji : j = i
  · rw [if_pos hji, hji, beq_self_eq_true, Bool.true_or]; rfl
  · rw [if_neg hji, beq_eq_false_iff_ne.mpr hji, Bool.false_or]; exact h j hj
theorem s_isNode {n : Nat} {ru bi : Nat → Int32} {fe ye no : Nat → Nat} {g : St} {K : Int32 → St → Prop} {x : Nat} (hn : n ≤ 60) (hx : x < 60) (hF : FoC n ru bi fe ye no g) (h1 : x < n → K 1 g) (h0 : n ≤ x → K 0 g) : pc_Fo_isNode (nI x) g K := by
  unfold pc_Fo_isNode pb_Fo_isNode_0
  refine zb_f (nI_pos (by omega)) ?_
  exact pk_le n x h0 (fun q => h1 q) hF.1 rfl (by omega) (by omega)
theorem s_faultAt {n : Nat} {ru bi : Nat → Int32} {fe ye no : Nat → Nat} {g : St} {K : Int32 → St → Prop} {i dep : Nat} {S : Nat → Bool} (hV : FoV n ru fe ye no) (hi : i < n) (hd : dep < 1000) (hF : FoC n ru bi fe ye no g) (hM : Marks g 10 S)
    (h1 : S i = true → K (nI (200 + i)) g) (h2 : S i = false → 12 < dep → K (nI (300 + i)) (ar g 10 (nI i) 1)) (h3 : S i = false → ¬ 12 < dep → ¬ ru i = -1 → (n ≤ ye i ∨ n ≤ no i) → K (nI (100 + i)) (ar g 10 (nI i) 1)) (h4 : S i = false → ¬ 12 < dep → (ru i = -1 ∨ (ye i < n ∧ no i < n)) → K 0 (ar g 10 (nI i) 1)) : pc_Ch_faultAt (nI i) (nI dep) g K := by
  have hn := hV.1
  unfold pc_Ch_faultAt pb_Ch_faultAt_0
  have ci : (nI i).toNatClampNeg = i := nI_clamp (by omega)
  have ii : vp_in (nI i) 60 := vp_in_nI (by omega) (by decide)
  rw [ci, hM i (by omega)]
  refine ⟨ii, ?_⟩
  cases hS : S i with
  | true => exact zb_f (by decide) (by rw [show ((200 : Int32) + nI i) = nI (200 + i) from nI_add 200 i]; exact h1 hS)
  | false =>
    refine zb_t rfl ⟨ii, fun g1 e1 => ?_⟩
    have hF1 : FoC n ru bi fe ye no g1 := by rw [e1]; exact FoC_but (k := 10) (by decide) (by decide) But1.ar hF
    refine pk_le dep 12 (fun hle => ?_) (fun hgt => ?_) rfl rfl (by omega) (by decide)
    · unfold pc_Ch_isDangling pb_Ch_isDangling_0
      obtain ⟨f3, f5, fs⟩ := hF1.2 i hi
      refine s_isLeaf (by omega) (fun hl => zr_f (by decide) (zb_t rfl ?_)) (fun hl => zr_t rfl ⟨ii, ?_⟩)
      · rw [e1]; exact h4 hS (by omega) (Or.inl (by rw [← f3]; exact hl))
      · rw [f3] at hl
        obtain ⟨-, -, hy, ho⟩ := hV.2 i hi hl
        obtain ⟨f4, f6, f7⟩ := fs hl
        have bad : (n ≤ ye i ∨ n ≤ no i) → K ((100 : Int32) + nI i) g1 := fun q => by
          rw [show ((100 : Int32) + nI i) = nI (100 + i) from nI_add 100 i, e1]
          exact h3 hS (by omega) hl q
        rw [ci, f6]
        refine s_isNode hn hy hF1 (fun hyn => zb_f (by decide) ⟨ii, ?_⟩) (fun q => zb_t rfl (zb_f (by decide) (bad (Or.inl q))))
        rw [f7]
        refine s_isNode hn ho hF1 (fun hon => zr_f (by decide) (zb_t rfl ?_)) (fun q => zr_t rfl (zb_f (by decide) (bad (Or.inr q))))
        rw [e1]
        exact h4 hS (by omega) (Or.inr ⟨hyn, hon⟩)
    · rw [show ((300 : Int32) + nI i) = nI (300 + i) from nI_add 300 i, e1]
      exact h2 hS hgt
theorem s_faultFrom {n : Nat} {ru bi : Nat → Int32} {fe ye no : Nat → Nat} (hV : FoV n ru fe ye no) : ∀ (d dep i : Nat) (S : Nat → Bool) (g : St) (K : Int32 → St → Prop), dep + d = 14 → dep ≤ 13 → i < n → FoC n ru bi fe ye no g → Marks g 10 S →
    (∀ g', But1 g g' 10 → ((flt n ru ye no d i dep S).1 = 0 → Marks g' 10 (flt n ru ye no d i dep S).2) → K (nI (flt n ru ye no d i dep S).1) g') → pc_Ch_faultFrom d (nI i) (nI dep) g K := by
  have hn := hV.1
  intro d
  induction d with
  | zero => intro dep i S g K h1 h2; omega
  | succ d ih =>
    intro dep i S g K hd hd13 hi hF hM hk
    show pb_Ch_faultFrom_0 (pc_Ch_faultFrom d) K (nI i) (nI dep) g
    unfold pb_Ch_faultFrom_0
    have ci : (nI i).toNatClampNeg = i := nI_clamp (by omega)
    have ii : vp_in (nI i) 60 := vp_in_nI (by omega) (by decide)
    refine s_faultAt hV hi (by omega) hF hM (fun hS => ?_) (fun hS hdp => ?_) (fun hS hdp hl hb => ?_) (fun hS hdp hok => ?_)
    · intro v e
      refine zr_f (by rw [e]; exact nI_ne0 (by omega) (by omega)) ?_
      rw [e]
      have ef : flt n ru ye no (d + 1) i dep S = (200 + i, S) := by unfold flt; rw [if_pos hS]
      have := hk g But1.rf (fun q => by rw [ef] at q; exact absurd q (by show ¬ 200 + i = 0; omega))
      rw [ef] at this
      exact this
    · intro v e
      refine zr_f (by rw [e]; exact nI_ne0 (by omega) (by omega)) ?_
      rw [e]
      have ef : flt n ru ye no (d + 1) i dep S = (300 + i, mark S i) := by unfold flt; rw [if_neg (by rw [hS]; decide), if_pos hdp]
      have := hk (ar g 10 (nI i) 1) But1.ar (fun q => by rw [ef] at q; exact absurd q (by show ¬ 300 + i = 0; omega))
      rw [ef] at this
      exact this
    · intro v e
      refine zr_f (by rw [e]; exact nI_ne0 (by omega) (by omega)) ?_
      rw [e]
      have ef : flt n ru ye no (d + 1) i dep S = (100 + i, mark S i) := by unfold flt; rw [if_neg (by rw [hS]; decide), if_neg hdp, if_neg hl, if_pos hb]
      have := hk (ar g 10 (nI i) 1) But1.ar (fun q => by rw [ef] at q; exact absurd q (by show ¬ 100 + i = 0; omega))
      rw [ef] at this
      exact this
    · intro v e
      refine zr_t e ?_
      have hF1 : FoC n ru bi fe ye no (ar g 10 (nI i) 1) := FoC_but (k := 10) (by decide) (by decide) But1.ar hF
      have hM1 : Marks (ar g 10 (nI i) 1) 10 (mark S i) := Marks_set (by omega) hM
      obtain ⟨f3, f5, fs⟩ := hF1.2 i hi
      refine s_isLeaf (by omega) (fun hl => zb_f (by decide) ?_) (fun hl => zb_t rfl ⟨ii, ?_⟩)
      · rw [f3] at hl
        have ef : flt n ru ye no (d + 1) i dep S = (0, mark S i) := by unfold flt; rw [if_neg (by rw [hS]; decide), if_neg hdp, if_pos hl]
        have := hk (ar g 10 (nI i) 1) But1.ar (fun _ => by rw [ef]; exact hM1)
        rw [ef] at this
        rw [e]
        exact this
      · rw [f3] at hl
        have hyo := hok.resolve_left hl
        obtain ⟨f4, f6, f7⟩ := fs hl
        have ef : flt n ru ye no (d + 1) i dep S = if (flt n ru ye no d (ye i) (dep + 1) (mark S i)).1 = 0 then flt n ru ye no d (no i) (dep + 1) (flt n ru ye no d (ye i) (dep + 1) (mark S i)).2 else flt n ru ye no d (ye i) (dep + 1) (mark S i) := by
          conv => lhs; unfold flt
          rw [if_neg (by rw [hS]; decide), if_neg hdp, if_neg hl, if_neg (by omega)]
        rw [ci, f6, nI_1]
        refine ih (dep + 1) (ye i) (mark S i) _ _ (by omega) (by omega) hyo.1 hF1 hM1 (fun g2 hb2 hm2 => ?_)
        have l1 := flt_lt (n := n) (ru := ru) (ye := ye) (no := no) hn d (ye i) (dep + 1) (mark S i) hyo.1
        intro v8 e8
        by_cases hz : (flt n ru ye no d (ye i) (dep + 1) (mark S i)).1 = 0
        · refine zb_t (by rw [e8, hz]; rfl) ⟨ii, ?_⟩
          have hF2 : FoC n ru bi fe ye no g2 := FoC_but (k := 10) (by decide) (by decide) hb2 hF1
          obtain ⟨-, -, fs2⟩ := hF2.2 i hi
          rw [(fs2 hl).2.2]
          refine ih (dep + 1) (no i) _ _ _ (by omega) (by omega) hyo.2 hF2 (hm2 hz) (fun g3 hb3 hm3 => ?_)
          rw [ef, if_pos hz] at hk
          exact hk g3 ((But1.ar.tr hb2).tr hb3) hm3
        · refine zb_f (by rw [e8]; exact nI_ne0 (by omega) (by omega)) ?_
          rw [ef, if_neg hz] at hk
          rw [e8]
          exact hk g2 (But1.ar.tr hb2) (fun q => absurd q hz)
/-- the roots -/
def RoC (g : St) (t : Nat) (ro : Nat → Nat) : Prop := g 101 0 = nI t ∧ ∀ i, i < t → g 8 i = nI (ro i)
theorem s_firstFault {n t : Nat} {ru bi : Nat → Int32} {fe ye no ro : Nat → Nat} {g : St} {K : Int32 → St → Prop} (hV : FoV n ru fe ye no) (ht : t ≤ 8) (hro : ∀ i, i < t → ro i < n) (hF : FoC n ru bi fe ye no g) (hR : RoC g t ro)
    (hk : ∀ g', But1 g g' 10 → K (nI (fltI n ru ye no ro t 0 (fun _ => false)).1) g') : pc_Ch_firstFault g K := by
  have hn := hV.1
  unfold pc_Ch_firstFault pb_Ch_firstFault_0
  intro v1 e1
  rw [e1]
  unfold pl_Ch_firstFault_2
  intro P hP
  have trees : ∀ (k i : Nat) (S : Nat → Bool) (g' : St) (P2 : Int32 → Int32 → St → Prop), (∀ x1 x2 g, pb_Ch_firstFault_25 K P2 x1 x2 g → P2 x1 x2 g) → i + k = t → But1 g g' 10 → Marks g' 10 S → (∀ g'', But1 g g'' 10 → K (nI (fltI n ru ye no ro k i S).1) g'') → P2 0 (nI i) g' := by
    intro k
    induction k with
    | zero =>
      intro i S g' P2 hP2 hi hb hM hk
      apply hP2
      unfold pb_Ch_firstFault_25
      refine zb_t ?_ (hk g' hb)
      rw [hb 101 (by decide), hR.1]
      exact nI_le (by omega) (by omega)
    | succ k ih =>
      intro i S g' P2 hP2 hi hb hM hk
      apply hP2
      unfold pb_Ch_firstFault_25
      refine zb_f ?_ (zr_t rfl ⟨vp_in_nI (by omega) (by decide), ?_⟩)
      · rw [hb 101 (by decide), hR.1]
        exact nI_ge (by omega) (by omega)
      rw [hb 8 (by decide), nI_clamp (by omega : i < 2 ^ 31), hR.2 i (by omega)]
      have hF' : FoC n ru bi fe ye no g' := FoC_but (k := 10) (by decide) (by decide) hb hF
      have l1 := flt_lt (n := n) (ru := ru) (ye := ye) (no := no) hn 14 (ro i) 0 S (hro i (by omega))
      refine s_faultFrom hV 14 0 (ro i) S g' _ (by omega) (by omega) (hro i (by omega)) hF' hM (fun g2 hb2 hm2 => ?_)
      intro v3 e3 v4 e4
      rw [nI_1] at e4
      rw [e3, e4]
      by_cases hz : (flt n ru ye no 14 (ro i) 0 S).1 = 0
      · rw [hz]
        refine ih (i + 1) _ g2 P2 hP2 (by omega) (hb.tr hb2) (hm2 hz) (fun g3 hb3 => ?_)
        have := hk g3 hb3
        unfold fltI at this
        rw [if_pos hz] at this
        exact this
      · apply hP2
        unfold pb_Ch_firstFault_25
        have fin : K (nI (flt n ru ye no 14 (ro i) 0 S).1) g2 := by
          have := hk g2 (hb.tr hb2)
          unfold fltI at this
          rw [if_neg hz] at this
          exact this
        have hne : ¬ nI (flt n ru ye no 14 (ro i) 0 S).1 = 0 := nI_ne0 (by omega) (by omega)
        exact pk_le t (i + 1) (fun _ => fin) (fun _ => zr_f hne fin) (by rw [(hb.tr hb2) 101 (by decide), hR.1]) rfl (by omega) (by omega)
  have main : ∀ (k i : Nat) (g' : St), i + k = 60 → But1 g g' 10 → (∀ j, j < i → g' 10 j = 0) → P (nI i) g' := by
    intro k
    induction k with
    | zero =>
      intro i g' hi hb hz
      apply hP
      unfold pb_Ch_firstFault_2
      refine zb_t (nI_le (a := 60) (by omega) (by omega)) ?_
      intro w1 f1 w2 f2
      rw [f1, f2]
      unfold pl_Ch_firstFault_25
      intro P2 hP2
      exact trees t 0 (fun _ => false) g' P2 hP2 (by omega) hb (fun j hj => hz j (by omega)) hk
    | succ k ih =>
      intro i g' hi hb hz
      apply hP
      unfold pb_Ch_firstFault_2
      refine zb_f (nI_ge (b := 60) (by omega) (by decide)) ⟨vp_in_nI (by omega) (by decide), fun g3 e3 v4 e4 => ?_⟩
      rw [nI_1] at e4
      rw [e4]
      refine ih (i + 1) g3 (by omega) (hb.tr (by rw [e3]; exact But1.ar)) (fun j hj => ?_)
      rw [e3, ar_at i (nI_clamp (by omega))]
      by_cases hji : j = i
      · rw [if_pos hji]
      · rw [if_neg hji]; exact hz j (by omega)
  exact main 60 0 g (by omega) But1.rf (fun j hj => by omega)
