/-! compile, third stage: the class writes what the function says -/
def SC (cc a : Nat) (g : St) (w : Ws) : Prop := g 104 0 = nI w.1.length ∧ (∀ (p : Nat) (v : Int32), w.1[p]? = some v → g 20 p = v) ∧ 1 ≤ cc ∧ cc ≤ 60 ∧ g 103 0 = nI cc ∧ g 18 (cc - 1) = nI a ∧ g 18 cc = nI (a + w.2.length) ∧ ∀ (k : Nat) (x : KB), w.2[k]? = some x → g 16 (a + k) = x.1 ∧ g 17 (a + k) = x.2
def FC (cc a : Nat) (g0 g : St) : Prop := (∀ j, j ≠ 16 → j ≠ 17 → j ≠ 18 → j ≠ 20 → j ≠ 104 → g j = g0 j) ∧ (∀ p, p < a → g 16 p = g0 16 p ∧ g 17 p = g0 17 p) ∧ ∀ j, j ≠ cc → g 18 j = g0 18 j
theorem get_put {α : Type} {l : List α} {b v : α} {p : Nat} (h : (l ++ [b])[p]? = some v) : (p = l.length ∧ v = b) ∨ (p < l.length ∧ l[p]? = some v) := by
  have hlt := (List.getElem?_eq_some_iff.mp h).1
  simp at hlt
  by_cases e : p = l.length
  · rw [e, List.getElem?_concat_length] at h
    exact Or.inl ⟨e, (Option.some.inj h).symm⟩
  · rw [List.getElem?_append_left (by omega)] at h
    exact Or.inr ⟨by omega, h⟩
section WRC
variable {cc a : Nat} {g0 : St}
theorem s_writeByte {g : St} {K : St → Prop} {w : Ws} {v : Int32} (hS : SC cc a g w) (hF : FC cc a g0 g) (hB : w.1.length < 600) (hk : ∀ g', SC cc a g' (put w v) → FC cc a g0 g' → K g') : pc_Co_writeByte v g K := by
  obtain ⟨h1, h2, h3, h4, h5, h6, h7, h8⟩ := hS
  have cl : (nI w.1.length).toNatClampNeg = w.1.length := nI_clamp (by omega)
  unfold pc_Co_writeByte pb_Co_writeByte_0
  rw [h1]
  refine zb_f (nI_ge (b := 600) hB (by decide)) ⟨vp_in_nI hB (by decide), fun g1 e1 g2 e2 => ?_⟩
  have m1 : g1 104 0 = nI w.1.length := by rw [e1, ar_n _ _ _ _ _ (by decide)]; exact h1
  rw [m1, nI_1] at e2
  have o : ∀ j, j ≠ 20 → j ≠ 104 → g2 j = g j := fun j j1 j2 => by rw [e2, sc_n _ _ _ _ j2, e1, ar_n _ _ _ _ _ j1]
  refine hk g2 ⟨?_, fun p u hp => ?_, h3, h4, by rw [o 103 (by decide) (by decide)]; exact h5, by rw [o 18 (by decide) (by decide)]; exact h6, by rw [o 18 (by decide) (by decide)]; exact h7, fun k x hx => by rw [o 16 (by decide) (by decide), o 17 (by decide) (by decide)]; exact h8 k x hx⟩ ⟨fun j j1 j2 j3 j4 j5 => by rw [o j j4 j5]; exact hF.1 j j1 j2 j3 j4 j5, fun p hp => by rw [o 16 (by decide) (by decide), o 17 (by decide) (by decide)]; exact hF.2.1 p hp, fun j hj => by rw [o 18 (by decide) (by decide)]; exact hF.2.2 j hj⟩
  · rw [e2, sc_s]
    show _ = nI (w.1 ++ [v]).length
    simp
  · rw [e2, sc_n _ _ _ _ (by decide), e1, ar_at w.1.length cl]
    rcases get_put hp with ⟨q1, q2⟩ | ⟨q1, q2⟩
    · rw [if_pos q1, q2]
    · rw [if_neg (by omega)]; exact h2 p u q2
theorem s_writePair {g : St} {K : St → Prop} {w : Ws} {v u : Int32} (hS : SC cc a g w) (hF : FC cc a g0 g) (hB : w.1.length + 1 < 600) (hk : ∀ g', SC cc a g' (put (put w v) u) → FC cc a g0 g' → K g') : pc_Co_writePair v u g K := by
  unfold pc_Co_writePair pb_Co_writePair_0
  refine s_writeByte hS hF (by omega) (fun g1 S1 F1 => s_writeByte S1 F1 ?_ hk)
  show (w.1 ++ [v]).length < 600
  simp; omega
theorem s_numberFor {g : St} {K : Int32 → St → Prop} {w : Ws} {kb : KB} (hS : SC cc a g w) (hF : FC cc a g0 g) (hE : a + w.2.length < 120) (hk : ∀ g', SC cc a g' (w.1, ins w.2 kb) → FC cc a g0 g' → K (nI (fnd w.2 kb)) g') : pc_Ta_numberFor kb.1 kb.2 g K := by
  have hS0 := hS
  obtain ⟨h1, h2, h3, h4, h5, h6, h7, h8⟩ := hS
  obtain ⟨c1, rfl⟩ : ∃ c1, cc = c1 + 1 := ⟨cc - 1, by omega⟩
  have h6 : g 18 c1 = nI a := h6
  unfold pc_Ta_numberFor pb_Ta_numberFor_0
  rw [h5, nI_pred, nI_clamp (by omega : c1 < 2 ^ 31), h6]
  refine zb_f (nI_nle (by omega) (by omega)) ⟨vp_in_nI (by omega) (by decide), ?_⟩
  unfold pb_Ta_numberFor_22
  intro v1 e1
  rw [h5, nI_clamp (by omega : c1 + 1 < 2 ^ 31), h7]
  refine ⟨vp_in_nI (by omega) (by decide), fun v2 e2 v3 e3 => ?_⟩
  rw [e3, e2, e1]
  unfold pl_Ta_numberFor_37
  intro P hP
  have fl := fnd_le w.2 kb
  have main : ∀ (r k : Nat), k + r = fnd w.2 kb → P kb.1 kb.2 (nI a) (nI (a + w.2.length)) (nI (a + k)) g := by
    intro r
    induction r with
    | zero =>
      intro k hk0
      have hk0 : k = fnd w.2 kb := by omega
      apply hP
      unfold pb_Ta_numberFor_37 pb_Ta_numberFor_113
      by_cases hlt : fnd w.2 kb < w.2.length
      · have hg := fnd_get w.2 kb hlt
        rw [← hk0] at hg hlt
        obtain ⟨x1, x2⟩ := h8 k kb hg
        refine zb_f (nI_ge (by omega) (by omega)) ⟨vp_in_nI (by omega) (by decide), ?_⟩
        rw [nI_clamp (by omega : a + k < 2 ^ 31), x1, x2]
        refine zr_t rfl ⟨vp_in_nI (by omega) (by decide), zr_t rfl ?_⟩
        rw [pk_sub (by omega), show a + k - a = fnd w.2 kb by omega]
        refine hk g ?_ hF
        have ei : ins w.2 kb = w.2 := by unfold ins; rw [if_pos (by omega)]
        rw [ei]
        exact hS0
      · have hkl : k = w.2.length := by omega
        have ei : ins w.2 kb = w.2 ++ [kb] := by unfold ins; rw [if_neg hlt]
        have ce : (nI (a + w.2.length)).toNatClampNeg = a + w.2.length := nI_clamp (by omega)
        have ie : vp_in (nI (a + w.2.length)) 120 := vp_in_nI (by omega) (by decide)
        refine zb_t (nI_le (by omega) (by omega)) ?_
        refine zb_f (nI_ge (b := 120) (by omega) (by decide)) ⟨ie, fun g1 f1 => ⟨ie, fun g2 f2 => ?_⟩⟩
        have m2 : g2 103 0 = nI (c1 + 1) := by rw [f2, ar_n _ _ _ _ _ (by decide), f1, ar_n _ _ _ _ _ (by decide)]; exact h5
        rw [m2]
        refine ⟨vp_in_nI (by omega) (by decide), fun g3 f3 => ?_⟩
        rw [nI_1] at f3
        have cc1 : (nI (c1 + 1)).toNatClampNeg = c1 + 1 := nI_clamp (by omega)
        rw [pk_sub (by omega), show a + w.2.length - a = fnd w.2 kb by omega]
        have o : ∀ j, j ≠ 16 → j ≠ 17 → j ≠ 18 → g3 j = g j := fun j j1 j2 j3 => by rw [f3, ar_n _ _ _ _ _ j3, f2, ar_n _ _ _ _ _ j2, f1, ar_n _ _ _ _ _ j1]
        have o16 : ∀ p, g3 16 p = if p = a + w.2.length then kb.1 else g 16 p := fun p => by rw [f3, ar_n _ _ _ _ _ (by decide), f2, ar_n _ _ _ _ _ (by decide), f1, ar_at _ ce]
        have o17 : ∀ p, g3 17 p = if p = a + w.2.length then kb.2 else g 17 p := fun p => by rw [f3, ar_n _ _ _ _ _ (by decide), f2, ar_at _ ce, f1, ar_n _ _ _ _ _ (by decide)]
        have o18 : ∀ p, g3 18 p = if p = c1 + 1 then nI (a + w.2.length + 1) else g 18 p := fun p => by rw [f3, ar_at _ cc1, f2, ar_n _ _ _ _ _ (by decide), f1, ar_n _ _ _ _ _ (by decide)]
        refine hk g3 ?_ ⟨fun j j1 j2 j3 j4 j5 => by rw [o j j1 j2 j3]; exact hF.1 j j1 j2 j3 j4 j5, fun p hp => ?_, fun j hj => ?_⟩
        · rw [ei]
          refine ⟨by rw [o 104 (by decide) (by decide) (by decide)]; exact h1, fun p v hp => by rw [o 20 (by decide) (by decide) (by decide)]; exact h2 p v hp, h3, h4, by rw [o 103 (by decide) (by decide) (by decide)]; exact h5, ?_, ?_, fun k x hx => ?_⟩
          · show g3 18 c1 = nI a
            rw [o18, if_neg (by omega)]; exact h6
          · rw [o18, if_pos rfl]
            show _ = nI (a + (w.2 ++ [kb]).length)
            rw [List.length_append]
            rfl
          · rw [o16, o17]
            rcases get_put hx with ⟨q1, q2⟩ | ⟨q1, q2⟩
            · rw [if_pos (by omega), if_pos (by omega), q2]; exact ⟨rfl, rfl⟩
            · rw [if_neg (by omega), if_neg (by omega)]; exact h8 k x q2
        · rw [o16, o17, if_neg (by omega), if_neg (by omega)]; exact hF.2.1 p hp
        · rw [o18, if_neg hj]; exact hF.2.2 j hj
    | succ r ih =>
      intro k hk0
      have hlt : k < w.2.length := by omega
      have hne := fnd_not w.2 kb k (by omega)
      apply hP
      unfold pb_Ta_numberFor_37 pb_Ta_numberFor_71
      obtain ⟨x, hx⟩ : ∃ x, w.2[k]? = some x := ⟨_, List.getElem?_eq_getElem hlt⟩
      obtain ⟨x1, x2⟩ := h8 k x hx
      have nxt : ∀ v1 : Int32, v1 = nI (a + k) + 1 → P kb.1 kb.2 (nI a) (nI (a + w.2.length)) v1 g := fun v1 e1 => by
        rw [nI_1] at e1
        rw [e1]
        exact ih (k + 1) (by omega)
      refine zb_f (nI_ge (by omega) (by omega)) ⟨vp_in_nI (by omega) (by decide), ?_⟩
      rw [nI_clamp (by omega : a + k < 2 ^ 31), x1, x2]
      by_cases q1 : x.1 = kb.1
      · refine zr_t q1 ⟨vp_in_nI (by omega) (by decide), ?_⟩
        refine zr_f (fun q2 => hne ?_) nxt
        rw [hx]
        exact congrArg some (Prod.ext q1 q2)
      · exact zr_f q1 nxt
  exact main (fnd w.2 kb) 0 (by omega)
end WRC
section WRC2
variable {n cc a : Nat} {ru bi : Nat → Int32} {fe ye no : Nat → Nat} {s : Cs} {g0 : St}
theorem FC_FoC {g : St} (h : FC cc a g0 g) (hF : FoC n ru bi fe ye no g0) : FoC n ru bi fe ye no g := by
  have o := h.1
  exact FoC_of (o 3 (by decide) (by decide) (by decide) (by decide) (by decide)) (o 4 (by decide) (by decide) (by decide) (by decide) (by decide)) (o 5 (by decide) (by decide) (by decide) (by decide) (by decide)) (o 6 (by decide) (by decide) (by decide) (by decide) (by decide)) (o 7 (by decide) (by decide) (by decide) (by decide) (by decide)) (o 100 (by decide) (by decide) (by decide) (by decide) (by decide)) hF
theorem s_writeTest {g : St} {K : St → Prop} {w : Ws} {r y : Nat} (hS : SC cc a g w) (hF : FC cc a g0 g) (hB : w.1.length + tl y ≤ 600) (hr : r < 6) (hy : y ≤ 400) (hk : ∀ g', SC cc a g' (tst w r y) → FC cc a g0 g' → K g') : pc_Co_writeTest (nI r) (nI y) g K := by
  unfold pc_Co_writeTest pb_Co_writeTest_0
  refine s_testLength hy ?_
  intro v3 e3 v4 e4
  rw [e3, nI_add] at e4
  have ht := tl_b y
  unfold tst at hk
  by_cases h2 : tl y = 2
  · rw [if_pos h2] at hk
    refine zr_t (by rw [e3, h2]; rfl) ?_
    rw [show ((10 : Int32) + nI r) = nI (10 + r) from nI_add 10 r, e4, h2]
    exact s_writePair hS hF (by omega) hk
  · have h3 : tl y = 3 := by omega
    rw [if_neg h2] at hk
    refine zr_f (by rw [e3, h3]; decide) ?_
    rw [show ((20 : Int32) + nI r) = nI (20 + r) from nI_add 20 r, e4, h3]
    have d1 : nI (3 + y) >>> ((8 : Int32) &&& 31) = nI ((3 + y) / 256) := pk_shrN (by omega) _ 8 (by decide)
    have d2 : nI (3 + y) &&& (255 : Int32) = nI ((3 + y) % 256) := pk_andN (by omega) 8 (by decide)
    rw [d1, d2]
    refine s_writePair hS hF (by omega) (fun g1 S1 F1 => s_writeByte S1 F1 ?_ hk)
    show ((w.1 ++ [_]) ++ [_]).length < 600
    simp; omega
theorem s_kind {g : St} {K : Int32 → St → Prop} {x : Nat} (hV : FoV n ru fe ye no) (hx : x < n) (hF : FoC n ru bi fe ye no g) (hk : K (if ru x = -1 then 2 else knd ru x) g) : pc_Fo_kindOfEntry (nI x) g K := by
  have hn := hV.1
  unfold pc_Fo_kindOfEntry pb_Fo_kindOfEntry_0
  obtain ⟨f3, -, -⟩ := hF.2 x hx
  refine s_isLeaf (by omega) (fun hl => zb_f (by decide) ?_) (fun hl => zb_t rfl ⟨vp_in_nI (by omega) (by decide), ?_⟩)
  · rw [if_pos (f3.symm.trans hl)] at hk; exact hk
  · rw [if_neg (fun q => hl (f3.trans q))] at hk
    rw [nI_clamp (by omega : x < 2 ^ 31), f3]
    unfold pc_Ru_isBitRule pb_Ru_isBitRule_0
    unfold knd at hk
    by_cases h4 : ru x < 4
    · rw [if_neg (Int32.not_le.mpr h4)] at hk
      exact zb_t h4 (zb_t rfl hk)
    · rw [if_pos (Int32.not_lt.mp h4)] at hk
      exact zb_f h4 (zb_f (by decide) hk)
theorem s_writeCode (hV : FoV n ru fe ye no) (hF0 : FoC n ru bi fe ye no g0) : ∀ (d D dep i : Nat) (w : Ws) (g : St) (K : St → Prop), d ≤ D → dep + d ≤ 13 → TR n ru ye no d i → (nds ru ye no d i).Nodup → Len ru ye no s (nds ru ye no d i) → (∀ x ∈ nds ru ye no d i, s.1 x ≤ 400 ∧ s.2.1 x ≤ 60 ∧ g0 12 x = nI (s.1 x) ∧ (x ≠ i → g0 13 x = cI0 (s.2.1 x))) → SC cc a g w → FC cc a g0 g → w.1.length + s.1 i ≤ 600 → a + w.2.length + eN ru ye no s d i ≤ 120 →
    (∀ g', SC cc a g' (wrN ru bi fe ye no s d i w) → FC cc a g0 g' → K g') → pc_Co_writeCode D (nI i) (nI dep) g K := by
  have hn := hV.1
  intro d
  induction d with
  | zero => intro D dep i w g K _ _ h; exact h.elim
  | succ d ih =>
    intro D dep i w g K hD hdep hT hN hL hA hS hF hB hE hk
    obtain ⟨D', rfl⟩ : ∃ D', D = D' + 1 := ⟨D - 1, by omega⟩
    have hTi := hT
    obtain ⟨hi, hT⟩ := hT
    show pb_Co_writeCode_0 (pc_Co_writeCode D') K (nI i) (nI dep) g
    unfold pb_Co_writeCode_0
    have ii : vp_in (nI i) 60 := vp_in_nI (by omega) (by decide)
    have ci : (nI i).toNatClampNeg = i := nI_clamp (by omega)
    have hFg := FC_FoC hF hF0
    obtain ⟨f3, f5, fs⟩ := hFg.2 i hi
    refine zb_t (nI_le (b := 12) (by omega) (by decide)) ?_
    rcases hT with hl | ⟨hl, h1, h2⟩
    · rw [wrN_leaf hl] at hk
      rw [eN_leaf hl] at hE
      have L3 : s.1 i = 3 := (hL i (by rw [nds_leaf hl]; simp)).1 hl
      refine s_isLeaf (by omega) (fun _ => ?_) (fun q => absurd (f3.trans hl) q)
      intro v3 e3
      refine zr_f (by rw [e3]; decide) ?_
      unfold pb_Co_writeCode_34
      refine s_kind hV hi hFg ⟨ii, ?_⟩
      rw [if_pos hl, ci, f5]
      refine s_numberFor (kb := (2, bi i)) hS hF (by omega) (fun g1 S1 F1 => ?_)
      refine s_writePair S1 F1 (by show w.1.length + 1 < 600; omega) (fun g2 S2 F2 => ?_)
      refine zb_f (by rw [e3]; decide) ?_
      refine s_writeByte S2 F2 (by show ((w.1 ++ [_]) ++ [_]).length < 600; simp; omega) (fun g3 S3 F3 => hk g3 S3 F3)
    · obtain ⟨f4, f6, f7⟩ := fs hl
      obtain ⟨⟨r, r6, er⟩, fe8, y60, o60⟩ := hV.2 i hi hl
      have hNs := hN
      have hch := nds_child (d + 1) i hTi hN i (nds_self hTi) hl
      rw [nds_split hl] at hL hA hch
      rw [nds_split hl, List.nodup_cons, List.nodup_append] at hN
      obtain ⟨n1, n2, n3, n4⟩ := hN
      simp only [List.mem_append, not_or] at n1
      have my : ye i ∈ nds ru ye no d (ye i) := nds_self h1
      have mo : no i ∈ nds ru ye no d (no i) := nds_self h2
      have Ay := hA (ye i) (by simp [my])
      have Ao := hA (no i) (by simp [mo])
      have Li : s.1 i = sln ye no s i := (hL i (by simp)).2 hl
      have hLy : Len ru ye no s (nds ru ye no d (ye i)) := fun x hx => hL x (by simp [hx])
      have hLo : Len ru ye no s (nds ru ye no d (no i)) := fun x hx => hL x (by simp [hx])
      rw [wrN_split hl] at hk
      rw [eN_split hl] at hE
      have yn := hch.2.2
      have arr : ∀ g, FC cc a g0 g → ∀ x, (x = ye i ∨ x = no i) → Arr2 g s x := by
        intro g hF x hx
        have q : x ∈ i :: (nds ru ye no d (ye i) ++ nds ru ye no d (no i)) ∧ x ≠ i := by
          rcases hx with rfl | rfl
          · exact ⟨by simp [my], hch.1.2⟩
          · exact ⟨by simp [mo], hch.2.1.2⟩
        have := hA x q.1
        exact ⟨by rw [hF.1 12 (by decide) (by decide) (by decide) (by decide) (by decide)]; exact this.2.2.1, by rw [hF.1 13 (by decide) (by decide) (by decide) (by decide) (by decide)]; exact this.2.2.2 q.2, this.1, this.2.1⟩
      -- a child's part
      have part : ∀ (x : Nat) (w1 : Ws) (g1 : St) (K1 : St → Prop), (x = ye i ∨ x = no i) → TR n ru ye no d x → (nds ru ye no d x).Nodup → Len ru ye no s (nds ru ye no d x) → (∀ y ∈ nds ru ye no d x, y ∈ i :: (nds ru ye no d (ye i) ++ nds ru ye no d (no i)) ∧ y ≠ i) → SC cc a g1 w1 → FC cc a g0 g1 → w1.1.length + prt s x ≤ 600 → a + w1.2.length + eP ru ye no s d x ≤ 120 → (∀ g', SC cc a g' (wrP ru bi fe ye no s d x w1) → FC cc a g0 g' → K1 g') → pc_Co_writePart (pc_Co_writeCode D') (nI x) (nI (dep + 1)) g1 K1 := by
        intro x w1 g1 K1 hx hTx hNx hLx hmem S1 F1 hB1 hE1 hk1
        obtain ⟨q1, q2, q3, q4⟩ := arr g1 F1 x hx
        have hx60 : x < 60 := by
          rcases hx with rfl | rfl
          · exact y60
          · exact o60
        unfold pc_Co_writePart pb_Co_writePart_0
        rw [nI_clamp (by omega : x < 2 ^ 31), q2]
        refine ⟨vp_in_nI hx60 (by decide), fun v1 e1 => ?_⟩
        rw [e1]
        unfold wrP at hk1
        unfold prt at hB1
        unfold eP at hE1
        by_cases hc : s.2.1 x = 0
        · rw [if_pos hc] at hk1 hB1 hE1
          refine zr_t ((cI0_m (by omega)).mpr hc) ?_
          exact ih D' (dep + 1) x w1 g1 _ (by omega) (by omega) hTx hNx hLx (fun y hy => by
            have w := hA y (hmem y hy).1
            exact ⟨w.1, w.2.1, w.2.2.1, fun _ => w.2.2.2 (hmem y hy).2⟩) S1 F1 hB1 hE1 hk1
        · rw [if_neg hc] at hk1 hB1 hE1
          refine zr_f (fun q => hc ((cI0_m (by omega)).mp q)) ?_
          obtain ⟨m, hm⟩ : ∃ m, s.2.1 x = m + 1 := ⟨s.2.1 x - 1, by omega⟩
          rw [hm, cI0_s]
          rw [hm, show m + 1 - 1 = m by omega] at hk1
          refine s_numberFor (kb := (4, nI m)) S1 F1 (by omega) (fun g2 S2 F2 => ?_)
          refine s_writePair S2 F2 (by show w1.1.length + 1 < 600; omega) (fun g3 S3 F3 => ?_)
          exact s_writeByte S3 F3 (by show ((w1.1 ++ [_]) ++ [_]).length < 600; simp; omega) (fun g4 S4 F4 => hk1 g4 S4 F4)
      have LL : s.1 i = 4 + tl (prt s (ye i)) + prt s (ye i) + prt s (no i) := Li
      refine s_isLeaf (by omega) (fun q => absurd (f3.symm.trans q) hl) (fun _ => ?_)
      intro v3 e3
      refine zr_t e3 ⟨ii, ?_⟩
      rw [ci, f4]
      have ht := tl_b (prt s (ye i))
      refine s_writePair hS hF (by omega) (fun g1 S1 F1 => ?_)
      have hF1 := FC_FoC F1 hF0
      unfold pb_Co_writeCode_34
      refine s_kind hV hi hF1 ⟨ii, ?_⟩
      rw [if_neg hl, ci, (hF1.2 i hi).2.1]
      refine s_numberFor (kb := (knd ru i, bi i)) S1 F1 (by show a + w.2.length < 120; omega) (fun g2 S2 F2 => ?_)
      have len2 : ((w.1 ++ [(1 : Int32)]) ++ [nI (fe i)]).length = w.1.length + 2 := by simp
      refine s_writePair S2 F2 (by show ((w.1 ++ [(1 : Int32)]) ++ [nI (fe i)]).length + 1 < 600; omega) (fun g3 S3 F3 => ?_)
      have hF3 := FC_FoC F3 hF0
      refine zb_t e3 ⟨ii, ii, ?_⟩
      rw [((hF3.2 i hi).2.2 hl).2.1, (hF3.2 i hi).1, er]
      refine s_partLength y60 (arr g3 F3 (ye i) (Or.inl rfl)) ?_
      have len3 : (((w.1 ++ [(1 : Int32)]) ++ [nI (fe i)]) ++ [(2 : Int32)] ++ [nI (fnd w.2 (knd ru i, bi i))]).length = w.1.length + 4 := by simp
      refine s_writeTest (r := r) S3 F3 (by show (((w.1 ++ [(1 : Int32)]) ++ [nI (fe i)]) ++ [(2 : Int32)] ++ [nI (fnd w.2 (knd ru i, bi i))]).length + tl (prt s (ye i)) ≤ 600; omega) r6 (by have := prt_le (arr g3 F3 (ye i) (Or.inl rfl)); omega) (fun g4 S4 F4 => ⟨ii, ?_⟩)
      have hhd : SC cc a g4 (hd ru bi fe ye s i w) := by
        have e : rnum (ru i) = r := by unfold rnum; rw [er]; exact nI_clamp (by omega)
        unfold hd
        rw [e]
        exact S4
      have hF4 := FC_FoC F4 hF0
      rw [((hF4.2 i hi).2.2 hl).2.1, nI_1]
      obtain ⟨X0, Y0, x0, y0, l0, m0⟩ := Ext_hd (ru := ru) (bi := bi) (fe := fe) (ye := ye) (s := s) w i
      have lb0 : (hd ru bi fe ye s i w).1.length = w.1.length + (4 + tl (prt s (ye i))) := by rw [x0]; simp [l0]
      have le0 : (hd ru bi fe ye s i w).2.length ≤ w.2.length + 1 := by rw [y0]; simp; omega
      refine part (ye i) _ g4 _ (Or.inl rfl) h1 n2 hLy (fun y hy => ⟨by simp [hy], ne_mem n1.1 hy⟩) hhd F4 (by omega) (by omega) (fun g5 S5 F5 => ⟨ii, ?_⟩)
      have hF5 := FC_FoC F5 hF0
      rw [((hF5.2 i hi).2.2 hl).2.2]
      obtain ⟨X1, Y1, x1, y1, l1, m1⟩ := wrP_ext (bi := bi) (fe := fe) (hd ru bi fe ye s i w) h1 hLy
      have lb1 : (wrP ru bi fe ye no s d (ye i) (hd ru bi fe ye s i w)).1.length = (hd ru bi fe ye s i w).1.length + prt s (ye i) := by rw [x1]; simp [l1]
      have le1 : (wrP ru bi fe ye no s d (ye i) (hd ru bi fe ye s i w)).2.length ≤ (hd ru bi fe ye s i w).2.length + eP ru ye no s d (ye i) := by rw [y1]; simp; omega
      exact part (no i) _ g5 _ (Or.inr rfl) h2 n3 hLo (fun y hy => ⟨by simp [hy], ne_mem n1.2 hy⟩) S5 F5 (by omega) (by omega) hk
end WRC2
