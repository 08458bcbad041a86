/-! Simple calls: leaf, split, tree, set, and the readers. -/
theorem s_rng {x V : Int32} {n : Nat} {A B : Prop} (hV : V = nI n) (hn : n < 2 ^ 31) (h0 : (∀ j, j < n → x ≠ nI j) → A) (h1 : ∀ j, j < n → x = nI j → B) : ((x < 0 → A) ∧ (¬ x < 0 → ((V ≤ x → A) ∧ (¬ V ≤ x → B)))) := by
  subst hV
  rcases pk_ix x hn with h | h | ⟨j, hj, e⟩
  · exact zb_t h (h0 (fun j hj e => nI_pos (n := j) (by omega) (by rw [← e]; exact h)))
  · have h2 : ¬ x < 0 := by
      rw [Int32.le_iff_toInt_le, nI_toInt hn] at h
      rw [Int32.lt_iff_toInt_lt, show (0 : Int32).toInt = 0 from by decide]
      omega
    refine zb_f h2 (zb_t h (h0 (fun j hj e => ?_)))
    rw [e] at h
    exact nI_ge hj hn h
  · subst e
    exact zb_f (nI_pos (by omega)) (zb_f (nI_ge hj hn) (h1 j hj rfl))
theorem s_out {x hi : Int32} {n : Nat} {A B : Prop} (hh : hi.toInt = (n : Int) - 1) (hn : n < 2 ^ 31) (h0 : (∀ j, j < n → x ≠ nI j) → A) (h1 : ∀ j, j < n → x = nI j → B) : ((x < 0 → A) ∧ (¬ x < 0 → ((x ≤ hi → B) ∧ (¬ x ≤ hi → A)))) := by
  rcases pk_ix x hn with h | h | ⟨j, hj, e⟩
  · exact zb_t h (h0 (fun j hj e => nI_pos (n := j) (by omega) (by rw [← e]; exact h)))
  · have h3 := h
    rw [Int32.le_iff_toInt_le, nI_toInt hn] at h
    have h2 : ¬ x < 0 := by
      rw [Int32.lt_iff_toInt_lt, show (0 : Int32).toInt = 0 from by decide]
      omega
    refine zb_f h2 (zb_f ?_ (h0 (fun j hj e => ?_)))
    · rw [Int32.le_iff_toInt_le, hh]; omega
    · rw [e] at h3
      exact nI_ge hj hn h3
  · subst e
    refine zb_f (nI_pos (by omega)) (zb_t ?_ (h1 j hj rfl))
    rw [Int32.le_iff_toInt_le, hh, nI_toInt (by omega)]; omega
def addC (g : St) (n : Nat) (r f b y o : Int32) : St := sc (ar (ar (ar (ar (ar g 3 (nI n) r) 4 (nI n) f) 5 (nI n) b) 6 (nI n) y) 7 (nI n) o) 100 (nI (n + 1))
theorem s_addNode {g : St} {K : Int32 → St → Prop} {n : Nat} (r f b y o : Int32) (hn : g 100 0 = nI n) (h60 : n ≤ 60) (h1 : n = 60 → K (-1) g) (h2 : n < 60 → K (nI n) (addC g n r f b y o)) : pc_Fo_addNode r f b y o g K := by
  unfold pc_Fo_addNode pb_Fo_addNode_0
  refine pk_lt n 60 (fun hlt => ?_) (fun hge => h1 (by omega)) hn
  refine ⟨by rw [hn]; exact vp_in_nI hlt (by decide), fun g1 e1 => ?_⟩
  rw [hn] at e1
  have n1 : g1 100 0 = nI n := by rw [e1, ar_n _ _ _ _ _ (by decide)]; exact hn
  refine ⟨by rw [n1]; exact vp_in_nI hlt (by decide), fun g2 e2 => ?_⟩
  rw [n1] at e2
  have n2 : g2 100 0 = nI n := by rw [e2, ar_n _ _ _ _ _ (by decide)]; exact n1
  refine ⟨by rw [n2]; exact vp_in_nI hlt (by decide), fun g3 e3 => ?_⟩
  rw [n2] at e3
  have n3 : g3 100 0 = nI n := by rw [e3, ar_n _ _ _ _ _ (by decide)]; exact n2
  refine ⟨by rw [n3]; exact vp_in_nI hlt (by decide), fun g4 e4 => ?_⟩
  rw [n3] at e4
  have n4 : g4 100 0 = nI n := by rw [e4, ar_n _ _ _ _ _ (by decide)]; exact n3
  refine ⟨by rw [n4]; exact vp_in_nI hlt (by decide), fun g5 e5 g6 e6 => ?_⟩
  rw [n4] at e5
  have n5 : g5 100 0 = nI n := by rw [e5, ar_n _ _ _ _ _ (by decide)]; exact n4
  rw [n5, nI_1] at e6
  have n6 : g6 100 0 = nI (n + 1) := by rw [e6, sc_s]
  rw [n6, nI_pred, e6, e5, e4, e3, e2, e1]
  exact h2 hlt
def addLM (g : St) (n : Nat) (b : Int32) : St := sc (ar (ar g 1 (nI n) (-1)) 3 (nI n) b) 100 (nI (n + 1))
theorem s_Mleaf {g : St} {K : Int32 → St → Prop} {n : Nat} (b : Int32) (hn : g 100 0 = nI n) (h60 : n ≤ 60) (h1 : n = 60 → K (-1) g) (h2 : n < 60 → K (nI n) (addLM g n b)) : pc_Mo_leaf b g K := by
  unfold pc_Mo_leaf pb_Mo_leaf_0
  refine pk_ne n 60 (fun hlt => ?_) (fun hge => h1 (by omega)) hn
  have hlt : n < 60 := by omega
  refine ⟨by rw [hn]; exact vp_in_nI hlt (by decide), fun g1 e1 => ?_⟩
  rw [hn] at e1
  have n1 : g1 100 0 = nI n := by rw [e1, ar_n _ _ _ _ _ (by decide)]; exact hn
  refine ⟨by rw [n1]; exact vp_in_nI hlt (by decide), fun g2 e2 g3 e3 => ?_⟩
  rw [n1] at e2
  have n2 : g2 100 0 = nI n := by rw [e2, ar_n _ _ _ _ _ (by decide)]; exact n1
  rw [n2, nI_1] at e3
  have n3 : g3 100 0 = nI (n + 1) := by rw [e3, sc_s]
  rw [n3, nI_pred, e3, e2, e1]
  exact h2 hlt
def addSM (g : St) (n : Nat) (r f b y o : Int32) : St := sc (ar (ar (ar (ar (ar g 1 (nI n) r) 2 (nI n) f) 3 (nI n) b) 4 (nI n) y) 5 (nI n) o) 100 (nI (n + 1))
theorem s_Msp78 {g : St} {K : Int32 → St → Prop} {n : Nat} (r f b y o v : Int32) (hn : g 100 0 = nI n) (hlt : n < 60) (h2 : K (nI n) (addSM g n r f b y o)) : pb_Mo_split_78 K r f b y o v g := by
  unfold pb_Mo_split_78
  refine ⟨by rw [hn]; exact vp_in_nI hlt (by decide), fun g1 e1 => ?_⟩
  rw [hn] at e1
  have n1 : g1 100 0 = nI n := by rw [e1, ar_n _ _ _ _ _ (by decide)]; exact hn
  refine ⟨by rw [n1]; exact vp_in_nI hlt (by decide), fun g2 e2 => ?_⟩
  rw [n1] at e2
  have n2 : g2 100 0 = nI n := by rw [e2, ar_n _ _ _ _ _ (by decide)]; exact n1
  refine ⟨by rw [n2]; exact vp_in_nI hlt (by decide), fun g3 e3 => ?_⟩
  rw [n2] at e3
  have n3 : g3 100 0 = nI n := by rw [e3, ar_n _ _ _ _ _ (by decide)]; exact n2
  refine ⟨by rw [n3]; exact vp_in_nI hlt (by decide), fun g4 e4 => ?_⟩
  rw [n3] at e4
  have n4 : g4 100 0 = nI n := by rw [e4, ar_n _ _ _ _ _ (by decide)]; exact n3
  refine ⟨by rw [n4]; exact vp_in_nI hlt (by decide), fun g5 e5 g6 e6 => ?_⟩
  rw [n4] at e5
  have n5 : g5 100 0 = nI n := by rw [e5, ar_n _ _ _ _ _ (by decide)]; exact n4
  rw [n5, nI_1] at e6
  have n6 : g6 100 0 = nI (n + 1) := by rw [e6, sc_s]
  rw [n6, nI_pred, e6, e5, e4, e3, e2, e1]
  exact h2
/-- what a split asks of its arguments -/
def SpOk (x1 x2 x3 x4 x5 : Int32) : Prop := (∃ j, j < 6 ∧ x1 = nI j) ∧ (∃ j, j < 8 ∧ x2 = nI j) ∧ (4 ≤ x1 ∨ ¬ (2139095040 : Int32) ≤ (x3 &&& 2147483647)) ∧ (∃ j, j < 60 ∧ x4 = nI j) ∧ ∃ j, j < 60 ∧ x5 = nI j
theorem s_isFeature {g : St} {K : Int32 → St → Prop} (x : Int32) (h0 : (∀ j, j < 8 → x ≠ nI j) → K 0 g) (h1 : ∀ j, j < 8 → x = nI j → K 1 g) : pc_BF_isFeature x g K := by
  unfold pc_BF_isFeature pb_BF_isFeature_0
  exact s_rng (n := 8) rfl (by decide) h0 h1
theorem s_isNodeNumber {g : St} {K : Int32 → St → Prop} (x : Int32) (h0 : (∀ j, j < 60 → x ≠ nI j) → K 0 g) (h1 : ∀ j, j < 60 → x = nI j → K 1 g) : pc_BF_isNodeNumber x g K := by
  unfold pc_BF_isNodeNumber pb_BF_isNodeNumber_0
  exact s_rng (n := 60) rfl (by decide) h0 h1
theorem s_takesMark {g : St} {K : Int32 → St → Prop} (x y : Int32) (h0 : ¬ (4 ≤ x ∨ ¬ (2139095040 : Int32) ≤ (y &&& 2147483647)) → K 0 g) (h1 : (4 ≤ x ∨ ¬ (2139095040 : Int32) ≤ (y &&& 2147483647)) → K 1 g) : pc_Ru_takesMark x y g K := by
  unfold pc_Ru_takesMark pb_Ru_takesMark_0 pc_Ru_isBitRule pb_Ru_isBitRule_0
  by_cases hx : x < 4
  · have hx' : ¬ 4 ≤ x := Int32.not_le.mpr hx
    refine zb_t hx (zr_t rfl ?_)
    by_cases hy : (2139095040 : Int32) ≤ (y &&& 2147483647)
    · exact zb_t hy (h0 (fun q => q.elim hx' (fun z => z hy)))
    · exact zb_f hy (h1 (Or.inr hy))
  · have hx' : 4 ≤ x := Int32.not_lt.mp hx
    exact zb_f hx (zr_f (by decide) (h1 (Or.inl hx')))
theorem s_Csplit {g : St} {K : Int32 → St → Prop} {n : Nat} (x1 x2 x3 x4 x5 : Int32) (hn : g 100 0 = nI n) (h60 : n ≤ 60) (hbad : ¬ SpOk x1 x2 x3 x4 x5 → K (-1) g) (h1 : n = 60 → K (-1) g) (h2 : SpOk x1 x2 x3 x4 x5 → n < 60 → K (nI n) (addC g n x1 x2 x3 x4 x5)) : pc_BF_split x1 x2 x3 x4 x5 g K := by
  unfold pc_BF_split pb_BF_split_0
  refine s_rng (V := 6) (n := 6) rfl (by decide) (fun h => hbad (fun q => ?_)) (fun j1 hj1 e1 => ?_)
  · obtain ⟨⟨j, hj, e⟩, -⟩ := q
    exact h j hj e
  refine s_isFeature _ (fun h => zb_t rfl (hbad (fun q => ?_))) (fun j2 hj2 e2 => zb_f (by decide) ?_)
  · obtain ⟨-, ⟨j, hj, e⟩, -⟩ := q
    exact h j hj e
  refine s_takesMark _ _ (fun h => zr_t rfl (hbad (fun q => h q.2.2.1))) (fun h3 => zr_f (by decide) ?_)
  refine s_isNodeNumber _ (fun h => zb_t rfl (hbad (fun q => ?_))) (fun j4 hj4 e4 => zb_f (by decide) ?_)
  · obtain ⟨-, -, -, ⟨j, hj, e⟩, -⟩ := q
    exact h j hj e
  refine s_isNodeNumber _ (fun h => zr_t rfl (hbad (fun q => ?_))) (fun j5 hj5 e5 => zr_f (by decide) ?_)
  · obtain ⟨-, -, -, -, ⟨j, hj, e⟩⟩ := q
    exact h j hj e
  exact s_addNode _ _ _ _ _ hn h60 h1 (h2 ⟨⟨j1, hj1, e1⟩, ⟨j2, hj2, e2⟩, h3, ⟨j4, hj4, e4⟩, ⟨j5, hj5, e5⟩⟩)
theorem s_outside {g : St} {K : Int32 → St → Prop} {hi : Int32} {n : Nat} (x : Int32) (hh : hi.toInt = (n : Int) - 1) (hn : n < 2 ^ 31) (h0 : (∀ j, j < n → x ≠ nI j) → K 1 g) (h1 : ∀ j, j < n → x = nI j → K 0 g) : pc_Mo_outside x 0 hi g K := by
  unfold pc_Mo_outside pb_Mo_outside_0
  exact s_out hh hn h0 h1
theorem s_Msp41 {g : St} {K : Int32 → St → Prop} (x1 x2 x3 x4 x5 : Int32) (hbad : K (-1) g) : pb_Mo_split_41 K x1 x2 x3 x4 x5 g := by
  unfold pb_Mo_split_41 pb_Mo_split_46
  intro v ev
  subst ev
  by_cases h : g 100 0 = 60
  · exact zb_t h hbad
  · exact zb_f h (zr_f (by decide) hbad)
theorem s_Msplit {g : St} {K : Int32 → St → Prop} {n : Nat} (x1 x2 x3 x4 x5 : Int32) (hn : g 100 0 = nI n) (h60 : n ≤ 60) (hbad : ¬ SpOk x1 x2 x3 x4 x5 → K (-1) g) (h1 : n = 60 → K (-1) g) (h2 : SpOk x1 x2 x3 x4 x5 → n < 60 → K (nI n) (addSM g n x1 x2 x3 x4 x5)) : pc_Mo_split x1 x2 x3 x4 x5 g K := by
  unfold pc_Mo_split pb_Mo_split_0
  refine s_outside (n := 6) _ (by decide) (by decide) (fun h => zr_f (by decide) (s_Msp41 _ _ _ _ _ (hbad (fun q => ?_)))) (fun j1 hj1 e1 => zr_t rfl ?_)
  · obtain ⟨⟨j, hj, e⟩, -⟩ := q
    exact h j hj e
  refine s_outside (n := 8) _ (by decide) (by decide) (fun h => zr_f (by decide) (s_Msp41 _ _ _ _ _ (hbad (fun q => ?_)))) (fun j2 hj2 e2 => zr_t rfl ?_)
  · obtain ⟨-, ⟨j, hj, e⟩, -⟩ := q
    exact h j hj e
  refine s_outside (n := 60) _ (by decide) (by decide) (fun h => zr_f (by decide) (s_Msp41 _ _ _ _ _ (hbad (fun q => ?_)))) (fun j4 hj4 e4 => zr_t rfl ?_)
  · obtain ⟨-, -, -, ⟨j, hj, e⟩, -⟩ := q
    exact h j hj e
  refine s_outside (n := 60) _ (by decide) (by decide) (fun h => zb_f (by decide) (s_Msp41 _ _ _ _ _ (hbad (fun q => ?_)))) (fun j5 hj5 e5 => zb_t rfl ?_)
  · obtain ⟨-, -, -, -, ⟨j, hj, e⟩⟩ := q
    exact h j hj e
  unfold pb_Mo_split_46
  intro v ev
  subst ev
  refine pk_eq n 60 (fun e => h1 e) (fun hne => zr_t rfl ?_) hn
  have hlt : n < 60 := by omega
  by_cases hx : (4 : Int32) ≤ x1
  · exact zb_t hx (s_Msp78 _ _ _ _ _ _ hn hlt (h2 ⟨⟨j1, hj1, e1⟩, ⟨j2, hj2, e2⟩, Or.inl hx, ⟨j4, hj4, e4⟩, ⟨j5, hj5, e5⟩⟩ hlt))
  · refine zb_f hx ?_
    by_cases hy : (x3 &&& (2147483647 : Int32)) < (2139095040 : Int32)
    · exact zb_t hy (s_Msp78 _ _ _ _ _ _ hn hlt (h2 ⟨⟨j1, hj1, e1⟩, ⟨j2, hj2, e2⟩, Or.inr (Int32.not_le.mpr hy), ⟨j4, hj4, e4⟩, ⟨j5, hj5, e5⟩⟩ hlt))
    · exact zb_f hy (hbad (fun q => q.2.2.1.elim hx (fun z => z (Int32.not_lt.mp hy))))
/-! adding a node keeps the relation -/
theorem addC_o {g : St} {n k : Nat} {r f b y o : Int32} (h3 : k ≠ 3) (h4 : k ≠ 4) (h5 : k ≠ 5) (h6 : k ≠ 6) (h7 : k ≠ 7) (h100 : k ≠ 100) : addC g n r f b y o k = g k := by
  unfold addC
  rw [sc_n _ _ _ _ h100, ar_n _ _ _ _ _ h7, ar_n _ _ _ _ _ h6, ar_n _ _ _ _ _ h5, ar_n _ _ _ _ _ h4, ar_n _ _ _ _ _ h3]
theorem addC_n {g : St} {n : Nat} {r f b y o : Int32} : addC g n r f b y o 100 0 = nI (n + 1) := by unfold addC; rw [sc_s]
theorem addC_3 {g : St} {n i : Nat} {r f b y o : Int32} (hn : n < 60) : addC g n r f b y o 3 i = if i = n then r else g 3 i := by
  unfold addC
  rw [sc_n _ _ _ _ (by decide), ar_n _ _ _ _ _ (by decide), ar_n _ _ _ _ _ (by decide), ar_n _ _ _ _ _ (by decide), ar_n _ _ _ _ _ (by decide), ar_at n (nI_clamp (by omega))]
theorem addC_4 {g : St} {n i : Nat} {r f b y o : Int32} (hn : n < 60) : addC g n r f b y o 4 i = if i = n then f else g 4 i := by
  unfold addC
  rw [sc_n _ _ _ _ (by decide), ar_n _ _ _ _ _ (by decide), ar_n _ _ _ _ _ (by decide), ar_n _ _ _ _ _ (by decide), ar_at n (nI_clamp (by omega)), ar_n _ _ _ _ _ (by decide)]
theorem addC_5 {g : St} {n i : Nat} {r f b y o : Int32} (hn : n < 60) : addC g n r f b y o 5 i = if i = n then b else g 5 i := by
  unfold addC
  rw [sc_n _ _ _ _ (by decide), ar_n _ _ _ _ _ (by decide), ar_n _ _ _ _ _ (by decide), ar_at n (nI_clamp (by omega)), ar_n _ _ _ _ _ (by decide), ar_n _ _ _ _ _ (by decide)]
theorem addC_6 {g : St} {n i : Nat} {r f b y o : Int32} (hn : n < 60) : addC g n r f b y o 6 i = if i = n then y else g 6 i := by
  unfold addC
  rw [sc_n _ _ _ _ (by decide), ar_n _ _ _ _ _ (by decide), ar_at n (nI_clamp (by omega)), ar_n _ _ _ _ _ (by decide), ar_n _ _ _ _ _ (by decide), ar_n _ _ _ _ _ (by decide)]
theorem addC_7 {g : St} {n i : Nat} {r f b y o : Int32} (hn : n < 60) : addC g n r f b y o 7 i = if i = n then o else g 7 i := by
  unfold addC
  rw [sc_n _ _ _ _ (by decide), ar_at n (nI_clamp (by omega)), ar_n _ _ _ _ _ (by decide), ar_n _ _ _ _ _ (by decide), ar_n _ _ _ _ _ (by decide), ar_n _ _ _ _ _ (by decide)]
theorem addLM_o {g : St} {n k : Nat} {b : Int32} (h1 : k ≠ 1) (h3 : k ≠ 3) (h100 : k ≠ 100) : addLM g n b k = g k := by
  unfold addLM
  rw [sc_n _ _ _ _ h100, ar_n _ _ _ _ _ h3, ar_n _ _ _ _ _ h1]
theorem addLM_n {g : St} {n : Nat} {b : Int32} : addLM g n b 100 0 = nI (n + 1) := by unfold addLM; rw [sc_s]
theorem addLM_1 {g : St} {n i : Nat} {b : Int32} (hn : n < 60) : addLM g n b 1 i = if i = n then -1 else g 1 i := by
  unfold addLM
  rw [sc_n _ _ _ _ (by decide), ar_n _ _ _ _ _ (by decide), ar_at n (nI_clamp (by omega))]
theorem addLM_3 {g : St} {n i : Nat} {b : Int32} (hn : n < 60) : addLM g n b 3 i = if i = n then b else g 3 i := by
  unfold addLM
  rw [sc_n _ _ _ _ (by decide), ar_at n (nI_clamp (by omega)), ar_n _ _ _ _ _ (by decide)]
theorem addSM_o {g : St} {n k : Nat} {r f b y o : Int32} (h1 : k ≠ 1) (h2 : k ≠ 2) (h3 : k ≠ 3) (h4 : k ≠ 4) (h5 : k ≠ 5) (h100 : k ≠ 100) : addSM g n r f b y o k = g k := by
  unfold addSM
  rw [sc_n _ _ _ _ h100, ar_n _ _ _ _ _ h5, ar_n _ _ _ _ _ h4, ar_n _ _ _ _ _ h3, ar_n _ _ _ _ _ h2, ar_n _ _ _ _ _ h1]
theorem addSM_n {g : St} {n : Nat} {r f b y o : Int32} : addSM g n r f b y o 100 0 = nI (n + 1) := by unfold addSM; rw [sc_s]
theorem addSM_1 {g : St} {n i : Nat} {r f b y o : Int32} (hn : n < 60) : addSM g n r f b y o 1 i = if i = n then r else g 1 i := by
  unfold addSM
  rw [sc_n _ _ _ _ (by decide), ar_n _ _ _ _ _ (by decide), ar_n _ _ _ _ _ (by decide), ar_n _ _ _ _ _ (by decide), ar_n _ _ _ _ _ (by decide), ar_at n (nI_clamp (by omega))]
theorem addSM_2 {g : St} {n i : Nat} {r f b y o : Int32} (hn : n < 60) : addSM g n r f b y o 2 i = if i = n then f else g 2 i := by
  unfold addSM
  rw [sc_n _ _ _ _ (by decide), ar_n _ _ _ _ _ (by decide), ar_n _ _ _ _ _ (by decide), ar_n _ _ _ _ _ (by decide), ar_at n (nI_clamp (by omega)), ar_n _ _ _ _ _ (by decide)]
theorem addSM_3 {g : St} {n i : Nat} {r f b y o : Int32} (hn : n < 60) : addSM g n r f b y o 3 i = if i = n then b else g 3 i := by
  unfold addSM
  rw [sc_n _ _ _ _ (by decide), ar_n _ _ _ _ _ (by decide), ar_n _ _ _ _ _ (by decide), ar_at n (nI_clamp (by omega)), ar_n _ _ _ _ _ (by decide), ar_n _ _ _ _ _ (by decide)]
theorem addSM_4 {g : St} {n i : Nat} {r f b y o : Int32} (hn : n < 60) : addSM g n r f b y o 4 i = if i = n then y else g 4 i := by
  unfold addSM
  rw [sc_n _ _ _ _ (by decide), ar_n _ _ _ _ _ (by decide), ar_at n (nI_clamp (by omega)), ar_n _ _ _ _ _ (by decide), ar_n _ _ _ _ _ (by decide), ar_n _ _ _ _ _ (by decide)]
theorem addSM_5 {g : St} {n i : Nat} {r f b y o : Int32} (hn : n < 60) : addSM g n r f b y o 5 i = if i = n then o else g 5 i := by
  unfold addSM
  rw [sc_n _ _ _ _ (by decide), ar_at n (nI_clamp (by omega)), ar_n _ _ _ _ _ (by decide), ar_n _ _ _ _ _ (by decide), ar_n _ _ _ _ _ (by decide), ar_n _ _ _ _ _ (by decide)]
theorem Rel_addL {c m : St} {n t M z : Nat} {st ts : Nat → Nat} (b : Int32) (hlt : n < 60) (hN : RN c m n) (hT : RT c m n t) (hR : RR c m) (hS : RS c m) (hB : RB c m M z st ts) (hK : RK c m n t M) : Rel (addC c n (-1) 0 b (-1) (-1)) (addLM m n b) := by
  obtain ⟨h60, hc, hm, hnd⟩ := hN
  have S : SameCode c m (addC c n (-1) 0 b (-1) (-1)) (addLM m n b) n := by
    refine ⟨fun i hi => ?_, addC_o (by decide) (by decide) (by decide) (by decide) (by decide) (by decide), addC_o (by decide) (by decide) (by decide) (by decide) (by decide) (by decide), addC_o (by decide) (by decide) (by decide) (by decide) (by decide) (by decide), addC_o (by decide) (by decide) (by decide) (by decide) (by decide) (by decide), addC_o (by decide) (by decide) (by decide) (by decide) (by decide) (by decide), addC_o (by decide) (by decide) (by decide) (by decide) (by decide) (by decide), addC_o (by decide) (by decide) (by decide) (by decide) (by decide) (by decide)⟩
    have hne : ¬ i = n := by omega
    refine ⟨by rw [addC_3 hlt, if_neg hne], by rw [addC_4 hlt, if_neg hne], by rw [addC_5 hlt, if_neg hne], by rw [addC_6 hlt, if_neg hne], by rw [addC_7 hlt, if_neg hne], ?_, ?_, ?_, ?_⟩
    · rw [addLM_o (by decide) (by decide) (by decide)]
    · rw [addLM_o (by decide) (by decide) (by decide)]
    · rw [addLM_o (by decide) (by decide) (by decide)]
    · rw [addLM_o (by decide) (by decide) (by decide)]
  refine ⟨n + 1, t, M, z, st, ts, ⟨by omega, addC_n, addLM_n, fun i hi => ?_⟩, ?_, ?_, ?_, ?_, ?_⟩
  · by_cases hi' : i = n
    · refine ⟨?_, ?_, Or.inl ?_⟩
      · rw [addC_3 hlt, if_pos hi', addLM_1 hlt, if_pos hi']
      · rw [addC_5 hlt, if_pos hi', addLM_3 hlt, if_pos hi']
      · rw [addC_3 hlt, if_pos hi']
    · obtain ⟨a1, a2, a3⟩ := hnd i (by omega)
      refine ⟨?_, ?_, ?_⟩
      · rw [addC_3 hlt, if_neg hi', addLM_1 hlt, if_neg hi']; exact a1
      · rw [addC_5 hlt, if_neg hi', addLM_3 hlt, if_neg hi']; exact a2
      · rcases a3 with a3 | ⟨r, f, y, o, s1, s2, s3, s4, s5, s6, s7, s8, s9, s10, s11⟩
        · exact Or.inl (by rw [addC_3 hlt, if_neg hi']; exact a3)
        · refine Or.inr ⟨r, f, y, o, s1, s2, s3, s4, ?_, ?_, ?_, ?_, ?_, ?_, ?_⟩
          · rw [addC_3 hlt, if_neg hi']; exact s5
          · rw [addC_4 hlt, if_neg hi']; exact s6
          · rw [addC_6 hlt, if_neg hi']; exact s7
          · rw [addC_7 hlt, if_neg hi']; exact s8
          · rw [addLM_o (by decide) (by decide) (by decide)]; exact s9
          · rw [addLM_o (by decide) (by decide) (by decide)]; exact s10
          · rw [addLM_o (by decide) (by decide) (by decide)]; exact s11
  · obtain ⟨t1, t2, t3, t4⟩ := hT
    refine ⟨t1, ?_, ?_, fun i hi => ?_⟩
    · rw [addC_o (by decide) (by decide) (by decide) (by decide) (by decide) (by decide)]; exact t2
    · rw [addLM_o (by decide) (by decide) (by decide)]; exact t3
    · obtain ⟨r, r1, r2, r3⟩ := t4 i hi
      refine ⟨r, by omega, ?_, ?_⟩
      · rw [addC_o (by decide) (by decide) (by decide) (by decide) (by decide) (by decide)]; exact r2
      · rw [addLM_o (by decide) (by decide) (by decide)]; exact r3
  · intro i hi
    rw [addC_o (by decide) (by decide) (by decide) (by decide) (by decide) (by decide), addLM_o (by decide) (by decide) (by decide)]
    exact hR i hi
  · unfold RS
    rw [addC_o (by decide) (by decide) (by decide) (by decide) (by decide) (by decide), addC_o (by decide) (by decide) (by decide) (by decide) (by decide) (by decide), addLM_o (by decide) (by decide) (by decide), addLM_o (by decide) (by decide) (by decide)]
    exact hS
  · refine RB_same ?_ ?_ ?_ ?_ ?_ ?_ ?_ ?_ ?_ ?_ ?_ ?_ ?_ ?_ ?_ ?_ ?_ hB <;> first | exact addC_o (by decide) (by decide) (by decide) (by decide) (by decide) (by decide) | exact addLM_o (by decide) (by decide) (by decide)
  · exact RK_same S (by omega) (Nat.le_refl _) (fun i _ => by rw [addC_o (by decide) (by decide) (by decide) (by decide) (by decide) (by decide)]) (addC_o (by decide) (by decide) (by decide) (by decide) (by decide) (by decide)) (addC_o (by decide) (by decide) (by decide) (by decide) (by decide) (by decide)) (addLM_o (by decide) (by decide) (by decide)) hK
theorem Rel_addS {c m : St} {n t M z : Nat} {st ts : Nat → Nat} (x1 x2 x3 x4 x5 : Int32) (hok : SpOk x1 x2 x3 x4 x5) (hlt : n < 60) (hN : RN c m n) (hT : RT c m n t) (hR : RR c m) (hS : RS c m) (hB : RB c m M z st ts) (hK : RK c m n t M) : Rel (addC c n x1 x2 x3 x4 x5) (addSM m n x1 x2 x3 x4 x5) := by
  obtain ⟨h60, hc, hm, hnd⟩ := hN
  have oC : ∀ k, k ≠ 3 → k ≠ 4 → k ≠ 5 → k ≠ 6 → k ≠ 7 → k ≠ 100 → addC c n x1 x2 x3 x4 x5 k = c k := fun k a1 a2 a3 a4 a5 a6 => addC_o a1 a2 a3 a4 a5 a6
  have oM : ∀ k, k ≠ 1 → k ≠ 2 → k ≠ 3 → k ≠ 4 → k ≠ 5 → k ≠ 100 → addSM m n x1 x2 x3 x4 x5 k = m k := fun k a1 a2 a3 a4 a5 a6 => addSM_o a1 a2 a3 a4 a5 a6
  have S : SameCode c m (addC c n x1 x2 x3 x4 x5) (addSM m n x1 x2 x3 x4 x5) n := by
    refine ⟨fun i hi => ?_, oC 17 (by decide) (by decide) (by decide) (by decide) (by decide) (by decide), oC 18 (by decide) (by decide) (by decide) (by decide) (by decide) (by decide), oC 20 (by decide) (by decide) (by decide) (by decide) (by decide) (by decide), oC 21 (by decide) (by decide) (by decide) (by decide) (by decide) (by decide), oC 22 (by decide) (by decide) (by decide) (by decide) (by decide) (by decide), oC 103 (by decide) (by decide) (by decide) (by decide) (by decide) (by decide), oC 104 (by decide) (by decide) (by decide) (by decide) (by decide) (by decide)⟩
    have hne : ¬ i = n := by omega
    refine ⟨by rw [addC_3 hlt, if_neg hne], by rw [addC_4 hlt, if_neg hne], by rw [addC_5 hlt, if_neg hne], by rw [addC_6 hlt, if_neg hne], by rw [addC_7 hlt, if_neg hne], ?_, ?_, ?_, ?_⟩
    · rw [addSM_2 hlt, if_neg hne]
    · rw [addSM_4 hlt, if_neg hne]
    · rw [addSM_5 hlt, if_neg hne]
    · rw [oM 13 (by decide) (by decide) (by decide) (by decide) (by decide) (by decide)]
  refine ⟨n + 1, t, M, z, st, ts, ⟨by omega, addC_n, addSM_n, fun i hi => ?_⟩, ?_, ?_, ?_, ?_, ?_⟩
  · by_cases hi' : i = n
    · obtain ⟨⟨j1, g1, e1⟩, ⟨j2, g2, e2⟩, -, ⟨j4, g4, e4⟩, ⟨j5, g5, e5⟩⟩ := hok
      refine ⟨?_, ?_, Or.inr ⟨j1, j2, j4, j5, g1, g2, g4, g5, ?_, ?_, ?_, ?_, ?_, ?_, ?_⟩⟩
      · rw [addC_3 hlt, if_pos hi', addSM_1 hlt, if_pos hi']
      · rw [addC_5 hlt, if_pos hi', addSM_3 hlt, if_pos hi']
      · rw [addC_3 hlt, if_pos hi', e1]
      · rw [addC_4 hlt, if_pos hi', e2]
      · rw [addC_6 hlt, if_pos hi', e4]
      · rw [addC_7 hlt, if_pos hi', e5]
      · rw [addSM_2 hlt, if_pos hi', e2]
      · rw [addSM_4 hlt, if_pos hi', e4]
      · rw [addSM_5 hlt, if_pos hi', e5]
    · obtain ⟨a1, a2, a3⟩ := hnd i (by omega)
      refine ⟨?_, ?_, ?_⟩
      · rw [addC_3 hlt, if_neg hi', addSM_1 hlt, if_neg hi']; exact a1
      · rw [addC_5 hlt, if_neg hi', addSM_3 hlt, if_neg hi']; exact a2
      · rcases a3 with a3 | ⟨r, f, y, o, s1, s2, s3, s4, s5, s6, s7, s8, s9, s10, s11⟩
        · exact Or.inl (by rw [addC_3 hlt, if_neg hi']; exact a3)
        · refine Or.inr ⟨r, f, y, o, s1, s2, s3, s4, ?_, ?_, ?_, ?_, ?_, ?_, ?_⟩
          · rw [addC_3 hlt, if_neg hi']; exact s5
          · rw [addC_4 hlt, if_neg hi']; exact s6
          · rw [addC_6 hlt, if_neg hi']; exact s7
          · rw [addC_7 hlt, if_neg hi']; exact s8
          · rw [addSM_2 hlt, if_neg hi']; exact s9
          · rw [addSM_4 hlt, if_neg hi']; exact s10
          · rw [addSM_5 hlt, if_neg hi']; exact s11
  · obtain ⟨t1, t2, t3, t4⟩ := hT
    refine ⟨t1, ?_, ?_, fun i hi => ?_⟩
    · rw [oC 101 (by decide) (by decide) (by decide) (by decide) (by decide) (by decide)]; exact t2
    · rw [oM 101 (by decide) (by decide) (by decide) (by decide) (by decide) (by decide)]; exact t3
    · obtain ⟨r, r1, r2, r3⟩ := t4 i hi
      refine ⟨r, by omega, ?_, ?_⟩
      · rw [oC 8 (by decide) (by decide) (by decide) (by decide) (by decide) (by decide)]; exact r2
      · rw [oM 6 (by decide) (by decide) (by decide) (by decide) (by decide) (by decide)]; exact r3
  · intro i hi
    rw [oC 1 (by decide) (by decide) (by decide) (by decide) (by decide) (by decide), oM 7 (by decide) (by decide) (by decide) (by decide) (by decide) (by decide)]
    exact hR i hi
  · unfold RS
    rw [oC 107 (by decide) (by decide) (by decide) (by decide) (by decide) (by decide), oC 108 (by decide) (by decide) (by decide) (by decide) (by decide) (by decide), oM 107 (by decide) (by decide) (by decide) (by decide) (by decide) (by decide), oM 108 (by decide) (by decide) (by decide) (by decide) (by decide) (by decide)]
    exact hS
  · refine RB_same ?_ ?_ ?_ ?_ ?_ ?_ ?_ ?_ ?_ ?_ ?_ ?_ ?_ ?_ ?_ ?_ ?_ hB <;> first | exact oC _ (by decide) (by decide) (by decide) (by decide) (by decide) (by decide) | exact oM _ (by decide) (by decide) (by decide) (by decide) (by decide) (by decide)
  · exact RK_same S (by omega) (Nat.le_refl _) (fun i _ => by rw [oC 8 (by decide) (by decide) (by decide) (by decide) (by decide) (by decide)]) (oC 23 (by decide) (by decide) (by decide) (by decide) (by decide) (by decide)) (oC 106 (by decide) (by decide) (by decide) (by decide) (by decide) (by decide)) (oM 102 (by decide) (by decide) (by decide) (by decide) (by decide) (by decide)) hK
theorem sim_leaf (c m : St) (v : Int32) (h : Rel c m) : pc_BF_leaf v c (fun r1 c => pc_Mo_leaf v m (fun r2 m => r1 = r2 ∧ Rel c m)) := by
  have h' := h
  obtain ⟨n, t, M, z, st, ts, hN, hT, hR, hS, hB, hK⟩ := h'
  unfold pc_BF_leaf pb_BF_leaf_0
  refine s_addNode _ _ _ _ _ hN.2.1 hN.1 (fun e => ?_) (fun hlt => ?_)
  · exact s_Mleaf _ hN.2.2.1 hN.1 (fun _ => ⟨rfl, h⟩) (fun q => by omega)
  · exact s_Mleaf _ hN.2.2.1 hN.1 (fun q => by omega) (fun _ => ⟨rfl, Rel_addL v hlt hN hT hR hS hB hK⟩)
theorem sim_split (c m : St) (x1 x2 x3 x4 x5 : Int32) (h : Rel c m) : pc_BF_split x1 x2 x3 x4 x5 c (fun r1 c => pc_Mo_split x1 x2 x3 x4 x5 m (fun r2 m => r1 = r2 ∧ Rel c m)) := by
  have h' := h
  obtain ⟨n, t, M, z, st, ts, hN, hT, hR, hS, hB, hK⟩ := h'
  refine s_Csplit _ _ _ _ _ hN.2.1 hN.1 (fun hb => ?_) (fun e => ?_) (fun hok hlt => ?_)
  · exact s_Msplit _ _ _ _ _ hN.2.2.1 hN.1 (fun _ => ⟨rfl, h⟩) (fun _ => ⟨rfl, h⟩) (fun q _ => absurd q hb)
  · exact s_Msplit _ _ _ _ _ hN.2.2.1 hN.1 (fun _ => ⟨rfl, h⟩) (fun _ => ⟨rfl, h⟩) (fun _ q => by omega)
  · exact s_Msplit _ _ _ _ _ hN.2.2.1 hN.1 (fun q => absurd hok q) (fun q => by omega) (fun _ _ => ⟨rfl, Rel_addS x1 x2 x3 x4 x5 hok hlt hN hT hR hS hB hK⟩)
