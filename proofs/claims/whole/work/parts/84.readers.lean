/-! tree, set, and the readers -/
theorem sim_tree (c m : St) (x : Int32) (h : Rel c m) : pc_BF_tree x c (fun r1 c => pc_Mo_tree x m (fun r2 m => r1 = r2 ∧ Rel c m)) := by
  have h' := h
  obtain ⟨n, t, M, z, st, ts, hN, hT, hR, hS, hB, hK⟩ := h'
  obtain ⟨h60, hcn, hmn, hnd⟩ := hN
  obtain ⟨t8, hct, hmt, hroot⟩ := hT
  have hn1 : (m 100 0 - 1).toInt = (n : Int) - 1 := by
    rw [hmn]
    exact pk_sub_toInt (a := n) (b := 1) (by omega) (by decide)
  have bad : t = 8 ∨ (∀ j, j < n → x ≠ nI j) → pc_Mo_tree x m (fun r2 m => (-1 : Int32) = r2 ∧ Rel c m) := by
    intro hb
    unfold pc_Mo_tree pb_Mo_tree_0
    refine pk_eq t 8 (fun _ => ⟨rfl, h⟩) (fun hne => ?_) hmt
    have hb : ∀ j, j < n → x ≠ nI j := hb.resolve_left hne
    exact s_outside x hn1 (by omega) (fun _ => zb_f (by decide) ⟨rfl, h⟩) (fun j hj e => absurd e (hb j hj))
  unfold pc_BF_tree pb_BF_tree_0 pc_Fo_addTree pb_Fo_addTree_0
  refine pk_le 8 t (fun hge => bad (Or.inl (by omega))) (fun hlt => ?_) rfl hct
  unfold pc_Fo_isNode pb_Fo_isNode_0
  refine s_rng hcn (by omega) (fun hb => zr_t rfl (bad (Or.inr hb))) (fun j hj e => zr_f (by decide) ?_)
  refine ⟨by rw [hct]; exact vp_in_nI hlt (by decide), fun g3 e3 g4 e4 => ?_⟩
  rw [hct] at e3
  have n3 : g3 101 0 = nI t := by rw [e3, ar_n _ _ _ _ _ (by decide)]; exact hct
  rw [n3, nI_1] at e4
  have n4 : g4 101 0 = nI (t + 1) := by rw [e4, sc_s]
  rw [n4, nI_pred]
  unfold pc_Mo_tree pb_Mo_tree_0
  refine pk_eq t 8 (fun q => by omega) (fun hne => ?_) hmt
  refine s_outside x hn1 (by omega) (fun hb => absurd e (hb j hj)) (fun j' hj' e' => zb_t rfl ?_)
  refine ⟨by rw [hmt]; exact vp_in_nI hlt (by decide), fun m3 f3 m4 f4 => ?_⟩
  rw [hmt] at f3
  have q3 : m3 101 0 = nI t := by rw [f3, ar_n _ _ _ _ _ (by decide)]; exact hmt
  rw [q3, nI_1] at f4
  have q4 : m4 101 0 = nI (t + 1) := by rw [f4, sc_s]
  rw [q4, nI_pred]
  refine ⟨rfl, ?_⟩
  have oC : ∀ k, k ≠ 8 → k ≠ 101 → g4 k = c k := fun k a b => by rw [e4, sc_n _ _ _ _ b, e3, ar_n _ _ _ _ _ a]
  have oM : ∀ k, k ≠ 6 → k ≠ 101 → m4 k = m k := fun k a b => by rw [f4, sc_n _ _ _ _ b, f3, ar_n _ _ _ _ _ a]
  have c8 : ∀ i, g4 8 i = if i = t then x else c 8 i := fun i => by rw [e4, sc_n _ _ _ _ (by decide), e3, ar_at t (nI_clamp (by omega))]
  have m6 : ∀ i, m4 6 i = if i = t then x else m 6 i := fun i => by rw [f4, sc_n _ _ _ _ (by decide), f3, ar_at t (nI_clamp (by omega))]
  have S : SameCode c m g4 m4 n := by
    refine ⟨fun i hi => ?_, oC 17 (by decide) (by decide), oC 18 (by decide) (by decide), oC 20 (by decide) (by decide), oC 21 (by decide) (by decide), oC 22 (by decide) (by decide), oC 103 (by decide) (by decide), oC 104 (by decide) (by decide)⟩
    rw [oC 3 (by decide) (by decide), oC 4 (by decide) (by decide), oC 5 (by decide) (by decide), oC 6 (by decide) (by decide), oC 7 (by decide) (by decide), oM 2 (by decide) (by decide), oM 4 (by decide) (by decide), oM 5 (by decide) (by decide), oM 13 (by decide) (by decide)]
    exact ⟨rfl, rfl, rfl, rfl, rfl, rfl, rfl, rfl, rfl⟩
  refine ⟨n, t + 1, M, z, st, ts, ⟨h60, by rw [oC 100 (by decide) (by decide)]; exact hcn, by rw [oM 100 (by decide) (by decide)]; exact hmn, fun i hi => ?_⟩, ⟨by omega, n4, q4, fun i hi => ?_⟩, fun i hi => ?_, ?_, ?_, ?_⟩
  · have := hnd i hi
    unfold NodeOk SplitN at *
    rw [oC 3 (by decide) (by decide), oC 4 (by decide) (by decide), oC 5 (by decide) (by decide), oC 6 (by decide) (by decide), oC 7 (by decide) (by decide), oM 1 (by decide) (by decide), oM 2 (by decide) (by decide), oM 3 (by decide) (by decide), oM 4 (by decide) (by decide), oM 5 (by decide) (by decide)]
    exact this
  · by_cases hi' : i = t
    · exact ⟨j, hj, by rw [c8, if_pos hi']; exact e, by rw [m6, if_pos hi']; exact e⟩
    · obtain ⟨r, r1, r2, r3⟩ := hroot i (by omega)
      exact ⟨r, r1, by rw [c8, if_neg hi']; exact r2, by rw [m6, if_neg hi']; exact r3⟩
  · rw [oC 1 (by decide) (by decide), oM 7 (by decide) (by decide)]; exact hR i hi
  · unfold RS
    rw [oC 107 (by decide) (by decide), oC 108 (by decide) (by decide), oM 107 (by decide) (by decide), oM 108 (by decide) (by decide)]
    exact hS
  · refine RB_same ?_ ?_ ?_ ?_ ?_ ?_ ?_ ?_ ?_ ?_ ?_ ?_ ?_ ?_ ?_ ?_ ?_ hB <;> first | exact oC _ (by decide) (by decide) | exact oM _ (by decide) (by decide)
  · exact RK_same S (Nat.le_refl _) (by omega) (fun i hi => by rw [c8, if_neg (by omega)]) (oC 23 (by decide) (by decide)) (oC 106 (by decide) (by decide)) (oM 102 (by decide) (by decide)) hK
theorem sim_set (c m : St) (x v : Int32) (h : Rel c m) : pc_BF_set x v c (fun r1 c => pc_Mo_set x v m (fun r2 m => r1 = r2 ∧ Rel c m)) := by
  have h' := h
  obtain ⟨n, t, M, z, st, ts, hN, hT, hR, hS, hB, hK⟩ := h'
  unfold pc_BF_set pb_BF_set_0
  refine s_isFeature x (fun hb => zr_t rfl ?_) (fun j hj e => zr_f (by decide) ?_)
  · unfold pc_Mo_set pb_Mo_set_0
    exact s_outside (n := 8) x (by decide) (by decide) (fun _ => zb_f (by decide) ⟨rfl, h⟩) (fun j hj e => absurd e (hb j hj))
  · refine ⟨by rw [e]; exact vp_in_nI hj (by decide), fun g e3 => ?_⟩
    unfold pc_Mo_set pb_Mo_set_0
    refine s_outside (n := 8) x (by decide) (by decide) (fun hb => absurd e (hb j hj)) (fun j' hj' e' => zb_t rfl ?_)
    refine ⟨by rw [e]; exact vp_in_nI hj (by decide), fun m3 f3 => ⟨rfl, ?_⟩⟩
    rw [e] at e3 f3
    have oC : ∀ k, k ≠ 1 → g k = c k := fun k a => by rw [e3, ar_n _ _ _ _ _ a]
    have oM : ∀ k, k ≠ 7 → m3 k = m k := fun k a => by rw [f3, ar_n _ _ _ _ _ a]
    have S : SameCode c m g m3 n := by
      refine ⟨fun i hi => ?_, oC 17 (by decide), oC 18 (by decide), oC 20 (by decide), oC 21 (by decide), oC 22 (by decide), oC 103 (by decide), oC 104 (by decide)⟩
      rw [oC 3 (by decide), oC 4 (by decide), oC 5 (by decide), oC 6 (by decide), oC 7 (by decide), oM 2 (by decide), oM 4 (by decide), oM 5 (by decide), oM 13 (by decide)]
      exact ⟨rfl, rfl, rfl, rfl, rfl, rfl, rfl, rfl, rfl⟩
    refine ⟨n, t, M, z, st, ts, ?_, ?_, fun i hi => ?_, ?_, ?_, ?_⟩
    · unfold RN NodeOk SplitN at *
      rw [oC 3 (by decide), oC 4 (by decide), oC 5 (by decide), oC 6 (by decide), oC 7 (by decide), oM 1 (by decide), oM 2 (by decide), oM 3 (by decide), oM 4 (by decide), oM 5 (by decide), oC 100 (by decide), oM 100 (by decide)]
      exact hN
    · unfold RT at *
      rw [oC 101 (by decide), oM 101 (by decide), oC 8 (by decide), oM 6 (by decide)]
      exact hT
    · rw [e3, f3, ar_at j (nI_clamp (by omega)), ar_at j (nI_clamp (by omega)), hR i hi]
    · unfold RS
      rw [oC 107 (by decide), oC 108 (by decide), oM 107 (by decide), oM 108 (by decide)]
      exact hS
    · refine RB_same ?_ ?_ ?_ ?_ ?_ ?_ ?_ ?_ ?_ ?_ ?_ ?_ ?_ ?_ ?_ ?_ ?_ hB <;> first | exact oC _ (by decide) | exact oM _ (by decide)
    · exact RK_same S (Nat.le_refl _) (Nat.le_refl _) (fun i hi => by rw [oC 8 (by decide)]) (oC 23 (by decide)) (oC 106 (by decide)) (oM 102 (by decide)) hK
theorem sim_methods (c m : St) (h : Rel c m) : pc_BF_methods c (fun r1 c => pc_Mo_methods m (fun r2 m => r1 = r2 ∧ Rel c m)) := by
  have h' := h
  obtain ⟨n, t, M, z, st, ts, -, -, -, -, hB, -⟩ := h'
  exact ⟨by rw [hB.2.2.1, hB.2.2.2.1], h⟩
theorem sim_classes (c m : St) (h : Rel c m) : pc_BF_classes c (fun r1 c => pc_Mo_classes m (fun r2 m => r1 = r2 ∧ Rel c m)) := by
  have h' := h
  obtain ⟨n, t, M, z, st, ts, -, -, -, -, hB, -⟩ := h'
  exact ⟨by rw [hB.2.2.2.2.1, hB.2.2.2.2.2.1], h⟩
theorem sim_steps (c m : St) (h : Rel c m) : pc_BF_steps c (fun r1 c => pc_Mo_steps m (fun r2 m => r1 = r2 ∧ Rel c m)) := by
  have h' := h
  obtain ⟨n, t, M, z, st, ts, -, -, -, hS, -, -⟩ := h'
  exact ⟨hS.1, h⟩
theorem sim_calls (c m : St) (h : Rel c m) : pc_BF_calls c (fun r1 c => pc_Mo_calls m (fun r2 m => r1 = r2 ∧ Rel c m)) := by
  have h' := h
  obtain ⟨n, t, M, z, st, ts, -, -, -, hS, -, -⟩ := h'
  exact ⟨hS.2, h⟩
theorem cl1 {j : Nat} (hj : j < 1000) : (nI j + 1).toNatClampNeg = j + 1 := by rw [nI_1, nI_clamp (by omega)]
theorem cl0 {j : Nat} (hj : j < 1000) : (nI j).toNatClampNeg = j := nI_clamp (by omega)
theorem in1 {j N : Nat} (hj : j + 1 < N) (hN : N < 1000) : vp_in (nI j + 1) N := by rw [nI_1]; exact vp_in_nI hj (by omega)
theorem in0 {j N : Nat} (hj : j < N) (hN : N < 1000) : vp_in (nI j) N := vp_in_nI hj (by omega)
theorem sim_length (c m : St) (x : Int32) (h : Rel c m) : pc_BF_length x c (fun r1 c => pc_Mo_length x m (fun r2 m => r1 = r2 ∧ Rel c m)) := by
  have h' := h
  obtain ⟨n, t, M, z, st, ts, -, -, -, -, hB, -⟩ := h'
  obtain ⟨b1, b2, b3, b4, b5, b6, b7, b8, b9, b10, b11, b12, b13, b14, b15, b16, b17, b18⟩ := hB
  unfold pc_BF_length pb_BF_length_0 pc_Co_isMethod pb_Co_isMethod_0
  refine s_rng b3 (by omega) (fun hb => zb_t rfl ?_) (fun j hj e => zb_f (by decide) ?_)
  · unfold pc_Mo_length pb_Mo_length_0 pc_Mo_isMethod pb_Mo_isMethod_0
    exact s_rng b4 (by omega) (fun _ => zb_t rfl ⟨rfl, h⟩) (fun j hj e => absurd e (hb j hj))
  · subst e
    refine ⟨in1 (by omega) (by decide), in0 (by omega) (by decide), ?_⟩
    unfold pc_Mo_length pb_Mo_length_0 pc_Mo_isMethod pb_Mo_isMethod_0
    refine s_rng b4 (by omega) (fun hb => absurd rfl (hb j hj)) (fun _ _ _ => zb_f (by decide) ?_)
    refine ⟨in1 (by omega) (by decide), in0 (by omega) (by decide), ?_, h⟩
    rw [cl1 (by omega), cl0 (by omega), (b7 j (by omega)).1, (b7 j (by omega)).2, (b7 (j + 1) (by omega)).1, (b7 (j + 1) (by omega)).2]
theorem sim_classOf (c m : St) (x : Int32) (h : Rel c m) : pc_BF_classOf x c (fun r1 c => pc_Mo_classOf x m (fun r2 m => r1 = r2 ∧ Rel c m)) := by
  have h' := h
  obtain ⟨n, t, M, z, st, ts, -, -, -, -, hB, -⟩ := h'
  obtain ⟨b1, b2, b3, b4, b5, b6, b7, b8, b9, b10, b11, b12, b13, b14, b15, b16, b17, b18⟩ := hB
  unfold pc_BF_classOf pb_BF_classOf_0 pc_Co_isMethod pb_Co_isMethod_0
  refine s_rng b3 (by omega) (fun hb => zb_t rfl ?_) (fun j hj e => zb_f (by decide) ?_)
  · unfold pc_Mo_classOf pb_Mo_classOf_0 pc_Mo_isMethod pb_Mo_isMethod_0
    exact s_rng b4 (by omega) (fun _ => zb_t rfl ⟨rfl, h⟩) (fun j hj e => absurd e (hb j hj))
  · subst e
    refine ⟨in0 (by omega) (by decide), ?_⟩
    unfold pc_Mo_classOf pb_Mo_classOf_0 pc_Mo_isMethod pb_Mo_isMethod_0
    refine s_rng b4 (by omega) (fun hb => absurd rfl (hb j hj)) (fun _ _ _ => zb_f (by decide) ?_)
    refine ⟨in0 (by omega) (by decide), ?_, h⟩
    rw [cl0 (by omega)]
    exact b13 j hj
theorem sim_entries (c m : St) (x : Int32) (h : Rel c m) : pc_BF_entries x c (fun r1 c => pc_Mo_entries x m (fun r2 m => r1 = r2 ∧ Rel c m)) := by
  have h' := h
  obtain ⟨n, t, M, z, st, ts, -, -, -, -, hB, -⟩ := h'
  obtain ⟨b1, b2, b3, b4, b5, b6, b7, b8, b9, b10, b11, b12, b13, b14, b15, b16, b17, b18⟩ := hB
  unfold pc_BF_entries pb_BF_entries_0 pc_Ta_isClass pb_Ta_isClass_0
  refine s_rng b5 (by omega) (fun hb => zb_t rfl ?_) (fun j hj e => zb_f (by decide) ?_)
  · unfold pc_Mo_entries pb_Mo_entries_0
    exact s_rng b6 (by omega) (fun _ => ⟨rfl, h⟩) (fun j hj e => absurd e (hb j hj))
  · subst e
    unfold pc_Ta_sizeOf pb_Ta_sizeOf_0
    refine ⟨in1 (by omega) (by decide), in0 (by omega) (by decide), ?_⟩
    unfold pc_Mo_entries pb_Mo_entries_0
    refine s_rng b6 (by omega) (fun hb => absurd rfl (hb j hj)) (fun _ _ _ => ?_)
    refine ⟨in1 (by omega) (by decide), in0 (by omega) (by decide), ?_, h⟩
    rw [cl1 (by omega), cl0 (by omega), (b14 j (by omega)).1, (b14 j (by omega)).2, (b14 (j + 1) (by omega)).1, (b14 (j + 1) (by omega)).2]
theorem shl32 (a : Int64) : a <<< (((32 : Int32)).toInt64 &&& 63) = a * 4294967296 := by
  apply Int64.toBitVec_inj.mp
  show a.toBitVec <<< ((((32 : Int32)).toInt64 &&& 63).toBitVec.smod 64).toNat = a.toBitVec * (4294967296 : Int64).toBitVec
  rw [show ((((32 : Int32)).toInt64 &&& 63).toBitVec.smod 64).toNat = 32 from by decide, BitVec.shiftLeft_eq_mul_twoPow]
  rfl
/-- an index p and a length: where p lies -/
theorem s_len {A B : Prop} {x v : Int32} {a b p : Nat} (hv : v = nI a - nI b) (hab : b ≤ a) (ha : a < 1000) (hx : x = nI p) (hp : p < 2 ^ 31) (h0 : a ≤ b + p → A) (h1 : b + p < a → B) : (v ≤ x → A) ∧ (¬ v ≤ x → B) := by
  rw [pk_sub hab] at hv
  exact pk_le (a - b) p (fun q => h0 (by omega)) (fun q => h1 (by omega)) hv hx (by omega) hp
theorem sim_byteAt (c m : St) (x y : Int32) (h : Rel c m) : pc_BF_byteAt x y c (fun r1 c => pc_Mo_byteAt x y m (fun r2 m => r1 = r2 ∧ Rel c m)) := by
  have h' := h
  obtain ⟨n, t, M, z, st, ts, -, -, -, -, hB, -⟩ := h'
  obtain ⟨b1, b2, b3, b4, b5, b6, b7, b8, b9, b10, b11, b12, b13, b14, b15, b16, b17, b18⟩ := hB
  have bad : (∀ j, j < M → x ≠ nI j) ∨ y < 0 ∨ (∃ j p, j < M ∧ x = nI j ∧ y = nI p ∧ p < 2 ^ 31 ∧ st (j + 1) ≤ st j + p) → pc_Mo_byteAt x y m (fun r2 m => (-1 : Int32) = r2 ∧ Rel c m) := by
    intro hb
    unfold pc_Mo_byteAt pb_Mo_byteAt_0 pc_Mo_isMethod pb_Mo_isMethod_0
    refine s_rng b4 (by omega) (fun _ => zb_t rfl ⟨rfl, h⟩) (fun j hj e => zb_f (by decide) ?_)
    by_cases hy : y < 0
    · exact zb_t hy ⟨rfl, h⟩
    refine zb_f hy ?_
    rcases hb with hb | hb | ⟨j', p, hj', e', ey, hp, hle⟩
    · exact absurd e (hb j hj)
    · exact absurd hb hy
    have ej : j = j' := (nI_eq (by omega) (by omega)).mp (e.symm.trans e')
    subst ej
    subst e
    refine ⟨in1 (by omega) (by decide), in0 (by omega) (by decide), ?_⟩
    have hs := b8 j hj
    have hs2 := b9 (j + 1) (by omega)
    refine s_len (a := st (j + 1)) (b := st j) (p := p) ?_ hs (by omega) ey hp (fun _ => ⟨rfl, h⟩) (fun q => by omega)
    rw [cl1 (by omega), cl0 (by omega), (b7 j (by omega)).2, (b7 (j + 1) (by omega)).2]
  unfold pc_BF_byteAt pb_BF_byteAt_0
  by_cases hy : y < 0
  · exact zb_t hy (bad (Or.inr (Or.inl hy)))
  refine zb_f hy ?_
  obtain ⟨p, hp, ey⟩ := nI_of hy
  unfold pc_BF_length pb_BF_length_0 pc_Co_isMethod pb_Co_isMethod_0
  refine s_rng b3 (by omega) (fun hb => zb_t rfl ?_) (fun j hj e => zb_f (by decide) ?_)
  · refine zb_t ?_ (bad (Or.inl hb))
    rw [ey, Int32.le_iff_toInt_le, nI_toInt hp, show (-1 : Int32).toInt = -1 from by decide]
    omega
  · subst e
    refine ⟨in1 (by omega) (by decide), in0 (by omega) (by decide), ?_⟩
    have hs := b8 j hj
    have hs2 := b9 (j + 1) (by omega)
    refine s_len (a := st (j + 1)) (b := st j) (p := p) ?_ hs (by omega) ey hp (fun q => bad (Or.inr (Or.inr ⟨j, p, hj, rfl, ey, hp, q⟩))) (fun q => ?_)
    · rw [cl1 (by omega), cl0 (by omega), (b7 j (by omega)).1, (b7 (j + 1) (by omega)).1]
    have e1 : c 21 (nI j).toNatClampNeg + y = nI (st j + p) := by rw [cl0 (by omega), (b7 j (by omega)).1, ey, nI_add]
    have e2 : m 14 (nI j).toNatClampNeg + y = nI (st j + p) := by rw [cl0 (by omega), (b7 j (by omega)).2, ey, nI_add]
    refine ⟨in0 (by omega) (by decide), by rw [e1]; exact vp_in_nI (by omega) (by decide), ?_⟩
    unfold pc_Mo_byteAt pb_Mo_byteAt_0 pc_Mo_isMethod pb_Mo_isMethod_0
    refine s_rng b4 (by omega) (fun hb => absurd rfl (hb j hj)) (fun _ _ _ => zb_f (by decide) (zb_f hy ?_))
    refine ⟨in1 (by omega) (by decide), in0 (by omega) (by decide), ?_⟩
    refine s_len (a := st (j + 1)) (b := st j) (p := p) ?_ hs (by omega) ey hp (fun q => by omega) (fun q => ?_)
    · rw [cl1 (by omega), cl0 (by omega), (b7 j (by omega)).2, (b7 (j + 1) (by omega)).2]
    refine ⟨in0 (by omega) (by decide), by rw [e2]; exact vp_in_nI (by omega) (by decide), ?_, h⟩
    rw [e1, e2, nI_clamp (by omega)]
    exact b12 _ (by omega)
theorem sim_entry (c m : St) (x y : Int32) (h : Rel c m) : pc_BF_entry x y c (fun r1 c => pc_Mo_entry x y m (fun r2 m => r1 = r2 ∧ Rel c m)) := by
  have h' := h
  obtain ⟨n, t, M, z, st, ts, -, -, -, -, hB, -⟩ := h'
  obtain ⟨b1, b2, b3, b4, b5, b6, b7, b8, b9, b10, b11, b12, b13, b14, b15, b16, b17, b18⟩ := hB
  have bad : (∀ j, j < z → x ≠ nI j) ∨ y < 0 ∨ (∃ j p, j < z ∧ x = nI j ∧ y = nI p ∧ p < 2 ^ 31 ∧ ts (j + 1) ≤ ts j + p) → pc_Mo_entry x y m (fun r2 m => (-1 : Int64) = r2 ∧ Rel c m) := by
    intro hb
    unfold pc_Mo_entry pb_Mo_entry_0
    refine s_rng b6 (by omega) (fun _ => ⟨rfl, h⟩) (fun j hj e => ?_)
    by_cases hy : y < 0
    · exact zb_t hy ⟨rfl, h⟩
    refine zb_f hy ?_
    rcases hb with hb | hb | ⟨j', p, hj', e', ey, hp, hle⟩
    · exact absurd e (hb j hj)
    · exact absurd hb hy
    have ej : j = j' := (nI_eq (by omega) (by omega)).mp (e.symm.trans e')
    subst ej
    subst e
    refine ⟨in1 (by omega) (by decide), in0 (by omega) (by decide), ?_⟩
    have hs := b15 j hj
    have hs2 := b16 (j + 1) (by omega)
    have ev : m 18 (nI j + 1).toNatClampNeg - m 18 (nI j).toNatClampNeg = nI (ts (j + 1) - ts j) := by rw [cl1 (by omega), cl0 (by omega), (b14 j (by omega)).2, (b14 (j + 1) (by omega)).2, pk_sub hs]
    exact pk_lt p (ts (j + 1) - ts j) (fun q => by omega) (fun _ => ⟨rfl, h⟩) ey ev hp (by omega)
  unfold pc_BF_entry pb_BF_entry_0 pc_Ta_holds pb_Ta_holds_0 pc_Ta_isClass pb_Ta_isClass_0
  refine s_rng b5 (by omega) (fun hb => zb_t rfl (zr_t rfl (bad (Or.inl hb)))) (fun j hj e => zb_f (by decide) ?_)
  by_cases hy : y < 0
  · exact zb_t hy (zr_t rfl (bad (Or.inr (Or.inl hy))))
  refine zb_f hy ?_
  obtain ⟨p, hp, ey⟩ := nI_of hy
  subst e
  have hs := b15 j hj
  have hs2 := b16 (j + 1) (by omega)
  unfold pc_Ta_sizeOf pb_Ta_sizeOf_0
  refine ⟨in1 (by omega) (by decide), in0 (by omega) (by decide), ?_⟩
  refine s_len (a := ts (j + 1)) (b := ts j) (p := p) ?_ hs (by omega) ey hp (fun q => zr_t rfl (bad (Or.inr (Or.inr ⟨j, p, hj, rfl, ey, hp, q⟩)))) (fun q => zr_f (by decide) ?_)
  · rw [cl1 (by omega), cl0 (by omega), (b14 j (by omega)).1, (b14 (j + 1) (by omega)).1]
  have e1 : c 18 (nI j).toNatClampNeg + y = nI (ts j + p) := by rw [cl0 (by omega), (b14 j (by omega)).1, ey, nI_add]
  have e2 : m 18 (nI j).toNatClampNeg + y = nI (ts j + p) := by rw [cl0 (by omega), (b14 j (by omega)).2, ey, nI_add]
  refine ⟨in0 (by omega) (by decide), fun v ev => ?_⟩
  rw [e1] at ev
  subst ev
  refine ⟨vp_in_nI (by omega) (by decide), vp_in_nI (by omega) (by decide), ?_⟩
  unfold pc_Mo_entry pb_Mo_entry_0
  refine s_rng b6 (by omega) (fun hb => absurd rfl (hb j hj)) (fun _ _ _ => zb_f hy ?_)
  refine ⟨in1 (by omega) (by decide), in0 (by omega) (by decide), ?_⟩
  have ev : m 18 (nI j + 1).toNatClampNeg - m 18 (nI j).toNatClampNeg = nI (ts (j + 1) - ts j) := by rw [cl1 (by omega), cl0 (by omega), (b14 j (by omega)).2, (b14 (j + 1) (by omega)).2, pk_sub hs]
  refine pk_lt p (ts (j + 1) - ts j) (fun _ => ?_) (fun q => by omega) ey ev hp (by omega)
  have i2 : vp_in (m 18 (nI j).toNatClampNeg + y) 200 := by rw [e2]; exact vp_in_nI (by omega) (by decide)
  refine ⟨in0 (by omega) (by decide), i2, in0 (by omega) (by decide), i2, ?_, h⟩
  rw [e2, nI_clamp (by omega), (b18 _ (by omega)).1, (b18 _ (by omega)).2, shl32]
