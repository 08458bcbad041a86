/-! compile, third stage: the class writes all methods -/
section DRC2
variable {n t : Nat} {ru bi : Nat → Int32} {fe ye no ro rm : Nat → Nat} {s : Cs} {most : Nat} {O : List Nat}
theorem s_writeMethods {g : St} {K : St → Prop} (hV : FoV n ru fe ye no) (hFo : FoC n ru bi fe ye no g) (hM : O.length ≤ 60) (h102 : g 102 0 = nI O.length) (h14 : ∀ m x : Nat, O[m]? = some x → g 14 m = nI x) (hTop : ∀ x ∈ O, TopC n ru ye no s g x) (hmo : most ≤ 60) (hem : ∀ x ∈ O, eN ru ye no s 13 x ≤ most) (hB : sumL s.1 O ≤ 600) (hE : sumL (eN ru ye no s 13) O ≤ 120) (ht : t ≤ 8) (h101 : g 101 0 = nI t) (hro : ∀ i, i < t → ro i < 60 ∧ g 8 i = nI (ro i) ∧ g 13 (ro i) = nI (rm i))
    (hk : ∀ g', DW O.length (drv (wr13 ru bi fe ye no s) most O dv0) g' → DI (wr13 ru bi fe ye no s) s.1 (eN ru ye no s 13) most O (drv (wr13 ru bi fe ye no s) most O dv0) → g' 105 0 = nI O.length → g' 106 0 = nI t → (∀ i, i < t → g' 23 i = nI (rm i)) → (∀ j, j ≠ 16 → j ≠ 17 → j ≠ 18 → j ≠ 20 → j ≠ 21 → j ≠ 22 → j ≠ 23 → j ≠ 103 → j ≠ 104 → j ≠ 105 → j ≠ 106 → g' j = g j) → K g') : pc_Co_writeMethods (nI most) g K := by
  unfold pc_Co_writeMethods pb_Co_writeMethods_0
  intro g1 e1
  unfold pc_Ta_forgetAll pb_Ta_forgetAll_0
  intro g2 e2
  refine ⟨vp_in_nI (n := 0) (by decide) (by decide), fun g3 e3 => ?_⟩
  have m3 : g3 103 0 = nI 0 := by rw [e3, ar_n _ _ _ _ _ (by decide), e2, sc_s]; rfl
  have c0 : (nI 0).toNatClampNeg = 0 := nI_clamp (by omega)
  have c1 : (nI (0 + 1)).toNatClampNeg = 1 := nI_clamp (by omega)
  have n3 : g3 18 0 = nI 0 := by rw [e3, ar_e 0 rfl]; rfl
  show pc_Ta_openClass g3 _
  unfold pc_Ta_openClass pb_Ta_openClass_0
  rw [m3, nI_1, c0, n3]
  refine zb_f (nI_ge (b := 60) (by omega) (by decide)) ⟨vp_in_nI (by omega) (by decide), vp_in_nI (by omega) (by decide), fun g4 e4 g5 e5 => ?_⟩
  have m4 : g4 103 0 = nI 0 := by rw [e4, ar_n _ _ _ _ _ (by decide)]; exact m3
  rw [m4, nI_1] at e5
  show ∀ b : St, b = sc g5 105 (g5 102 0) → ∀ v5 : Int32, v5 = (0 : Int32) → pl_Co_writeMethods_32 K (nI most) v5 b
  intro b eb v5 e5'
  have o5 : ∀ j, j ≠ 18 → j ≠ 103 → j ≠ 104 → g5 j = g j := fun j j1 j2 j3 => by rw [e5, sc_n _ _ _ _ j2, e4, ar_n _ _ _ _ _ j1, e3, ar_n _ _ _ _ _ j1, e2, sc_n _ _ _ _ j2, e1, sc_n _ _ _ _ j3]
  have ob : ∀ j, j ≠ 18 → j ≠ 103 → j ≠ 104 → j ≠ 105 → b j = g j := fun j j1 j2 j3 j4 => by rw [eb, sc_n _ _ _ _ j4]; exact o5 j j1 j2 j3
  have b105 : b 105 0 = nI O.length := by rw [eb, sc_s, o5 102 (by decide) (by decide) (by decide)]; exact h102
  have b18 : ∀ p, b 18 p = if p = 1 then nI 0 else if p = 0 then nI 0 else g 18 p := fun p => by
    rw [eb, sc_n _ _ _ _ (by decide), e5, sc_n _ _ _ _ (by decide), e4, ar_at 1 c1, e3, ar_at 0 rfl, e2, sc_n _ _ _ _ (by decide), e1, sc_n _ _ _ _ (by decide)]; rfl
  have W0 : DW 0 dv0 b := by
    refine ⟨⟨?_, fun p v hp => absurd (getLt hp) (Nat.not_lt_zero _), by show 1 ≤ 1; omega, by show 1 ≤ 60; omega, ?_, ?_, ?_, fun k z hz => absurd (getLt hz) (Nat.not_lt_zero _)⟩, fun k z hz => absurd (getLt hz) (Nat.not_lt_zero _), fun j v hv => ?_, fun j v hv => absurd (getLt hv) (Nat.not_lt_zero _), fun j v hv => absurd (getLt hv) (Nat.not_lt_zero _), fun q => absurd q (Nat.lt_irrefl _)⟩
    · rw [eb, sc_n _ _ _ _ (by decide), e5, sc_n _ _ _ _ (by decide), e4, ar_n _ _ _ _ _ (by decide), e3, ar_n _ _ _ _ _ (by decide), e2, sc_n _ _ _ _ (by decide), e1, sc_s]; rfl
    · rw [eb, sc_n _ _ _ _ (by decide), e5, sc_s]; rfl
    · show b 18 0 = nI 0
      rw [b18, if_neg (by omega), if_pos rfl]
    · show b 18 1 = nI 0
      rw [b18, if_pos rfl]
    · have hv : ([0] : List Nat)[j]? = some v := hv
      cases j with
      | zero =>
        have : 0 = v := Option.some.inj hv
        rw [b18, if_neg (by omega), if_pos rfl, this]
      | succ j => exact absurd (getLt hv) (by show ¬ j + 1 < 1; omega)
  have hFb : FoC n ru bi fe ye no b := FoC_of (ob 3 (by decide) (by decide) (by decide) (by decide)) (ob 4 (by decide) (by decide) (by decide) (by decide)) (ob 5 (by decide) (by decide) (by decide) (by decide)) (ob 6 (by decide) (by decide) (by decide) (by decide)) (ob 7 (by decide) (by decide) (by decide) (by decide)) (ob 100 (by decide) (by decide) (by decide) (by decide)) hFo
  have hTb : ∀ x ∈ O, TopC n ru ye no s b x := fun x hx => by
    have := hTop x hx
    unfold TopC at this ⊢
    rw [ob 12 (by decide) (by decide) (by decide) (by decide), ob 13 (by decide) (by decide) (by decide) (by decide)]
    exact this
  rw [e5']
  unfold pl_Co_writeMethods_32
  intro P hP
  have main : ∀ (rest done : List Nat) (dv : Dv) (g' : St), done ++ rest = O → DI (wr13 ru bi fe ye no s) s.1 (eN ru ye no s 13) most done dv → DW done.length dv g' → FrD b g' → drv (wr13 ru bi fe ye no s) most rest dv = drv (wr13 ru bi fe ye no s) most O dv0 → P (nI most) (nI done.length) g' := by
    intro rest
    induction rest with
    | nil =>
      intro done dv g' hO hI hD hr hd
      rw [List.append_nil] at hO
      rw [hO] at hI hD
      have hd : dv = drv (wr13 ru bi fe ye no s) most O dv0 := hd
      rw [hd] at hI hD
      apply hP
      unfold pb_Co_writeMethods_32
      have g105 : g' 105 0 = nI O.length := by rw [hr 105 (by decide) (by decide) (by decide) (by decide) (by decide) (by decide) (by decide) (by decide)]; exact b105
      rw [g105, hO]
      refine zb_t (nI_le (by omega) (by omega)) ?_
      intro h1 f1 v2 f2
      rw [f2]
      have og : ∀ j, j ≠ 16 → j ≠ 17 → j ≠ 18 → j ≠ 20 → j ≠ 21 → j ≠ 22 → j ≠ 103 → j ≠ 104 → j ≠ 105 → j ≠ 106 → h1 j = g j := fun j j1 j2 j3 j4 j5 j6 j7 j8 j9 j10 => by
        rw [f1, sc_n _ _ _ _ j10, hr j j1 j2 j3 j4 j5 j6 j7 j8]; exact ob j j3 j7 j8 j9
      have h106 : h1 106 0 = nI t := by
        rw [f1, sc_s, hr 101 (by decide) (by decide) (by decide) (by decide) (by decide) (by decide) (by decide) (by decide), ob 101 (by decide) (by decide) (by decide) (by decide)]; exact h101
      have so : ∀ j, j ≠ 106 → h1 j = g' j := fun j hj => by rw [f1, sc_n _ _ _ _ hj]
      have D1 : DW O.length (drv (wr13 ru bi fe ye no s) most O dv0) h1 := DW_of (so 104 (by decide)) (so 20 (by decide)) (so 103 (by decide)) (so 18 (by decide)) (so 16 (by decide)) (so 17 (by decide)) (so 21 (by decide)) (so 22 (by decide)) hD
      unfold pl_Co_writeMethods_65
      intro P2 hP2
      have roots : ∀ (r k : Nat) (h2 : St), k + r = t → (∀ j, j ≠ 23 → h2 j = h1 j) → (∀ i, i < k → h2 23 i = nI (rm i)) → P2 (nI most) (nI k) h2 := by
        intro r
        induction r with
        | zero =>
          intro k h2 hkr h2o h23
          apply hP2
          unfold pb_Co_writeMethods_65
          rw [h2o 106 (by decide), h106]
          refine zb_t (nI_le (by omega) (by omega)) ?_
          refine hk h2 (DW_of (h2o 104 (by decide)) (h2o 20 (by decide)) (h2o 103 (by decide)) (h2o 18 (by decide)) (h2o 16 (by decide)) (h2o 17 (by decide)) (h2o 21 (by decide)) (h2o 22 (by decide)) D1) hI ?_ ?_ (fun i hi => h23 i (by omega)) (fun j j1 j2 j3 j4 j5 j6 j7 j8 j9 j10 j11 => by rw [h2o j j7]; exact og j j1 j2 j3 j4 j5 j6 j8 j9 j10 j11)
          · rw [h2o 105 (by decide), so 105 (by decide)]; exact g105
          · rw [h2o 106 (by decide)]; exact h106
        | succ r ih =>
          intro k h2 hkr h2o h23
          have hkt : k < t := by omega
          obtain ⟨r60, r8, r13⟩ := hro k hkt
          have ck : (nI k).toNatClampNeg = k := nI_clamp (by omega)
          apply hP2
          unfold pb_Co_writeMethods_65
          have q8 : h2 8 k = nI (ro k) := by rw [h2o 8 (by decide), og 8 (by decide) (by decide) (by decide) (by decide) (by decide) (by decide) (by decide) (by decide) (by decide) (by decide)]; exact r8
          have q13 : h2 13 (ro k) = nI (rm k) := by rw [h2o 13 (by decide), og 13 (by decide) (by decide) (by decide) (by decide) (by decide) (by decide) (by decide) (by decide) (by decide) (by decide)]; exact r13
          rw [h2o 106 (by decide), h106, ck, q8, nI_clamp (by omega : ro k < 2 ^ 31), q13]
          refine zb_f (nI_ge (by omega) (by omega)) ⟨vp_in_nI (by omega) (by decide), vp_in_nI r60 (by decide), vp_in_nI (by omega) (by decide), fun h3 f3 v2 w2 => ?_⟩
          rw [nI_1] at w2
          rw [w2]
          refine ih (k + 1) h3 (by omega) (fun j hj => by rw [f3, ar_n _ _ _ _ _ hj]; exact h2o j hj) (fun i hi => ?_)
          rw [f3, ar_at k ck]
          by_cases e : i = k
          · rw [if_pos e, e]
          · rw [if_neg e]; exact h23 i (by omega)
      exact roots t 0 h1 (by omega) (fun _ _ => rfl) (fun i hi => absurd hi (Nat.not_lt_zero _))
    | cons x rest ih =>
      intro done dv g' hO hI hD hr hd
      have lO : O.length = done.length + (rest.length + 1) := by rw [← hO, List.length_append]; rfl
      have xO : x ∈ O := by rw [← hO]; simp
      have xm : O[done.length]? = some x := by rw [← hO, List.getElem?_append_right (Nat.le_refl _)]; simp
      have sB : sumL s.1 done + s.1 x ≤ 600 := by
        rw [← hO, sumL_app] at hB
        have : sumL s.1 (x :: rest) = s.1 x + sumL s.1 rest := rfl
        omega
      have sE : sumL (eN ru ye no s 13) done + eN ru ye no s 13 x ≤ 120 := by
        rw [← hO, sumL_app] at hE
        have : sumL (eN ru ye no s 13) (x :: rest) = eN ru ye no s 13 x + sumL (eN ru ye no s 13) rest := rfl
        omega
      obtain ⟨T, N, L, A⟩ := hTb x xO
      apply hP
      unfold pb_Co_writeMethods_32
      have g105 : g' 105 0 = nI O.length := by rw [hr 105 (by decide) (by decide) (by decide) (by decide) (by decide) (by decide) (by decide) (by decide)]; exact b105
      rw [g105]
      refine zb_f (nI_ge (by omega) (by omega)) ?_
      refine s_writeMethod (b := b) (l := done) (m := done.length) hV hFb (hTb x xO) (by omega) rfl (by rw [ob 14 (by decide) (by decide) (by decide) (by decide)]; exact h14 _ _ xm) hmo (hem x xO) hI hD hr sB sE (fun g6 D6 r6 v4 w4 => ?_)
      rw [nI_1] at w4
      rw [w4]
      have := ih (done ++ [x]) (dstep (wr13 ru bi fe ye no s) most dv x) g6 (by rw [← hO]; simp) (DI_step (fun w => wrN_ext (bi := bi) (fe := fe) 13 x w T L) (hem x xO) hI) (by rw [List.length_append]; exact D6) r6 hd
      rw [List.length_append] at this
      exact this
  exact main O [] dv0 b rfl DI_0 W0 (fun _ _ _ _ _ _ _ _ _ => rfl) rfl
end DRC2
