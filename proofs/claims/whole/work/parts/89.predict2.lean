/-! predict: whole methods, whole trees -/
theorem pc_run_succ (D : Nat) (x1 x2 : Int32) (g : St) (K : Int32 → St → Prop) : pc_Ma_runMethod (D + 1) x1 x2 g K = pb_Ma_runMethod_0 (pc_Ma_runMethod D) K x1 x2 g := rfl
theorem run_in {c m : St} {n M : Nat} (hM : c 105 0 = nI M) (hM60 : M ≤ 60) : ∀ (d D : Nat), d ≤ D → ∀ (K : Int32 → St → Prop) (P : Int32 → Int32 → Int32 → Int32 → Int32 → Int32 → St → Prop), (∀ x1 x2 x3 x4 x5 x6 g, pb_Ma_runMethod_38 (pc_Ma_runMethod D) K P x1 x2 x3 x4 x5 x6 g → P x1 x2 x3 x4 x5 x6 g) →
    ∀ (q dep h x p y s ca a b done : Nat) (up lo : Int32) (g : St), CodeAt c m n M d x p h → LF c m d x y s ca → q < 60 → c 22 q = nI h → dep + d ≤ 13 → done + 3 * d ≤ 100 → Cn c a b g → (∀ g', Cn c (a + s) (b + ca) g' → K (c 5 y) g') → P (nI q) (nI dep) up lo (nI p) (nI done) g := by
  intro d
  induction d with
  | zero => intro D _ K P _ q dep h x p y s ca a b done up lo g hc; exact hc.elim
  | succ d ih =>
    intro D hD K P hP q dep h x p y s ca a b done up lo g hc hl hq hh hdep hdone hC hk
    obtain ⟨hx, hc⟩ := hc
    obtain ⟨hx60, hl⟩ := hl
    rcases hc with ⟨h1, k, e, u1, u2, c0, c1, c2, hE, c17⟩ | ⟨r, f, y1, o, k, e, dist, hs, u1, u2, c0, c1, c2, c3, hE, c17, hdist, hc⟩
    · rcases hl with ⟨-, -, rfl, rfl, rfl⟩ | ⟨r, f, a', o, b', s', q', hs, -⟩
      · refine r_push hP (op := 2) (k := k) (v := c 5 y) hq hh hC (lt_of_nI u1 (by omega) (by omega)) (by omega) (by omega) (Or.inr rfl) c0 c1 (fun g' hC' K' hk' => s_const (by decide) hC' hE (by rw [c17]; exact hk')) (fun g' hC' => ?_)
        exact r_ret hP hC' u1 u2 (by omega) c2 (fun g'' hC'' => hk g'' hC'')
      · exact absurd (hs.2.2.2.2.1.symm.trans h1) (nI_m1 (by have := hs.1; omega))
    · rcases hl with ⟨h1, -⟩ | ⟨r', f', a', o', b', s', q', hs', el1, el5, elr, hb, hl', hcut⟩
      · exact absurd (hs.2.2.2.2.1.symm.trans h1) (nI_m1 (by have := hs.1; omega))
      obtain ⟨s1, s2, s3, s4, s5, s6, s7, s8, -⟩ := hs
      obtain ⟨z1, z2, z3, z4, z5, z6, z7, z8, -⟩ := hs'
      have er : r' = r := (nI_eq (by omega) (by omega)).mp (z5.symm.trans s5)
      have ef : f' = f := (nI_eq (by omega) (by omega)).mp (z6.symm.trans s6)
      have ea : a' = y1 := (nI_eq (by omega) (by omega)).mp (z7.symm.trans s7)
      have eo : o' = o := (nI_eq (by omega) (by omega)).mp (z8.symm.trans s8)
      subst er ef ea eo
      rw [s5] at hb
      -- a child's part
      have part : ∀ (p' : Nat) (up' lo' : Int32) (g' : St), PartW c m M (CodeAt c m n M d) b' p' h → Cn c (a + 3) b g' → P (nI q) (nI dep) up' lo' (nI p') (nI (done + 3)) g' := by
        intro p' up' lo' g' hp hC'
        rcases hp with ⟨e1, hc'⟩ | ⟨q2, k2, e2, t2, h2, w1, w2, w3, w4, w5, w6, w7, w8, w9, w10, w11, w12, w13, hc'⟩
        · rcases hcut with ⟨-, rfl, rfl⟩ | ⟨⟨k3, k4, k5⟩, -⟩
          · refine ih D (by omega) K P hP q dep h b' p' y s' ca (a + 3) b (done + 3) up' lo' g' hc' hl' hq hh (by omega) (by omega) hC' (fun g'' hC'' => hk g'' ?_)
            rw [show a + (s' + 3) = a + 3 + s' by omega]
            exact hC''
          · exact absurd (k5.symm.trans e1) (nI_m1 (by omega))
        · rcases hcut with ⟨e1, -⟩ | ⟨-, rfl, rfl⟩
          · exact absurd (w2.symm.trans e1) (nI_m1 (by omega))
          · refine r_call hP hq hh hC' (lt_of_nI w6 (by omega) (by omega)) (by omega) (by omega) w3 w4 w8 w9 (fun g2 hC2 => ?_)
            obtain ⟨D', rfl⟩ : ∃ D', D = D' + 1 := ⟨D - 1, by omega⟩
            have hd1 : 1 ≤ d := by
              cases d with
              | zero => exact hc'.elim
              | succ d => omega
            rw [pc_run_succ]
            unfold pb_Ma_runMethod_0
            refine zb_f (nI_nlt (a := 12) (b := dep + 1) (by omega) (by decide)) ?_
            unfold pc_Co_isMethod pb_Co_isMethod_0
            refine s_rng (n := M) (by rw [hC2.2.2 105 (by decide) (by decide)]; exact hM) (by omega) (fun hb => absurd rfl (hb q2 w1)) (fun _ _ _ => zr_f (by decide) ?_)
            intro v3 e3 v4 e4
            refine ⟨vp_in_nI (by omega) (by decide), fun v5 e5 v6 e6 => ?_⟩
            rw [hC2.2.2 21 (by decide) (by decide), nI_clamp (by omega : q2 < 2 ^ 31), w10] at e5
            rw [e5, e6]
            unfold pl_Ma_runMethod_38
            intro P' hP'
            refine ih D' (by omega) _ P' hP' q2 (dep + 1) h2 b' t2 y s' q' (a + 3 + 1) (b + 1) 0 v3 v4 g2 hc' hl' (by omega) w11 (by omega) (by omega) hC2 (fun g3 hC3 => ?_)
            refine r_ret hP hC3 w6 w7 (by omega) w5 (fun g4 hC4 => hk g4 ?_)
            rw [show a + (s' + 5) = a + 3 + 1 + s' + 1 by omega, show b + (q' + 1) = b + 1 + q' by omega]
            exact hC4
      refine r_push hP (op := 1) (k := f') (v := c 1 f') hq hh hC (lt_of_nI u1 (by omega) (by omega)) (by omega) (by omega) (Or.inl rfl) c0 c1 (fun g' hC' K' hk' => s_load hC' s2 hk') (fun g1 hC1 => ?_)
      refine r_push hP (op := 2) (k := k) (v := c 5 x) hq hh hC1 (lt_of_nI u1 (by omega) (by omega)) (by omega) (by omega) (Or.inr rfl) c2 c3 (fun g' hC' K' hk' => s_const (by decide) hC' hE (by rw [c17]; exact hk')) (fun g2 hC2 => ?_)
      rcases hc with ⟨t0, t1, py, po⟩ | ⟨t0, hi, lo', t1, t2, t3, py, po⟩
      · refine r_test hP hC2 (lt_of_nI u1 (by omega) (by omega)) (by omega) (by omega) s1 hdist (Or.inl ⟨t0, t1⟩) (fun hg w hw g3 hC3 => ?_) (fun hg g3 hC3 => ?_)
        · have hw2 : w = 2 := by
            rcases hw with ⟨-, rfl⟩ | ⟨t9, -⟩
            · rfl
            · have := (nI_eq (by omega) (by omega)).mp (t0.symm.trans t9)
              omega
          subst hw2
          rcases hb with ⟨-, rfl⟩ | ⟨hb, -⟩
          · exact part _ _ _ _ py hC3
          · exact absurd hg hb
        · rcases hb with ⟨hb, -⟩ | ⟨-, rfl⟩
          · exact absurd hb hg
          · exact part _ _ _ _ po hC3
      · refine r_test hP hC2 (lt_of_nI u1 (by omega) (by omega)) (by omega) (by omega) s1 hdist (Or.inr ⟨t0, hi, lo', t1, t2, t3⟩) (fun hg w hw g3 hC3 => ?_) (fun hg g3 hC3 => ?_)
        · have hw2 : w = 3 := by
            rcases hw with ⟨t9, -⟩ | ⟨-, rfl⟩
            · have := (nI_eq (by omega) (by omega)).mp (t0.symm.trans t9)
              omega
            · rfl
          subst hw2
          rcases hb with ⟨-, rfl⟩ | ⟨hb, -⟩
          · exact part _ _ _ _ py hC3
          · exact absurd hg hb
        · rcases hb with ⟨hb, -⟩ | ⟨-, rfl⟩
          · exact absurd hb hg
          · exact part _ _ _ _ po hC3
theorem run_top {c m : St} {n M : Nat} (hM : c 105 0 = nI M) (hM60 : M ≤ 60) {K : Int32 → St → Prop} {q h x p y s ca a b : Nat} {g : St} (hc : CodeAt c m n M 13 x p h) (hl : LF c m 13 x y s ca) (hq : q < M) (h21 : c 21 q = nI p) (h22 : c 22 q = nI h) (hC : Cn c a b g) (hk : ∀ g', Cn c (a + s) (b + ca) g' → K (c 5 y) g') : pc_Ma_runMethod 14 (nI q) 0 g K := by
  show pb_Ma_runMethod_0 (pc_Ma_runMethod 13) K (nI q) 0 g
  unfold pb_Ma_runMethod_0
  refine zb_f (by decide) ?_
  unfold pc_Co_isMethod pb_Co_isMethod_0
  refine s_rng (n := M) (by rw [hC.2.2 105 (by decide) (by decide)]; exact hM) (by omega) (fun hb => absurd rfl (hb q hq)) (fun _ _ _ => zr_f (by decide) ?_)
  intro v3 e3 v4 e4
  refine ⟨vp_in_nI (by omega) (by decide), fun v5 e5 v6 e6 => ?_⟩
  rw [hC.2.2 21 (by decide) (by decide), nI_clamp (by omega : q < 2 ^ 31), h21] at e5
  rw [e5, e6]
  unfold pl_Ma_runMethod_38
  intro P hP
  exact run_in hM hM60 13 13 (Nat.le_refl _) K P hP q 0 h x p y s ca a b 0 v3 v4 g hc hl (by omega) h22 (by omega) (by omega) hC hk
def sumV (v : Nat → Int64) : Nat → Nat → Int64 → Int64
  | 0, _, t => t
  | r + 1, i, t => sumV v r (i + 1) (t + v i)
def sumN (v : Nat → Nat) : Nat → Nat → Nat → Nat
  | 0, _, t => t
  | r + 1, i, t => sumN v r (i + 1) (t + v i)
theorem s_trees {c m : St} {n M k : Nat} (hM : c 105 0 = nI M) (hM60 : M ≤ 60) (hk8 : k ≤ 8) (h106 : c 106 0 = nI k) {K : Int64 → St → Prop} (ro Y S Q : Nat → Nat) (hT : ∀ i, i < k → LF c m 13 (ro i) (Y i) (S i) (Q i) ∧ ∃ q s h : Nat, q < M ∧ c 23 i = nI q ∧ c 21 q = nI s ∧ c 22 q = nI h ∧ CodeAt c m n M 13 (ro i) s h)
    (g : St) (hC : Cn c 0 0 g) (hk : ∀ g', Cn c (sumN S k 0 0) (sumN Q k 0 0) g' → K (sumV (fun i => (c 5 (Y i)).toInt64) k 0 0) g') : pl_Ma_runTrees_14 K 0 0 g := by
  unfold pl_Ma_runTrees_14
  intro P hP
  have main : ∀ (r i a b : Nat) (t : Int64) (g : St), i + r = k → Cn c a b g → (∀ g', Cn c (sumN S r i a) (sumN Q r i b) g' → K (sumV (fun i => (c 5 (Y i)).toInt64) r i t) g') → P t (nI i) g := by
    intro r
    induction r with
    | zero =>
      intro i a b t g hi hC hk
      apply hP
      unfold pb_Ma_runTrees_14
      refine zb_t ?_ (hk g hC)
      rw [hC.2.2 106 (by decide) (by decide), h106]
      exact nI_le (by omega) (by omega)
    | succ r ih =>
      intro i a b t g hi hC hk
      apply hP
      unfold pb_Ma_runTrees_14
      refine zb_f ?_ ⟨vp_in_nI (by omega) (by decide), ?_⟩
      · rw [hC.2.2 106 (by decide) (by decide), h106]
        exact nI_ge (by omega) (by omega)
      obtain ⟨hl, q, s, h, q1, q2, q3, q4, q5⟩ := hT i (by omega)
      rw [hC.2.2 23 (by decide) (by decide), nI_clamp (by omega : i < 2 ^ 31), q2]
      refine run_top hM hM60 q5 hl q1 q3 q4 hC (fun g' hC' => ?_)
      intro v3 e3 v4 e4
      rw [nI_1] at e4
      rw [e3, e4]
      exact ih (i + 1) _ _ _ g' (by omega) hC' hk
  exact main k 0 0 0 0 g (by omega) hC hk
theorem s_Mtrees {c m : St} {k : Nat} (hk8 : k ≤ 8) (h102 : m 102 0 = nI k) {K : Int64 → St → Prop} (ro Y S Q : Nat → Nat) (hT : ∀ i, i < k → LF c m 13 (ro i) (Y i) (S i) (Q i) ∧ m 6 i = nI (ro i) ∧ m 3 (Y i) = c 5 (Y i))
    (g : St) (hC : Cn m 0 0 g) (hk : ∀ g', Cn m (sumN S k 0 0) (sumN Q k 0 0) g' → K (sumV (fun i => (c 5 (Y i)).toInt64) k 0 0) g') : pl_Mo_predict_14 K 0 0 g := by
  unfold pl_Mo_predict_14
  intro P hP
  have main : ∀ (r i a b : Nat) (t : Int64) (g : St), i + r = k → Cn m a b g → (∀ g', Cn m (sumN S r i a) (sumN Q r i b) g' → K (sumV (fun i => (c 5 (Y i)).toInt64) r i t) g') → P t (nI i) g := by
    intro r
    induction r with
    | zero =>
      intro i a b t g hi hC hk
      apply hP
      unfold pb_Mo_predict_14
      refine zb_t ?_ (hk g hC)
      rw [hC.2.2 102 (by decide) (by decide), h102]
      exact nI_le (by omega) (by omega)
    | succ r ih =>
      intro i a b t g hi hC hk
      apply hP
      unfold pb_Mo_predict_14
      refine zb_f ?_ ⟨vp_in_nI (by omega) (by decide), fun v1 e1 => ?_⟩
      · rw [hC.2.2 102 (by decide) (by decide), h102]
        exact nI_ge (by omega) (by omega)
      obtain ⟨hl, q1, q2⟩ := hT i (by omega)
      rw [hC.2.2 6 (by decide) (by decide), nI_clamp (by omega : i < 2 ^ 31), q1] at e1
      rw [e1]
      unfold pl_Mo_predict_30
      intro P3 hP3
      have inner : ∀ (d x s q a b : Nat) (g : St), LF c m d x (Y i) s q → Cn m a b g → (∀ g', Cn m (a + s) (b + q) g' → P (t + (c 5 (Y i)).toInt64) (nI (i + 1)) g') → P3 t (nI i) (nI x) g := by
        intro d
        induction d with
        | zero => intro x s q a b g hl; exact hl.elim
        | succ d ihd =>
          intro x s q a b g hl hC hk
          obtain ⟨hx, hl⟩ := hl
          apply hP3
          unfold pb_Mo_predict_30
          have cx : (nI x).toNatClampNeg = x := nI_clamp (by omega)
          have ix : vp_in (nI x) 60 := vp_in_nI hx (by decide)
          rw [cx]
          refine ⟨ix, ?_⟩
          have g1 := hC.2.2 1 (by decide) (by decide)
          rcases hl with ⟨h1, h2, hy, rfl, rfl⟩ | ⟨r', f, a', o, b', s', q', hs, e1, e5, er, hb, hl', hcut⟩
          · refine zb_t (by rw [g1]; exact h2) ?_
            intro g2 e2
            have hC2 : Cn m (a + 2) b g2 := by
              rw [e2]
              exact ⟨by rw [sc_s, hC.1]; exact nI_add a 2, by rw [sc_n _ _ _ _ (by decide)]; exact hC.2.1, fun k h1 h2 => by rw [sc_n _ _ _ _ h1]; exact hC.2.2 k h1 h2⟩
            refine ⟨ix, fun v2 f2 v3 f3 => ?_⟩
            rw [hC2.2.2 3 (by decide) (by decide), ← hy, q2] at f2
            rw [nI_1] at f3
            rw [f2, f3]
            exact hk g2 hC2
          · obtain ⟨s1, s2, s3, s4, s5, s6, s7, s8, s9, s10, s11⟩ := hs
            rw [e5, er, ← e1] at hb
            refine zb_f (by rw [g1, e1, s5]; exact nI_m1 (by omega)) ?_
            have nxt : ∀ t0 : Int32, t0 = nI b' → pb_Mo_predict_67 K P P3 t (nI i) (nI x) t0 g := by
              intro t0 et
              unfold pb_Mo_predict_67
              intro v1 f1
              have hb60 : b' < 60 := by
                cases d with
                | zero => exact hl'.elim
                | succ d => exact hl'.1
              have cb : (nI b').toNatClampNeg = b' := nI_clamp (by omega)
              have ib : vp_in (nI b') 60 := vp_in_nI hb60 (by decide)
              rw [f1, et, cb, hC.2.2 13 (by decide) (by decide)]
              refine ⟨ib, ?_⟩
              rcases hcut with ⟨w1, rfl, rfl⟩ | ⟨⟨k3, w0, w1⟩, rfl, rfl⟩
              · refine zb_t (by rw [w1]; decide) ?_
                unfold pb_Mo_predict_89
                intro g2 e2
                have hC2 : Cn m (a + 3) b g2 := by
                  rw [e2]
                  exact ⟨by rw [sc_s, hC.1]; exact nI_add a 3, by rw [sc_n _ _ _ _ (by decide)]; exact hC.2.1, fun k h1 h2 => by rw [sc_n _ _ _ _ h1]; exact hC.2.2 k h1 h2⟩
                rw [cb, hC2.2.2 13 (by decide) (by decide)]
                refine ⟨ib, zb_t (by rw [w1]; decide) ?_⟩
                unfold pb_Mo_predict_117
                intro g3 e3
                have hC3 : Cn m (a + 3) b g3 := by
                  rw [e3]
                  exact ⟨by rw [sc_n _ _ _ _ (by decide)]; exact hC2.1, by rw [sc_s]; exact hC2.2.1, fun k h1 h2 => by rw [sc_n _ _ _ _ h2]; exact hC2.2.2 k h1 h2⟩
                refine ihd b' s' q (a + 3) b g3 hl' hC3 (fun g' hC' => hk g' ?_)
                rw [show a + (s' + 3) = a + 3 + s' by omega]
                exact hC'
              · refine zb_f (by rw [w1]; exact nI_pos (by omega)) ?_
                unfold pb_Mo_predict_89
                intro g2 e2
                have hC2 : Cn m (a + 5) b g2 := by
                  rw [e2]
                  exact ⟨by rw [sc_s, hC.1]; exact nI_add a 5, by rw [sc_n _ _ _ _ (by decide)]; exact hC.2.1, fun k h1 h2 => by rw [sc_n _ _ _ _ h1]; exact hC.2.2 k h1 h2⟩
                rw [cb, hC2.2.2 13 (by decide) (by decide)]
                refine ⟨ib, zb_f (by rw [w1]; exact nI_pos (by omega)) ?_⟩
                unfold pb_Mo_predict_117
                intro g3 e3
                have hC3 : Cn m (a + 5) (b + 1) g3 := by
                  rw [e3]
                  exact ⟨by rw [sc_n _ _ _ _ (by decide)]; exact hC2.1, by rw [sc_s, hC2.2.1, nI_1], fun k h1 h2 => by rw [sc_n _ _ _ _ h2]; exact hC2.2.2 k h1 h2⟩
                refine ihd b' s' q' (a + 5) (b + 1) g3 hl' hC3 (fun g' hC' => hk g' ?_)
                rw [show a + (s' + 5) = a + 5 + s' by omega, show b + (q' + 1) = b + 1 + q' by omega]
                exact hC'
            refine s_Mgoes (f := f) hx (by rw [hC.2.2 2 (by decide) (by decide)]; exact s9) s2 (fun hg => zb_t rfl ⟨ix, ?_⟩) (fun hg => zb_f (by decide) ⟨ix, ?_⟩)
            · rw [g1, hC.2.2 7 (by decide) (by decide), hC.2.2 3 (by decide) (by decide)] at hg
              rw [hC.2.2 5 (by decide) (by decide)]
              rcases hb with ⟨hb, -⟩ | ⟨-, rfl⟩
              · exact absurd hb hg
              · exact nxt _ s11
            · rw [g1, hC.2.2 7 (by decide) (by decide), hC.2.2 3 (by decide) (by decide)] at hg
              rw [hC.2.2 4 (by decide) (by decide)]
              rcases hb with ⟨-, rfl⟩ | ⟨hb, -⟩
              · exact nxt _ s10
              · exact absurd hg hb
      exact inner 13 (ro i) (S i) (Q i) a b g hl hC (fun g' hC' => ih (i + 1) _ _ _ g' (by omega) hC' hk)
  exact main k 0 0 0 0 g (by omega) hC hk
theorem LF_leaf {c m : St} {y s q : Nat} : ∀ (d x s q : Nat), LF c m d x y s q → y < 60 := by
  intro d
  induction d with
  | zero => intro x s q h; exact h.elim
  | succ d ih =>
    intro x s q h
    obtain ⟨hx, h⟩ := h
    rcases h with ⟨-, -, rfl, -, -⟩ | ⟨_, _, _, _, b, s', q', _, _, _, _, _, hl, _⟩
    · exact hx
    · exact ih b s' q' hl
theorem LF_leafn {c m : St} {n M : Nat} {y : Nat} : ∀ (d x p h s q : Nat), CodeAt c m n M d x p h → LF c m d x y s q → y < n := by
  intro d
  induction d with
  | zero => intro x p h s q hc; exact hc.elim
  | succ d ih =>
    intro x p h s q hc hl
    obtain ⟨hx, hc⟩ := hc
    obtain ⟨-, hl⟩ := hl
    rcases hl with ⟨-, -, rfl, -, -⟩ | ⟨r', f', a', o', b', s', q', hs', -, -, -, hb, hl', -⟩
    · exact hx
    · rcases hc with ⟨h1, -⟩ | ⟨r, f, y1, o, k, e, dist, hs, -, -, -, -, -, -, -, -, -, hc⟩
      · exact absurd (hs'.2.2.2.2.1.symm.trans h1) (nI_m1 (by have := hs'.1; omega))
      have ea : a' = y1 := (nI_eq (by have := hs'.2.2.1; omega) (by have := hs.2.2.1; omega)).mp (hs'.2.2.2.2.2.2.1.symm.trans hs.2.2.2.2.2.2.1)
      have eo : o' = o := (nI_eq (by have := hs'.2.2.2.1; omega) (by have := hs.2.2.2.1; omega)).mp (hs'.2.2.2.2.2.2.2.1.symm.trans hs.2.2.2.2.2.2.2.1)
      subst ea eo
      have two : (∃ p1, PartW c m M (CodeAt c m n M d) a' p1 h) ∧ ∃ p2, PartW c m M (CodeAt c m n M d) o' p2 h := by
        rcases hc with ⟨-, -, h3, h4⟩ | ⟨-, _, _, -, -, -, h3, h4⟩
        · exact ⟨⟨_, h3⟩, ⟨_, h4⟩⟩
        · exact ⟨⟨_, h3⟩, ⟨_, h4⟩⟩
      have part : ∀ p', PartW c m M (CodeAt c m n M d) b' p' h → y < n := by
        intro p' hp
        rcases hp with ⟨-, hc⟩ | ⟨_, _, _, _, _, _, _, _, _, _, _, _, _, _, _, _, _, _, hc⟩
        · exact ih _ _ _ _ _ hc hl'
        · exact ih _ _ _ _ _ hc hl'
      rcases hb with ⟨-, rfl⟩ | ⟨-, rfl⟩
      · exact two.1.elim part
      · exact two.2.elim part
theorem Rel_cnt {c m g' m' : St} {a b : Nat} (h : Rel c m) (hC : Cn c a b g') (hM : Cn m a b m') : Rel g' m' := by
  obtain ⟨n, t, M, z, st, ts, hN, hT, hR, hS, hB, hK⟩ := h
  have oC : ∀ k, k ≠ 107 → k ≠ 108 → g' k = c k := hC.2.2
  have oM : ∀ k, k ≠ 107 → k ≠ 108 → m' k = m k := hM.2.2
  have S : SameCode c m g' m' n := by
    refine ⟨fun i hi => ?_, oC 17 (by decide) (by decide), oC 18 (by decide) (by decide), oC 20 (by decide) (by decide), oC 21 (by decide) (by decide), oC 22 (by decide) (by decide), oC 103 (by decide) (by decide), oC 104 (by decide) (by decide)⟩
    rw [oC 3 (by decide) (by decide), oC 4 (by decide) (by decide), oC 5 (by decide) (by decide), oC 6 (by decide) (by decide), oC 7 (by decide) (by decide), oM 2 (by decide) (by decide), oM 4 (by decide) (by decide), oM 5 (by decide) (by decide), oM 13 (by decide) (by decide)]
    exact ⟨rfl, rfl, rfl, rfl, rfl, rfl, rfl, rfl, rfl⟩
  refine ⟨n, t, M, z, st, ts, ?_, ?_, fun i hi => ?_, ⟨by rw [hC.1, hM.1], by rw [hC.2.1, hM.2.1]⟩, ?_, ?_⟩
  · unfold RN NodeOk SplitN at *
    rw [oC 3 (by decide) (by decide), oC 4 (by decide) (by decide), oC 5 (by decide) (by decide), oC 6 (by decide) (by decide), oC 7 (by decide) (by decide), oM 1 (by decide) (by decide), oM 2 (by decide) (by decide), oM 3 (by decide) (by decide), oM 4 (by decide) (by decide), oM 5 (by decide) (by decide), oC 100 (by decide) (by decide), oM 100 (by decide) (by decide)]
    exact hN
  · unfold RT at *
    rw [oC 101 (by decide) (by decide), oM 101 (by decide) (by decide), oC 8 (by decide) (by decide), oM 6 (by decide) (by decide)]
    exact hT
  · rw [oC 1 (by decide) (by decide), oM 7 (by decide) (by decide)]; exact hR i hi
  · refine RB_same ?_ ?_ ?_ ?_ ?_ ?_ ?_ ?_ ?_ ?_ ?_ ?_ ?_ ?_ ?_ ?_ ?_ hB <;> first | exact oC _ (by decide) (by decide) | exact oM _ (by decide) (by decide)
  · exact RK_same S (Nat.le_refl _) (Nat.le_refl _) (fun i hi => by rw [oC 8 (by decide) (by decide)]) (oC 23 (by decide) (by decide)) (oC 106 (by decide) (by decide)) (oM 102 (by decide) (by decide)) hK
theorem sim_predict (c m : St) (h : Rel c m) : pc_BF_predict c (fun r1 c => pc_Mo_predict m (fun r2 m => r1 = r2 ∧ Rel c m)) := by
  have h' := h
  obtain ⟨n, t, M, z, st, ts, hN, hT, hR, hS, hB, hK⟩ := h'
  obtain ⟨k, k1, k2, k3, k4⟩ := hK
  have hk8 : k ≤ 8 := by have := hT.1; omega
  have hn60 := hN.1
  have ex : ∀ i, ∃ ro Y S Q : Nat, i < k → (LF c m 13 ro Y S Q ∧ Y < n ∧ m 6 i = nI ro ∧ ∃ q s h : Nat, q < M ∧ c 23 i = nI q ∧ c 21 q = nI s ∧ c 22 q = nI h ∧ CodeAt c m n M 13 ro s h) := by
    intro i
    by_cases hi : i < k
    · obtain ⟨r, q, s, hh, g1, g2, g3, g4, g5, g6, g7, g8, g9⟩ := k4 i hi
      obtain ⟨r', a1, a2, a3⟩ := hT.2.2.2 i (by omega)
      have er : r = r' := (nI_eq (by omega) (by omega)).mp (g3.symm.trans a2)
      subst er
      obtain ⟨y, s', q', hl⟩ := LF_of hN hR hB.1 13 r s hh g9
      exact ⟨r, y, s', q', fun _ => ⟨hl, LF_leafn 13 r s hh s' q' g9 hl, a3, q, s, hh, g2, g4, g5, g6, g9⟩⟩
    · exact ⟨0, 0, 0, 0, fun q => absurd q hi⟩
  have ex2 : ∃ ro Y S Q : Nat → Nat, ∀ i, i < k → (LF c m 13 (ro i) (Y i) (S i) (Q i) ∧ Y i < n ∧ m 6 i = nI (ro i) ∧ ∃ q s h : Nat, q < M ∧ c 23 i = nI q ∧ c 21 q = nI s ∧ c 22 q = nI h ∧ CodeAt c m n M 13 (ro i) s h) :=
    ⟨fun i => (ex i).choose, fun i => (ex i).choose_spec.choose, fun i => (ex i).choose_spec.choose_spec.choose, fun i => (ex i).choose_spec.choose_spec.choose_spec.choose, fun i => (ex i).choose_spec.choose_spec.choose_spec.choose_spec⟩
  obtain ⟨ro, Y, S, Q, hall⟩ := ex2
  unfold pc_BF_predict pb_BF_predict_0 pc_Ma_runTrees pb_Ma_runTrees_0
  intro g1 e1 g2 e2 v3 f3 v4 f4
  have hC0 : Cn c 0 0 g2 := by
    rw [e2, e1]
    exact ⟨by rw [sc_n _ _ _ _ (by decide), sc_s]; rfl, by rw [sc_s]; rfl, fun k h1 h2 => by rw [sc_n _ _ _ _ h2, sc_n _ _ _ _ h1]⟩
  rw [f3, f4]
  refine s_trees hB.2.2.1 hB.1 hk8 k2 ro Y S Q (fun i hi => ⟨(hall i hi).1, (hall i hi).2.2.2⟩) g2 hC0 (fun g' hC' => ?_)
  unfold pc_Mo_predict pb_Mo_predict_0
  intro v1 w1 m2 w2 m3 w3 v4 w4
  have hM0 : Cn m 0 0 m3 := by
    rw [w3, w2]
    exact ⟨by rw [sc_n _ _ _ _ (by decide), sc_s]; rfl, by rw [sc_s]; rfl, fun k h1 h2 => by rw [sc_n _ _ _ _ h2, sc_n _ _ _ _ h1]⟩
  rw [w1, w4]
  exact s_Mtrees hk8 k3 ro Y S Q (fun i hi => ⟨(hall i hi).1, (hall i hi).2.2.1, ((hN.2.2.2 (Y i) (hall i hi).2.1).2.1).symm⟩) m3 hM0 (fun m' hM' => ⟨rfl, Rel_cnt h hC' hM'⟩)
