/-! reach: both sides come to the same leaf -/
/-- from node x, within d levels, the row leads to leaf y; s steps and q calls (of the code) are done -/
def LF (c m : St) : Nat → Nat → Nat → Nat → Nat → Prop
  | 0, _, _, _, _ => False
  | d + 1, x, y, s, q => x < 60 ∧ ((c 3 x = -1 ∧ m 1 x = -1 ∧ y = x ∧ s = 2 ∧ q = 0) ∨
      ∃ r f a o b s' q' : Nat, SplitN c m x r f a o ∧ m 1 x = c 3 x ∧ c 5 x = m 3 x ∧ c 1 f = m 7 f ∧ ((goes (c 3 x) (c 1 f) (c 5 x) ∧ b = a) ∨ (¬ goes (c 3 x) (c 1 f) (c 5 x) ∧ b = o)) ∧ LF c m d b y s' q' ∧
        ((m 13 b = -1 ∧ s = s' + 3 ∧ q = q') ∨ ((∃ k : Nat, k < 60 ∧ m 13 b = nI k) ∧ s = s' + 5 ∧ q = q' + 1)))
theorem nI_m1 {k : Nat} (h : k < 2 ^ 31) : ¬ nI k = -1 := fun q => by
  have := congrArg Int32.toInt q
  rw [nI_toInt h, show (-1 : Int32).toInt = -1 from by decide] at this
  omega
theorem LF_of {c m : St} {n M : Nat} (hN : RN c m n) (hR : RR c m) (hM : M ≤ 60) : ∀ (d x p h : Nat), CodeAt c m n M d x p h → ∃ y s q, LF c m d x y s q := by
  intro d
  induction d with
  | zero => intro x p h hc; exact hc.elim
  | succ d ih =>
    intro x p h hc
    obtain ⟨hx, hc⟩ := hc
    have hn := hN.2.2.2 x hx
    have hx60 : x < 60 := Nat.lt_of_lt_of_le hx hN.1
    rcases hc with ⟨h1, -⟩ | ⟨r, f, a, o, k, ea, dist, hs, -, -, -, -, -, -, -, -, -, hc⟩
    · exact ⟨x, 2, 0, hx60, Or.inl ⟨h1, by rw [← hn.1]; exact h1, rfl, rfl, rfl⟩⟩
    · have part : ∀ b p', PartW c m M (CodeAt c m n M d) b p' h → (∃ y s' q', LF c m d b y s' q') ∧ (m 13 b = -1 ∨ ∃ k : Nat, k < 60 ∧ m 13 b = nI k) := by
        intro b p' hp
        rcases hp with ⟨e, hc⟩ | ⟨q, _, _, _, _, hq, e, _, _, _, _, _, _, _, _, _, _, _, hc⟩
        · exact ⟨ih b _ _ hc, Or.inl e⟩
        · exact ⟨ih b _ _ hc, Or.inr ⟨q, by omega, e⟩⟩
      have two : (∃ p1, PartW c m M (CodeAt c m n M d) a p1 h) ∧ ∃ p2, PartW c m M (CodeAt c m n M d) o p2 h := by
        rcases hc with ⟨-, -, h3, h4⟩ | ⟨-, _, _, -, -, -, h3, h4⟩
        · exact ⟨⟨_, h3⟩, ⟨_, h4⟩⟩
        · exact ⟨⟨_, h3⟩, ⟨_, h4⟩⟩
      obtain ⟨⟨p1, t1⟩, ⟨p2, t2⟩⟩ := two
      have go : ∀ b, ((goes (c 3 x) (c 1 f) (c 5 x) ∧ b = a) ∨ (¬ goes (c 3 x) (c 1 f) (c 5 x) ∧ b = o)) → ((∃ y s' q', LF c m d b y s' q') ∧ (m 13 b = -1 ∨ ∃ k : Nat, k < 60 ∧ m 13 b = nI k)) → ∃ y s q, LF c m (d + 1) x y s q := by
        intro b hb ⟨⟨y, s', q', hl⟩, hcut⟩
        rcases hcut with e | e
        · exact ⟨y, s' + 3, q', hx60, Or.inr ⟨r, f, a, o, b, s', q', hs, hn.1.symm, hn.2.1, hR f hs.2.1, hb, hl, Or.inl ⟨e, rfl, rfl⟩⟩⟩
        · exact ⟨y, s' + 5, q' + 1, hx60, Or.inr ⟨r, f, a, o, b, s', q', hs, hn.1.symm, hn.2.1, hR f hs.2.1, hb, hl, Or.inr ⟨e, rfl, rfl⟩⟩⟩
      by_cases hg : goes (c 3 x) (c 1 f) (c 5 x)
      · exact go a (Or.inl ⟨hg, rfl⟩) (part a p1 t1)
      · exact go o (Or.inr ⟨hg, rfl⟩) (part o p2 t2)
theorem s_isLeaf {g : St} {K : Int32 → St → Prop} {x : Nat} (hx : x < 60) (h1 : g 3 x = -1 → K 1 g) (h0 : ¬ g 3 x = -1 → K 0 g) : pc_Fo_isLeaf (nI x) g K := by
  unfold pc_Fo_isLeaf pb_Fo_isLeaf_0
  rw [nI_clamp (by omega : x < 2 ^ 31)]
  exact ⟨vp_in_nI hx (by decide), h0, h1⟩
theorem s_leafFor {c m : St} {K : Int32 → St → Prop} {x y s q : Nat} (hl : LF c m 13 x y s q) (h : K (nI y) c) : pc_Fo_leafFor (nI x) c K := by
  unfold pc_Fo_leafFor pb_Fo_leafFor_0
  intro v1 e1 v2 e2
  rw [e1, e2]
  unfold pl_Fo_leafFor_5
  intro P hP
  have main : ∀ (d x j : Nat) (s q : Nat) (r0 : Int32), d + j = 13 → LF c m d x y s q → P r0 (nI x) (nI j) c := by
    intro d
    induction d with
    | zero => intro x j s q r0 _ hl; exact hl.elim
    | succ d ih =>
      intro x j s q r0 hj hl
      obtain ⟨hx, hl⟩ := hl
      apply hP
      unfold pb_Fo_leafFor_5
      refine zb_f (nI_nlt (a := 12) (b := j) (by omega) (by decide)) ?_
      have cx : (nI x).toNatClampNeg = x := nI_clamp (by omega)
      have ix : vp_in (nI x) 60 := vp_in_nI hx (by decide)
      rcases hl with ⟨h1, -, rfl, -, -⟩ | ⟨r, f, a, o, b, s', q', hs, e1, e5, er, hb, hl', -⟩
      · exact s_isLeaf hx (fun _ => zr_f (by decide) h) (fun n => absurd h1 n)
      · obtain ⟨s1, s2, s3, s4, s5, s6, s7, s8, s9, s10, s11⟩ := hs
        refine s_isLeaf hx (fun n => absurd (s5.symm.trans n) (nI_m1 (by omega))) (fun _ => zr_t rfl ?_)
        rw [cx, s6, nI_clamp (by omega : f < 2 ^ 31)]
        refine ⟨ix, ix, vp_in_nI s2 (by decide), ix, ?_⟩
        refine s_goesToYes _ _ _ (fun hg => ?_) (fun hg => ?_)
        · intro v ev
          refine zb_t ev ⟨ix, ?_⟩
          unfold pb_Fo_leafFor_65
          intro w1 f1 w2 f2
          rw [nI_1] at f2
          rcases hb with ⟨hb, -⟩ | ⟨-, rfl⟩
          · exact absurd hb hg
          rw [f1, f2, s8]
          exact ih b (j + 1) s' q' r0 (by omega) hl'
        · intro v ev
          refine zb_f (by rw [ev]; decide) ⟨ix, ?_⟩
          unfold pb_Fo_leafFor_65
          intro w1 f1 w2 f2
          rw [nI_1] at f2
          rcases hb with ⟨-, rfl⟩ | ⟨hb, -⟩
          · rw [f1, f2, s7]
            exact ih b (j + 1) s' q' r0 (by omega) hl'
          · exact absurd hg hb
  exact main 13 x 0 s q _ (by omega) hl
theorem s_Mreach {c m : St} {K : Int32 → St → Prop} {x y s q : Nat} {t : Int32} (hl : LF c m 13 x y s q) (h : K (nI y) m) : pl_Mo_reach_21 K t (nI x) m := by
  unfold pl_Mo_reach_21
  intro P hP
  have main : ∀ (d x s q : Nat), LF c m d x y s q → P t (nI x) m := by
    intro d
    induction d with
    | zero => intro x s q hl; exact hl.elim
    | succ d ih =>
      intro x s q hl
      obtain ⟨hx, hl⟩ := hl
      apply hP
      unfold pb_Mo_reach_21
      have cx : (nI x).toNatClampNeg = x := nI_clamp (by omega)
      have ix : vp_in (nI x) 60 := vp_in_nI hx (by decide)
      refine ⟨ix, ?_⟩
      rw [cx]
      rcases hl with ⟨h1, h2, rfl, -, -⟩ | ⟨r, f, a, o, b, s', q', hs, e1, e5, er, hb, hl', -⟩
      · exact zb_t h2 h
      · obtain ⟨s1, s2, s3, s4, s5, s6, s7, s8, s9, s10, s11⟩ := hs
        rw [e5, er, ← e1] at hb
        refine zb_f (by rw [e1, s5]; exact nI_m1 (by omega)) ?_
        refine s_Mgoes hx s9 s2 (fun hg => ?_) (fun hg => ?_)
        · refine zb_t rfl ⟨ix, ?_⟩
          unfold pb_Mo_reach_54
          intro w1 f1
          rcases hb with ⟨hb, -⟩ | ⟨-, rfl⟩
          · exact absurd hb hg
          rw [f1, s11]
          exact ih b s' q' hl'
        · refine zb_f (by decide) ⟨ix, ?_⟩
          unfold pb_Mo_reach_54
          intro w1 f1
          rcases hb with ⟨-, rfl⟩ | ⟨hb, -⟩
          · rw [f1, s10]
            exact ih b s' q' hl'
          · exact absurd hg hb
  exact main 13 x s q hl
theorem sim_reach (c m : St) (x : Int32) (h : Rel c m) : pc_BF_reach x c (fun r1 c => pc_Mo_reach x m (fun r2 m => r1 = r2 ∧ Rel c m)) := by
  have h' := h
  obtain ⟨n, t, M, z, st, ts, hN, hT, hR, hS, hB, hK⟩ := h'
  obtain ⟨k, k1, k2, k3, k4⟩ := hK
  have hk8 : k ≤ 8 := by have := hT.1; omega
  have bad : (∀ j, j < k → x ≠ nI j) → pc_Mo_reach x m (fun r2 m => (-1 : Int32) = r2 ∧ Rel c m) := by
    intro hb
    unfold pc_Mo_reach pb_Mo_reach_0
    by_cases hx : x < 0
    · exact zb_t hx ⟨rfl, h⟩
    · obtain ⟨p, hp, ep⟩ := nI_of hx
      refine zb_f hx (pk_lt p k (fun q => absurd ep (hb p q)) (fun _ => ⟨rfl, h⟩) ep k3 hp (by omega))
  unfold pc_BF_reach pb_BF_reach_0
  refine s_rng k2 (by omega) bad (fun j hj e => ?_)
  subst e
  obtain ⟨r, q, s, hh, g1, g2, g3, g4, g5, g6, g7, g8, g9⟩ := k4 j hj
  obtain ⟨r', a1, a2, a3⟩ := hT.2.2.2 j (by omega)
  have hn60 := hN.1
  have er : r = r' := (nI_eq (by omega) (by omega)).mp (g3.symm.trans a2)
  subst er
  obtain ⟨y, s', q', hl⟩ := LF_of hN hR hB.1 13 r s hh g9
  have cj : (nI j).toNatClampNeg = j := nI_clamp (by omega)
  refine ⟨vp_in_nI (by omega) (by decide), ?_⟩
  rw [cj, g3]
  refine s_leafFor hl ?_
  unfold pc_Mo_reach pb_Mo_reach_0
  refine zb_f (nI_pos (by omega)) (zb_t (by rw [k3]; exact nI_lt hj (by omega)) ⟨vp_in_nI (by omega) (by decide), fun v ev => ?_⟩)
  rw [cj, a3] at ev
  rw [ev]
  exact s_Mreach hl ⟨rfl, h⟩
