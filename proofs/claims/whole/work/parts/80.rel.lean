/-! The relation between the class's numbers c and the reference's numbers m. -/
theorem zb_t {q A B : Prop} (h : q) (a : A) : (q → A) ∧ (¬ q → B) := ⟨fun _ => a, fun n => absurd h n⟩
theorem zb_f {q A B : Prop} (h : ¬ q) (b : B) : (q → A) ∧ (¬ q → B) := ⟨fun n => absurd n h, fun _ => b⟩
theorem zr_t {q A B : Prop} (h : q) (b : B) : (¬ q → A) ∧ (q → B) := ⟨fun n => absurd h n, fun _ => b⟩
theorem zr_f {q A B : Prop} (h : ¬ q) (a : A) : (¬ q → A) ∧ (q → B) := ⟨fun _ => a, fun n => absurd n h⟩
theorem pk_ne {x y : Int32} {A B : Prop} (a b : Nat) (f : a ≠ b → A) (g : a = b → B) (hx : x = nI a := by rfl) (hy : y = nI b := by rfl) (ha : a < 2 ^ 31 := by omega) (hb : b < 2 ^ 31 := by omega) : (¬ x = y → A) ∧ (x = y → B) := And.symm (pk_eq a b g f hx hy ha hb)
/-- a place of a cell that was written, and the others -/
theorem ar_at {g : St} {k j : Nat} {i v : Int32} (n : Nat) (hi : i.toNatClampNeg = n) : ar g k i v k j = if j = n then v else g k j := by
  rw [ar_s, hi]; rfl
theorem ar_e {g : St} {k : Nat} {i v : Int32} (n : Nat) (hi : i.toNatClampNeg = n) : ar g k i v k n = v := by rw [ar_at n hi, if_pos rfl]
theorem ar_o {g : St} {k j : Nat} {i v : Int32} (n : Nat) (hi : i.toNatClampNeg = n) (h : j ≠ n) : ar g k i v k j = g k j := by rw [ar_at n hi, if_neg h]
/-- table h has an entry k; it begins at a -/
def Ent (c : St) (h k a : Nat) : Prop := h < 60 ∧ nI h < c 103 0 ∧ c 18 h = nI a ∧ ∃ z : Nat, c 18 (h + 1) = nI z ∧ a + k < z ∧ z ≤ 120
/-- what stands for a child at place p of a method of table h: its code, or a CALL of its method -/
def PartW (c m : St) (M : Nat) (CA : Nat → Nat → Nat → Prop) (x p h : Nat) : Prop :=
  (m 13 x = -1 ∧ CA x p h) ∨ ∃ q k a s t : Nat, q < M ∧ m 13 x = nI q ∧ c 20 p = 4 ∧ c 20 (p + 1) = nI k ∧ c 20 (p + 2) = 3 ∧ nI (p + 2) < c 104 0 ∧ p + 2 < 600 ∧ Ent c h k a ∧ c 17 (a + k) = nI q ∧ c 21 q = nI s ∧ c 22 q = nI t ∧ s < 600 ∧ t < 60 ∧ CA x s t
def SplitN (c m : St) (i r f y o : Nat) : Prop := r < 6 ∧ f < 8 ∧ y < 60 ∧ o < 60 ∧ c 3 i = nI r ∧ c 4 i = nI f ∧ c 6 i = nI y ∧ c 7 i = nI o ∧ m 2 i = nI f ∧ m 4 i = nI y ∧ m 5 i = nI o
def NodeOk (c m : St) (i : Nat) : Prop := c 3 i = m 1 i ∧ c 5 i = m 3 i ∧ (c 3 i = -1 ∨ ∃ r f y o : Nat, SplitN c m i r f y o)
/-- the code of node x (of at most d levels) stands at place p, in a method of table h -/
def CodeAt (c m : St) (n M : Nat) : Nat → Nat → Nat → Nat → Prop
  | 0, _, _, _ => False
  | d + 1, x, p, h => x < n ∧ (
      (c 3 x = -1 ∧ ∃ k a : Nat, nI (p + 2) < c 104 0 ∧ p + 2 < 600 ∧ c 20 p = 2 ∧ c 20 (p + 1) = nI k ∧ c 20 (p + 2) = 3 ∧ Ent c h k a ∧ c 17 (a + k) = c 5 x) ∨
      ∃ r f y o k a dist : Nat, SplitN c m x r f y o ∧ nI (p + 6) < c 104 0 ∧ p + 6 < 600 ∧ c 20 p = 1 ∧ c 20 (p + 1) = nI f ∧ c 20 (p + 2) = 2 ∧ c 20 (p + 3) = nI k ∧ Ent c h k a ∧ c 17 (a + k) = c 5 x ∧ dist < 600 ∧
        ((c 20 (p + 4) = nI (10 + r) ∧ c 20 (p + 5) = nI dist ∧ PartW c m M (CodeAt c m n M d) y (p + 6) h ∧ PartW c m M (CodeAt c m n M d) o (p + 4 + dist) h) ∨
         (c 20 (p + 4) = nI (20 + r) ∧ ∃ hi lo : Nat, c 20 (p + 5) = nI hi ∧ c 20 (p + 6) = nI lo ∧ dist = 256 * hi + lo ∧ PartW c m M (CodeAt c m n M d) y (p + 7) h ∧ PartW c m M (CodeAt c m n M d) o (p + 4 + dist) h)))
def RN (c m : St) (n : Nat) : Prop := n ≤ 60 ∧ c 100 0 = nI n ∧ m 100 0 = nI n ∧ ∀ i, i < n → NodeOk c m i
def RT (c m : St) (n t : Nat) : Prop := t ≤ 8 ∧ c 101 0 = nI t ∧ m 101 0 = nI t ∧ ∀ i, i < t → ∃ r, r < n ∧ c 8 i = nI r ∧ m 6 i = nI r
def RR (c m : St) : Prop := ∀ i, i < 8 → c 1 i = m 7 i
def RS (c m : St) : Prop := c 107 0 = m 107 0 ∧ c 108 0 = m 108 0
/-- methods, bytes, tables: what the readers show -/
def RB (c m : St) (M z : Nat) (st ts : Nat → Nat) : Prop :=
  M ≤ 60 ∧ z ≤ 60 ∧ c 105 0 = nI M ∧ m 103 0 = nI M ∧ c 103 0 = nI z ∧ m 105 0 = nI z ∧
  (∀ i, i ≤ M → c 21 i = nI (st i) ∧ m 14 i = nI (st i)) ∧ (∀ i, i < M → st i ≤ st (i + 1)) ∧ (∀ i, i ≤ M → st i ≤ st M) ∧ st M ≤ 600 ∧ c 104 0 = nI (st M) ∧
  (∀ i, i < st M → c 20 i = m 17 i) ∧ (∀ i, i < M → c 22 i = m 15 i) ∧
  (∀ i, i ≤ z → c 18 i = nI (ts i) ∧ m 18 i = nI (ts i)) ∧ (∀ i, i < z → ts i ≤ ts (i + 1)) ∧ (∀ i, i ≤ z → ts i ≤ ts z) ∧ ts z ≤ 120 ∧
  (∀ i, i < ts z → c 16 i = m 19 i ∧ c 17 i = m 20 i)
/-- the trees of the latest code, each by its method -/
def RK (c m : St) (n t M : Nat) : Prop :=
  ∃ k : Nat, k ≤ t ∧ c 106 0 = nI k ∧ m 102 0 = nI k ∧ ∀ i, i < k → ∃ r q s h : Nat, r < n ∧ q < M ∧ c 8 i = nI r ∧ c 23 i = nI q ∧ c 21 q = nI s ∧ c 22 q = nI h ∧ s < 600 ∧ h < 60 ∧ CodeAt c m n M 13 r s h
def Rel (c m : St) : Prop := ∃ (n t M z : Nat) (st ts : Nat → Nat), RN c m n ∧ RT c m n t ∧ RR c m ∧ RS c m ∧ RB c m M z st ts ∧ RK c m n t M
theorem Rel_0 : Rel (fun _ _ => 0) (fun _ _ => 0) := by
  refine ⟨0, 0, 0, 0, fun _ => 0, fun _ => 0, ⟨by omega, rfl, rfl, fun i h => by omega⟩, ⟨by omega, rfl, rfl, fun i h => by omega⟩, fun i h => rfl, ⟨rfl, rfl⟩, ?_, ⟨0, by omega, rfl, rfl, fun i h => by omega⟩⟩
  exact ⟨Nat.zero_le _, Nat.zero_le _, rfl, rfl, rfl, rfl, fun i h => ⟨rfl, rfl⟩, fun i h => Nat.le_refl _, fun i h => Nat.le_refl _, Nat.zero_le _, rfl, fun i h => absurd h (Nat.not_lt_zero _), fun i h => absurd h (Nat.not_lt_zero _), fun i h => ⟨rfl, rfl⟩, fun i h => Nat.le_refl _, fun i h => Nat.le_refl _, Nat.zero_le _, fun i h => absurd h (Nat.not_lt_zero _)⟩
/-- the code's numbers are the same, the nodes below n too -/
def SameCode (c m c' m' : St) (n : Nat) : Prop :=
  (∀ i, i < n → c' 3 i = c 3 i ∧ c' 4 i = c 4 i ∧ c' 5 i = c 5 i ∧ c' 6 i = c 6 i ∧ c' 7 i = c 7 i ∧ m' 2 i = m 2 i ∧ m' 4 i = m 4 i ∧ m' 5 i = m 5 i ∧ m' 13 i = m 13 i) ∧
  c' 17 = c 17 ∧ c' 18 = c 18 ∧ c' 20 = c 20 ∧ c' 21 = c 21 ∧ c' 22 = c 22 ∧ c' 103 = c 103 ∧ c' 104 = c 104
theorem Ent_same {c m c' m' : St} {n h k a : Nat} (S : SameCode c m c' m' n) (e : Ent c h k a) : Ent c' h k a := by
  obtain ⟨-, e17, e18, e20, e21, e22, e103, e104⟩ := S
  unfold Ent at *
  rw [e103, e18]
  exact e
theorem CodeAt_same {c m c' m' : St} {n n' M : Nat} (S : SameCode c m c' m' n) (hn : n ≤ n') : ∀ (d x p h : Nat), CodeAt c m n M d x p h → CodeAt c' m' n' M d x p h := by
  intro d
  induction d with
  | zero => intro x p h hc; exact hc
  | succ d ih =>
    have hpart : ∀ x p h, PartW c m M (CodeAt c m n M d) x p h → PartW c' m' M (CodeAt c' m' n' M d) x p h := by
      intro x p h hp
      have S' := S
      obtain ⟨-, e17, e18, e20, e21, e22, e103, e104⟩ := S'
      have hx : x < n := by
        rcases hp with ⟨_, hc⟩ | ⟨_, _, _, _, _, _, _, _, _, _, _, _, _, _, _, _, _, _, hc⟩
        · cases d with
          | zero => exact hc.elim
          | succ d => exact hc.1
        · cases d with
          | zero => exact hc.elim
          | succ d => exact hc.1
      have hm := (S.1 x hx).2.2.2.2.2.2.2.2
      rcases hp with ⟨h1, hc⟩ | ⟨q, k, a, s, t, h1, h2, h3, h4, h5, h6, h7, h8, h10, h11, h12, h13, h14, hc⟩
      · exact Or.inl ⟨by rw [hm]; exact h1, ih x p h hc⟩
      · exact Or.inr ⟨q, k, a, s, t, h1, by rw [hm]; exact h2, by rw [e20]; exact h3, by rw [e20]; exact h4, by rw [e20]; exact h5, by rw [e104]; exact h6, h7, Ent_same S h8, by rw [e17]; exact h10, by rw [e21]; exact h11, by rw [e22]; exact h12, h13, h14, ih x s t hc⟩
    intro x p h hc
    obtain ⟨hx, hc⟩ := hc
    have hN := S.1 x hx
    have S' := S
    obtain ⟨-, e17, e18, e20, e21, e22, e103, e104⟩ := S'
    refine ⟨by omega, ?_⟩
    rcases hc with ⟨h1, k, a, h2, h3, h4, h5, h6, h7, h9⟩ | ⟨r, f, y, o, k, a, dist, hs, h2, h3, h4, h5, h6, h7, h8, h10, h11, hc⟩
    · exact Or.inl ⟨by rw [hN.1]; exact h1, k, a, by rw [e104]; exact h2, h3, by rw [e20]; exact h4, by rw [e20]; exact h5, by rw [e20]; exact h6, Ent_same S h7, by rw [e17, hN.2.2.1]; exact h9⟩
    · refine Or.inr ⟨r, f, y, o, k, a, dist, ?_, by rw [e104]; exact h2, h3, by rw [e20]; exact h4, by rw [e20]; exact h5, by rw [e20]; exact h6, by rw [e20]; exact h7, Ent_same S h8, by rw [e17, hN.2.2.1]; exact h10, h11, ?_⟩
      · obtain ⟨s1, s2, s3, s4, s5, s6, s7, s8, s9, s10, s11⟩ := hs
        obtain ⟨n1, n2, n3, n4, n5, n6, n7, n8, n9⟩ := hN
        exact ⟨s1, s2, s3, s4, n1.trans s5, n2.trans s6, n4.trans s7, n5.trans s8, n6.trans s9, n7.trans s10, n8.trans s11⟩
      · rcases hc with ⟨q1, q2, q3, q4⟩ | ⟨q1, hi, lo, q2, q3, q4, q5, q6⟩
        · exact Or.inl ⟨by rw [e20]; exact q1, by rw [e20]; exact q2, hpart _ _ _ q3, hpart _ _ _ q4⟩
        · exact Or.inr ⟨by rw [e20]; exact q1, hi, lo, by rw [e20]; exact q2, by rw [e20]; exact q3, q4, hpart _ _ _ q5, hpart _ _ _ q6⟩
theorem RK_same {c m c' m' : St} {n n' t t' M : Nat} (S : SameCode c m c' m' n) (hn : n ≤ n') (ht : t ≤ t') (h8 : ∀ i, i < t → c' 8 i = c 8 i) (h23 : c' 23 = c 23) (h106 : c' 106 = c 106) (m102 : m' 102 = m 102) (h : RK c m n t M) : RK c' m' n' t' M := by
  obtain ⟨k, h1, h2, h3, h4⟩ := h
  refine ⟨k, by omega, by rw [h106]; exact h2, by rw [m102]; exact h3, fun i hi => ?_⟩
  obtain ⟨r, q, s, z, g1, g2, g3, g4, g5, g6, g7, g8, g9⟩ := h4 i hi
  have S' := S
  obtain ⟨-, e17, e18, e20, e21, e22, e103, e104⟩ := S'
  exact ⟨r, q, s, z, by omega, g2, by rw [h8 i (by omega)]; exact g3, by rw [h23]; exact g4, by rw [e21]; exact g5, by rw [e22]; exact g6, g7, g8, CodeAt_same S hn _ _ _ _ g9⟩
theorem RB_same {c m c' m' : St} {M z : Nat} {st ts : Nat → Nat} (h1 : c' 105 = c 105) (h2 : m' 103 = m 103) (h3 : c' 103 = c 103) (h4 : m' 105 = m 105) (h5 : c' 21 = c 21) (h6 : m' 14 = m 14) (h7 : c' 104 = c 104) (h8 : c' 20 = c 20) (h9 : m' 17 = m 17) (h10 : c' 22 = c 22) (h11 : m' 15 = m 15) (h12 : c' 18 = c 18) (h13 : m' 18 = m 18) (h14 : c' 16 = c 16) (h15 : m' 19 = m 19) (h16 : c' 17 = c 17) (h17 : m' 20 = m 20) (h : RB c m M z st ts) : RB c' m' M z st ts := by
  unfold RB at *
  rw [h1, h2, h3, h4, h5, h6, h7, h8, h9, h10, h11, h12, h13, h14, h15, h16, h17]
  exact h
