/-! predict: the machine on the code does what the tree says -/
/-- g is c but for the two counters -/
def Cn (c : St) (a b : Nat) (g : St) : Prop := g 107 0 = nI a ∧ g 108 0 = nI b ∧ ∀ k, k ≠ 107 → k ≠ 108 → g k = c k
theorem Cn_step {c g : St} {a b : Nat} (h : Cn c a b g) : Cn c (a + 1) b (sc g 107 (g 107 0 + 1)) :=
  ⟨by rw [sc_s, h.1, nI_1], by rw [sc_n _ _ _ _ (by decide)]; exact h.2.1, fun k h1 h2 => by rw [sc_n _ _ _ _ h1]; exact h.2.2 k h1 h2⟩
theorem Cn_call {c g : St} {a b : Nat} (h : Cn c a b g) : Cn c a (b + 1) (sc g 108 (g 108 0 + 1)) :=
  ⟨by rw [sc_n _ _ _ _ (by decide)]; exact h.1, by rw [sc_s, h.2.1, nI_1], fun k h1 h2 => by rw [sc_n _ _ _ _ h2]; exact h.2.2 k h1 h2⟩
theorem s_byte {c g : St} {K : Int32 → St → Prop} {a b p : Nat} {v : Int32} (hC : Cn c a b g) (hU : nI p < c 104 0) (hp : p < 600) (hv : c 20 p = v) (h : K v g) : pc_Co_byteOfAll (nI p) g K := by
  unfold pc_Co_byteOfAll pb_Co_byteOfAll_0
  refine zb_f (nI_pos (by omega)) (zb_f ?_ ⟨vp_in_nI hp (by decide), ?_⟩)
  · rw [hC.2.2 104 (by decide) (by decide)]
    exact Int32.not_le.mpr hU
  · rw [hC.2.2 20 (by decide) (by decide), nI_clamp (by omega), hv]
    exact h
theorem lt_of_nI {p q : Nat} {V : Int32} (h : nI q < V) (hq : q < 2 ^ 31) (hpq : p ≤ q) : nI p < V := by
  rw [Int32.lt_iff_toInt_lt, nI_toInt hq] at h
  rw [Int32.lt_iff_toInt_lt, nI_toInt (by omega)]
  omega
theorem s_load {c g : St} {K : Int32 → St → Prop} {a b f : Nat} {h : Int32} (hC : Cn c a b g) (hf : f < 8) (hk : K (c 1 f) g) : pc_Ma_operand 1 h (nI f) g K := by
  unfold pc_Ma_operand pb_Ma_operand_0
  refine zr_t rfl (s_isFeature _ (fun hb => absurd rfl (hb f hf)) (fun _ _ _ => zb_f (by decide) ⟨vp_in_nI hf (by decide), ?_⟩))
  rw [hC.2.2 1 (by decide) (by decide), nI_clamp (by omega)]
  exact hk
theorem s_const {c g : St} {K : Int32 → St → Prop} {a b h k e : Nat} {op : Int32} (hop : ¬ op = 1) (hC : Cn c a b g) (hE : Ent c h k e) (hk : K (c 17 (e + k)) g) : pc_Ma_operand op (nI h) (nI k) g K := by
  obtain ⟨hh, q1, q2, z, q3, q5, q6⟩ := hE
  unfold pc_Ma_operand pb_Ma_operand_0
  refine zr_f hop ?_
  unfold pc_Ta_holds pb_Ta_holds_0 pc_Ta_isClass pb_Ta_isClass_0
  refine zb_f (nI_pos (by omega)) (zb_f ?_ (zb_f (by decide) (zb_f (nI_pos (by omega)) ?_)))
  · rw [hC.2.2 103 (by decide) (by decide)]
    exact Int32.not_le.mpr q1
  unfold pc_Ta_sizeOf pb_Ta_sizeOf_0
  have c18 := hC.2.2 18 (by decide) (by decide)
  have ch : (nI h).toNatClampNeg = h := nI_clamp (by omega)
  have ch1 : (nI h + 1).toNatClampNeg = h + 1 := by rw [nI_1, nI_clamp (by omega)]
  refine ⟨by rw [nI_1]; exact vp_in_nI (by omega) (by decide), vp_in_nI (by omega) (by decide), ?_⟩
  rw [c18, ch, ch1, q2, q3, pk_sub (by omega)]
  refine pk_le (z - e) k (fun q => by omega) (fun _ => zb_f (by decide) ?_) rfl rfl (by omega) (by omega)
  rw [c18, q2, nI_add]
  refine ⟨vp_in_nI (by omega) (by decide), vp_in_nI (by omega) (by decide), ?_⟩
  rw [hC.2.2 17 (by decide) (by decide), nI_clamp (by omega)]
  exact hk
/-- a TEST at place p: how far it moves on -/
theorem s_test {c g : St} {K : Int32 → St → Prop} {a b p r dist : Nat} {x mark : Int32} (hC : Cn c a b g) (hU : nI (p + 2) < c 104 0) (hp : p + 2 < 600) (hr : r < 6) (hd : dist < 600)
    (hcode : (c 20 p = nI (10 + r) ∧ c 20 (p + 1) = nI dist) ∨ (c 20 p = nI (20 + r) ∧ ∃ hi lo : Nat, c 20 (p + 1) = nI hi ∧ c 20 (p + 2) = nI lo ∧ dist = 256 * hi + lo))
    (hy : goes (nI r) x mark → ∀ w : Nat, ((c 20 p = nI (10 + r) ∧ w = 2) ∨ (c 20 p = nI (20 + r) ∧ w = 3)) → K (nI w) g) (hn : ¬ goes (nI r) x mark → K (nI dist) g) : pc_Ma_testMove (nI p) x mark g K := by
  unfold pc_Ma_testMove pb_Ma_testMove_0
  have U0 := lt_of_nI (p := p) hU (by omega) (by omega)
  have U1 := lt_of_nI (p := p + 1) hU (by omega) (by omega)
  rcases hcode with ⟨c0, c1⟩ | ⟨c0, hi, lo, c1, c2, hdd⟩
  · refine s_byte hC U0 (by omega) c0 ?_
    intro v3 e3
    refine zb_t (by rw [e3]; exact nI_lt (b := 20) (by omega) (by decide)) ?_
    unfold pb_Ma_testMove_22
    intro v1 e1
    refine zb_t e1 ?_
    unfold pb_Ma_testMove_38
    intro v e
    have ev : v = nI r := by rw [e, e3]; exact (pk_sub (a := 10 + r) (b := 10) (by omega)).trans (congrArg nI (by omega))
    rw [ev]
    refine s_goesToYes _ _ _ (fun hg => zb_t rfl ?_) (fun hg => zb_f (by decide) (zb_t e1 ?_))
    · rw [nI_1]
      refine s_byte hC U1 (by omega) c1 ?_
      intro v6 e6
      refine zb_t e1 ?_
      rw [e6]
      exact hn hg
    · exact hy hg 2 (Or.inl ⟨c0, rfl⟩)
  · refine s_byte hC U0 (by omega) c0 ?_
    intro v3 e3
    refine zb_f (by rw [e3]; exact nI_nlt (b := 20) (by omega) (by omega)) ?_
    unfold pb_Ma_testMove_22
    intro v1 e1
    have e1' : ¬ v1 = 0 := by rw [e1]; decide
    refine zb_f e1' ?_
    unfold pb_Ma_testMove_38
    intro v e
    have ev : v = nI r := by rw [e, e3]; exact (pk_sub (a := 20 + r) (b := 20) (by omega)).trans (congrArg nI (by omega))
    rw [ev]
    refine s_goesToYes _ _ _ (fun hg => zb_t rfl ?_) (fun hg => zb_f (by decide) (zb_f e1' ?_))
    · rw [nI_1]
      refine s_byte hC U1 (by omega) c1 ?_
      intro v6 e6
      refine zb_f e1' ?_
      rw [show (nI p + 2 : Int32) = nI (p + 2) from nI_add p 2]
      refine s_byte hC hU (by omega) c2 ?_
      rw [e6, show ((256 : Int32) * nI hi) = nI (256 * hi) from pk_mul 256 hi, nI_add, ← hdd]
      exact hn hg
    · exact hy hg 3 (Or.inr ⟨c0, rfl⟩)
section RUN
variable {c m : St} {n M : Nat} {rc : Int32 → Int32 → St → (Int32 → St → Prop) → Prop} {K : Int32 → St → Prop} {P : Int32 → Int32 → Int32 → Int32 → Int32 → Int32 → St → Prop} {q dep h : Nat}
/-- one step that pushes: LOAD or CONSTANT -/
theorem r_push (hP : ∀ x1 x2 x3 x4 x5 x6 g, pb_Ma_runMethod_38 rc K P x1 x2 x3 x4 x5 x6 g → P x1 x2 x3 x4 x5 x6 g) {a b p k done : Nat} {up lo v : Int32} {g : St} {op : Nat} (hq : q < 60) (hh : c 22 q = nI h) (hC : Cn c a b g) (hU : nI (p + 1) < c 104 0) (hp : p + 1 < 600) (hd : done < 600) (ho : op = 1 ∨ op = 2) (c0 : c 20 p = nI op) (c1 : c 20 (p + 1) = nI k)
    (hop : ∀ g', Cn c (a + 1) b g' → ∀ K' : Int32 → St → Prop, K' v g' → pc_Ma_operand (nI op) (nI h) (nI k) g' K')
    (nxt : ∀ g', Cn c (a + 1) b g' → P (nI q) (nI dep) v up (nI (p + 2)) (nI (done + 1)) g') : P (nI q) (nI dep) up lo (nI p) (nI done) g := by
  apply hP
  unfold pb_Ma_runMethod_38
  refine zb_f (nI_ge (a := done) (b := 600) hd (by decide)) ?_
  refine s_byte hC (lt_of_nI hU (by omega) (by omega)) (by omega) c0 ?_
  intro v3 e3 g4 e4
  have hC4 : Cn c (a + 1) b g4 := by rw [e4]; exact Cn_step hC
  refine zr_f (by rw [e3, show (3 : Int32) = nI 3 from rfl, nI_eq (by omega) (by decide)]; omega) ?_
  refine zb_t (by rw [e3]; exact nI_lt (b := 10) (by omega) (by decide)) ?_
  intro v5 e5
  refine ⟨vp_in_nI hq (by decide), ?_⟩
  rw [nI_1]
  refine s_byte hC4 hU hp c1 ?_
  rw [hC4.2.2 22 (by decide) (by decide), nI_clamp (by omega : q < 2 ^ 31), hh, e3]
  refine hop g4 hC4 _ ?_
  intro v10 e10
  refine zr_f (by rw [show (4 : Int32) = nI 4 from rfl, nI_eq (by omega) (by decide)]; omega) ?_
  unfold pb_Ma_runMethod_154
  intro v1 e1
  unfold pb_Ma_runMethod_157
  intro v2 e2
  rw [show (nI p + 2 : Int32) = nI (p + 2) from nI_add p 2] at e1
  rw [nI_1] at e2
  rw [e10, e5, e1, e2]
  exact nxt g4 hC4
/-- RETURN -/
theorem r_ret (hP : ∀ x1 x2 x3 x4 x5 x6 g, pb_Ma_runMethod_38 rc K P x1 x2 x3 x4 x5 x6 g → P x1 x2 x3 x4 x5 x6 g) {a b p done : Nat} {up lo : Int32} {g : St} (hC : Cn c a b g) (hU : nI p < c 104 0) (hp : p < 600) (hd : done < 600) (c0 : c 20 p = 3) (hk : ∀ g', Cn c (a + 1) b g' → K up g') : P (nI q) (nI dep) up lo (nI p) (nI done) g := by
  apply hP
  unfold pb_Ma_runMethod_38
  refine zb_f (nI_ge (a := done) (b := 600) hd (by decide)) ?_
  refine s_byte hC hU hp c0 ?_
  intro v3 e3 g4 e4
  have hC4 : Cn c (a + 1) b g4 := by rw [e4]; exact Cn_step hC
  exact zr_t e3 (hk g4 hC4)
/-- TEST -/
theorem r_test (hP : ∀ x1 x2 x3 x4 x5 x6 g, pb_Ma_runMethod_38 rc K P x1 x2 x3 x4 x5 x6 g → P x1 x2 x3 x4 x5 x6 g) {a b p done r dist : Nat} {up lo : Int32} {g : St} (hC : Cn c a b g) (hU : nI (p + 2) < c 104 0) (hp : p + 2 < 600) (hd : done < 600) (hr : r < 6) (hdist : dist < 600)
    (hcode : (c 20 p = nI (10 + r) ∧ c 20 (p + 1) = nI dist) ∨ (c 20 p = nI (20 + r) ∧ ∃ hi lo : Nat, c 20 (p + 1) = nI hi ∧ c 20 (p + 2) = nI lo ∧ dist = 256 * hi + lo))
    (hy : goes (nI r) lo up → ∀ w : Nat, ((c 20 p = nI (10 + r) ∧ w = 2) ∨ (c 20 p = nI (20 + r) ∧ w = 3)) → ∀ g', Cn c (a + 1) b g' → P (nI q) (nI dep) up lo (nI (p + w)) (nI (done + 1)) g') (hn : ¬ goes (nI r) lo up → ∀ g', Cn c (a + 1) b g' → P (nI q) (nI dep) up lo (nI (p + dist)) (nI (done + 1)) g') : P (nI q) (nI dep) up lo (nI p) (nI done) g := by
  apply hP
  unfold pb_Ma_runMethod_38
  refine zb_f (nI_ge (a := done) (b := 600) hd (by decide)) ?_
  have big : ∃ o : Nat, 10 ≤ o ∧ o < 30 ∧ c 20 p = nI o := by
    rcases hcode with ⟨c0, -⟩ | ⟨c0, -⟩
    · exact ⟨10 + r, by omega, by omega, c0⟩
    · exact ⟨20 + r, by omega, by omega, c0⟩
  obtain ⟨o, o1, o2, co⟩ := big
  refine s_byte hC (lt_of_nI hU (by omega) (by omega)) (by omega) co ?_
  intro v3 e3 g4 e4
  have hC4 : Cn c (a + 1) b g4 := by rw [e4]; exact Cn_step hC
  refine zr_f (by rw [e3, show (3 : Int32) = nI 3 from rfl, nI_eq (by omega) (by decide)]; omega) ?_
  refine zb_f (by rw [e3]; exact nI_nlt (b := 10) (by omega) (by omega)) ?_
  refine s_test hC4 hU hp hr hdist hcode (fun hg w hw => ?_) (fun hg => ?_)
  · intro v e
    unfold pb_Ma_runMethod_157
    intro v2 e2
    rw [nI_add] at e
    rw [nI_1] at e2
    rw [e, e2]
    exact hy hg w hw g4 hC4
  · intro v e
    unfold pb_Ma_runMethod_157
    intro v2 e2
    rw [nI_add] at e
    rw [nI_1] at e2
    rw [e, e2]
    exact hn hg g4 hC4
/-- CALL -/
theorem r_call (hP : ∀ x1 x2 x3 x4 x5 x6 g, pb_Ma_runMethod_38 rc K P x1 x2 x3 x4 x5 x6 g → P x1 x2 x3 x4 x5 x6 g) {a b p k done e q' : Nat} {up lo : Int32} {g : St} (hq : q < 60) (hh : c 22 q = nI h) (hC : Cn c a b g) (hU : nI (p + 1) < c 104 0) (hp : p + 1 < 600) (hd : done < 600) (c0 : c 20 p = 4) (c1 : c 20 (p + 1) = nI k) (hE : Ent c h k e) (c17 : c 17 (e + k) = nI q')
    (nxt : ∀ g', Cn c (a + 1) (b + 1) g' → rc (nI q') (nI (dep + 1)) g' (fun v g'' => P (nI q) (nI dep) v up (nI (p + 2)) (nI (done + 1)) g'')) : P (nI q) (nI dep) up lo (nI p) (nI done) g := by
  apply hP
  unfold pb_Ma_runMethod_38
  refine zb_f (nI_ge (a := done) (b := 600) hd (by decide)) ?_
  refine s_byte hC (lt_of_nI hU (by omega) (by omega)) (by omega) c0 ?_
  intro v3 e3 g4 e4
  have hC4 : Cn c (a + 1) b g4 := by rw [e4]; exact Cn_step hC
  refine zr_f (by rw [e3]; decide) ?_
  refine zb_t (by rw [e3]; decide) ?_
  intro v5 e5
  refine ⟨vp_in_nI hq (by decide), ?_⟩
  rw [nI_1]
  refine s_byte hC4 hU hp c1 ?_
  rw [hC4.2.2 22 (by decide) (by decide), nI_clamp (by omega : q < 2 ^ 31), hh]
  refine s_const (by rw [e3]; decide) hC4 hE ?_
  intro v10 e10
  refine zr_t e3 ?_
  intro g11 e11
  have hC11 : Cn c (a + 1) (b + 1) g11 := by rw [e11]; exact Cn_call hC4
  rw [e10, c17, nI_1]
  have hx := nxt g11 hC11
  have ek : (fun v g'' => P (nI q) (nI dep) v up (nI (p + 2)) (nI (done + 1)) g'') = (fun v13 g12 => ∀ v14 : Int32, v14 = v13 → pb_Ma_runMethod_154 rc K P (nI q) (nI dep) v14 v5 (nI p) (nI done) v3 g12) := by
    funext v g''
    apply propext
    constructor
    · intro hh v14 e14
      unfold pb_Ma_runMethod_154
      intro v1 e1
      unfold pb_Ma_runMethod_157
      intro v2 e2
      rw [show (nI p + 2 : Int32) = nI (p + 2) from nI_add p 2] at e1
      rw [nI_1] at e2
      rw [e14, e5, e1, e2]
      exact hh
    · intro hh
      have := hh v rfl
      unfold pb_Ma_runMethod_154 at this
      have := this _ rfl
      unfold pb_Ma_runMethod_157 at this
      have := this _ rfl
      rw [show (nI p + 2 : Int32) = nI (p + 2) from nI_add p 2, nI_1, e5] at this
      exact this
  rw [← ek]
  exact hx
end RUN
