/-! The same of the reference. -/
theorem w_expr {w e T Q : Nat} (hQ : (8388608 : Int32) >>> (nI e &&& 31) = nI Q) (hT : ((127 : Int32) + nI e) * 8388608 = nI T) (h : 8388608 ≤ T + w * Q) : ((((127 : Int32) + nI e) * (8388608 : Int32)) + (nI w * ((8388608 : Int32) >>> (nI e &&& 31)))) - (8388608 : Int32) = nI (T + w * Q - 8388608) := by
  rw [hQ, hT, pk_mul, nI_add]
  exact pk_sub (b := 8388608) h
theorem s_Mwhole {g : St} {K : Int32 → St → Prop} {w : Nat} (h1 : 1 ≤ w) (hw : w < 32) (h : K (nI (wv w)) g) : pc_Mo_whole (nI w) g K := by
  unfold pc_Mo_whole pb_Mo_whole_0
  intro v ev
  unfold pl_Mo_whole_2
  intro P hP
  have fin : ∀ (e T Q N : Nat), (8388608 : Int32) >>> (nI e &&& 31) = nI Q → ((127 : Int32) + nI e) * 8388608 = nI T → (2 : Int32) <<< (nI e &&& 31) = nI N → N < 2 ^ 31 → 8388608 ≤ T + w * Q → (w < N → wv w = T + w * Q - 8388608) → (N ≤ w → P (nI w) (nI (e + 1)) g) → P (nI w) (nI e) g := by
    intro e T Q N hQ hT hN hN2 hle hv hnext
    apply hP
    unfold pb_Mo_whole_2
    refine pk_lt w N (fun hlt => ?_) (fun hge => ?_) rfl hN (by omega) hN2
    · rw [w_expr hQ hT hle, ← hv hlt]
      exact h
    · intro v1 e1
      rw [nI_1] at e1
      rw [e1]
      exact hnext hge
  have A4 : 16 ≤ w → P (nI w) (nI 4) g := fun hg => fin 4 1098907648 524288 32 (by decide) (by decide) (by decide) (by decide) (by omega) (fun _ => by
    unfold wv
    rw [if_neg (by omega), if_neg (by omega), if_neg (by omega), if_neg (by omega)]
    omega) (fun q => by omega)
  have A3 : 8 ≤ w → P (nI w) (nI 3) g := fun hg => fin 3 1090519040 1048576 16 (by decide) (by decide) (by decide) (by decide) (by omega) (fun _ => by
    unfold wv
    rw [if_neg (by omega), if_neg (by omega), if_neg (by omega), if_pos (by omega)]
    omega) A4
  have A2 : 4 ≤ w → P (nI w) (nI 2) g := fun hg => fin 2 1082130432 2097152 8 (by decide) (by decide) (by decide) (by decide) (by omega) (fun _ => by
    unfold wv
    rw [if_neg (by omega), if_neg (by omega), if_pos (by omega)]
    omega) A3
  have A1 : 2 ≤ w → P (nI w) (nI 1) g := fun hg => fin 1 1073741824 4194304 4 (by decide) (by decide) (by decide) (by decide) (by omega) (fun _ => by
    unfold wv
    rw [if_neg (by omega), if_pos (by omega)]
    omega) A2
  rw [ev]
  exact fin 0 1065353216 8388608 2 (by decide) (by decide) (by decide) (by decide) (by omega) (fun _ => by
    unfold wv
    rw [if_pos (by omega)]
    omega) A1
theorem bit0 (mark : Int32) : bitOf mark 0 ↔ (mark &&& 1) = 1 := by
  unfold bitOf
  have e : (mark.toUInt32 >>> ((nI 0).toUInt32 &&& Int32.toUInt32 31)).toInt32 = mark := by
    apply Int32.toBitVec_inj.mp
    apply BitVec.eq_of_toNat_eq
    rw [pk_ushr mark (nI 0) 0 (by decide), Nat.pow_zero, Nat.div_one]
  rw [e]
def bB (b : Bool) : Int32 := if b then 1 else 0
theorem s_Mloop {g : St} {K : Int32 → St → Prop} {i : Nat} {x r mark : Int32} (hi : i < 60) (hm : g 3 i = mark) (b : Bool) (w : Nat) (h1 : 1 ≤ w) (hw : w ≤ 32) (hb : b = true ↔ ∃ w', w' < w ∧ isW x w' ∧ bitOf mark w') (k0 : (¬ ∃ w', w' < 32 ∧ isW x w' ∧ bitOf mark w') → K 0 g) (k1 : (∃ w', w' < 32 ∧ isW x w' ∧ bitOf mark w') → K 1 g) : pl_Mo_goesToYes_124 K (nI i) x r (bB b) (nI w) g := by
  unfold pl_Mo_goesToYes_124
  intro P hP
  have main : ∀ (k w : Nat) (b : Bool), w + k = 32 → 1 ≤ w → (b = true ↔ ∃ w', w' < w ∧ isW x w' ∧ bitOf mark w') → P (nI i) x r (bB b) (nI w) g := by
    intro k
    induction k with
    | zero =>
      intro w b hwk h1 hb
      apply hP
      unfold pb_Mo_goesToYes_124
      have hw : w = 32 := by omega
      subst hw
      refine zb_t (nI_le (a := 32) (b := 32) (Nat.le_refl _) (by decide)) ?_
      cases b with
      | false => exact ⟨Or.inl rfl, k0 (fun q => by have := hb.mpr q; cases this)⟩
      | true => exact ⟨Or.inr rfl, k1 (hb.mp rfl)⟩
    | succ k ih =>
      intro w b hwk h1 hb
      have hw : w < 32 := by omega
      apply hP
      unfold pb_Mo_goesToYes_124
      refine zb_f (nI_ge (a := w) (b := 32) hw (by decide)) ?_
      cases b with
      | true =>
        refine zr_f (by decide) ?_
        unfold pb_Mo_goesToYes_160 pb_Mo_goesToYes_165
        intro v1 e1 v2 e2
        rw [nI_1] at e2
        rw [e1, e2]
        refine ih (w + 1) true (by omega) (by omega) ⟨fun _ => ?_, fun _ => rfl⟩
        obtain ⟨w', a1, a2, a3⟩ := hb.mp rfl
        exact ⟨w', by omega, a2, a3⟩
      | false =>
        have hno : ¬ ∃ w', w' < w ∧ isW x w' ∧ bitOf mark w' := fun q => by have := hb.mpr q; cases this
        have nxt0 : (¬ (isW x w ∧ bitOf mark w)) → pb_Mo_goesToYes_164 K P (nI i) x r (bB false) (nI w) g := by
          intro hn
          unfold pb_Mo_goesToYes_164 pb_Mo_goesToYes_165
          intro v1 e1 v2 e2
          rw [nI_1] at e2
          rw [e1, e2]
          refine ih (w + 1) false (by omega) (by omega) ⟨fun q => (by cases q), fun ⟨w', a1, a2, a3⟩ => ?_⟩
          by_cases he : w' = w
          · subst he; exact absurd ⟨a2, a3⟩ hn
          · exact absurd ⟨w', by omega, a2, a3⟩ hno
        refine zr_t rfl ⟨vp_in_nI hi (by decide), ?_⟩
        rw [nI_clamp (by omega : i < 2 ^ 31), hm]
        by_cases hbit : bitOf mark w
        · refine zr_t hbit ?_
          refine s_Mwhole h1 hw ?_
          by_cases hx : x = nI (wv w)
          · refine zr_t hx ?_
            unfold pb_Mo_goesToYes_160 pb_Mo_goesToYes_165
            intro v1 e1 v2 e2
            rw [nI_1] at e2
            rw [e1, e2]
            exact ih (w + 1) true (by omega) (by omega) ⟨fun _ => ⟨w, by omega, Or.inr ⟨h1, hx⟩, hbit⟩, fun _ => rfl⟩
          · refine zr_f hx (nxt0 (fun q => ?_))
            rcases q.1 with ⟨q, -⟩ | ⟨-, q⟩
            · omega
            · exact hx q
        · exact zr_f hbit (nxt0 (fun q => hbit q.2))
  exact main (32 - w) w b (by omega) h1 hb
theorem s_Mgoes {g : St} {K : Int32 → St → Prop} {i f : Nat} (hi : i < 60) (hf : g 2 i = nI f) (hf8 : f < 8) (h0 : ¬ goes (g 1 i) (g 7 f) (g 3 i) → K 0 g) (h1 : goes (g 1 i) (g 7 f) (g 3 i) → K 1 g) : pc_Mo_goesToYes (nI i) g K := by
  unfold pc_Mo_goesToYes pb_Mo_goesToYes_0
  have ci : (nI i).toNatClampNeg = i := nI_clamp (by omega)
  have cf : (nI f).toNatClampNeg = f := nI_clamp (by omega)
  rw [ci, hf, cf]
  have ii : vp_in (nI i) 60 := vp_in_nI hi (by decide)
  refine ⟨ii, vp_in_nI hf8 (by decide), fun v1 e1 => ⟨ii, fun v2 e2 => ?_⟩⟩
  subst e1
  subst e2
  generalize hx : g 7 f = x at *
  generalize hr : g 1 i = r at *
  generalize hmk : g 3 i = mark at *
  by_cases hx : (x &&& (2147483647 : Int32)) ≤ (2139095040 : Int32)
  · refine zb_t hx ?_
    by_cases h2 : (2 : Int32) ≤ r
    · refine zb_t h2 ?_
      by_cases h4 : (4 : Int32) ≤ r
      · refine zb_t h4 ⟨ii, ?_⟩
        have k0 : (¬ ∃ w, w < 32 ∧ isW x w ∧ bitOf mark w) → K 0 g := fun hn => h0 (fun q => by
          rcases q with ⟨q, -⟩ | ⟨-, ⟨-, q⟩ | ⟨q, -⟩ | ⟨q, -⟩⟩
          · exact q hx
          · exact hn q
          · exact q h4
          · exact q h2)
        have k1 : (∃ w, w < 32 ∧ isW x w ∧ bitOf mark w) → K 1 g := fun q => h1 (Or.inr ⟨hx, Or.inl ⟨h4, q⟩⟩)
        have no0 : ¬ (isW x 0 ∧ bitOf mark 0) → pb_Mo_goesToYes_118 K (nI i) x r g := by
          intro hn
          unfold pb_Mo_goesToYes_118 pb_Mo_goesToYes_119
          intro v1 e1 v2 e2
          rw [e1, e2]
          refine s_Mloop (b := false) (w := 1) hi hmk (by decide) (by decide) ⟨fun q => (by cases q), fun ⟨w', a1, a2, a3⟩ => ?_⟩ k0 k1
          have : w' = 0 := by omega
          subst this
          exact absurd ⟨a2, a3⟩ hn
        by_cases hb : (mark &&& (1 : Int32)) = 1
        · refine zr_t hb ?_
          by_cases hz : (x &&& (2147483647 : Int32)) = 0
          · refine zr_t hz ?_
            unfold pb_Mo_goesToYes_119
            intro v1 e1 v2 e2
            rw [e1, e2]
            exact s_Mloop (b := true) (w := 1) hi hmk (by decide) (by decide) ⟨fun _ => ⟨0, by decide, Or.inl ⟨rfl, hz⟩, (bit0 mark).mpr hb⟩, fun _ => rfl⟩ k0 k1
          · refine zr_f hz (no0 (fun q => ?_))
            rcases q.1 with ⟨-, q⟩ | ⟨q, -⟩
            · exact hz q
            · omega
        · exact zr_f hb (no0 (fun q => hb ((bit0 mark).mp q.2)))
      · refine zb_f h4 (s_ordered x ?_)
        rw [hmk]
        refine ⟨ii, s_ordered mark ?_⟩
        by_cases ho : ordI mark < ordI x
        · exact zb_t ho (h0 (fun q => by
            rcases q with ⟨q, -⟩ | ⟨-, ⟨q, -⟩ | ⟨-, -, q⟩ | ⟨q, -⟩⟩
            · exact q hx
            · exact h4 q
            · exact q ho
            · exact q h2))
        · exact zb_f ho (h1 (Or.inr ⟨hx, Or.inr (Or.inl ⟨h4, h2, ho⟩)⟩))
    · have h4 : ¬ (4 : Int32) ≤ r := fun q => h2 (by
        rw [Int32.le_iff_toInt_le] at q ⊢
        rw [show (4 : Int32).toInt = 4 from by decide] at q
        rw [show (2 : Int32).toInt = 2 from by decide]
        omega)
      refine zb_f h2 (s_ordered x ?_)
      rw [hmk]
      refine ⟨ii, s_ordered mark ?_⟩
      by_cases ho : ordI mark ≤ ordI x
      · exact zb_t ho (h0 (fun q => by
          rcases q with ⟨q, -⟩ | ⟨-, ⟨q, -⟩ | ⟨-, q, -⟩ | ⟨-, q⟩⟩
          · exact q hx
          · exact h4 q
          · exact h2 q
          · exact q ho))
      · exact zb_f ho (h1 (Or.inr ⟨hx, Or.inr (Or.inr ⟨h2, ho⟩)⟩))
  · refine zb_f hx ?_
    by_cases h : (r &&& (1 : Int32)) = 1
    · exact zr_t h (h1 (Or.inl ⟨hx, h⟩))
    · exact zr_f h (h0 (fun q => by
        rcases q with ⟨-, q⟩ | ⟨q, -⟩
        · exact h q
        · exact hx q))
