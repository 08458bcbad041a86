/-! Where a feature goes at a split: one function for both sides. -/
theorem xN (x : Int32) : x = nI x.toBitVec.toNat := Int32.toBitVec_inj.mp (BitVec.eq_of_toNat_eq (by
  show _ = (BitVec.ofNat 32 _).toNat
  rw [BitVec.toNat_ofNat, Nat.mod_eq_of_lt x.toBitVec.isLt]))
theorem nI_eq32 {a b : Nat} (ha : a < 2 ^ 32) (hb : b < 2 ^ 32) : nI a = nI b ↔ a = b := by
  constructor
  · intro h
    have := congrArg (fun z : Int32 => z.toBitVec.toNat) h
    simp only [pk_tn ha, pk_tn hb] at this
    exact this
  · intro h
    rw [h]
/-- the number that a float of the whole number w (1 to 31) is written as -/
def wv (w : Nat) : Nat := if w < 2 then 126 * 8388608 + w * 8388608 else if w < 4 then 127 * 8388608 + w * 4194304 else if w < 8 then 128 * 8388608 + w * 2097152 else if w < 16 then 129 * 8388608 + w * 1048576 else 130 * 8388608 + w * 524288
def isW (x : Int32) (w : Nat) : Prop := (w = 0 ∧ x &&& 2147483647 = 0) ∨ (1 ≤ w ∧ x = nI (wv w))
def bitOf (mark : Int32) (w : Nat) : Prop := ((mark.toUInt32 >>> ((nI w).toUInt32 &&& Int32.toUInt32 31)).toInt32 &&& 1) = 1
def ordI (x : Int32) : Int32 := if x < 0 then - (x &&& 2147483647) else x
/-- yes or no -/
def goes (r x mark : Int32) : Prop :=
  (¬ (x &&& 2147483647) ≤ (2139095040 : Int32) ∧ (r &&& 1) = 1) ∨
  ((x &&& 2147483647) ≤ (2139095040 : Int32) ∧ ((4 ≤ r ∧ ∃ w, w < 32 ∧ isW x w ∧ bitOf mark w) ∨ (¬ 4 ≤ r ∧ 2 ≤ r ∧ ¬ ordI mark < ordI x) ∨ (¬ 2 ≤ r ∧ ¬ ordI mark ≤ ordI x)))
theorem s_orderOf {g : St} {K : Int32 → St → Prop} (x : Int32) (h : K (ordI x) g) : pc_Ru_orderOf x g K := by
  unfold pc_Ru_orderOf pb_Ru_orderOf_0
  unfold ordI at h
  by_cases hx : x < 0
  · rw [if_pos hx] at h; exact zb_t hx h
  · rw [if_neg hx] at h; exact zb_f hx h
theorem s_ordered {g : St} {K : Int32 → St → Prop} (x : Int32) (h : K (ordI x) g) : pc_Mo_ordered x g K := by
  unfold pc_Mo_ordered pb_Mo_ordered_0
  unfold ordI at h
  by_cases hx : x < 0
  · rw [if_pos hx] at h; exact zb_t hx h
  · rw [if_neg hx] at h; exact zb_f hx h
theorem wv_lt {w : Nat} (h : w < 32) : wv w < 2 ^ 31 := by
  unfold wv
  split
  · omega
  split
  · omega
  split
  · omega
  split <;> omega
theorem wv_mag {w : Nat} (h1 : 1 ≤ w) (h : w < 32) : ¬ wv w % 2147483648 = 0 := by
  unfold wv
  split
  · omega
  split
  · omega
  split
  · omega
  split <;> omega
theorem wv_inj {a b : Nat} (ha : a < 32) (hb : b < 32) (h1 : 1 ≤ a) (h2 : 1 ≤ b) (h : wv a = wv b) : a = b := by
  unfold wv at h
  repeat' split at h
  all_goals omega
theorem mag_N {X : Nat} (h : X < 2 ^ 32) : nI X &&& (2147483647 : Int32) = nI (X % 2147483648) := pk_andN h 31 (by decide)
theorem isW_one {x : Int32} {a b : Nat} (ha : a < 32) (hb : b < 32) (h1 : isW x a) (h2 : isW x b) : a = b := by
  rcases h1 with ⟨e1, q1⟩ | ⟨e1, q1⟩ <;> rcases h2 with ⟨e2, q2⟩ | ⟨e2, q2⟩
  · omega
  · exfalso
    have hl := wv_lt hb
    rw [q2, mag_N (by omega)] at q1
    exact wv_mag e2 hb ((nI_eq (b := 0) (by omega) (by decide)).mp q1)
  · exfalso
    have hl := wv_lt ha
    rw [q1, mag_N (by omega)] at q2
    exact wv_mag e1 ha ((nI_eq (b := 0) (by omega) (by decide)).mp q2)
  · have hla := wv_lt ha
    have hlb := wv_lt hb
    exact wv_inj ha hb e1 e2 ((nI_eq hla hlb).mp (q1.symm.trans q2))
theorem or23 {F : Nat} (h : F < 8388608) : nI F ||| (8388608 : Int32) = nI (8388608 + F) := by
  apply Int32.toBitVec_inj.mp
  apply BitVec.eq_of_toNat_eq
  rw [Int32.toBitVec_or, BitVec.toNat_or, pk_tn (by omega), pk_tn (by omega), show ((8388608 : Int32)).toBitVec.toNat = 8388608 from by decide]
  have := Nat.two_pow_add_eq_or_of_lt (i := 23) (b := F) (by omega) 1
  rw [Nat.or_comm, ← this]
/-- one exponent: the shifted digits -/
theorem s_whole_e {g : St} {K : Int32 → St → Prop} {F k P : Nat} (s : Int32) (hs : (s.toBitVec.smod 32).toNat = k) (hP : 2 ^ k = P) (hP1 : P ≤ 8388608) (hF : F < 8388608) (v2 : Int32) (h2 : v2 = nI (8388608 + F)) (h0 : (∀ q, q * P ≠ 8388608 + F) → K (-1) g) (h1 : ∀ q, q * P = 8388608 + F → K (nI q) g) :
    ∀ v3 : Int32, v3 = v2 >>> s → ((¬ (v3 <<< s) = v2 → K (-1) g) ∧ ((v3 <<< s) = v2 → K v3 g)) := by
  intro v3 e3
  have hPos : 0 < P := by rw [← hP]; exact Nat.two_pow_pos k
  subst h2
  rw [pk_shrN (by omega) s k hs, hP] at e3
  subst e3
  have hle : (8388608 + F) / P * P ≤ 8388608 + F := Nat.div_mul_le_self _ _
  rw [pk_shlN s k hs (by rw [hP]; omega), hP, nI_eq (by omega) (by omega)]
  constructor
  · intro hne
    refine h0 (fun q hq => hne ?_)
    rw [← hq, Nat.mul_div_cancel _ hPos]
  · intro he
    exact h1 _ he
theorem s_wholeOf {g : St} {K : Int32 → St → Prop} (x : Int32) (h0 : (∀ w, w < 32 → ¬ isW x w) → K (-1) g) (h1 : ∀ w, w < 32 → isW x w → K (nI w) g) : pc_Ru_wholeOf x g K := by
  unfold pc_Ru_wholeOf pb_Ru_wholeOf_0
  have hX := x.toBitVec.isLt
  have ex := xN x
  generalize x.toBitVec.toNat = X at hX ex
  subst ex
  have hmag := mag_N hX
  by_cases hz : nI X &&& (2147483647 : Int32) = 0
  · exact zr_t hz (h1 0 (by decide) (Or.inl ⟨rfl, hz⟩))
  refine zr_f hz ?_
  have hz' : ¬ X % 2147483648 = 0 := fun q => hz (by rw [hmag, q]; rfl)
  intro v1 e1
  rw [pk_ushrN hX 23 23 (by decide), show (2 : Nat) ^ 23 = 8388608 from rfl] at e1
  have hE : X / 8388608 < 512 := by omega
  have hd := Nat.div_add_mod X 8388608
  have hF : X % 8388608 < 8388608 := Nat.mod_lt _ (by decide)
  have hand : nI X &&& (8388607 : Int32) = nI (X % 8388608) := pk_andN hX 23 (by decide)
  have none : (∀ w, 1 ≤ w → w < 32 → X ≠ wv w) → K (-1) g := fun hn => h0 (fun w hw q => by
    rcases q with ⟨-, q⟩ | ⟨h1w, q⟩
    · exact hz q
    · have := wv_lt hw
      exact hn w h1w hw ((nI_eq32 hX (by omega)).mp q))
  by_cases hlow : X / 8388608 < 127
  · have hneg : v1 < 0 := by rw [e1]; exact pk_sneg (a := X / 8388608) (b := 127) (by decide) hlow
    refine zb_t hneg (none (fun w h1w hw q => ?_))
    unfold wv at q
    repeat' split at q
    all_goals omega
  have ev : v1 = nI (X / 8388608 - 127) := by rw [e1]; exact pk_sub (a := X / 8388608) (b := 127) (by omega)
  have hnn : ¬ v1 < 0 := by rw [ev]; exact nI_pos (by omega)
  refine zb_f hnn ?_
  refine pk_le (X / 8388608 - 127) 4 (fun hle => ?_) (fun hgt => ?_) ev
  · intro v2 e2
    rw [hand, or23 hF] at e2
    have fin : ∀ (k P e : Nat), X / 8388608 = 127 + e → (((23 : Int32) - nI e &&& 31).toBitVec.smod 32).toNat = k → 2 ^ k = P → P ≤ 8388608 → (∀ q, q * P = 8388608 + X % 8388608 → 1 ≤ q ∧ q < 32 ∧ X = wv q) → (∀ w, 1 ≤ w → w < 32 → X = wv w → w * P = 8388608 + X % 8388608) → ∀ v3 : Int32, v3 = v2 >>> ((23 : Int32) - v1 &&& 31) → ((¬ (v3 <<< ((23 : Int32) - v1 &&& 31)) = v2 → K (-1) g) ∧ ((v3 <<< ((23 : Int32) - v1 &&& 31)) = v2 → K v3 g)) := by
      intro k P e he hs hP hP1 ha hb
      have ev' : v1 = nI e := by rw [ev, he, show 127 + e - 127 = e from Nat.add_sub_cancel_left _ _]
      rw [ev']
      refine s_whole_e _ hs hP hP1 hF v2 e2 (fun hn => none (fun w h1w hw q => hn w (hb w h1w hw q))) (fun q hq => ?_)
      obtain ⟨a1, a2, a3⟩ := ha q hq
      exact h1 q a2 (Or.inr ⟨a1, by rw [← a3]⟩)
    have hcase : X / 8388608 = 127 ∨ X / 8388608 = 128 ∨ X / 8388608 = 129 ∨ X / 8388608 = 130 ∨ X / 8388608 = 131 := by omega
    rcases hcase with hc | hc | hc | hc | hc
    · refine fin 23 8388608 0 (by omega) (by decide) (by decide) (by decide) (fun q hq => ?_) (fun w h1w hw q => ?_)
      · have hq1 : q = 1 := by omega
        subst hq1
        refine ⟨by omega, by omega, ?_⟩
        unfold wv
        rw [if_pos (by omega)]
        omega
      · unfold wv at q
        repeat' split at q
        all_goals omega
    · refine fin 22 4194304 1 (by omega) (by decide) (by decide) (by decide) (fun q hq => ?_) (fun w h1w hw q => ?_)
      · refine ⟨by omega, by omega, ?_⟩
        unfold wv
        rw [if_neg (by omega), if_pos (by omega)]
        omega
      · unfold wv at q
        repeat' split at q
        all_goals omega
    · refine fin 21 2097152 2 (by omega) (by decide) (by decide) (by decide) (fun q hq => ?_) (fun w h1w hw q => ?_)
      · refine ⟨by omega, by omega, ?_⟩
        unfold wv
        rw [if_neg (by omega), if_neg (by omega), if_pos (by omega)]
        omega
      · unfold wv at q
        repeat' split at q
        all_goals omega
    · refine fin 20 1048576 3 (by omega) (by decide) (by decide) (by decide) (fun q hq => ?_) (fun w h1w hw q => ?_)
      · refine ⟨by omega, by omega, ?_⟩
        unfold wv
        rw [if_neg (by omega), if_neg (by omega), if_neg (by omega), if_pos (by omega)]
        omega
      · unfold wv at q
        repeat' split at q
        all_goals omega
    · refine fin 19 524288 4 (by omega) (by decide) (by decide) (by decide) (fun q hq => ?_) (fun w h1w hw q => ?_)
      · refine ⟨by omega, by omega, ?_⟩
        unfold wv
        rw [if_neg (by omega), if_neg (by omega), if_neg (by omega), if_neg (by omega)]
        omega
      · unfold wv at q
        repeat' split at q
        all_goals omega
  · refine none (fun w h1w hw q => ?_)
    unfold wv at q
    repeat' split at q
    all_goals omega
theorem s_goesToYes {g : St} {K : Int32 → St → Prop} (r x mark : Int32) (h0 : ¬ goes r x mark → K 0 g) (h1 : goes r x mark → K 1 g) : pc_Ru_goesToYes r x mark g K := by
  unfold pc_Ru_goesToYes pb_Ru_goesToYes_0
  by_cases hx : (x &&& (2147483647 : Int32)) ≤ (2139095040 : Int32)
  · refine zb_t hx ?_
    unfold pc_Ru_isBitRule pb_Ru_isBitRule_0
    by_cases hr : r < 4
    · have hr4 : ¬ 4 ≤ r := Int32.not_le.mpr hr
      refine zb_t hr (zb_t rfl ?_)
      by_cases h2 : (2 : Int32) ≤ r
      · refine zb_t h2 (s_orderOf x (s_orderOf mark ?_))
        by_cases ho : ordI mark < ordI x
        · exact zb_t ho (h0 (fun q => by
            rcases q with ⟨q, -⟩ | ⟨-, ⟨q, -⟩ | ⟨-, -, q⟩ | ⟨q, -⟩⟩
            · exact q hx
            · exact hr4 q
            · exact q ho
            · exact q h2))
        · exact zb_f ho (h1 (Or.inr ⟨hx, Or.inr (Or.inl ⟨hr4, h2, ho⟩)⟩))
      · refine zb_f h2 (s_orderOf x (s_orderOf mark ?_))
        by_cases ho : ordI mark ≤ ordI x
        · exact zb_t ho (h0 (fun q => by
            rcases q with ⟨q, -⟩ | ⟨-, ⟨q, -⟩ | ⟨-, q, -⟩ | ⟨-, q⟩⟩
            · exact q hx
            · exact hr4 q
            · exact h2 q
            · exact q ho))
        · exact zb_f ho (h1 (Or.inr ⟨hx, Or.inr (Or.inr ⟨h2, ho⟩)⟩))
    · have hr4 : 4 ≤ r := Int32.not_lt.mp hr
      have hr2 : (2 : Int32) ≤ r := by
        rw [Int32.le_iff_toInt_le] at hr4 ⊢
        rw [show (4 : Int32).toInt = 4 from by decide] at hr4
        rw [show (2 : Int32).toInt = 2 from by decide]
        omega
      have no : (¬ ∃ w, w < 32 ∧ isW x w ∧ bitOf mark w) → ¬ goes r x mark := fun hn q => by
        rcases q with ⟨q, -⟩ | ⟨-, ⟨-, q⟩ | ⟨q, -⟩ | ⟨q, -⟩⟩
        · exact q hx
        · exact hn q
        · exact q hr4
        · exact q hr2
      refine zb_f hr (zb_f (by decide) ?_)
      refine s_wholeOf x (fun hn => ?_) (fun w hw hi => ?_)
      · intro v ev
        exact zb_t ev (h0 (no (fun ⟨w, hw, hi, _⟩ => hn w hw hi)))
      · intro v ev
        subst ev
        have hne : ¬ nI w = -1 := fun q => by
          have := congrArg Int32.toInt q
          rw [nI_toInt (by omega), show (-1 : Int32).toInt = -1 from by decide] at this
          omega
        refine zb_f hne ?_
        by_cases hb : bitOf mark w
        · exact zr_t hb (h1 (Or.inr ⟨hx, Or.inl ⟨hr4, w, hw, hi, hb⟩⟩))
        · refine zr_f hb (h0 (no (fun ⟨w', hw', hi', hb'⟩ => ?_)))
          rw [isW_one hw' hw hi' hi] at hb'
          exact hb hb'
  · refine zb_f hx ?_
    by_cases h : (r &&& (1 : Int32)) = 1
    · exact zr_t h (h1 (Or.inl ⟨hx, h⟩))
    · exact zr_f h (h0 (fun q => by
        rcases q with ⟨-, q⟩ | ⟨q, -⟩
        · exact h q
        · exact hx q))
