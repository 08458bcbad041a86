/-! compile, third stage: what was written is the code of the trees -/
def Has (dv : Dv) (h ah : Nat) (w : Ws) : Prop := (∃ X, dv.1 = w.1 ++ X) ∧ ∀ (k : Nat) (kb : KB), w.2[k]? = some kb → (dv.2.1 ++ dv.2.2.1)[ah + k]? = some kb ∧ ∀ v, dv.2.2.2.1[h + 1]? = some v → ah + k < v
theorem Has_ext {dv : Dv} {h ah k e : Nat} {w w' : Ws} (x : Ext w w' k e) (H : Has dv h ah w') : Has dv h ah w := by
  obtain ⟨X, Y, x1, y1, -, -⟩ := x
  obtain ⟨⟨Z, z⟩, H2⟩ := H
  exact ⟨⟨X ++ Z, by rw [z, x1, List.append_assoc]⟩, fun k kb hk => H2 k kb (by rw [y1]; exact getA hk)⟩
theorem gatk {α : Type} (l r : List α) (k : Nat) : (l ++ r)[l.length + k]? = r[k]? := by
  rw [List.getElem?_append_right (Nat.le_add_right _ _), Nat.add_sub_cancel_left]
section COD
variable {n M : Nat} {ru bi : Nat → Int32} {fe ye no : Nat → Nat} {s : Cs}
theorem hd_short {i : Nat} {w : Ws} (h : tl (prt s (ye i)) = 2) : (hd ru bi fe ye s i w).1 = w.1 ++ [1, nI (fe i), 2, nI (fnd w.2 (knd ru i, bi i)), nI (10 + rnum (ru i)), nI (2 + prt s (ye i))] := by
  unfold hd tst
  rw [if_pos h]
  show ((((((w.1 ++ [1]) ++ [nI (fe i)]) ++ [2]) ++ [nI (fnd w.2 (knd ru i, bi i))]) ++ [nI (10 + rnum (ru i))]) ++ [nI (2 + prt s (ye i))]) = _
  simp
theorem hd_long {i : Nat} {w : Ws} (h : ¬ tl (prt s (ye i)) = 2) : (hd ru bi fe ye s i w).1 = w.1 ++ [1, nI (fe i), 2, nI (fnd w.2 (knd ru i, bi i)), nI (20 + rnum (ru i)), nI ((3 + prt s (ye i)) / 256), nI ((3 + prt s (ye i)) % 256)] := by
  unfold hd tst
  rw [if_neg h]
  show (((((((w.1 ++ [1]) ++ [nI (fe i)]) ++ [2]) ++ [nI (fnd w.2 (knd ru i, bi i))]) ++ [nI (20 + rnum (ru i))]) ++ [nI ((3 + prt s (ye i)) / 256)]) ++ [nI ((3 + prt s (ye i)) % 256)]) = _
  simp
theorem hd_2 {i : Nat} {w : Ws} : (hd ru bi fe ye s i w).2 = ins w.2 (knd ru i, bi i) := by
  unfold hd tst
  split <;> rfl
theorem nds_S {S : Nat → Prop} (ch : ∀ x, S x → ¬ ru x = -1 → S (ye x) ∧ S (no x)) : ∀ (d i : Nat), S i → ∀ x ∈ nds ru ye no d i, S x := by
  intro d
  induction d with
  | zero => intro i _ x hx; exact absurd hx List.not_mem_nil
  | succ d ih =>
    intro i hi x hx
    by_cases hl : ru i = -1
    · rw [nds_leaf hl] at hx
      simp at hx
      rw [hx]; exact hi
    · rw [nds_split hl] at hx
      simp only [List.mem_cons, List.mem_append] at hx
      rcases hx with rfl | hx | hx
      · exact hi
      · exact ih _ (ch i hi hl).1 x hx
      · exact ih _ (ch i hi hl).2 x hx
theorem code_at {S : Nat → Prop} {c m : St} {B : List Int32} {F E : List KB} {ts st ho : List Nat} (hV : FoV n ru fe ye no) (fc : FoC n ru bi fe ye no c) (fm : FoM n ru bi fe ye no m) (m13 : ∀ x, S x → m 13 x = cI0 (s.2.1 x)) (ch : ∀ x, S x → ¬ ru x = -1 → S (ye x) ∧ S (no x)) (ln : ∀ x, S x → 3 ≤ s.1 x ∧ s.1 x ≤ 400) (le : ∀ x, S x → (ru x = -1 → s.1 x = 3) ∧ (¬ ru x = -1 → s.1 x = sln ye no s x))
    (cut : ∀ x, S x → ∀ q : Nat, s.2.1 x = q + 1 → q < M ∧ DCode (wr13 ru bi fe ye no s) (B, F, E, ts, st, ho) x q) (b1 : ∀ (p : Nat) (v : Int32), B[p]? = some v → c 20 p = v) (b2 : c 104 0 = nI B.length) (b3 : B.length ≤ 600) (t1 : c 103 0 = nI ts.length) (t2 : ts.length ≤ 60) (t3 : ∀ j v : Nat, ts[j]? = some v → c 18 j = nI v) (t4 : c 18 ts.length = nI (F.length + E.length)) (t5 : F.length + E.length ≤ 120) (t6 : ∀ j v : Nat, ts[j]? = some v → v ≤ F.length) (e1 : ∀ (k : Nat) (kb : KB), (F ++ E)[k]? = some kb → c 17 k = kb.2) (s1 : ∀ j v : Nat, st[j]? = some v → c 21 j = nI v) (h1 : ∀ j v : Nat, ho[j]? = some v → c 22 j = nI v) :
    ∀ (d i : Nat) (w : Ws) (h ah : Nat), d ≤ 13 → TR n ru ye no d i → S i → ts[h]? = some ah → Has (B, F, E, ts, st, ho) h ah (wrN ru bi fe ye no s d i w) → CodeAt c m n M d i w.1.length h := by
  have ent : ∀ (h ah k : Nat) (kb : KB), ts[h]? = some ah → ((F ++ E)[ah + k]? = some kb ∧ ∀ v, ts[h + 1]? = some v → ah + k < v) → Ent c h k ah ∧ c 17 (ah + k) = kb.2 := by
    intro h ah k kb hh hq
    have hlt := getLt hh
    refine ⟨⟨by omega, ?_, t3 h ah hh, ?_⟩, e1 _ _ hq.1⟩
    · rw [t1]; exact nI_lt hlt (by omega)
    · by_cases q : h + 1 < ts.length
      · obtain ⟨v, hv⟩ : ∃ v, ts[h + 1]? = some v := ⟨_, List.getElem?_eq_getElem q⟩
        have := t6 _ _ hv
        exact ⟨v, t3 _ _ hv, hq.2 v hv, by omega⟩
      · have := getLt hq.1
        rw [List.length_append] at this
        exact ⟨F.length + E.length, by rw [show h + 1 = ts.length by omega]; exact t4, this, t5⟩
  have byt : ∀ (L r X : List Int32), B = (L ++ r) ++ X → ∀ (k : Nat) (v : Int32), r[k]? = some v → c 20 (L.length + k) = v := by
    intro L r X hB k v hk
    refine b1 _ _ ?_
    rw [hB, List.append_assoc, gatk]
    exact getA hk
  have lenX : ∀ (L X : List Int32), B = L ++ X → L.length ≤ B.length := fun L X q => by rw [q, List.length_append]; omega
  intro d
  induction d with
  | zero => intro i w h ah _ hT; exact hT.elim
  | succ d ih =>
    intro i w h ah hd13 hT hS hh hH
    have hTi := hT
    obtain ⟨hi, hT⟩ := hT
    obtain ⟨f3, f5, fs⟩ := fc.2 i hi
    obtain ⟨-, -, ms⟩ := fm.2 i hi
    refine ⟨hi, ?_⟩
    rcases hT with hl | ⟨hl, T1, T2⟩
    · rw [wrN_leaf hl] at hH
      obtain ⟨⟨X, hX⟩, hE⟩ := hH
      have hX : B = ((w.1 ++ [2] ++ [nI (fnd w.2 (2, bi i))]) ++ [3]) ++ X := hX
      have hX' : B = (w.1 ++ [2, nI (fnd w.2 (2, bi i)), 3]) ++ X := by rw [hX]; simp
      have hL := lenX _ _ hX'
      rw [List.length_append] at hL
      have hL : w.1.length + 3 ≤ B.length := hL
      have bb := byt _ _ _ hX'
      have en := ent h ah _ _ hh (hE (fnd w.2 (2, bi i)) (2, bi i) (ins_get w.2 (2, bi i)))
      refine Or.inl ⟨f3.trans hl, fnd w.2 (2, bi i), ah, by rw [b2]; exact nI_lt (by omega) (by omega), by omega, bb 0 2 rfl, bb 1 _ rfl, bb 2 3 rfl, en.1, ?_⟩
      rw [en.2, f5]
    · obtain ⟨f4, f6, f7⟩ := fs hl
      obtain ⟨m2, m4, m5⟩ := ms hl
      obtain ⟨⟨r, r6, er⟩, fe8, y60, o60⟩ := hV.2 i hi hl
      have er' : rnum (ru i) = r := by unfold rnum; rw [er]; exact nI_clamp (by omega)
      obtain ⟨Sy, So⟩ := ch i hS hl
      have Ly : Len ru ye no s (nds ru ye no d (ye i)) := fun x hx => le x (nds_S ch d _ Sy x hx)
      have Lo : Len ru ye no s (nds ru ye no d (no i)) := fun x hx => le x (nds_S ch d _ So x hx)
      rw [wrN_split hl] at hH
      have ey := wrP_ext (bi := bi) (fe := fe) (hd ru bi fe ye s i w) T1 Ly
      have eo := wrP_ext (bi := bi) (fe := fe) (wrP ru bi fe ye no s d (ye i) (hd ru bi fe ye s i w)) T2 Lo
      have H1 := Has_ext eo hH
      have H0 := Has_ext ey H1
      have ly : (wrP ru bi fe ye no s d (ye i) (hd ru bi fe ye s i w)).1.length = (hd ru bi fe ye s i w).1.length + prt s (ye i) := by
        obtain ⟨X, Y, x, -, l, -⟩ := ey
        rw [x, List.length_append, l]
      have lo : (wrP ru bi fe ye no s d (no i) (wrP ru bi fe ye no s d (ye i) (hd ru bi fe ye s i w))).1.length = (wrP ru bi fe ye no s d (ye i) (hd ru bi fe ye s i w)).1.length + prt s (no i) := by
        obtain ⟨X, Y, x, -, l, -⟩ := eo
        rw [x, List.length_append, l]
      have lh : (hd ru bi fe ye s i w).1.length = w.1.length + (4 + tl (prt s (ye i))) := by
        obtain ⟨X, Y, x, -, l, -⟩ := Ext_hd (ru := ru) (bi := bi) (fe := fe) (ye := ye) (s := s) w i
        rw [x, List.length_append, l]
      have p3 : ∀ x, S x → 3 ≤ prt s x ∧ prt s x ≤ 400 := fun x hx => by
        unfold prt
        split
        · exact ln x hx
        · omega
      have py := p3 _ Sy
      have po := p3 _ So
      have lB : w.1.length + (4 + tl (prt s (ye i))) + prt s (ye i) + prt s (no i) ≤ B.length := by
        obtain ⟨⟨X, hX⟩, -⟩ := hH
        have := lenX _ _ hX
        omega
      have ht := tl_b (prt s (ye i))
      have part : ∀ (x : Nat) (w' : Ws), S x → TR n ru ye no d x → Has (B, F, E, ts, st, ho) h ah (wrP ru bi fe ye no s d x w') → PartW c m M (CodeAt c m n M d) x w'.1.length h := by
        intro x w' Sx Tx Hx
        unfold wrP at Hx
        by_cases hc : s.2.1 x = 0
        · rw [if_pos hc] at Hx
          exact Or.inl ⟨by rw [m13 x Sx, hc]; rfl, ih x w' h ah (by omega) Tx Sx hh Hx⟩
        · rw [if_neg hc] at Hx
          obtain ⟨q, hq⟩ : ∃ q, s.2.1 x = q + 1 := ⟨s.2.1 x - 1, by omega⟩
          rw [hq, show q + 1 - 1 = q by omega] at Hx
          obtain ⟨⟨X, hX⟩, hE⟩ := Hx
          have hX : B = ((w'.1 ++ [4] ++ [nI (fnd w'.2 (4, nI q))]) ++ [3]) ++ X := hX
          have hX' : B = (w'.1 ++ [4, nI (fnd w'.2 (4, nI q)), 3]) ++ X := by rw [hX]; simp
          have hL := lenX _ _ hX'
          rw [List.length_append] at hL
          have hL : w'.1.length + 3 ≤ B.length := hL
          have bb := byt _ _ _ hX'
          have en := ent h ah _ _ hh (hE (fnd w'.2 (4, nI q)) (4, nI q) (ins_get w'.2 (4, nI q)))
          obtain ⟨qM, w2, h2, ah2, c1, c2, c3, c4, c5⟩ := cut x Sx q hq
          have c4 : ∃ X, B = (wrN ru bi fe ye no s 13 x w2).1 ++ X := c4
          have hcode : Has (B, F, E, ts, st, ho) h2 ah2 (wrN ru bi fe ye no s 13 x w2) := ⟨c4, c5⟩
          rw [wrN_fuel d 13 x w2 Tx (by omega)] at c4 hcode
          have l2 : w2.1.length + 3 ≤ B.length := by
            obtain ⟨X2, hX2⟩ := c4
            have := lenX _ _ hX2
            obtain ⟨X3, Y3, x3, -, l3, -⟩ := wrN_ext (bi := bi) (fe := fe) d x w2 Tx (fun y hy => le y (nds_S ch d _ Sx y hy))
            rw [x3, List.length_append, l3] at this
            have := (ln x Sx).1
            omega
          have := getLt c3
          have : h2 < ts.length := this
          refine Or.inr ⟨q, fnd w'.2 (4, nI q), ah, w2.1.length, h2, qM, by rw [m13 x Sx, hq, cI0_s], bb 0 4 rfl, bb 1 _ rfl, bb 2 3 rfl, by rw [b2]; exact nI_lt (by omega) (by omega), by omega, en.1, en.2, s1 _ _ c1, h1 _ _ c2, by omega, by omega, ih x w2 h2 ah2 (by omega) Tx Sx c3 hcode⟩
      have en := ent h ah _ _ hh (H0.2 (fnd w.2 (knd ru i, bi i)) (knd ru i, bi i) (by rw [hd_2]; exact ins_get w.2 _))
      have P1 := part (ye i) _ Sy T1 H1
      have P2 := part (no i) _ So T2 hH
      obtain ⟨⟨X, hX⟩, -⟩ := H0
      have hX : B = (hd ru bi fe ye s i w).1 ++ X := hX
      have sp : SplitN c m i r (fe i) (ye i) (no i) := ⟨r6, fe8, y60, o60, f3.trans er, f4, f6, f7, m2, m4, m5⟩
      by_cases h2 : tl (prt s (ye i)) = 2
      · rw [hd_short h2, er'] at hX
        have bb := byt _ _ _ hX
        rw [h2] at lh lB
        rw [ly, lh] at P2
        rw [lh] at P1
        refine Or.inr ⟨r, fe i, ye i, no i, fnd w.2 (knd ru i, bi i), ah, 2 + prt s (ye i), sp, by rw [b2]; exact nI_lt (by omega) (by omega), by omega, bb 0 1 rfl, bb 1 _ rfl, bb 2 2 rfl, bb 3 _ rfl, en.1, by rw [en.2, f5], by omega, Or.inl ⟨bb 4 _ rfl, bb 5 _ rfl, P1, ?_⟩⟩
        rw [show w.1.length + 4 + (2 + prt s (ye i)) = w.1.length + (4 + 2) + prt s (ye i) by omega]
        exact P2
      · have h3 : tl (prt s (ye i)) = 3 := by omega
        rw [hd_long h2, er'] at hX
        have bb := byt _ _ _ hX
        rw [h3] at lh lB
        rw [ly, lh] at P2
        rw [lh] at P1
        refine Or.inr ⟨r, fe i, ye i, no i, fnd w.2 (knd ru i, bi i), ah, 3 + prt s (ye i), sp, by rw [b2]; exact nI_lt (by omega) (by omega), by omega, bb 0 1 rfl, bb 1 _ rfl, bb 2 2 rfl, bb 3 _ rfl, en.1, by rw [en.2, f5], by omega, Or.inr ⟨bb 4 _ rfl, (3 + prt s (ye i)) / 256, (3 + prt s (ye i)) % 256, bb 5 _ rfl, bb 6 _ rfl, (Nat.div_add_mod _ _).symm, P1, ?_⟩⟩
        rw [show w.1.length + 4 + (3 + prt s (ye i)) = w.1.length + (4 + 3) + prt s (ye i) by omega]
        exact P2
end COD
