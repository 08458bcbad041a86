/-! compile, third stage: the reference writes what the function says -/
def SM (a : Nat) (g : St) (w : Ws) : Prop := g 104 0 = nI w.1.length ∧ (∀ (p : Nat) (v : Int32), w.1[p]? = some v → g 17 p = v) ∧ g 106 0 = nI (a + w.2.length) ∧ ∀ (k : Nat) (x : KB), w.2[k]? = some x → g 19 (a + k) = x.1 ∧ g 20 (a + k) = x.2
def FM (a : Nat) (g0 g : St) : Prop := (∀ j, j ≠ 9 → j ≠ 17 → j ≠ 19 → j ≠ 20 → j ≠ 104 → j ≠ 106 → g j = g0 j) ∧ ∀ p, p < a → g 19 p = g0 19 p ∧ g 20 p = g0 20 p
section WRM
variable {a : Nat} {g0 : St}
theorem s_Mput {g : St} {K : St → Prop} {w : Ws} {v : Int32} (hS : SM a g w) (hF : FM a g0 g) (hB : w.1.length < 600) (hk : ∀ g', SM a g' (put w v) → FM a g0 g' → g' 9 = g 9 → K g') : pc_Mo_put v g K := by
  obtain ⟨h1, h2, h3, h4⟩ := hS
  have cl : (nI w.1.length).toNatClampNeg = w.1.length := nI_clamp (by omega)
  unfold pc_Mo_put pb_Mo_put_0
  rw [h1]
  refine ⟨vp_in_nI (by omega) (by decide), fun g1 e1 g2 e2 => ?_⟩
  have m1 : g1 104 0 = nI w.1.length := by rw [e1, ar_n _ _ _ _ _ (by decide)]; exact h1
  rw [m1, nI_1] at e2
  have o : ∀ j, j ≠ 17 → j ≠ 104 → g2 j = g j := fun j j1 j2 => by rw [e2, sc_n _ _ _ _ j2, e1, ar_n _ _ _ _ _ j1]
  refine hk g2 ⟨?_, fun p u hp => ?_, by rw [o 106 (by decide) (by decide)]; exact h3, fun k x hx => by rw [o 19 (by decide) (by decide), o 20 (by decide) (by decide)]; exact h4 k x hx⟩ ⟨fun j j1 j2 j3 j4 j5 j6 => by rw [o j j2 j5]; exact hF.1 j j1 j2 j3 j4 j5 j6, fun p hp => by rw [o 19 (by decide) (by decide), o 20 (by decide) (by decide)]; exact hF.2 p hp⟩ (o 9 (by decide) (by decide))
  · rw [e2, sc_s]
    show _ = nI (w.1 ++ [v]).length
    simp
  · rw [e2, sc_n _ _ _ _ (by decide), e1, ar_at w.1.length cl]
    rcases get_put hp with ⟨q1, q2⟩ | ⟨q1, q2⟩
    · rw [if_pos q1, q2]
    · rw [if_neg (by omega)]; exact h2 p u q2
theorem s_entryFor {g : St} {K : Int32 → St → Prop} {w : Ws} {kb : KB} (hS : SM a g w) (hF : FM a g0 g) (hE : a + w.2.length < 120) (hk : ∀ g', SM a g' (w.1, ins w.2 kb) → FM a g0 g' → g' 9 = g 9 → K (nI (fnd w.2 kb)) g') : pc_Mo_entryFor (nI a) kb.1 kb.2 g K := by
  have hS0 := hS
  obtain ⟨h1, h2, h3, h4⟩ := hS
  unfold pc_Mo_entryFor pb_Mo_entryFor_0
  intro v1 e1
  rw [e1]
  unfold pl_Mo_entryFor_3
  intro P hP
  have fl := fnd_le w.2 kb
  have main : ∀ (r k : Nat), k + r = fnd w.2 kb → P (nI a) kb.1 kb.2 (nI (a + k)) g := by
    intro r
    induction r with
    | zero =>
      intro k hk0
      have hk0 : k = fnd w.2 kb := by omega
      apply hP
      unfold pb_Mo_entryFor_3 pb_Mo_entryFor_40 pb_Mo_entryFor_75
      by_cases hlt : fnd w.2 kb < w.2.length
      · have hg := fnd_get w.2 kb hlt
        rw [← hk0] at hg hlt
        obtain ⟨x1, x2⟩ := h4 k kb hg
        rw [h3]
        refine zb_f (nI_ge (by omega) (by omega)) ⟨vp_in_nI (by omega) (by decide), ?_⟩
        rw [nI_clamp (by omega : a + k < 2 ^ 31), x1, x2]
        refine zr_t rfl ⟨vp_in_nI (by omega) (by decide), zb_t rfl ?_⟩
        refine zr_f (by rw [nI_eq (by omega) (by omega)]; omega) ?_
        rw [pk_sub (by omega), show a + k - a = fnd w.2 kb by omega]
        refine hk g ?_ hF rfl
        have ei : ins w.2 kb = w.2 := by unfold ins; rw [if_pos (by omega)]
        rw [ei]
        exact hS0
      · have hkl : k = w.2.length := by omega
        subst hkl
        have ei : ins w.2 kb = w.2 ++ [kb] := by unfold ins; rw [if_neg hlt]
        have ce : (nI (a + w.2.length)).toNatClampNeg = a + w.2.length := nI_clamp (by omega)
        have ie : vp_in (nI (a + w.2.length)) 200 := vp_in_nI (by omega) (by decide)
        rw [h3]
        refine zb_t (nI_le (Nat.le_refl _) (by omega)) ?_
        refine zr_t rfl ⟨ie, fun g1 f1 => ⟨ie, fun g2 f2 g3 f3 => ?_⟩⟩
        have m2 : g2 106 0 = nI (a + w.2.length) := by rw [f2, ar_n _ _ _ _ _ (by decide), f1, ar_n _ _ _ _ _ (by decide)]; exact h3
        rw [m2, nI_1] at f3
        rw [pk_sub (by omega), show a + w.2.length - a = fnd w.2 kb by omega]
        have o : ∀ j, j ≠ 19 → j ≠ 20 → j ≠ 106 → g3 j = g j := fun j j1 j2 j3 => by rw [f3, sc_n _ _ _ _ j3, f2, ar_n _ _ _ _ _ j2, f1, ar_n _ _ _ _ _ j1]
        have o19 : ∀ p, g3 19 p = if p = a + w.2.length then kb.1 else g 19 p := fun p => by rw [f3, sc_n _ _ _ _ (by decide), f2, ar_n _ _ _ _ _ (by decide), f1, ar_at _ ce]
        have o20 : ∀ p, g3 20 p = if p = a + w.2.length then kb.2 else g 20 p := fun p => by rw [f3, sc_n _ _ _ _ (by decide), f2, ar_at _ ce, f1, ar_n _ _ _ _ _ (by decide)]
        refine hk g3 ?_ ⟨fun j j1 j2 j3 j4 j5 j6 => by rw [o j j3 j4 j6]; exact hF.1 j j1 j2 j3 j4 j5 j6, fun p hp => ?_⟩ (o 9 (by decide) (by decide) (by decide))
        · rw [ei]
          refine ⟨by rw [o 104 (by decide) (by decide) (by decide)]; exact h1, fun p v hp => by rw [o 17 (by decide) (by decide) (by decide)]; exact h2 p v hp, ?_, fun k x hx => ?_⟩
          · rw [f3, sc_s]
            show _ = nI (a + (w.2 ++ [kb]).length)
            rw [List.length_append]
            rfl
          · rw [o19, o20]
            rcases get_put hx with ⟨q1, q2⟩ | ⟨q1, q2⟩
            · rw [if_pos (by omega), if_pos (by omega), q2]; exact ⟨rfl, rfl⟩
            · rw [if_neg (by omega), if_neg (by omega)]; exact h4 k x q2
        · rw [o19, o20, if_neg (by omega), if_neg (by omega)]; exact hF.2 p hp
    | succ r ih =>
      intro k hk0
      have hlt : k < w.2.length := by omega
      have hne := fnd_not w.2 kb k (by omega)
      apply hP
      unfold pb_Mo_entryFor_3 pb_Mo_entryFor_34
      obtain ⟨x, hx⟩ : ∃ x, w.2[k]? = some x := ⟨_, List.getElem?_eq_getElem hlt⟩
      obtain ⟨x1, x2⟩ := h4 k x hx
      have nxt : ∀ v1 : Int32, v1 = nI (a + k) + 1 → P (nI a) kb.1 kb.2 v1 g := fun v1 e1 => by
        rw [nI_1] at e1
        rw [e1]
        exact ih (k + 1) (by omega)
      rw [h3]
      refine zb_f (nI_ge (by omega) (by omega)) ⟨vp_in_nI (by omega) (by decide), ?_⟩
      rw [nI_clamp (by omega : a + k < 2 ^ 31), x1, x2]
      by_cases q1 : x.1 = kb.1
      · refine zr_t q1 ⟨vp_in_nI (by omega) (by decide), ?_⟩
        refine zb_f (fun q2 => hne ?_) nxt
        rw [hx]
        exact congrArg some (Prod.ext q1 q2)
      · exact zr_f q1 nxt
  exact main (fnd w.2 kb) 0 (by omega)
theorem s_Mwith {g : St} {K : St → Prop} {w : Ws} {op : Int32} {kb : KB} (hS : SM a g w) (hF : FM a g0 g) (hB : w.1.length + 1 < 600) (hE : a + w.2.length < 120) (hk : ∀ g', SM a g' (wth w op kb) → FM a g0 g' → g' 9 = g 9 → K g') : pc_Mo_with op (nI a) kb.1 kb.2 g K := by
  unfold pc_Mo_with pb_Mo_with_0
  refine s_Mput hS hF (by omega) (fun g1 S1 F1 n1 => ?_)
  refine s_entryFor (kb := kb) S1 F1 hE (fun g2 S2 F2 n2 => ?_)
  intro v4 e4
  rw [e4]
  refine s_Mput S2 F2 (by show (w.1 ++ [op]).length < 600; simp; omega) (fun g3 S3 F3 n3 => hk g3 S3 F3 (by rw [n3, n2, n1]))
end WRM
section WRM2
variable {n a : Nat} {ru bi : Nat → Int32} {fe ye no : Nat → Nat} {s : Cs} {g0 : St}
theorem FM_FoM {g : St} (h : FM a g0 g) (hF : FoM n ru bi fe ye no g0) : FoM n ru bi fe ye no g := by
  have o := h.1
  exact FoM_but (o 100 (by decide) (by decide) (by decide) (by decide) (by decide) (by decide)) (o 1 (by decide) (by decide) (by decide) (by decide) (by decide) (by decide)) (o 2 (by decide) (by decide) (by decide) (by decide) (by decide) (by decide)) (o 3 (by decide) (by decide) (by decide) (by decide) (by decide) (by decide)) (o 4 (by decide) (by decide) (by decide) (by decide) (by decide) (by decide)) (o 5 (by decide) (by decide) (by decide) (by decide) (by decide) (by decide)) hF
/-- the code of one node: a leaf's, or a split's head, whose children then wait -/
theorem s_Mnode {g : St} {K : St → Prop} {P : Int32 → Int32 → Int32 → St → Prop} {X1 : Int32} {w : Ws} {i left : Nat} (hV : FoV n ru fe ye no) (hF0 : FoM n ru bi fe ye no g0) (hi : i < n) (hS : SM a g w) (hF : FM a g0 g) (hleft : left + 1 < 64) (hB : w.1.length + (if ru i = -1 then 3 else 4 + tl (prt s (ye i))) ≤ 600) (hE : a + w.2.length < 120) (hy : ¬ ru i = -1 → Arr2 g0 s (ye i))
    (h0 : ru i = -1 → ∀ g', SM a g' (put (wth w 2 (2, bi i)) 3) → FM a g0 g' → g' 9 = g 9 → P X1 (nI a) (nI left) g')
    (h1 : ¬ ru i = -1 → ∀ g', SM a g' (hd ru bi fe ye s i w) → FM a g0 g' → (∀ j, j < left → g' 9 j = g 9 j) → g' 9 left = nI (no i) → g' 9 (left + 1) = nI (ye i) → P X1 (nI a) (nI (left + 2)) g') : pb_Mo_write_72 K P X1 (nI a) (nI left) (nI i) g := by
  have hn := hV.1
  have ii : vp_in (nI i) 60 := vp_in_nI (by omega) (by decide)
  have ci : (nI i).toNatClampNeg = i := nI_clamp (by omega)
  have hFg := FM_FoM hF hF0
  obtain ⟨f1, f3, fs⟩ := hFg.2 i hi
  unfold pb_Mo_write_72
  rw [ci, f1, f3]
  refine ⟨ii, ?_⟩
  by_cases hl : ru i = -1
  · rw [if_pos hl] at hB
    refine zr_t hl ⟨ii, ?_⟩
    refine s_Mwith (kb := (2, bi i)) hS hF (by omega) hE (fun g1 S1 F1 n1 => ?_)
    refine s_Mput S1 F1 (by show ((w.1 ++ [_]) ++ [_]).length < 600; simp; omega) (fun g2 S2 F2 n2 => ?_)
    unfold pb_Mo_write_263
    exact h0 hl g2 S2 F2 (by rw [n2, n1])
  · rw [if_neg hl] at hB
    obtain ⟨⟨r, r6, er⟩, fe8, y60, o60⟩ := hV.2 i hi hl
    have ht := tl_b (prt s (ye i))
    have hy := hy hl
    refine zr_f hl ?_
    refine s_Mput hS hF (by omega) (fun g1 S1 F1 n1 => ⟨ii, ?_⟩)
    have hF1 := FM_FoM F1 hF0
    rw [((hF1.2 i hi).2.2 hl).1]
    refine s_Mput S1 F1 (by show (w.1 ++ [_]).length < 600; simp; omega) (fun g2 S2 F2 n2 => ⟨ii, ?_⟩)
    have hF2 := FM_FoM F2 hF0
    rw [(hF2.2 i hi).1]
    have rest : ∀ kd : Int32, kd = knd ru i → pb_Mo_write_140 K P X1 (nI a) (nI left) (nI i) 2 (nI a) kd g2 := by
      intro kd ek
      unfold pb_Mo_write_140
      refine ⟨ii, ?_⟩
      rw [ci, (hF2.2 i hi).2.1, ek]
      refine s_Mwith (kb := (knd ru i, bi i)) S2 F2 (by show ((w.1 ++ [_]) ++ [_]).length + 1 < 600; simp; omega) hE (fun g3 S3 F3 n3 => ?_)
      have hF3 := FM_FoM F3 hF0
      have ar3 : ∀ g, FM a g0 g → Arr2 g s (ye i) := fun g hF => ⟨by rw [hF.1 12 (by decide) (by decide) (by decide) (by decide) (by decide) (by decide)]; exact hy.1, by rw [hF.1 13 (by decide) (by decide) (by decide) (by decide) (by decide) (by decide)]; exact hy.2.1, hy.2.2.1, hy.2.2.2⟩
      have hp := prt_le hy
      refine s_Mfar hV hF3 hi hl (ar3 g3 F3) ?_
      intro v4 e4
      refine ⟨ii, ?_⟩
      rw [((hF3.2 i hi).2.2 hl).2.1]
      refine s_Mpart y60 (ar3 g3 F3) ?_
      rw [e4, show ((2 : Int32) + nI (prt s (ye i))) = nI (2 + prt s (ye i)) from nI_add 2 _]
      have len3 : (wth (put (put w 1) (nI (fe i))) 2 (knd ru i, bi i)).1.length = w.1.length + 4 := by
        show ((((w.1 ++ [_]) ++ [_]) ++ [_]) ++ [_]).length = _
        simp
      have ernum : rnum (ru i) = r := by unfold rnum; rw [er]; exact nI_clamp (by omega)
      -- the tail: the last byte, then the children wait
      have tail : ∀ (v6 : Int32) (g5 : St) (w5 : Ws), SM a g5 w5 → FM a g0 g5 → g5 9 = g 9 → w5.1.length < 600 → put w5 (nI ((tl (prt s (ye i)) + prt s (ye i)) % 256)) = hd ru bi fe ye s i w → pb_Mo_write_222 K P X1 (nI a) (nI left) (nI i) (nI (tl (prt s (ye i)) + prt s (ye i))) v6 g5 := by
        intro v6 g5 w5 S5 F5 n5 hb5 ew
        unfold pb_Mo_write_222
        refine ⟨by decide, ?_⟩
        have em : nI (tl (prt s (ye i)) + prt s (ye i)) - nI (tl (prt s (ye i)) + prt s (ye i)) / (256 : Int32) * (256 : Int32) = nI ((tl (prt s (ye i)) + prt s (ye i)) % 256) := pk_rem (d := 256) (by omega) (by decide) (by decide)
        rw [em]
        refine s_Mput S5 F5 hb5 (fun g6 S6 F6 n6 => ⟨ii, vp_in_nI (by omega) (by decide), fun g7 e7 => ⟨ii, ?_, fun g8 e8 v9 e9 => ?_⟩⟩)
        · rw [nI_1]; exact vp_in_nI (by omega) (by decide)
        have hF6 := FM_FoM F6 hF0
        have cl : (nI left).toNatClampNeg = left := nI_clamp (by omega)
        have cl1 : (nI (left + 1)).toNatClampNeg = left + 1 := nI_clamp (by omega)
        rw [ci, ((hF6.2 i hi).2.2 hl).2.2] at e7
        have h4 : g7 4 i = nI (ye i) := by rw [e7, ar_n _ _ _ _ _ (by decide)]; exact ((hF6.2 i hi).2.2 hl).2.1
        rw [ci, h4, nI_1] at e8
        have o8 : ∀ j, j ≠ 9 → g8 j = g6 j := fun j hj => by rw [e8, ar_n _ _ _ _ _ hj, e7, ar_n _ _ _ _ _ hj]
        have c9 : ∀ j, g8 9 j = if j = left + 1 then nI (ye i) else if j = left then nI (no i) else g 9 j := by
          intro j
          rw [e8, ar_at (left + 1) cl1]
          by_cases q1 : j = left + 1
          · rw [if_pos q1, if_pos q1]
          · rw [if_neg q1, if_neg q1, e7, ar_at left cl, n6, n5]
        unfold pb_Mo_write_263
        have ev : v9 = nI (left + 2) := by rw [e9]; exact nI_add left 2
        rw [ev]
        rw [ew] at S6
        refine h1 hl g8 ⟨by rw [o8 104 (by decide)]; exact S6.1, fun p v hp => by rw [o8 17 (by decide)]; exact S6.2.1 p v hp, by rw [o8 106 (by decide)]; exact S6.2.2.1, fun k x hx => by rw [o8 19 (by decide), o8 20 (by decide)]; exact S6.2.2.2 k x hx⟩ ⟨fun j j1 j2 j3 j4 j5 j6 => by rw [o8 j j1]; exact F6.1 j j1 j2 j3 j4 j5 j6, fun p hp => by rw [o8 19 (by decide), o8 20 (by decide)]; exact F6.2 p hp⟩ (fun j hj => by rw [c9, if_neg (by omega), if_neg (by omega)]) (by rw [c9, if_neg (by omega), if_pos rfl]) (by rw [c9, if_pos rfl])
      have nn : g3 9 = g 9 := by rw [n3, n2, n1]
      unfold pb_Mo_write_181 pb_Mo_write_196
      by_cases h2 : tl (prt s (ye i)) = 2
      · refine zr_t (by rw [h2]) ?_
        intro v1 w1
        refine zb_f (by rw [w1]; decide) ⟨ii, ?_⟩
        rw [ci, (hF3.2 i hi).1, er, show ((10 : Int32) + nI r) = nI (10 + r) from nI_add 10 r]
        refine s_Mput S3 F3 (by omega) (fun g4 S4 F4 n4 => ?_)
        refine zr_f (by rw [w1]; decide) ?_
        refine tail v1 g4 _ S4 F4 (by rw [n4, nn]) (by show (_ ++ [_]).length < 600; rw [List.length_append, len3]; simp; omega) ?_
        unfold hd tst
        rw [if_pos h2, ernum, h2]
        congr 1
        have : prt s (ye i) ≤ 61 := by
          unfold tl at h2
          by_cases q : prt s (ye i) ≤ 61
          · exact q
          · rw [if_neg q] at h2; omega
        rw [Nat.mod_eq_of_lt (by omega)]
      · have h3 : tl (prt s (ye i)) = 3 := by omega
        refine zr_f (by rw [h3, nI_eq (by omega) (by omega)]; omega) ?_
        intro v1 w1
        refine zb_t w1 ⟨ii, ?_⟩
        rw [ci, (hF3.2 i hi).1, er, show ((20 : Int32) + nI r) = nI (20 + r) from nI_add 20 r]
        refine s_Mput S3 F3 (by omega) (fun g4 S4 F4 n4 => ?_)
        refine zr_t w1 ⟨by decide, ?_⟩
        have ed : nI (tl (prt s (ye i)) + prt s (ye i)) / (256 : Int32) = nI ((tl (prt s (ye i)) + prt s (ye i)) / 256) := pk_div (d := 256) (by omega) (by decide) (by decide)
        rw [ed]
        refine s_Mput S4 F4 (by show (_ ++ [_]).length < 600; rw [List.length_append, len3]; simp; omega) (fun g5 S5 F5 n5 => ?_)
        refine tail v1 g5 _ S5 F5 (by rw [n5, n4, nn]) (by show ((_ ++ [_]) ++ [_]).length < 600; rw [List.length_append, List.length_append, len3]; simp; omega) ?_
        unfold hd tst
        rw [if_neg h2, ernum, h3]
    by_cases h4 : (4 : Int32) ≤ ru i
    · exact zb_t h4 (rest 3 (by unfold knd; rw [if_pos h4]))
    · exact zb_f h4 (rest 1 (by unfold knd; rw [if_neg h4]))
def wrL (ru bi : Nat → Int32) (fe ye no : Nat → Nat) (s : Cs) : List (Nat × Nat) → Ws → Ws
  | [], w => w
  | x :: L, w => wrL ru bi fe ye no s L (wrP ru bi fe ye no s x.2 x.1 w)
def bL (s : Cs) : List (Nat × Nat) → Nat
  | [] => 0
  | x :: L => prt s x.1 + bL s L
def eL (ru : Nat → Int32) (ye no : Nat → Nat) (s : Cs) : List (Nat × Nat) → Nat
  | [] => 0
  | x :: L => eP ru ye no s x.2 x.1 + eL ru ye no s L
def nL (ru : Nat → Int32) (ye no : Nat → Nat) : List (Nat × Nat) → Nat
  | [] => 0
  | x :: L => (nds ru ye no x.2 x.1).length + nL ru ye no L
theorem nL_len : ∀ L : List (Nat × Nat), (∀ x ∈ L, TR n ru ye no x.2 x.1) → L.length ≤ nL ru ye no L := by
  intro L
  induction L with
  | nil => intro _; exact Nat.le_refl _
  | cons x L ih =>
    intro h
    have h1 := List.length_pos_of_mem (nds_self (h x (by simp)))
    have h2 := ih (fun y hy => h y (by simp [hy]))
    show L.length + 1 ≤ (nds ru ye no x.2 x.1).length + nL ru ye no L
    omega
/-- a node that waits: a proper tree, with what the cutter left -/
def Wt (n : Nat) (ru : Nat → Int32) (ye no : Nat → Nat) (s : Cs) (g0 : St) (top : Nat) (x : Nat × Nat) : Prop :=
  TR n ru ye no x.2 x.1 ∧ (nds ru ye no x.2 x.1).Nodup ∧ Len ru ye no s (nds ru ye no x.2 x.1) ∧ ∀ y ∈ nds ru ye no x.2 x.1, s.1 y ≤ 400 ∧ s.2.1 y ≤ 60 ∧ g0 12 y = nI (s.1 y) ∧ g0 13 y = cI0 (s.2.1 y) ∧ y ≠ top
theorem Wt_child {top d x : Nat} (h : Wt n ru ye no s g0 top (x, d + 1)) (hl : ¬ ru x = -1) : Wt n ru ye no s g0 top (ye x, d) ∧ Wt n ru ye no s g0 top (no x, d) := by
  obtain ⟨⟨hx, hT⟩, hN, hL, hA⟩ := h
  rcases hT with q | ⟨-, h1, h2⟩
  · exact absurd q hl
  have e : nds ru ye no (d + 1) x = x :: (nds ru ye no d (ye x) ++ nds ru ye no d (no x)) := nds_split hl
  have hN : (nds ru ye no (d + 1) x).Nodup := hN
  have hL : Len ru ye no s (nds ru ye no (d + 1) x) := hL
  have hA : ∀ y ∈ nds ru ye no (d + 1) x, s.1 y ≤ 400 ∧ s.2.1 y ≤ 60 ∧ g0 12 y = nI (s.1 y) ∧ g0 13 y = cI0 (s.2.1 y) ∧ y ≠ top := hA
  rw [e] at hN hL hA
  rw [List.nodup_cons, List.nodup_append] at hN
  exact ⟨⟨h1, hN.2.1, fun y hy => hL y (by simp [hy]), fun y hy => hA y (by simp [hy])⟩, ⟨h2, hN.2.2.1, fun y hy => hL y (by simp [hy]), fun y hy => hA y (by simp [hy])⟩⟩
theorem s_Mloop2 {K : St → Prop} {P : Int32 → Int32 → Int32 → St → Prop} {m top : Nat} (hP : ∀ x1 x2 x3 g, pb_Mo_write_14 K P x1 x2 x3 g → P x1 x2 x3 g) (hV : FoV n ru fe ye no) (hF0 : FoM n ru bi fe ye no g0) (hm : m < 62) (h16 : g0 16 m = nI top) (htop : top < 60) :
    ∀ (u : Nat) (L : List (Nat × Nat)) (w : Ws) (g : St), nL ru ye no L ≤ u → u ≤ 60 → (∀ x ∈ L, Wt n ru ye no s g0 top x) → StkN g L → SM a g w → FM a g0 g → w.1.length + bL s L ≤ 600 → a + w.2.length + eL ru ye no s L ≤ 120 → (∀ g', SM a g' (wrL ru bi fe ye no s L w) → FM a g0 g' → K g') → P (nI m) (nI a) (nI L.length) g := by
  have hn := hV.1
  intro u
  induction u with
  | zero =>
    intro L w g hu h60 hT hs hS hF hB hE hk
    have := nL_len L (fun x hx => (hT x hx).1)
    cases L with
    | cons x L => simp at this; omega
    | nil =>
      apply hP
      unfold pb_Mo_write_14
      exact zb_t (by decide) (hk g hS hF)
  | succ u ih =>
    intro L w g hu h60 hT hs hS hF hB hE hk
    cases L with
    | nil =>
      apply hP
      unfold pb_Mo_write_14
      exact zb_t (by decide) (hk g hS hF)
    | cons x L =>
      obtain ⟨i, dd⟩ := x
      have hW := hT (i, dd) (by simp)
      have hTi : TR n ru ye no dd i := hW.1
      have hL := nL_len ((i, dd) :: L) (fun x hx => (hT x hx).1)
      have hL' : L.length + 1 ≤ u + 1 := Nat.le_trans hL hu
      have hu : (nds ru ye no dd i).length + nL ru ye no L ≤ u + 1 := hu
      have hB : w.1.length + (prt s i + bL s L) ≤ 600 := hB
      have hE : a + w.2.length + (eP ru ye no s dd i + eL ru ye no s L) ≤ 120 := hE
      cases dd with
      | zero => exact hTi.elim
      | succ d =>
        have hB : w.1.length + (prt s i + bL s L) ≤ 600 := hB
        have hE : a + w.2.length + (eP ru ye no s (d + 1) i + eL ru ye no s L) ≤ 120 := hE
        have hu : (nds ru ye no (d + 1) i).length + nL ru ye no L ≤ u + 1 := hu
        have mi : i ∈ nds ru ye no (d + 1) i := nds_self hTi
        obtain ⟨A1, A2, A3, A4, A5⟩ := hW.2.2.2 i mi
        have hi : i < n := hTi.1
        have cl : (nI L.length).toNatClampNeg = L.length := nI_clamp (by omega)
        have ci : (nI i).toNatClampNeg = i := nI_clamp (by omega)
        have ii : vp_in (nI i) 60 := vp_in_nI (by omega) (by decide)
        apply hP
        unfold pb_Mo_write_14
        refine zb_f (nI_nle (n := L.length + 1) (by omega) (by omega)) ?_
        intro v1 e1
        have ev1 : v1 = nI L.length := by rw [e1]; exact pk_m1 _
        rw [ev1, cl, show g 9 L.length = nI i from hs.1]
        refine ⟨vp_in_nI (by omega) (by decide), fun v2 e2 => ?_⟩
        rw [e2, ci, hF.1 13 (by decide) (by decide) (by decide) (by decide) (by decide) (by decide), A4]
        refine ⟨ii, ?_⟩
        by_cases hc : s.2.1 i = 0
        · refine zb_t ((cI0_neg (by omega)).mpr hc) ?_
          have ep : eP ru ye no s (d + 1) i = eN ru ye no s (d + 1) i := by unfold eP; rw [if_pos hc]
          have pp : prt s i = s.1 i := by unfold prt; rw [if_pos hc]
          have ew : wrP ru bi fe ye no s (d + 1) i w = wrN ru bi fe ye no s (d + 1) i w := by unfold wrP; rw [if_pos hc]
          have hk : ∀ g', SM a g' (wrL ru bi fe ye no s L (wrP ru bi fe ye no s (d + 1) i w)) → FM a g0 g' → K g' := hk
          rw [ew] at hk
          rw [ep] at hE
          rw [pp] at hB
          have Ln := hW.2.2.1 i mi
          refine s_Mnode (s := s) hV hF0 hi hS hF (by omega) ?_ ?_ (fun hl => ?_) (fun hl g1 S1 F1 n1 => ?_) (fun hl g1 S1 F1 n1 n2 n3 => ?_)
          · by_cases hl : ru i = -1
            · rw [if_pos hl]
              have := Ln.1 hl
              omega
            · rw [if_neg hl]
              have := Ln.2 hl
              unfold sln at this
              omega
          · by_cases hl : ru i = -1
            · rw [eN_leaf hl] at hE; omega
            · rw [eN_split hl] at hE; omega
          · have wy := (Wt_child hW hl).1
            have := wy.2.2.2 (ye i) (nds_self wy.1)
            exact ⟨this.2.2.1, this.2.2.2.1, this.1, this.2.1⟩
          · rw [wrN_leaf hl] at hk
            rw [eN_leaf hl] at hE
            have L3 := Ln.1 hl
            have ln : (nds ru ye no (d + 1) i).length = 1 := by rw [nds_leaf hl]; rfl
            obtain ⟨X, Y, x0, y0, l0, m0⟩ := (Ext_wth w 2 (2, bi i)).tr (Ext_put _ 3)
            refine ih L _ g1 (by omega) (by omega) (fun y hy => hT y (by simp [hy])) (StkN_keep L (fun j _ => by rw [n1]) hs.2) S1 F1 ?_ ?_ hk
            · rw [x0]; simp only [List.length_append, l0]; omega
            · rw [y0]; simp only [List.length_append]; omega
          · rw [wrN_split hl] at hk
            rw [eN_split hl] at hE
            have Ls : s.1 i = 4 + tl (prt s (ye i)) + prt s (ye i) + prt s (no i) := Ln.2 hl
            have ln : (nds ru ye no (d + 1) i).length = 1 + (nds ru ye no d (ye i)).length + (nds ru ye no d (no i)).length := by
              rw [nds_split hl]; simp only [List.length_cons, List.length_append]; omega
            obtain ⟨X, Y, x0, y0, l0, m0⟩ := Ext_hd (ru := ru) (bi := bi) (fe := fe) (ye := ye) (s := s) w i
            have wc := Wt_child hW hl
            refine ih ((ye i, d) :: (no i, d) :: L) _ g1 ?_ (by omega) ?_ ⟨n3, n2, StkN_keep L (fun j hj => n1 j hj) hs.2⟩ S1 F1 ?_ ?_ hk
            · show (nds ru ye no d (ye i)).length + ((nds ru ye no d (no i)).length + nL ru ye no L) ≤ u
              omega
            · intro y hy
              simp only [List.mem_cons] at hy
              rcases hy with rfl | rfl | hy
              · exact wc.1
              · exact wc.2
              · exact hT y (by simp [hy])
            · show _ + (prt s (ye i) + (prt s (no i) + bL s L)) ≤ 600
              rw [x0]; simp only [List.length_append, l0]; omega
            · show a + _ + (eP ru ye no s d (ye i) + (eP ru ye no s d (no i) + eL ru ye no s L)) ≤ 120
              rw [y0]; simp only [List.length_append]; omega
        · refine zb_f (fun q => hc ((cI0_neg (by omega)).mp q)) ⟨vp_in_nI hm (by decide), ?_⟩
          rw [hF.1 16 (by decide) (by decide) (by decide) (by decide) (by decide) (by decide), nI_clamp (by omega : m < 2 ^ 31), h16]
          refine zb_f (by rw [nI_eq (by omega) (by omega)]; exact A5) ⟨ii, ?_⟩
          obtain ⟨q, hq⟩ : ∃ q, s.2.1 i = q + 1 := ⟨s.2.1 i - 1, by omega⟩
          rw [hq, cI0_s]
          have ep : eP ru ye no s (d + 1) i = 1 := by unfold eP; rw [if_neg hc]
          have pp : prt s i = 3 := by unfold prt; rw [if_neg hc]
          have ew : wrP ru bi fe ye no s (d + 1) i w = put (wth w 4 (4, nI q)) 3 := by unfold wrP; rw [if_neg hc, hq, show q + 1 - 1 = q by omega]
          have hk : ∀ g', SM a g' (wrL ru bi fe ye no s L (wrP ru bi fe ye no s (d + 1) i w)) → FM a g0 g' → K g' := hk
          rw [ew] at hk
          rw [ep] at hE
          rw [pp] at hB
          refine s_Mwith (kb := (4, nI q)) hS hF (by omega) (by omega) (fun g1 S1 F1 n1 => ?_)
          refine s_Mput S1 F1 (by show ((w.1 ++ [_]) ++ [_]).length < 600; simp; omega) (fun g2 S2 F2 n2 => ?_)
          unfold pb_Mo_write_263
          have hpos := List.length_pos_of_mem mi
          obtain ⟨X, Y, x0, y0, l0, m0⟩ := (Ext_wth w 4 (4, nI q)).tr (Ext_put _ 3)
          refine ih L _ g2 (by omega) (by omega) (fun y hy => hT y (by simp [hy])) (StkN_keep L (fun j _ => by rw [n2, n1]) hs.2) S2 F2 ?_ ?_ hk
          · rw [x0]; simp only [List.length_append, l0]; omega
          · rw [y0]; simp only [List.length_append]; omega
end WRM2
