/-! compile, third stage: a method of the reference; entries in all; the methods one behind the other -/
section MW
variable {n a : Nat} {ru bi : Nat → Int32} {fe ye no : Nat → Nat} {s : Cs}
theorem s_Mwrite {g : St} {K : St → Prop} {w : Ws} {m top d : Nat} (hV : FoV n ru fe ye no) (hF0 : FoM n ru bi fe ye no g) (hm : m < 62) (h16 : g 16 m = nI top) (hT : TR n ru ye no (d + 1) top) (hN : (nds ru ye no (d + 1) top).Nodup) (hL : Len ru ye no s (nds ru ye no (d + 1) top)) (h60 : (nds ru ye no (d + 1) top).length ≤ 60) (hA : ∀ y ∈ nds ru ye no (d + 1) top, s.1 y ≤ 400 ∧ s.2.1 y ≤ 60 ∧ g 12 y = nI (s.1 y) ∧ g 13 y = cI0 (s.2.1 y)) (hS : SM a g w) (hB : w.1.length + s.1 top ≤ 600) (hE : a + w.2.length + eN ru ye no s (d + 1) top ≤ 120)
    (hk : ∀ g', SM a g' (wrN ru bi fe ye no s (d + 1) top w) → FM a g g' → K g') : pc_Mo_write (nI m) (nI a) g K := by
  have hn := hV.1
  have hti := hT.1
  have mt : top ∈ nds ru ye no (d + 1) top := nds_self hT
  unfold pc_Mo_write pb_Mo_write_0
  intro v1 e1
  rw [nI_clamp (by omega : m < 2 ^ 31), h16]
  refine ⟨vp_in_nI hm (by decide), vp_in_nI (n := 0) (by decide) (by decide), fun g2 e2 => ?_⟩
  have o2 : ∀ j, j ≠ 9 → g2 j = g j := fun j hj => by rw [e2, ar_n _ _ _ _ _ hj]
  have F2 : FM a g g2 := ⟨fun j j1 _ _ _ _ _ => o2 j j1, fun p _ => by rw [o2 19 (by decide), o2 20 (by decide)]; exact ⟨rfl, rfl⟩⟩
  have S2 : SM a g2 w := ⟨by rw [o2 104 (by decide)]; exact hS.1, fun p v hp => by rw [o2 17 (by decide)]; exact hS.2.1 p v hp, by rw [o2 106 (by decide)]; exact hS.2.2.1, fun k x hx => by rw [o2 19 (by decide), o2 20 (by decide)]; exact hS.2.2.2 k x hx⟩
  rw [e1]
  unfold pl_Mo_write_14
  intro P hP
  apply hP
  unfold pb_Mo_write_14
  refine zb_f (by decide) ?_
  intro v3 e3
  have ev : v3 = nI 0 := by rw [e3]; decide
  rw [ev, show (nI 0).toNatClampNeg = 0 from nI_clamp (by decide)]
  have g29 : g2 9 0 = nI top := by rw [e2, ar_e 0 rfl]
  rw [g29]
  refine ⟨vp_in_nI (by decide) (by decide), fun v4 e4 => ?_⟩
  rw [e4]
  have it : vp_in (nI top) 60 := vp_in_nI (by omega) (by decide)
  refine ⟨it, ?_⟩
  have Ln := hL top mt
  have node : pb_Mo_write_72 K P (nI m) (nI a) (nI 0) (nI top) g2 := by
    refine s_Mnode (s := s) (left := 0) hV hF0 hti S2 F2 (by omega) ?_ ?_ (fun hl => ?_) (fun hl g3 S3 F3 n3 => ?_) (fun hl g3 S3 F3 n1 n2 n3 => ?_)
    · by_cases hl : ru top = -1
      · rw [if_pos hl]; have := Ln.1 hl; omega
      · rw [if_neg hl]; have := Ln.2 hl; unfold sln at this; omega
    · by_cases hl : ru top = -1
      · rw [eN_leaf hl] at hE; omega
      · rw [eN_split hl] at hE; omega
    · have hc := nds_child (d + 1) top hT hN top mt hl
      have := hA (ye top) hc.1.1
      exact ⟨this.2.2.1, this.2.2.2, this.1, this.2.1⟩
    · rw [wrN_leaf hl] at hk
      exact s_Mloop2 (s := s) (g0 := g) (top := top) hP hV hF0 hm h16 (by omega) 60 [] _ g3 (by show 0 ≤ 60; omega) (by omega) (fun x hx => absurd hx List.not_mem_nil) trivial S3 F3 (by
          obtain ⟨X, Y, x0, y0, l0, m0⟩ := (Ext_wth w 2 (2, bi top)).tr (Ext_put _ 3)
          show _ + 0 ≤ 600
          rw [x0]; simp only [List.length_append, l0]; have := Ln.1 hl; omega) (by
          obtain ⟨X, Y, x0, y0, l0, m0⟩ := (Ext_wth w 2 (2, bi top)).tr (Ext_put _ 3)
          show a + _ + 0 ≤ 120
          rw [eN_leaf hl] at hE
          rw [y0]; simp only [List.length_append]; omega) hk
    · rw [wrN_split hl] at hk
      rw [eN_split hl] at hE
      have Ls : s.1 top = 4 + tl (prt s (ye top)) + prt s (ye top) + prt s (no top) := Ln.2 hl
      obtain ⟨X, Y, x0, y0, l0, m0⟩ := Ext_hd (ru := ru) (bi := bi) (fe := fe) (ye := ye) (s := s) w top
      obtain ⟨hti', hT'⟩ := hT
      rcases hT' with q | ⟨-, h1, h2⟩
      · exact absurd q hl
      rw [nds_split hl] at hN hL h60 hA
      rw [List.nodup_cons, List.nodup_append] at hN
      obtain ⟨n1', n2', n3', n4'⟩ := hN
      simp only [List.mem_append, not_or] at n1'
      simp only [List.length_cons, List.length_append] at h60
      refine s_Mloop2 (s := s) (g0 := g) (top := top) hP hV hF0 hm h16 (by omega) 60 [(ye top, d), (no top, d)] _ g3 ?_ (by omega) ?_ ⟨n3, n2, trivial⟩ S3 F3 ?_ ?_ hk
      · show (nds ru ye no d (ye top)).length + ((nds ru ye no d (no top)).length + 0) ≤ 60
        omega
      · intro x hx
        simp only [List.mem_cons, List.not_mem_nil, or_false] at hx
        rcases hx with rfl | rfl
        · exact ⟨h1, n2', fun y hy => hL y (by simp [hy]), fun y hy => by
            have w := hA y (by simp [hy])
            exact ⟨w.1, w.2.1, w.2.2.1, w.2.2.2, ne_mem n1'.1 hy⟩⟩
        · exact ⟨h2, n3', fun y hy => hL y (by simp [hy]), fun y hy => by
            have w := hA y (by simp [hy])
            exact ⟨w.1, w.2.1, w.2.2.1, w.2.2.2, ne_mem n1'.2 hy⟩⟩
      · show _ + (prt s (ye top) + (prt s (no top) + 0)) ≤ 600
        rw [x0]; simp only [List.length_append, l0]; omega
      · show a + _ + (eP ru ye no s d (ye top) + (eP ru ye no s d (no top) + 0)) ≤ 120
        rw [y0]; simp only [List.length_append]; omega
  rw [nI_clamp (by omega : top < 2 ^ 31)]
  have g13 : g2 13 top = cI0 (s.2.1 top) := by rw [o2 13 (by decide)]; exact (hA top mt).2.2.2
  rw [g13]
  by_cases hc : s.2.1 top = 0
  · exact zb_t ((cI0_neg (by have := (hA top mt).2.1; omega)).mpr hc) node
  · refine zb_f (fun q => hc ((cI0_neg (by have := (hA top mt).2.1; omega)).mp q)) ⟨vp_in_nI hm (by decide), ?_⟩
    rw [o2 16 (by decide), nI_clamp (by omega : m < 2 ^ 31), h16]
    exact zb_t rfl node
end MW
section ES
variable {n lim : Nat} {ru : Nat → Int32} {ye no ro : Nat → Nat}
/-- two for each node -/
theorem cut_sum (h20 : 20 ≤ lim) (Cf W : Nat → Nat) : ∀ (d i : Nat) (s : Cs) (A : List Nat), TR n ru ye no d i → (nds ru ye no d i).Nodup → (∀ x ∈ nds ru ye no d i, s.2.1 x = 0) → (∀ x ∈ nds ru ye no d i, x ≠ i → Cf x = (cutn ru ye no lim d i s).2.1 x) → (∀ x ∈ nds ru ye no d i, (ru x = -1 → W x = 1) ∧ (¬ ru x = -1 → W x = 1 + (if Cf (ye x) = 0 then W (ye x) else 1) + (if Cf (no x) = 0 then W (no x) else 1))) → (cutn ru ye no lim d i s).2.2 = s.2.2 ++ A → sumL W A + W i + 1 ≤ 2 * (nds ru ye no d i).length := by
  intro d
  induction d with
  | zero => intro i s A h; exact h.elim
  | succ d ih =>
    intro i s A hT hN hC hCf hW hO
    obtain ⟨hi, hT⟩ := hT
    rcases hT with hl | ⟨hl, h1, h2⟩
    · have e : (cutn ru ye no lim (d + 1) i s).2.2 = s.2.2 := by
        unfold cutn; rw [if_pos hl]; unfold stp; rw [if_pos hl]
      rw [e] at hO
      have hA : A = [] := by
        have := congrArg List.length hO
        simp at this
        exact this
      rw [hA, nds_leaf hl, (hW i (by rw [nds_leaf hl]; simp)).1 hl]
      show 0 + 1 + 1 ≤ 2 * 1
      omega
    · have hNs := hN
      rw [nds_split hl, List.nodup_cons, List.nodup_append] at hN
      obtain ⟨n1, n2, n3, n4⟩ := hN
      simp only [List.mem_append, not_or] at n1
      have my : ye i ∈ nds ru ye no d (ye i) := nds_self h1
      have mo : no i ∈ nds ru ye no d (no i) := nds_self h2
      have hne : ye i ≠ no i := n4 _ my _ mo
      have hyi : ye i ≠ i := ne_mem n1.1 my
      have hoi : no i ≠ i := ne_mem n1.2 mo
      rw [nds_split hl] at hC hCf hW ⊢
      obtain ⟨A1, a1, a2, a3, a4, a5, a6, a7, a8, a9⟩ := cutn_ok (lim := lim) h20 d (ye i) s h1 n2 (fun x hx => hC x (by simp [hx]))
      have i1 := ih (ye i) s A1 h1 n2 (fun x hx => hC x (by simp [hx]))
      have hC1 : ∀ x ∈ nds ru ye no d (no i), (cutn ru ye no lim d (ye i) s).2.1 x = 0 := fun x hx => by
        rw [(a4 x (fun q => n4 x q x hx rfl)).2]; exact hC x (by simp [hx])
      obtain ⟨A2, b1, b2, b3, b4, b5, b6, b7, b8, b9⟩ := cutn_ok (lim := lim) h20 d (no i) _ h2 n3 hC1
      have i2 := ih (no i) (cutn ru ye no lim d (ye i) s) A2 h2 n3 hC1
      have e : cutn ru ye no lim (d + 1) i s = stp ru ye no lim i (cutn ru ye no lim d (no i) (cutn ru ye no lim d (ye i) s)) := by
        conv => lhs; unfold cutn
        rw [if_neg hl]
      rw [e] at hCf hO
      generalize hs1 : cutn ru ye no lim d (ye i) s = s1 at *
      generalize hs2 : cutn ru ye no lim d (no i) s1 = s2 at *
      have es : stp ru ye no lim i s2 = (updN (ctc ye no lim i s2).1 i (sln ye no (ctc ye no lim i s2) i), (ctc ye no lim i s2).2.1, (ctc ye no lim i s2).2.2) := by unfold stp; rw [if_neg hl]
      rw [es] at hCf hO
      have keepY : ∀ x ∈ nds ru ye no d (ye i), s2.2.1 x = s1.2.1 x := fun x hx => (b4 x (fun q => n4 x hx x q rfl)).2
      have hCy2 : s2.2.1 (ye i) = 0 := by rw [keepY _ my]; exact a5
      have Wi := (hW i (by simp)).2 hl
      have hO : (ctc ye no lim i s2).2.2 = s.2.2 ++ A := hO
      have hCf : ∀ x ∈ i :: (nds ru ye no d (ye i) ++ nds ru ye no d (no i)), x ≠ i → Cf x = (ctc ye no lim i s2).2.1 x := hCf
      have CfY := hCf (ye i) (by simp [my]) hyi
      have CfO := hCf (no i) (by simp [mo]) hoi
      have fin : ∀ A3 : List Nat, (ctc ye no lim i s2).2.2 = s2.2.2 ++ A3 → (∀ x, x ≠ ye i → x ≠ no i → (ctc ye no lim i s2).2.1 x = s2.2.1 x) → sumL W A3 + (if Cf (ye i) = 0 then W (ye i) else 1) + (if Cf (no i) = 0 then W (no i) else 1) ≤ W (ye i) + 1 + (W (no i) + 1) → sumL W A + W i + 1 ≤ 2 * (i :: (nds ru ye no d (ye i) ++ nds ru ye no d (no i))).length := by
        intro A3 p1 p2 p3
        have eA : A = A1 ++ (A2 ++ A3) := by
          have : s.2.2 ++ A = s.2.2 ++ (A1 ++ (A2 ++ A3)) := by rw [← hO, p1, b1, a1]; simp
          exact List.append_cancel_left this
        have j1 := i1 (fun x hx hxi => by
          rw [hCf x (by simp [hx]) (ne_mem n1.1 hx), p2 x hxi (fun q => n4 x hx _ mo q), keepY x hx]) (fun x hx => hW x (by simp [hx])) a1
        have j2 := i2 (fun x hx hxi => by
          rw [hCf x (by simp [hx]) (ne_mem n1.2 hx), p2 x (fun q => n4 _ my x hx q.symm) hxi]) (fun x hx => hW x (by simp [hx])) b1
        rw [eA, sumL_app, sumL_app, Wi]
        simp only [List.length_cons, List.length_append]
        omega
      rcases ctc_cases (s := s2) h20 hne with ⟨e3, -⟩ | ⟨e3, -⟩ | ⟨e3, -⟩ | ⟨e3, -⟩ | ⟨e3, -⟩
      · rw [e3] at CfY CfO
        refine fin [] (by rw [e3]; simp) (fun x _ _ => by rw [e3]) ?_
        rw [if_pos (CfY.trans hCy2), if_pos (CfO.trans b5)]
        show 0 + _ + _ ≤ _; omega
      · rw [e3] at CfY CfO
        rw [cto_C] at CfY
        rw [cto_Cn hne.symm, b5] at CfO
        refine fin [ye i] (by rw [e3]; rfl) (fun x q1 _ => by rw [e3, cto_Cn q1]) ?_
        rw [if_neg (by omega), if_pos CfO]
        show W (ye i) + 0 + _ + _ ≤ _; omega
      · rw [e3] at CfY CfO
        rw [cto_C] at CfO
        rw [cto_Cn hne, hCy2] at CfY
        refine fin [no i] (by rw [e3]; rfl) (fun x _ q2 => by rw [e3, cto_Cn q2]) ?_
        rw [if_pos CfY, if_neg (by omega)]
        show W (no i) + 0 + _ + _ ≤ _; omega
      · rw [e3] at CfY CfO
        rw [cto_Cn hne, cto_C] at CfY
        rw [cto_C] at CfO
        refine fin [ye i, no i] (by rw [e3]; show (s2.2.2 ++ [ye i]) ++ [no i] = _; simp) (fun x q1 q2 => by rw [e3, cto_Cn q2, cto_Cn q1]) ?_
        rw [if_neg (by omega), if_neg (by omega)]
        show W (ye i) + (W (no i) + 0) + _ + _ ≤ _; omega
      · rw [e3] at CfY CfO
        rw [cto_C] at CfY
        rw [cto_Cn hne.symm, cto_C] at CfO
        refine fin [no i, ye i] (by rw [e3]; show (s2.2.2 ++ [no i]) ++ [ye i] = _; simp) (fun x q1 q2 => by rw [e3, cto_Cn q1, cto_Cn q2]) ?_
        rw [if_neg (by omega), if_neg (by omega)]
        show W (no i) + (W (ye i) + 0) + _ + _ ≤ _; omega
theorem nds_TR : ∀ (d i : Nat), TR n ru ye no d i → ∀ x ∈ nds ru ye no d i, TR n ru ye no d x := by
  intro d
  induction d with
  | zero => intro i h; exact h.elim
  | succ d ih =>
    intro i h x hx
    have h0 := h
    obtain ⟨hi, h⟩ := h
    rcases h with hl | ⟨hl, h1, h2⟩
    · rw [nds_leaf hl] at hx
      simp at hx
      rw [hx]; exact h0
    · rw [nds_split hl] at hx
      simp only [List.mem_cons, List.mem_append] at hx
      rcases hx with rfl | hx | hx
      · exact h0
      · exact TR_mono d (d + 1) x (ih _ h1 x hx) (by omega)
      · exact TR_mono d (d + 1) x (ih _ h2 x hx) (by omega)
theorem cutA_keep (h20 : 20 ≤ lim) : ∀ (m k : Nat), k ≤ m → (∀ j, j < m → TR n ru ye no 13 (ro j)) → (AN ru ye no ro m).Nodup → ∀ x ∈ AN ru ye no ro k, (cutA ru ye no ro lim m).1 x = (cutA ru ye no ro lim k).1 x ∧ (cutA ru ye no ro lim m).2.1 x = (cutA ru ye no ro lim k).2.1 x := by
  intro m
  induction m with
  | zero => intro k hk _ _ x hx; rw [show k = 0 by omega]; exact ⟨rfl, rfl⟩
  | succ m ih =>
    intro k hk hT hN x hx
    by_cases e : k = m + 1
    · rw [e]; exact ⟨rfl, rfl⟩
    · obtain ⟨n1, n2, n3⟩ := List.nodup_append.mp hN
      have ok := cutA_ok (lim := lim) h20 m (fun j hj => hT j (by omega)) n1
      obtain ⟨A, a1, a2, a3, a4, -⟩ := cutn_ok (lim := lim) h20 13 (ro m) (cutA ru ye no ro lim m) (hT m (by omega)) n2 (fun x hx => ok.1 x (fun q => n3 x q x hx rfl))
      have i := ih k (by omega) (fun j hj => hT j (by omega)) n1 x hx
      have h4 := a4 x (fun q => n3 x (AN_sub (show k ≤ m by omega) x hx) x q rfl)
      exact ⟨h4.1.trans i.1, h4.2.trans i.2⟩
/-- all methods together: at most two entries a node -/
theorem cutA_sum (h20 : 20 ≤ lim) (t : Nat) (hT : ∀ j, j < t → TR n ru ye no 13 (ro j)) (hN : (AN ru ye no ro t).Nodup) : sumL (eN ru ye no (cutA ru ye no ro lim t) 13) (cutA ru ye no ro lim t).2.2 ≤ 2 * (AN ru ye no ro t).length := by
  have main : ∀ k, k ≤ t → sumL (eN ru ye no (cutA ru ye no ro lim t) 13) (cutA ru ye no ro lim k).2.2 ≤ 2 * (AN ru ye no ro k).length := by
    intro k
    induction k with
    | zero => intro _; exact Nat.le_refl _
    | succ k ih =>
      intro hk
      have i := ih (by omega)
      have hN1 := AN_nodup hk hN
      obtain ⟨n1, n2, n3⟩ := List.nodup_append.mp hN1
      have ok := cutA_ok (lim := lim) h20 k (fun j hj => hT j (by omega)) n1
      have hC0 : ∀ x ∈ nds ru ye no 13 (ro k), (cutA ru ye no ro lim k).2.1 x = 0 := fun x hx => ok.1 x (fun q => n3 x q x hx rfl)
      obtain ⟨A, a1, -⟩ := cutn_ok (lim := lim) h20 13 (ro k) (cutA ru ye no ro lim k) (hT k (by omega)) n2 hC0
      have hs := cut_sum (lim := lim) h20 (cutA ru ye no ro lim t).2.1 (eN ru ye no (cutA ru ye no ro lim t) 13) 13 (ro k) (cutA ru ye no ro lim k) A (hT k (by omega)) n2 hC0 (fun x hx _ => (cutA_keep (lim := lim) h20 t (k + 1) hk hT hN x (List.mem_append_right _ hx)).2) (fun x hx => ?_) a1
      · show sumL _ ((cutn ru ye no lim 13 (ro k) (cutA ru ye no ro lim k)).2.2 ++ [ro k]) ≤ 2 * (AN ru ye no ro k ++ nds ru ye no 13 (ro k)).length
        rw [a1, sumL_app, sumL_app, List.length_append]
        show _ + (_ + 0) ≤ _
        omega
      · have hx13 := nds_TR 13 (ro k) (hT k (by omega)) x hx
        refine ⟨fun hl => eN_leaf (d := 12) hl, fun hl => ?_⟩
        rw [eN_split (d := 12) hl]
        obtain ⟨-, hT'⟩ := hx13
        rcases hT' with q | ⟨-, h1, h2⟩
        · exact absurd q hl
        unfold eP
        rw [eN_fuel 12 13 _ h1 (by omega), eN_fuel 12 13 _ h2 (by omega)]
  exact main t (Nat.le_refl _)
end ES
