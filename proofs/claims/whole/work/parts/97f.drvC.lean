/-! compile, third stage: the class writes the methods one behind the other -/
section NDS
variable {n : Nat} {ru : Nat → Int32} {ye no ro : Nat → Nat}
theorem nds_fuel : ∀ (d k x : Nat), TR n ru ye no d x → d ≤ k → nds ru ye no k x = nds ru ye no d x := by
  intro d
  induction d with
  | zero => intro k x h; exact h.elim
  | succ d ih =>
    intro k x h hk
    obtain ⟨k', rfl⟩ : ∃ k', k = k' + 1 := ⟨k - 1, by omega⟩
    obtain ⟨hi, h⟩ := h
    rcases h with h | ⟨h, h1, h2⟩
    · rw [nds_leaf h, nds_leaf h]
    · rw [nds_split h, nds_split h, ih k' _ h1 (by omega), ih k' _ h2 (by omega)]
theorem nds_in : ∀ (d i : Nat), TR n ru ye no d i → (nds ru ye no d i).Nodup → ∀ x ∈ nds ru ye no d i, (nds ru ye no d x).Nodup ∧ (∀ y ∈ nds ru ye no d x, y ∈ nds ru ye no d i) ∧ ∀ y ∈ nds ru ye no d x, y ≠ x → y ≠ i := by
  intro d
  induction d with
  | zero => intro i h; exact h.elim
  | succ d ih =>
    intro i h hN x hx
    by_cases e : x = i
    · rw [e]; exact ⟨hN, fun y hy => hy, fun y _ q => q⟩
    · obtain ⟨hi, h⟩ := h
      rcases h with hl | ⟨hl, h1, h2⟩
      · rw [nds_leaf hl] at hx
        simp at hx
        exact absurd hx e
      · rw [nds_split hl] at hx hN ⊢
        rw [List.nodup_cons, List.nodup_append] at hN
        obtain ⟨n1, n2, n3, n4⟩ := hN
        simp only [List.mem_append, not_or] at n1
        simp only [List.mem_cons, List.mem_append] at hx
        rcases hx with hx | hx | hx
        · exact absurd hx e
        · obtain ⟨a1, a2, a3⟩ := ih _ h1 n2 x hx
          rw [nds_fuel d (d + 1) x (nds_TR d _ h1 x hx) (by omega)]
          exact ⟨a1, fun y hy => by simp [a2 y hy], fun y hy _ => ne_mem n1.1 (a2 y hy)⟩
        · obtain ⟨a1, a2, a3⟩ := ih _ h2 n3 x hx
          rw [nds_fuel d (d + 1) x (nds_TR d _ h2 x hx) (by omega)]
          exact ⟨a1, fun y hy => by simp [a2 y hy], fun y hy _ => ne_mem n1.2 (a2 y hy)⟩
theorem AN_in : ∀ (t : Nat), (∀ j, j < t → TR n ru ye no 13 (ro j)) → (AN ru ye no ro t).Nodup → ∀ x ∈ AN ru ye no ro t, TR n ru ye no 13 x ∧ (nds ru ye no 13 x).Nodup ∧ (∀ y ∈ nds ru ye no 13 x, y ∈ AN ru ye no ro t) ∧ ∀ y ∈ nds ru ye no 13 x, y ≠ x → ∀ j, j < t → y ≠ ro j := by
  intro t
  induction t with
  | zero => intro _ _ x hx; exact absurd hx List.not_mem_nil
  | succ t ih =>
    intro hT hN x hx
    obtain ⟨n1, n2, n3⟩ := List.nodup_append.mp hN
    have hTt := hT t (by omega)
    have mr : ro t ∈ nds ru ye no 13 (ro t) := nds_self hTt
    rcases List.mem_append.mp hx with hx | hx
    · obtain ⟨a1, a2, a3, a4⟩ := ih (fun j hj => hT j (by omega)) n1 x hx
      refine ⟨a1, a2, fun y hy => List.mem_append_left _ (a3 y hy), fun y hy hne j hj => ?_⟩
      by_cases e : j = t
      · rw [e]; exact fun q => n3 y (a3 y hy) (ro t) mr q
      · exact a4 y hy hne j (by omega)
    · obtain ⟨a1, a2, a3⟩ := nds_in 13 (ro t) hTt n2 x hx
      refine ⟨nds_TR 13 _ hTt x hx, a1, fun y hy => List.mem_append_right _ (a2 y hy), fun y hy hne j hj => ?_⟩
      by_cases e : j = t
      · rw [e]; exact a3 y hy hne
      · have hm : ro j ∈ AN ru ye no ro t := AN_sub (show j + 1 ≤ t by omega) _ (List.mem_append_right _ (nds_self (hT j (by omega))))
        exact fun q => n3 (ro j) hm y (a2 y hy) q.symm
end NDS
theorem SC_of {cc a : Nat} {g g' : St} {w : Ws} (h104 : g' 104 = g 104) (h20 : g' 20 = g 20) (h103 : g' 103 = g 103) (h18 : g' 18 = g 18) (h16 : g' 16 = g 16) (h17 : g' 17 = g 17) (h : SC cc a g w) : SC cc a g' w := by
  unfold SC at *
  rw [h104, h20, h103, h18, h16, h17]; exact h
theorem FC_refl {cc a : Nat} {g : St} : FC cc a g g := ⟨fun _ _ _ _ _ _ => rfl, fun _ _ => ⟨rfl, rfl⟩, fun _ _ => rfl⟩
theorem s_latest {cc a : Nat} {g : St} {K : Int32 → St → Prop} {w : Ws} (hS : SC cc a g w) (h : a + w.2.length ≤ 120) (hk : K (nI w.2.length) g) : pc_Ta_latestSize g K := by
  obtain ⟨h1, h2, h3, h4, h5, h6, h7, h8⟩ := hS
  obtain ⟨c1, rfl⟩ : ∃ c1, cc = c1 + 1 := ⟨cc - 1, by omega⟩
  have h6 : g 18 c1 = nI a := h6
  unfold pc_Ta_latestSize pb_Ta_latestSize_0
  rw [h5]
  refine zb_f (nI_nle (by omega) (by omega)) ?_
  unfold pc_Ta_sizeOf pb_Ta_sizeOf_0
  rw [nI_pred, nI_1, nI_clamp (by omega : c1 + 1 < 2 ^ 31), nI_clamp (by omega : c1 < 2 ^ 31), h6, h7, pk_sub (by omega), show a + w.2.length - a = w.2.length by omega]
  exact ⟨vp_in_nI (by omega) (by decide), vp_in_nI (by omega) (by decide), hk⟩
/-- the class's cells behind the first m methods -/
def DW (m : Nat) (dv : Dv) (g : St) : Prop :=
  SC dv.2.2.2.1.length dv.2.1.length g (dv.1, dv.2.2.1) ∧ (∀ (k : Nat) (x : KB), dv.2.1[k]? = some x → g 16 k = x.1 ∧ g 17 k = x.2) ∧ (∀ j v : Nat, dv.2.2.2.1[j]? = some v → g 18 j = nI v) ∧ (∀ j v : Nat, dv.2.2.2.2.1[j]? = some v → g 21 j = nI v) ∧ (∀ j v : Nat, dv.2.2.2.2.2[j]? = some v → g 22 j = nI v) ∧ (0 < m → g 21 m = nI dv.1.length)
theorem DW_of {m : Nat} {dv : Dv} {g g' : St} (h104 : g' 104 = g 104) (h20 : g' 20 = g 20) (h103 : g' 103 = g 103) (h18 : g' 18 = g 18) (h16 : g' 16 = g 16) (h17 : g' 17 = g 17) (h21 : g' 21 = g 21) (h22 : g' 22 = g 22) (h : DW m dv g) : DW m dv g' := by
  obtain ⟨a1, a2, a3, a4, a5, a6⟩ := h
  unfold DW
  rw [h18, h16, h17, h21, h22]
  exact ⟨SC_of h104 h20 h103 h18 h16 h17 a1, a2, a3, a4, a5, a6⟩
def FrD (b g : St) : Prop := ∀ j, j ≠ 16 → j ≠ 17 → j ≠ 18 → j ≠ 20 → j ≠ 21 → j ≠ 22 → j ≠ 103 → j ≠ 104 → g j = b j
theorem s_82 {m : Nat} {x2 x3 : Int32} {B : List Int32} {F E : List KB} {ts st ho : List Nat} {g : St} {K : St → Prop} (hS : SC ts.length F.length g (B, E)) (hF : ∀ (k : Nat) (x : KB), F[k]? = some x → g 16 k = x.1 ∧ g 17 k = x.2) (hts : ∀ j v : Nat, ts[j]? = some v → g 18 j = nI v) (hst : ∀ j v : Nat, st[j]? = some v → g 21 j = nI v) (hho : ∀ j v : Nat, ho[j]? = some v → g 22 j = nI v) (hm : m < 60) (ls : st.length = m + 1) (lh : ho.length = m)
    (hk : ∀ g', DW (m + 1) (B, F, E, ts, st, ho ++ [ts.length - 1]) g' → (∀ j, j ≠ 21 → j ≠ 22 → g' j = g j) → K g') : pb_Co_writeMethod_82 K (nI m) x2 x3 g := by
  unfold pb_Co_writeMethod_82
  rw [nI_1]
  have cm : (nI m).toNatClampNeg = m := nI_clamp (by omega)
  have cm1 : (nI (m + 1)).toNatClampNeg = m + 1 := nI_clamp (by omega)
  refine ⟨vp_in_nI (by omega) (by decide), fun g1 e1 => ⟨vp_in_nI hm (by decide), fun g2 e2 => ?_⟩⟩
  have o : ∀ j, j ≠ 21 → j ≠ 22 → g2 j = g j := fun j j1 j2 => by rw [e2, ar_n _ _ _ _ _ j2, e1, ar_n _ _ _ _ _ j1]
  have o21 : ∀ p, g2 21 p = if p = m + 1 then nI B.length else g 21 p := fun p => by rw [e2, ar_n _ _ _ _ _ (by decide), e1, ar_at _ cm1, hS.1]
  have o22 : ∀ p, g2 22 p = if p = m then nI (ts.length - 1) else g 22 p := fun p => by
    rw [e2, ar_at _ cm, e1, ar_n _ _ _ _ _ (by decide), ar_n _ _ _ _ _ (by decide), hS.2.2.2.2.1]
    obtain ⟨c1, hc⟩ : ∃ c1, ts.length = c1 + 1 := ⟨ts.length - 1, by have := hS.2.2.1; omega⟩
    rw [hc, nI_pred]; rfl
  refine hk g2 ⟨SC_of (o 104 (by decide) (by decide)) (o 20 (by decide) (by decide)) (o 103 (by decide) (by decide)) (o 18 (by decide) (by decide)) (o 16 (by decide) (by decide)) (o 17 (by decide) (by decide)) hS, fun k x hx => by rw [o 16 (by decide) (by decide), o 17 (by decide) (by decide)]; exact hF k x hx, fun j v hv => by rw [o 18 (by decide) (by decide)]; exact hts j v hv, fun j v hv => ?_, fun j v hv => ?_, fun _ => ?_⟩ o
  · have hv : st[j]? = some v := hv
    have := getLt hv
    rw [o21, if_neg (by omega)]; exact hst j v hv
  · rw [o22]
    rcases get_put hv with ⟨q1, q2⟩ | ⟨q1, q2⟩
    · rw [if_pos (by omega), q2]
    · rw [if_neg (by omega)]; exact hho j v q2
  · rw [o21, if_pos rfl]
section DRC
variable {n : Nat} {ru bi : Nat → Int32} {fe ye no : Nat → Nat} {s : Cs} {most : Nat}
/-- what is known of a method's top, in the class -/
def TopC (n : Nat) (ru : Nat → Int32) (ye no : Nat → Nat) (s : Cs) (b : St) (x : Nat) : Prop := TR n ru ye no 13 x ∧ (nds ru ye no 13 x).Nodup ∧ Len ru ye no s (nds ru ye no 13 x) ∧ ∀ y ∈ nds ru ye no 13 x, s.1 y ≤ 400 ∧ s.2.1 y ≤ 60 ∧ b 12 y = nI (s.1 y) ∧ (y ≠ x → b 13 y = cI0 (s.2.1 y))
abbrev wr13 (ru bi : Nat → Int32) (fe ye no : Nat → Nat) (s : Cs) : Nat → Ws → Ws := fun x w => wrN ru bi fe ye no s 13 x w
theorem s_writeMethod {b g : St} {K : St → Prop} {dv : Dv} {l : List Nat} {x m : Nat} (hV : FoV n ru fe ye no) (hFb : FoC n ru bi fe ye no b) (hX : TopC n ru ye no s b x) (hm : m < 60) (hl : l.length = m) (h14 : b 14 m = nI x) (hmo : most ≤ 60) (hex : eN ru ye no s 13 x ≤ most) (hI : DI (wr13 ru bi fe ye no s) s.1 (eN ru ye no s 13) most l dv) (hD : DW m dv g) (hFr : FrD b g) (hB : sumL s.1 l + s.1 x ≤ 600) (hE : sumL (eN ru ye no s 13) l + eN ru ye no s 13 x ≤ 120)
    (hk : ∀ g', DW (m + 1) (dstep (wr13 ru bi fe ye no s) most dv x) g' → FrD b g' → K g') : pc_Co_writeMethod (nI m) (nI most) g K := by
  obtain ⟨B, F, E, ts, st, ho⟩ := dv
  obtain ⟨hS, hFe, hts, hst, hho, hbm⟩ := hD
  obtain ⟨T, N, L, A⟩ := hX
  have hS : SC ts.length F.length g (B, E) := hS
  have hFe : ∀ (k : Nat) (x : KB), F[k]? = some x → g 16 k = x.1 ∧ g 17 k = x.2 := hFe
  have hts : ∀ j v : Nat, ts[j]? = some v → g 18 j = nI v := hts
  have hst : ∀ j v : Nat, st[j]? = some v → g 21 j = nI v := hst
  have hho : ∀ j v : Nat, ho[j]? = some v → g 22 j = nI v := hho
  have i1 : B.length = sumL s.1 l := hI.1
  have i2 : F.length + E.length ≤ sumL (eN ru ye no s 13) l := hI.2.1
  have i4 : l = [] → (B, F, E, ts, st, ho) = dv0 := hI.2.2.2.1
  have i5 : ¬ l = [] → ts.length ≤ l.length := hI.2.2.2.2.1
  have i7 : st.length = l.length := hI.2.2.2.2.2.2.1
  have i8 : ho.length = l.length := hI.2.2.2.2.2.2.2.1
  have tl1 := hS.2.2.1
  have cm : (nI m).toNatClampNeg = m := nI_clamp (by omega)
  unfold pc_Co_writeMethod pb_Co_writeMethod_0
  refine s_latest hS (by show F.length + E.length ≤ 120; omega) ?_
  intro v3 e3
  refine ⟨vp_in_nI (by omega) (by decide), fun g4 e4 => ⟨vp_in_nI hm (by decide), ?_⟩⟩
  have o4 : ∀ j, j ≠ 21 → g4 j = g j := fun j hj => by rw [e4, ar_n _ _ _ _ _ hj]
  have e21 : ∀ p, g4 21 p = if p = m then nI B.length else g 21 p := fun p => by rw [e4, ar_at m cm, hS.1]
  have S4 : SC ts.length F.length g4 (B, E) := SC_of (o4 104 (by decide)) (o4 20 (by decide)) (o4 103 (by decide)) (o4 18 (by decide)) (o4 16 (by decide)) (o4 17 (by decide)) hS
  have r4 : FrD b g4 := fun j j1 j2 j3 j4 j5 j6 j7 j8 => by rw [o4 j j5]; exact hFr j j1 j2 j3 j4 j5 j6 j7 j8
  have fo : ∀ g', FrD b g' → FoC n ru bi fe ye no g' ∧ (∀ y ∈ nds ru ye no 13 x, s.1 y ≤ 400 ∧ s.2.1 y ≤ 60 ∧ g' 12 y = nI (s.1 y) ∧ (y ≠ x → g' 13 y = cI0 (s.2.1 y))) ∧ g' 14 m = nI x := fun g' r => by
    have rr : ∀ j, (j = 3 ∨ j = 4 ∨ j = 5 ∨ j = 6 ∨ j = 7 ∨ j = 100 ∨ j = 12 ∨ j = 13 ∨ j = 14) → g' j = b j := fun j hj => r j (by omega) (by omega) (by omega) (by omega) (by omega) (by omega) (by omega) (by omega)
    refine ⟨FoC_of (rr 3 (by omega)) (rr 4 (by omega)) (rr 5 (by omega)) (rr 6 (by omega)) (rr 7 (by omega)) (rr 100 (by omega)) hFb, fun y hy => ?_, by rw [rr 14 (by omega)]; exact h14⟩
    rw [rr 12 (by omega), rr 13 (by omega)]; exact A y hy
  have st' : ∀ g' : St, g' 21 = g4 21 → ∀ j v : Nat, (st ++ [B.length])[j]? = some v → g' 21 j = nI v := fun g' q j v hv => by
    rw [q, e21]
    rcases get_put hv with ⟨q1, q2⟩ | ⟨q1, q2⟩
    · rw [if_pos (by omega), q2]
    · rw [if_neg (by omega)]; exact hst j v q2
  rw [cm, (fo g4 r4).2.2]
  obtain ⟨X, Y, x1, y1, l1, m1⟩ := wrN_ext (bi := bi) (fe := fe) 13 x (B, E) T L
  have x1 : (wrN ru bi fe ye no s 13 x (B, E)).1 = B ++ X := x1
  have y1 : (wrN ru bi fe ye no s 13 x (B, E)).2 = E ++ Y := y1
  refine s_writeCode (bi := bi) (g0 := g4) hV (fo g4 r4).1 13 14 0 x (B, E) g4 _ (by omega) (by omega) T N L (fo g4 r4).2.1 S4 FC_refl (by show B.length + _ ≤ 600; omega) (by show F.length + E.length + _ ≤ 120; omega) (fun g5 S5 F5 => ?_)
  have hE5 : F.length + (wrN ru bi fe ye no s 13 x (B, E)).2.length ≤ 120 := by rw [y1, List.length_append]; omega
  have r5 : FrD b g5 := fun j j1 j2 j3 j4 j5 j6 j7 j8 => by rw [F5.1 j j1 j2 j3 j4 j8]; exact r4 j j1 j2 j3 j4 j5 j6 j7 j8
  have o5 : ∀ j, j ≠ 16 → j ≠ 17 → j ≠ 18 → j ≠ 20 → j ≠ 104 → g5 j = g4 j := F5.1
  have f5 : ∀ (k : Nat) (x : KB), F[k]? = some x → g5 16 k = x.1 ∧ g5 17 k = x.2 := fun k x hx => by
    have := F5.2.1 k (getLt hx)
    rw [this.1, this.2, o4 16 (by decide), o4 17 (by decide)]; exact hFe k x hx
  have t5 : ∀ j v : Nat, ts[j]? = some v → g5 18 j = nI v := fun j v hv => by
    have := getLt hv
    rw [F5.2.2 j (by omega), o4 18 (by decide)]; exact hts j v hv
  refine s_latest S5 hE5 ?_
  unfold dstep at hk
  by_cases hf : (wrN ru bi fe ye no s 13 x (B, E)).2.length ≤ most
  · rw [if_pos (show ((wr13 ru bi fe ye no s) x (((B, F, E, ts, st, ho) : Dv).1, ((B, F, E, ts, st, ho) : Dv).2.2.1)).2.length ≤ most from hf)] at hk
    refine zb_t (nI_le hf (by omega)) ?_
    refine s_82 (B := (wrN ru bi fe ye no s 13 x (B, E)).1) (F := F) (E := (wrN ru bi fe ye no s 13 x (B, E)).2) (ts := ts) (st := st ++ [B.length]) (ho := ho) S5 f5 t5 (st' g5 (o5 21 (by decide) (by decide) (by decide) (by decide) (by decide))) (fun j v hv => by rw [o5 22 (by decide) (by decide) (by decide) (by decide) (by decide), o4 22 (by decide)]; exact hho j v hv) hm (by simp; omega) (by omega) (fun g6 D6 O6 => hk g6 D6 (fun j j1 j2 j3 j4 j5 j6 j7 j8 => by rw [O6 j j5 j6]; exact r5 j j1 j2 j3 j4 j5 j6 j7 j8))
  · rw [if_neg (show ¬ ((wr13 ru bi fe ye no s) x (((B, F, E, ts, st, ho) : Dv).1, ((B, F, E, ts, st, ho) : Dv).2.2.1)).2.length ≤ most from hf)] at hk
    refine zb_f (nI_ge (by omega) (by omega)) ?_
    have hne : ¬ l = [] := fun q => hf (by
      have : E = [] := congrArg (fun z : Dv => z.2.2.1) (i4 q)
      rw [y1, this]; simp; omega)
    have tl2 := i5 hne
    obtain ⟨c1, hc⟩ : ∃ c1, ts.length = c1 + 1 := ⟨ts.length - 1, by omega⟩
    have cc1 : (nI (c1 + 1)).toNatClampNeg = c1 + 1 := nI_clamp (by omega)
    have cc2 : (nI (c1 + 1 + 1)).toNatClampNeg = c1 + 1 + 1 := nI_clamp (by omega)
    have g103 : g5 103 0 = nI (c1 + 1) := by rw [← hc]; exact S5.2.2.2.2.1
    have g18 : g5 18 c1 = nI F.length := by
      have := S5.2.2.2.2.2.1
      rw [hc] at this; exact this
    unfold pc_Ta_shrinkLatest pb_Ta_shrinkLatest_0
    rw [g103, nI_pred, nI_clamp (by omega : c1 < 2 ^ 31), g18, e3, nI_add]
    refine zb_f (nI_nle (by omega) (by omega)) ⟨vp_in_nI (by omega) (by decide), vp_in_nI (by omega) (by decide), fun g8 e8 => ?_⟩
    have m8 : g8 103 0 = nI (c1 + 1) := by rw [e8, ar_n _ _ _ _ _ (by decide)]; exact g103
    have n8 : g8 18 (c1 + 1) = nI (F.length + E.length) := by rw [e8, ar_e _ cc1]
    show pc_Ta_openClass g8 _
    unfold pc_Ta_openClass pb_Ta_openClass_0
    rw [m8, nI_1, cc1, n8]
    refine zb_f (nI_ge (b := 60) (by omega) (by decide)) ⟨vp_in_nI (by omega) (by decide), vp_in_nI (by omega) (by decide), fun g9 e9 g9' e9' => ⟨vp_in_nI (by omega) (by decide), fun g10 e10 => ⟨vp_in_nI hm (by decide), ?_⟩⟩⟩
    have m9 : g9 103 0 = nI (c1 + 1) := by rw [e9, ar_n _ _ _ _ _ (by decide)]; exact m8
    rw [m9, nI_1] at e9'
    have o10 : ∀ j, j ≠ 18 → j ≠ 103 → j ≠ 104 → g10 j = g5 j := fun j j1 j2 j3 => by rw [e10, sc_n _ _ _ _ j3, e9', sc_n _ _ _ _ j2, e9, ar_n _ _ _ _ _ j1, e8, ar_n _ _ _ _ _ j1]
    have o18 : ∀ p, g10 18 p = if p = c1 + 1 + 1 then nI (F.length + E.length) else if p = c1 + 1 then nI (F.length + E.length) else g5 18 p := fun p => by
      rw [e10, sc_n _ _ _ _ (by decide), e9', sc_n _ _ _ _ (by decide), e9, ar_at _ cc2, e8, ar_at _ cc1]
    have m103 : g10 103 0 = nI (c1 + 1 + 1) := by rw [e10, sc_n _ _ _ _ (by decide), e9', sc_s]
    have m104 : g10 104 0 = nI B.length := by
      rw [e10, sc_s, e9', sc_n _ _ _ _ (by decide), e9, ar_n _ _ _ _ _ (by decide), e8, ar_n _ _ _ _ _ (by decide), o5 21 (by decide) (by decide) (by decide) (by decide) (by decide), e21, if_pos rfl]
    have r10 : FrD b g10 := fun j j1 j2 j3 j4 j5 j6 j7 j8 => by rw [o10 j j3 j7 j8]; exact r5 j j1 j2 j3 j4 j5 j6 j7 j8
    have S10 : SC (ts ++ [F.length + E.length]).length (F ++ E).length g10 (B, []) := by
      have lt : (ts ++ [F.length + E.length]).length = c1 + 1 + 1 := by simp [hc]
      rw [lt, List.length_append]
      refine ⟨m104, fun p v hp => ?_, by omega, by omega, m103, ?_, ?_, fun k z hz => absurd (getLt hz) (Nat.not_lt_zero _)⟩
      · rw [o10 20 (by decide) (by decide) (by decide)]
        refine S5.2.1 p v ?_
        rw [x1]; exact getA hp
      · show g10 18 (c1 + 1) = _
        rw [o18, if_neg (by omega), if_pos rfl]
      · rw [o18, if_pos rfl]; rfl
    have f10 : ∀ (k : Nat) (x : KB), (F ++ E)[k]? = some x → g10 16 k = x.1 ∧ g10 17 k = x.2 := fun k z hz => by
      rw [o10 16 (by decide) (by decide) (by decide), o10 17 (by decide) (by decide) (by decide)]
      by_cases hlt : k < F.length
      · rw [List.getElem?_append_left hlt] at hz; exact f5 k z hz
      · rw [List.getElem?_append_right (by omega)] at hz
        have := S5.2.2.2.2.2.2.2 (k - F.length) z (by rw [y1]; exact getA hz)
        rw [show F.length + (k - F.length) = k by omega] at this
        exact this
    have t10 : ∀ j v : Nat, (ts ++ [F.length + E.length])[j]? = some v → g10 18 j = nI v := fun j v hv => by
      rw [o18]
      rcases get_put hv with ⟨q1, q2⟩ | ⟨q1, q2⟩
      · rw [if_neg (by omega), if_pos (by omega), q2]
      · rw [if_neg (by omega), if_neg (by omega)]; exact t5 j v q2
    rw [(fo g10 r10).2.2]
    obtain ⟨X', Y', x1', y1', l1', m1'⟩ := wrN_ext (bi := bi) (fe := fe) 13 x (B, []) T L
    refine s_writeCode (bi := bi) (g0 := g10) hV (fo g10 r10).1 13 14 0 x (B, []) g10 _ (by omega) (by omega) T N L (fo g10 r10).2.1 S10 FC_refl (by show B.length + _ ≤ 600; omega) (by rw [List.length_append]; show F.length + E.length + 0 + _ ≤ 120; omega) (fun g11 S11 F11 => ?_)
    have o11 : ∀ j, j ≠ 16 → j ≠ 17 → j ≠ 18 → j ≠ 20 → j ≠ 104 → g11 j = g10 j := F11.1
    have ed : dnew (wr13 ru bi fe ye no s) (B, F, E, ts, st, ho) x = ((wrN ru bi fe ye no s 13 x (B, [])).1, F ++ E, (wrN ru bi fe ye no s 13 x (B, [])).2, ts ++ [F.length + E.length], st ++ [B.length], ho ++ [(ts ++ [F.length + E.length]).length - 1]) := by
      rw [show (ts ++ [F.length + E.length]).length - 1 = ts.length by simp]; rfl
    rw [ed] at hk
    refine s_82 (B := (wrN ru bi fe ye no s 13 x (B, [])).1) (F := F ++ E) (E := (wrN ru bi fe ye no s 13 x (B, [])).2) (ts := ts ++ [F.length + E.length]) (st := st ++ [B.length]) (ho := ho) S11 (fun k z hz => ?_) (fun j v hv => ?_) (st' g11 ?_) (fun j v hv => ?_) hm (by simp; omega) (by omega) (fun g6 D6 O6 => hk g6 D6 (fun j j1 j2 j3 j4 j5 j6 j7 j8 => by rw [O6 j j5 j6, o11 j j1 j2 j3 j4 j8]; exact r10 j j1 j2 j3 j4 j5 j6 j7 j8))
    · have := F11.2.1 k (getLt hz)
      rw [this.1, this.2]; exact f10 k z hz
    · have := getLt hv
      rw [F11.2.2 j (by omega)]; exact t10 j v hv
    · rw [o11 21 (by decide) (by decide) (by decide) (by decide) (by decide), o10 21 (by decide) (by decide) (by decide)]; exact o5 21 (by decide) (by decide) (by decide) (by decide) (by decide)
    · rw [o11 22 (by decide) (by decide) (by decide) (by decide) (by decide), o10 22 (by decide) (by decide) (by decide), o5 22 (by decide) (by decide) (by decide) (by decide) (by decide), o4 22 (by decide)]; exact hho j v hv
end DRC
