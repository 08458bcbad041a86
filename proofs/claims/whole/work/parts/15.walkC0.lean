section WALKC0
variable {p : Program} {l : Launch} {e : Env} {R : Room} {s : State} {m : MethodId} {args : Array Value} {below : List Frame} {meth : Method} {c : Code} {H : Heap} {locs : List Loc} {Q : State → Prop}
variable {D : va_G} {cI cZ : ClassId} {ad : Nat → Nat} {A : Nat → Prop} {H0 : Heap} {ls : Array Slot}
set_option maxHeartbeats 4000000 in
set_option maxRecDepth 100000 in
theorem wb_Fo_addNode_0 {K : Int32 → St → Prop} {x1 : Int32} {x2 : Int32} {x3 : Int32} {x4 : Int32} {x5 : Int32} {g : St} (F : fxC D cI cZ p R s m args c b_Fo_addNode 6 R_Fo 0 0)
    (hret : rtCI D cI cZ ad p l e R s m args below meth c b_Fo_addNode A H0 Q K)
    (hw : pb_Fo_addNode_0 K x1 x2 x3 x4 x5 g)
    (hwd : wdC D cI cZ ad A H0 g H locs) (hl : lv_has ls 6 [(0, .ref (ad 2)), (1, .int x1), (2, .int x2), (3, .int x3), (4, .int x4), (5, .int x5)]) : W p l e R s m args below meth c H locs 0 0 Q (F0 m 0 ls []) := by
  obtain ⟨hx, hb, hml, hown, hts, hK, hN, hR⟩ := F
  have F : fxC D cI cZ p R s m args c b_Fo_addNode 6 R_Fo 0 0 := ⟨hx, hb, hml, hown, hts, hK, hN, hR⟩
  refine lv_aload_n hx hb d_Fo_addNode_0 rfl (lv_at hl 0 rfl) ?_
  refine gfC_Fo_30 F hwd d_Fo_addNode_1 ?_
  refine lv_bipush (v := 60) hx hb d_Fo_addNode_4 (by decide) ?_
  refine lv_icmp_lt (tgt := 11) hx hb d_Fo_addNode_6 (by decide) (fun hc => ?_) (fun hc => ?_)
  · have hw := hw.1 hc
    refine lv_aload_n hx hb d_Fo_addNode_11 rfl (lv_at hl 0 rfl) ?_
    refine gfC_Fo_9 F hwd d_Fo_addNode_12 ?_
    refine lv_aload_n hx hb d_Fo_addNode_15 rfl (lv_at hl 0 rfl) ?_
    refine gfC_Fo_30 F hwd d_Fo_addNode_16 ?_
    refine lv_iload_n hx hb d_Fo_addNode_19 rfl (lv_at hl 1 rfl) ?_
    obtain ⟨hi, hw⟩ := hw
    refine wrC_3 F hwd hi d_Fo_addNode_20 (fun H locs hwd => ?_)
    obtain ⟨g1, e_g1⟩ : ∃ z : St, z = ar g 3 (g 100 0) x1 := ⟨_, rfl⟩
    have hwd : wdC D cI cZ ad A H0 g1 H locs := by rw [e_g1]; exact hwd
    have hw := hw g1 e_g1
    refine lv_aload_n hx hb d_Fo_addNode_21 rfl (lv_at hl 0 rfl) ?_
    refine gfC_Fo_15 F hwd d_Fo_addNode_22 ?_
    refine lv_aload_n hx hb d_Fo_addNode_25 rfl (lv_at hl 0 rfl) ?_
    refine gfC_Fo_30 F hwd d_Fo_addNode_26 ?_
    refine lv_iload_n hx hb d_Fo_addNode_29 rfl (lv_at hl 2 rfl) ?_
    obtain ⟨hi, hw⟩ := hw
    refine wrC_4 F hwd hi d_Fo_addNode_30 (fun H locs hwd => ?_)
    obtain ⟨g2, e_g2⟩ : ∃ z : St, z = ar g1 4 (g1 100 0) x2 := ⟨_, rfl⟩
    have hwd : wdC D cI cZ ad A H0 g2 H locs := by rw [e_g2]; exact hwd
    have hw := hw g2 e_g2
    refine lv_aload_n hx hb d_Fo_addNode_31 rfl (lv_at hl 0 rfl) ?_
    refine gfC_Fo_18 F hwd d_Fo_addNode_32 ?_
    refine lv_aload_n hx hb d_Fo_addNode_35 rfl (lv_at hl 0 rfl) ?_
    refine gfC_Fo_30 F hwd d_Fo_addNode_36 ?_
    refine lv_iload_n hx hb d_Fo_addNode_39 rfl (lv_at hl 3 rfl) ?_
    obtain ⟨hi, hw⟩ := hw
    refine wrC_5 F hwd hi d_Fo_addNode_40 (fun H locs hwd => ?_)
    obtain ⟨g3, e_g3⟩ : ∃ z : St, z = ar g2 5 (g2 100 0) x3 := ⟨_, rfl⟩
    have hwd : wdC D cI cZ ad A H0 g3 H locs := by rw [e_g3]; exact hwd
    have hw := hw g3 e_g3
    refine lv_aload_n hx hb d_Fo_addNode_41 rfl (lv_at hl 0 rfl) ?_
    refine gfC_Fo_21 F hwd d_Fo_addNode_42 ?_
    refine lv_aload_n hx hb d_Fo_addNode_45 rfl (lv_at hl 0 rfl) ?_
    refine gfC_Fo_30 F hwd d_Fo_addNode_46 ?_
    refine lv_iload hx hb d_Fo_addNode_49 (lv_at hl 4 rfl) ?_
    obtain ⟨hi, hw⟩ := hw
    refine wrC_6 F hwd hi d_Fo_addNode_51 (fun H locs hwd => ?_)
    obtain ⟨g4, e_g4⟩ : ∃ z : St, z = ar g3 6 (g3 100 0) x4 := ⟨_, rfl⟩
    have hwd : wdC D cI cZ ad A H0 g4 H locs := by rw [e_g4]; exact hwd
    have hw := hw g4 e_g4
    refine lv_aload_n hx hb d_Fo_addNode_52 rfl (lv_at hl 0 rfl) ?_
    refine gfC_Fo_24 F hwd d_Fo_addNode_53 ?_
    refine lv_aload_n hx hb d_Fo_addNode_56 rfl (lv_at hl 0 rfl) ?_
    refine gfC_Fo_30 F hwd d_Fo_addNode_57 ?_
    refine lv_iload hx hb d_Fo_addNode_60 (lv_at hl 5 rfl) ?_
    obtain ⟨hi, hw⟩ := hw
    refine wrC_7 F hwd hi d_Fo_addNode_62 (fun H locs hwd => ?_)
    obtain ⟨g5, e_g5⟩ : ∃ z : St, z = ar g4 7 (g4 100 0) x5 := ⟨_, rfl⟩
    have hwd : wdC D cI cZ ad A H0 g5 H locs := by rw [e_g5]; exact hwd
    have hw := hw g5 e_g5
    refine lv_aload_n hx hb d_Fo_addNode_63 rfl (lv_at hl 0 rfl) ?_
    refine lv_dup hx hb d_Fo_addNode_64 rfl ?_
    refine gfC_Fo_30 F hwd d_Fo_addNode_65 ?_
    refine lv_iconst (v := 1) hx hb d_Fo_addNode_68 (by decide) ?_
    refine lv_iadd hx hb d_Fo_addNode_69 ?_
    refine pfC_Fo_30 F hwd d_Fo_addNode_70 (fun H locs hwd => ?_)
    obtain ⟨g6, e_g6⟩ : ∃ z : St, z = sc g5 100 ((g5 100 0) + (1 : Int32)) := ⟨_, rfl⟩
    have hwd : wdC D cI cZ ad A H0 g6 H locs := by rw [e_g6]; exact hwd
    have hw := hw g6 e_g6
    refine lv_aload_n hx hb d_Fo_addNode_73 rfl (lv_at hl 0 rfl) ?_
    refine gfC_Fo_30 F hwd d_Fo_addNode_74 ?_
    refine lv_iconst (v := 1) hx hb d_Fo_addNode_77 (by decide) ?_
    refine lv_isub hx hb d_Fo_addNode_78 ?_
    exact hret _ _ _ _ hw hwd _ _ d_Fo_addNode_79
  · have hw := hw.2 hc
    refine lv_iconst (v := -1) hx hb d_Fo_addNode_9 (by decide) ?_
    exact hret _ _ _ _ hw hwd _ _ d_Fo_addNode_10

theorem ct_Fo_addNode {l : Launch} {D : va_G} {cI cZ : ClassId} {ad : Nat → Nat} (x1 : Int32) (x2 : Int32) (x3 : Int32) (x4 : Int32) (x5 : Int32) (g : St) (K : Int32 → St → Prop) (h : pc_Fo_addNode x1 x2 x3 x4 x5 g K) : ctCI l y_Fo_addNode b_Fo_addNode 6 0 0 D cI cZ ad [.ref (ad 2), .int x1, .int x2, .int x3, .int x4, .int x5] g K :=
  enCI (by decide) (Nat.le_of_ble_eq_true rfl) (fun p e s m args below meth c A H0 ls Q F hwd hl hret => wb_Fo_addNode_0 F hret h hwd hl)

set_option maxHeartbeats 4000000 in
set_option maxRecDepth 100000 in
theorem wb_BF_leaf_0 {K : Int32 → St → Prop} {x1 : Int32} {g : St} (F : fxC D cI cZ p R s m args c b_BF_leaf 2 R_BF 1 25)
    (hret : rtCI D cI cZ ad p l e R s m args below meth c b_BF_leaf A H0 Q K)
    (hw : pb_BF_leaf_0 K x1 g)
    (hwd : wdC D cI cZ ad A H0 g H locs) (hl : lv_has ls 2 [(0, .ref (ad 0)), (1, .int x1)]) : W p l e R s m args below meth c H locs 0 0 Q (F0 m 0 ls []) := by
  obtain ⟨hx, hb, hml, hown, hts, hK, hN, hR⟩ := F
  have F : fxC D cI cZ p R s m args c b_BF_leaf 2 R_BF 1 25 := ⟨hx, hb, hml, hown, hts, hK, hN, hR⟩
  refine lv_aload_n hx hb d_BF_leaf_0 rfl (lv_at hl 0 rfl) ?_
  refine gfC_BF_16 F hwd d_BF_leaf_1 ?_
  refine lv_iconst (v := -1) hx hb d_BF_leaf_4 (by decide) ?_
  refine lv_iconst (v := 0) hx hb d_BF_leaf_5 (by decide) ?_
  refine lv_iload_n hx hb d_BF_leaf_6 rfl (lv_at hl 1 rfl) ?_
  refine lv_iconst (v := -1) hx hb d_BF_leaf_7 (by decide) ?_
  refine lv_iconst (v := -1) hx hb d_BF_leaf_8 (by decide) ?_
  refine mcC_BF_61 F hwd (ct_Fo_addNode _ _ _ _ _ _ _ hw) ⟨Nat.le_trans (by decide) hR.1, Nat.le_trans (by decide) hR.2⟩ hl.1 (Nat.le_of_ble_eq_true rfl) d_BF_leaf_9 (fun v2 g1 H locs hw hwd => ?_)
  exact hret _ _ _ _ hw hwd _ _ d_BF_leaf_12

theorem ct_BF_leaf {l : Launch} {D : va_G} {cI cZ : ClassId} {ad : Nat → Nat} (x1 : Int32) (g : St) (K : Int32 → St → Prop) (h : pc_BF_leaf x1 g K) : ctCI l y_BF_leaf b_BF_leaf 2 1 25 D cI cZ ad [.ref (ad 0), .int x1] g K :=
  enCI (by decide) (Nat.le_of_ble_eq_true rfl) (fun p e s m args below meth c A H0 ls Q F hwd hl hret => wb_BF_leaf_0 F hret h hwd hl)

set_option maxHeartbeats 4000000 in
set_option maxRecDepth 100000 in
theorem wb_BF_isFeature_0 {K : Int32 → St → Prop} {x0 : Int32} {g : St} (F : fxC D cI cZ p R s m args c b_BF_isFeature 1 R_BF 0 0)
    (hret : rtCZ D cI cZ ad p l e R s m args below meth c b_BF_isFeature A H0 Q K)
    (hw : pb_BF_isFeature_0 K x0 g)
    (hwd : wdC D cI cZ ad A H0 g H locs) (hl : lv_has ls 1 [(0, .int x0)]) : W p l e R s m args below meth c H locs 0 0 Q (F0 m 0 ls []) := by
  obtain ⟨hx, hb, hml, hown, hts, hK, hN, hR⟩ := F
  have F : fxC D cI cZ p R s m args c b_BF_isFeature 1 R_BF 0 0 := ⟨hx, hb, hml, hown, hts, hK, hN, hR⟩
  refine lv_iload_n hx hb d_BF_isFeature_0 rfl (lv_at hl 0 rfl) ?_
  refine lv_if_lt (tgt := 14) hx hb d_BF_isFeature_1 (by decide) (fun hc => ?_) (fun hc => ?_)
  · have hw := hw.1 hc
    refine lv_iconst (v := 0) hx hb d_BF_isFeature_14 (by decide) ?_
    exact hret _ _ _ _ hw (by decide) hwd _ _ d_BF_isFeature_15
  · have hw := hw.2 hc
    refine lv_iload_n hx hb d_BF_isFeature_4 rfl (lv_at hl 0 rfl) ?_
    refine lv_bipush (v := 8) hx hb d_BF_isFeature_5 (by decide) ?_
    refine lv_icmp_ge (tgt := 14) hx hb d_BF_isFeature_7 (by decide) (fun hc => ?_) (fun hc => ?_)
    · have hw := hw.1 hc
      refine lv_iconst (v := 0) hx hb d_BF_isFeature_14 (by decide) ?_
      exact hret _ _ _ _ hw (by decide) hwd _ _ d_BF_isFeature_15
    · have hw := hw.2 hc
      refine lv_iconst (v := 1) hx hb d_BF_isFeature_10 (by decide) ?_
      refine lv_goto (tgt := 15) hx hb d_BF_isFeature_11 (by decide) ?_
      exact hret _ _ _ _ hw (by decide) hwd _ _ d_BF_isFeature_15

theorem ct_BF_isFeature {l : Launch} {D : va_G} {cI cZ : ClassId} {ad : Nat → Nat} (x0 : Int32) (g : St) (K : Int32 → St → Prop) (h : pc_BF_isFeature x0 g K) : ctCZ l y_BF_isFeature b_BF_isFeature 1 0 0 D cI cZ ad [.int x0] g K :=
  enCZ (by decide) (Nat.le_of_ble_eq_true rfl) (fun p e s m args below meth c A H0 ls Q F hwd hl hret => wb_BF_isFeature_0 F hret h hwd hl)

set_option maxHeartbeats 4000000 in
set_option maxRecDepth 100000 in
theorem wb_Ru_isBitRule_0 {K : Int32 → St → Prop} {x0 : Int32} {g : St} (F : fxC D cI cZ p R s m args c b_Ru_isBitRule 1 R_Ru 0 0)
    (hret : rtCZ D cI cZ ad p l e R s m args below meth c b_Ru_isBitRule A H0 Q K)
    (hw : pb_Ru_isBitRule_0 K x0 g)
    (hwd : wdC D cI cZ ad A H0 g H locs) (hl : lv_has ls 1 [(0, .int x0)]) : W p l e R s m args below meth c H locs 0 0 Q (F0 m 0 ls []) := by
  obtain ⟨hx, hb, hml, hown, hts, hK, hN, hR⟩ := F
  have F : fxC D cI cZ p R s m args c b_Ru_isBitRule 1 R_Ru 0 0 := ⟨hx, hb, hml, hown, hts, hK, hN, hR⟩
  refine lv_iload_n hx hb d_Ru_isBitRule_0 rfl (lv_at hl 0 rfl) ?_
  refine lv_iconst (v := 4) hx hb d_Ru_isBitRule_1 (by decide) ?_
  refine lv_icmp_lt (tgt := 9) hx hb d_Ru_isBitRule_2 (by decide) (fun hc => ?_) (fun hc => ?_)
  · have hw := hw.1 hc
    refine lv_iconst (v := 0) hx hb d_Ru_isBitRule_9 (by decide) ?_
    exact hret _ _ _ _ hw (by decide) hwd _ _ d_Ru_isBitRule_10
  · have hw := hw.2 hc
    refine lv_iconst (v := 1) hx hb d_Ru_isBitRule_5 (by decide) ?_
    refine lv_goto (tgt := 10) hx hb d_Ru_isBitRule_6 (by decide) ?_
    exact hret _ _ _ _ hw (by decide) hwd _ _ d_Ru_isBitRule_10

theorem ct_Ru_isBitRule {l : Launch} {D : va_G} {cI cZ : ClassId} {ad : Nat → Nat} (x0 : Int32) (g : St) (K : Int32 → St → Prop) (h : pc_Ru_isBitRule x0 g K) : ctCZ l y_Ru_isBitRule b_Ru_isBitRule 1 0 0 D cI cZ ad [.int x0] g K :=
  enCZ (by decide) (Nat.le_of_ble_eq_true rfl) (fun p e s m args below meth c A H0 ls Q F hwd hl hret => wb_Ru_isBitRule_0 F hret h hwd hl)

set_option maxHeartbeats 4000000 in
set_option maxRecDepth 100000 in
theorem wb_Ru_takesMark_0 {K : Int32 → St → Prop} {x0 : Int32} {x1 : Int32} {g : St} (F : fxC D cI cZ p R s m args c b_Ru_takesMark 2 R_Ru 1 20)
    (hret : rtCZ D cI cZ ad p l e R s m args below meth c b_Ru_takesMark A H0 Q K)
    (hw : pb_Ru_takesMark_0 K x0 x1 g)
    (hwd : wdC D cI cZ ad A H0 g H locs) (hl : lv_has ls 2 [(0, .int x0), (1, .int x1)]) : W p l e R s m args below meth c H locs 0 0 Q (F0 m 0 ls []) := by
  obtain ⟨hx, hb, hml, hown, hts, hK, hN, hR⟩ := F
  have F : fxC D cI cZ p R s m args c b_Ru_takesMark 2 R_Ru 1 20 := ⟨hx, hb, hml, hown, hts, hK, hN, hR⟩
  refine lv_iload_n hx hb d_Ru_takesMark_0 rfl (lv_at hl 0 rfl) ?_
  refine mcC_Ru_9 F hwd (ct_Ru_isBitRule _ _ _ hw) ⟨Nat.le_trans (by decide) hR.1, Nat.le_trans (by decide) hR.2⟩ hl.1 (Nat.le_of_ble_eq_true rfl) d_Ru_takesMark_1 (fun v2 g1 H locs hw hwd => ?_)
  refine lv_if_ne (tgt := 16) hx hb d_Ru_takesMark_4 (by decide) (fun hc => ?_) (fun hc => ?_)
  · have hw := hw.1 hc
    refine lv_iconst (v := 1) hx hb d_Ru_takesMark_16 (by decide) ?_
    refine lv_goto (tgt := 21) hx hb d_Ru_takesMark_17 (by decide) ?_
    exact hret _ _ _ _ hw (by decide) hwd _ _ d_Ru_takesMark_21
  · have hw := hw.2 hc
    refine lv_iload_n hx hb d_Ru_takesMark_7 rfl (lv_at hl 1 rfl) ?_
    refine lv_ldc (v := 2147483647) hx hb hown (hts _ kC_0) d_Ru_takesMark_8 ?_
    refine lv_iand hx hb d_Ru_takesMark_10 ?_
    refine lv_ldc (v := 2139095040) hx hb hown (hts _ kC_1) d_Ru_takesMark_11 ?_
    refine lv_icmp_ge (tgt := 20) hx hb d_Ru_takesMark_13 (by decide) (fun hc => ?_) (fun hc => ?_)
    · have hw := hw.1 hc
      refine lv_iconst (v := 0) hx hb d_Ru_takesMark_20 (by decide) ?_
      exact hret _ _ _ _ hw (by decide) hwd _ _ d_Ru_takesMark_21
    · have hw := hw.2 hc
      refine lv_iconst (v := 1) hx hb d_Ru_takesMark_16 (by decide) ?_
      refine lv_goto (tgt := 21) hx hb d_Ru_takesMark_17 (by decide) ?_
      exact hret _ _ _ _ hw (by decide) hwd _ _ d_Ru_takesMark_21

theorem ct_Ru_takesMark {l : Launch} {D : va_G} {cI cZ : ClassId} {ad : Nat → Nat} (x0 : Int32) (x1 : Int32) (g : St) (K : Int32 → St → Prop) (h : pc_Ru_takesMark x0 x1 g K) : ctCZ l y_Ru_takesMark b_Ru_takesMark 2 1 20 D cI cZ ad [.int x0, .int x1] g K :=
  enCZ (by decide) (Nat.le_of_ble_eq_true rfl) (fun p e s m args below meth c A H0 ls Q F hwd hl hret => wb_Ru_takesMark_0 F hret h hwd hl)

set_option maxHeartbeats 4000000 in
set_option maxRecDepth 100000 in
theorem wb_BF_isNodeNumber_0 {K : Int32 → St → Prop} {x0 : Int32} {g : St} (F : fxC D cI cZ p R s m args c b_BF_isNodeNumber 1 R_BF 0 0)
    (hret : rtCZ D cI cZ ad p l e R s m args below meth c b_BF_isNodeNumber A H0 Q K)
    (hw : pb_BF_isNodeNumber_0 K x0 g)
    (hwd : wdC D cI cZ ad A H0 g H locs) (hl : lv_has ls 1 [(0, .int x0)]) : W p l e R s m args below meth c H locs 0 0 Q (F0 m 0 ls []) := by
  obtain ⟨hx, hb, hml, hown, hts, hK, hN, hR⟩ := F
  have F : fxC D cI cZ p R s m args c b_BF_isNodeNumber 1 R_BF 0 0 := ⟨hx, hb, hml, hown, hts, hK, hN, hR⟩
  refine lv_iload_n hx hb d_BF_isNodeNumber_0 rfl (lv_at hl 0 rfl) ?_
  refine lv_if_lt (tgt := 14) hx hb d_BF_isNodeNumber_1 (by decide) (fun hc => ?_) (fun hc => ?_)
  · have hw := hw.1 hc
    refine lv_iconst (v := 0) hx hb d_BF_isNodeNumber_14 (by decide) ?_
    exact hret _ _ _ _ hw (by decide) hwd _ _ d_BF_isNodeNumber_15
  · have hw := hw.2 hc
    refine lv_iload_n hx hb d_BF_isNodeNumber_4 rfl (lv_at hl 0 rfl) ?_
    refine lv_bipush (v := 60) hx hb d_BF_isNodeNumber_5 (by decide) ?_
    refine lv_icmp_ge (tgt := 14) hx hb d_BF_isNodeNumber_7 (by decide) (fun hc => ?_) (fun hc => ?_)
    · have hw := hw.1 hc
      refine lv_iconst (v := 0) hx hb d_BF_isNodeNumber_14 (by decide) ?_
      exact hret _ _ _ _ hw (by decide) hwd _ _ d_BF_isNodeNumber_15
    · have hw := hw.2 hc
      refine lv_iconst (v := 1) hx hb d_BF_isNodeNumber_10 (by decide) ?_
      refine lv_goto (tgt := 15) hx hb d_BF_isNodeNumber_11 (by decide) ?_
      exact hret _ _ _ _ hw (by decide) hwd _ _ d_BF_isNodeNumber_15

theorem ct_BF_isNodeNumber {l : Launch} {D : va_G} {cI cZ : ClassId} {ad : Nat → Nat} (x0 : Int32) (g : St) (K : Int32 → St → Prop) (h : pc_BF_isNodeNumber x0 g K) : ctCZ l y_BF_isNodeNumber b_BF_isNodeNumber 1 0 0 D cI cZ ad [.int x0] g K :=
  enCZ (by decide) (Nat.le_of_ble_eq_true rfl) (fun p e s m args below meth c A H0 ls Q F hwd hl hret => wb_BF_isNodeNumber_0 F hret h hwd hl)

set_option maxHeartbeats 4000000 in
set_option maxRecDepth 100000 in
theorem wb_BF_split_0 {K : Int32 → St → Prop} {x1 : Int32} {x2 : Int32} {x3 : Int32} {x4 : Int32} {x5 : Int32} {g : St} (F : fxC D cI cZ p R s m args c b_BF_split 6 R_BF 2 41)
    (hret : rtCI D cI cZ ad p l e R s m args below meth c b_BF_split A H0 Q K)
    (hw : pb_BF_split_0 K x1 x2 x3 x4 x5 g)
    (hwd : wdC D cI cZ ad A H0 g H locs) (hl : lv_has ls 6 [(0, .ref (ad 0)), (1, .int x1), (2, .int x2), (3, .int x3), (4, .int x4), (5, .int x5)]) : W p l e R s m args below meth c H locs 0 0 Q (F0 m 0 ls []) := by
  obtain ⟨hx, hb, hml, hown, hts, hK, hN, hR⟩ := F
  have F : fxC D cI cZ p R s m args c b_BF_split 6 R_BF 2 41 := ⟨hx, hb, hml, hown, hts, hK, hN, hR⟩
  refine lv_iload_n hx hb d_BF_split_0 rfl (lv_at hl 1 rfl) ?_
  refine lv_if_lt (tgt := 25) hx hb d_BF_split_1 (by decide) (fun hc => ?_) (fun hc => ?_)
  · have hw := hw.1 hc
    refine lv_iconst (v := -1) hx hb d_BF_split_25 (by decide) ?_
    exact hret _ _ _ _ hw hwd _ _ d_BF_split_26
  · have hw := hw.2 hc
    refine lv_iload_n hx hb d_BF_split_4 rfl (lv_at hl 1 rfl) ?_
    refine lv_bipush (v := 6) hx hb d_BF_split_5 (by decide) ?_
    refine lv_icmp_ge (tgt := 25) hx hb d_BF_split_7 (by decide) (fun hc => ?_) (fun hc => ?_)
    · have hw := hw.1 hc
      refine lv_iconst (v := -1) hx hb d_BF_split_25 (by decide) ?_
      exact hret _ _ _ _ hw hwd _ _ d_BF_split_26
    · have hw := hw.2 hc
      refine lv_iload_n hx hb d_BF_split_10 rfl (lv_at hl 2 rfl) ?_
      refine mcC_BF_65 F hwd (ct_BF_isFeature _ _ _ hw) ⟨Nat.le_trans (by decide) hR.1, Nat.le_trans (by decide) hR.2⟩ hl.1 (Nat.le_of_ble_eq_true rfl) d_BF_split_11 (fun v2 g1 H locs hw hwd => ?_)
      refine lv_if_eq (tgt := 25) hx hb d_BF_split_14 (by decide) (fun hc => ?_) (fun hc => ?_)
      · have hw := hw.1 hc
        refine lv_iconst (v := -1) hx hb d_BF_split_25 (by decide) ?_
        exact hret _ _ _ _ hw hwd _ _ d_BF_split_26
      · have hw := hw.2 hc
        refine lv_iload_n hx hb d_BF_split_17 rfl (lv_at hl 1 rfl) ?_
        refine lv_iload_n hx hb d_BF_split_18 rfl (lv_at hl 3 rfl) ?_
        refine mcC_BF_69 F hwd (ct_Ru_takesMark _ _ _ _ hw) ⟨Nat.le_trans (by decide) hR.1, Nat.le_trans (by decide) hR.2⟩ hl.1 (Nat.le_of_ble_eq_true rfl) d_BF_split_19 (fun v4 g3 H locs hw hwd => ?_)
        refine lv_if_ne (tgt := 27) hx hb d_BF_split_22 (by decide) (fun hc => ?_) (fun hc => ?_)
        · have hw := hw.1 hc
          refine lv_iload hx hb d_BF_split_27 (lv_at hl 4 rfl) ?_
          refine mcC_BF_75 F hwd (ct_BF_isNodeNumber _ _ _ hw) ⟨Nat.le_trans (by decide) hR.1, Nat.le_trans (by decide) hR.2⟩ hl.1 (Nat.le_of_ble_eq_true rfl) d_BF_split_29 (fun v6 g5 H locs hw hwd => ?_)
          refine lv_if_eq (tgt := 43) hx hb d_BF_split_32 (by decide) (fun hc => ?_) (fun hc => ?_)
          · have hw := hw.1 hc
            refine lv_iconst (v := -1) hx hb d_BF_split_43 (by decide) ?_
            exact hret _ _ _ _ hw hwd _ _ d_BF_split_44
          · have hw := hw.2 hc
            refine lv_iload hx hb d_BF_split_35 (lv_at hl 5 rfl) ?_
            refine mcC_BF_75 F hwd (ct_BF_isNodeNumber _ _ _ hw) ⟨Nat.le_trans (by decide) hR.1, Nat.le_trans (by decide) hR.2⟩ hl.1 (Nat.le_of_ble_eq_true rfl) d_BF_split_37 (fun v8 g7 H locs hw hwd => ?_)
            refine lv_if_ne (tgt := 45) hx hb d_BF_split_40 (by decide) (fun hc => ?_) (fun hc => ?_)
            · have hw := hw.1 hc
              refine lv_aload_n hx hb d_BF_split_45 rfl (lv_at hl 0 rfl) ?_
              refine gfC_BF_16 F hwd d_BF_split_46 ?_
              refine lv_iload_n hx hb d_BF_split_49 rfl (lv_at hl 1 rfl) ?_
              refine lv_iload_n hx hb d_BF_split_50 rfl (lv_at hl 2 rfl) ?_
              refine lv_iload_n hx hb d_BF_split_51 rfl (lv_at hl 3 rfl) ?_
              refine lv_iload hx hb d_BF_split_52 (lv_at hl 4 rfl) ?_
              refine lv_iload hx hb d_BF_split_54 (lv_at hl 5 rfl) ?_
              refine mcC_BF_61 F hwd (ct_Fo_addNode _ _ _ _ _ _ _ hw) ⟨Nat.le_trans (by decide) hR.1, Nat.le_trans (by decide) hR.2⟩ hl.1 (Nat.le_of_ble_eq_true rfl) d_BF_split_56 (fun v10 g9 H locs hw hwd => ?_)
              exact hret _ _ _ _ hw hwd _ _ d_BF_split_59
            · have hw := hw.2 hc
              refine lv_iconst (v := -1) hx hb d_BF_split_43 (by decide) ?_
              exact hret _ _ _ _ hw hwd _ _ d_BF_split_44
        · have hw := hw.2 hc
          refine lv_iconst (v := -1) hx hb d_BF_split_25 (by decide) ?_
          exact hret _ _ _ _ hw hwd _ _ d_BF_split_26

theorem ct_BF_split {l : Launch} {D : va_G} {cI cZ : ClassId} {ad : Nat → Nat} (x1 : Int32) (x2 : Int32) (x3 : Int32) (x4 : Int32) (x5 : Int32) (g : St) (K : Int32 → St → Prop) (h : pc_BF_split x1 x2 x3 x4 x5 g K) : ctCI l y_BF_split b_BF_split 6 2 41 D cI cZ ad [.ref (ad 0), .int x1, .int x2, .int x3, .int x4, .int x5] g K :=
  enCI (by decide) (Nat.le_of_ble_eq_true rfl) (fun p e s m args below meth c A H0 ls Q F hwd hl hret => wb_BF_split_0 F hret h hwd hl)

set_option maxHeartbeats 4000000 in
set_option maxRecDepth 100000 in
theorem wb_Fo_isNode_0 {K : Int32 → St → Prop} {x1 : Int32} {g : St} (F : fxC D cI cZ p R s m args c b_Fo_isNode 2 R_Fo 0 0)
    (hret : rtCZ D cI cZ ad p l e R s m args below meth c b_Fo_isNode A H0 Q K)
    (hw : pb_Fo_isNode_0 K x1 g)
    (hwd : wdC D cI cZ ad A H0 g H locs) (hl : lv_has ls 2 [(0, .ref (ad 2)), (1, .int x1)]) : W p l e R s m args below meth c H locs 0 0 Q (F0 m 0 ls []) := by
  obtain ⟨hx, hb, hml, hown, hts, hK, hN, hR⟩ := F
  have F : fxC D cI cZ p R s m args c b_Fo_isNode 2 R_Fo 0 0 := ⟨hx, hb, hml, hown, hts, hK, hN, hR⟩
  refine lv_iload_n hx hb d_Fo_isNode_0 rfl (lv_at hl 1 rfl) ?_
  refine lv_if_lt (tgt := 16) hx hb d_Fo_isNode_1 (by decide) (fun hc => ?_) (fun hc => ?_)
  · have hw := hw.1 hc
    refine lv_iconst (v := 0) hx hb d_Fo_isNode_16 (by decide) ?_
    exact hret _ _ _ _ hw (by decide) hwd _ _ d_Fo_isNode_17
  · have hw := hw.2 hc
    refine lv_iload_n hx hb d_Fo_isNode_4 rfl (lv_at hl 1 rfl) ?_
    refine lv_aload_n hx hb d_Fo_isNode_5 rfl (lv_at hl 0 rfl) ?_
    refine gfC_Fo_30 F hwd d_Fo_isNode_6 ?_
    refine lv_icmp_ge (tgt := 16) hx hb d_Fo_isNode_9 (by decide) (fun hc => ?_) (fun hc => ?_)
    · have hw := hw.1 hc
      refine lv_iconst (v := 0) hx hb d_Fo_isNode_16 (by decide) ?_
      exact hret _ _ _ _ hw (by decide) hwd _ _ d_Fo_isNode_17
    · have hw := hw.2 hc
      refine lv_iconst (v := 1) hx hb d_Fo_isNode_12 (by decide) ?_
      refine lv_goto (tgt := 17) hx hb d_Fo_isNode_13 (by decide) ?_
      exact hret _ _ _ _ hw (by decide) hwd _ _ d_Fo_isNode_17

theorem ct_Fo_isNode {l : Launch} {D : va_G} {cI cZ : ClassId} {ad : Nat → Nat} (x1 : Int32) (g : St) (K : Int32 → St → Prop) (h : pc_Fo_isNode x1 g K) : ctCZ l y_Fo_isNode b_Fo_isNode 2 0 0 D cI cZ ad [.ref (ad 2), .int x1] g K :=
  enCZ (by decide) (Nat.le_of_ble_eq_true rfl) (fun p e s m args below meth c A H0 ls Q F hwd hl hret => wb_Fo_isNode_0 F hret h hwd hl)

set_option maxHeartbeats 4000000 in
set_option maxRecDepth 100000 in
theorem wb_Fo_addTree_0 {K : Int32 → St → Prop} {x1 : Int32} {g : St} (F : fxC D cI cZ p R s m args c b_Fo_addTree 2 R_Fo 1 21)
    (hret : rtCI D cI cZ ad p l e R s m args below meth c b_Fo_addTree A H0 Q K)
    (hw : pb_Fo_addTree_0 K x1 g)
    (hwd : wdC D cI cZ ad A H0 g H locs) (hl : lv_has ls 2 [(0, .ref (ad 2)), (1, .int x1)]) : W p l e R s m args below meth c H locs 0 0 Q (F0 m 0 ls []) := by
  obtain ⟨hx, hb, hml, hown, hts, hK, hN, hR⟩ := F
  have F : fxC D cI cZ p R s m args c b_Fo_addTree 2 R_Fo 1 21 := ⟨hx, hb, hml, hown, hts, hK, hN, hR⟩
  refine lv_aload_n hx hb d_Fo_addTree_0 rfl (lv_at hl 0 rfl) ?_
  refine gfC_Fo_34 F hwd d_Fo_addTree_1 ?_
  refine lv_bipush (v := 8) hx hb d_Fo_addTree_4 (by decide) ?_
  refine lv_icmp_ge (tgt := 17) hx hb d_Fo_addTree_6 (by decide) (fun hc => ?_) (fun hc => ?_)
  · have hw := hw.1 hc
    refine lv_iconst (v := -1) hx hb d_Fo_addTree_17 (by decide) ?_
    exact hret _ _ _ _ hw hwd _ _ d_Fo_addTree_18
  · have hw := hw.2 hc
    refine lv_aload_n hx hb d_Fo_addTree_9 rfl (lv_at hl 0 rfl) ?_
    refine lv_iload_n hx hb d_Fo_addTree_10 rfl (lv_at hl 1 rfl) ?_
    refine mcC_Fo_37 F hwd (ct_Fo_isNode _ _ _ hw) ⟨Nat.le_trans (by decide) hR.1, Nat.le_trans (by decide) hR.2⟩ hl.1 (Nat.le_of_ble_eq_true rfl) d_Fo_addTree_11 (fun v2 g1 H locs hw hwd => ?_)
    refine lv_if_ne (tgt := 19) hx hb d_Fo_addTree_14 (by decide) (fun hc => ?_) (fun hc => ?_)
    · have hw := hw.1 hc
      refine lv_aload_n hx hb d_Fo_addTree_19 rfl (lv_at hl 0 rfl) ?_
      refine gfC_Fo_27 F hwd d_Fo_addTree_20 ?_
      refine lv_aload_n hx hb d_Fo_addTree_23 rfl (lv_at hl 0 rfl) ?_
      refine gfC_Fo_34 F hwd d_Fo_addTree_24 ?_
      refine lv_iload_n hx hb d_Fo_addTree_27 rfl (lv_at hl 1 rfl) ?_
      obtain ⟨hi, hw⟩ := hw
      refine wrC_8 F hwd hi d_Fo_addTree_28 (fun H locs hwd => ?_)
      obtain ⟨g3, e_g3⟩ : ∃ z : St, z = ar g1 8 (g1 101 0) x1 := ⟨_, rfl⟩
      have hwd : wdC D cI cZ ad A H0 g3 H locs := by rw [e_g3]; exact hwd
      have hw := hw g3 e_g3
      refine lv_aload_n hx hb d_Fo_addTree_29 rfl (lv_at hl 0 rfl) ?_
      refine lv_dup hx hb d_Fo_addTree_30 rfl ?_
      refine gfC_Fo_34 F hwd d_Fo_addTree_31 ?_
      refine lv_iconst (v := 1) hx hb d_Fo_addTree_34 (by decide) ?_
      refine lv_iadd hx hb d_Fo_addTree_35 ?_
      refine pfC_Fo_34 F hwd d_Fo_addTree_36 (fun H locs hwd => ?_)
      obtain ⟨g4, e_g4⟩ : ∃ z : St, z = sc g3 101 ((g3 101 0) + (1 : Int32)) := ⟨_, rfl⟩
      have hwd : wdC D cI cZ ad A H0 g4 H locs := by rw [e_g4]; exact hwd
      have hw := hw g4 e_g4
      refine lv_aload_n hx hb d_Fo_addTree_39 rfl (lv_at hl 0 rfl) ?_
      refine gfC_Fo_34 F hwd d_Fo_addTree_40 ?_
      refine lv_iconst (v := 1) hx hb d_Fo_addTree_43 (by decide) ?_
      refine lv_isub hx hb d_Fo_addTree_44 ?_
      exact hret _ _ _ _ hw hwd _ _ d_Fo_addTree_45
    · have hw := hw.2 hc
      refine lv_iconst (v := -1) hx hb d_Fo_addTree_17 (by decide) ?_
      exact hret _ _ _ _ hw hwd _ _ d_Fo_addTree_18

theorem ct_Fo_addTree {l : Launch} {D : va_G} {cI cZ : ClassId} {ad : Nat → Nat} (x1 : Int32) (g : St) (K : Int32 → St → Prop) (h : pc_Fo_addTree x1 g K) : ctCI l y_Fo_addTree b_Fo_addTree 2 1 21 D cI cZ ad [.ref (ad 2), .int x1] g K :=
  enCI (by decide) (Nat.le_of_ble_eq_true rfl) (fun p e s m args below meth c A H0 ls Q F hwd hl hret => wb_Fo_addTree_0 F hret h hwd hl)

set_option maxHeartbeats 4000000 in
set_option maxRecDepth 100000 in
theorem wb_BF_tree_0 {K : Int32 → St → Prop} {x1 : Int32} {g : St} (F : fxC D cI cZ p R s m args c b_BF_tree 2 R_BF 2 42)
    (hret : rtCI D cI cZ ad p l e R s m args below meth c b_BF_tree A H0 Q K)
    (hw : pb_BF_tree_0 K x1 g)
    (hwd : wdC D cI cZ ad A H0 g H locs) (hl : lv_has ls 2 [(0, .ref (ad 0)), (1, .int x1)]) : W p l e R s m args below meth c H locs 0 0 Q (F0 m 0 ls []) := by
  obtain ⟨hx, hb, hml, hown, hts, hK, hN, hR⟩ := F
  have F : fxC D cI cZ p R s m args c b_BF_tree 2 R_BF 2 42 := ⟨hx, hb, hml, hown, hts, hK, hN, hR⟩
  refine lv_aload_n hx hb d_BF_tree_0 rfl (lv_at hl 0 rfl) ?_
  refine gfC_BF_16 F hwd d_BF_tree_1 ?_
  refine lv_iload_n hx hb d_BF_tree_4 rfl (lv_at hl 1 rfl) ?_
  refine mcC_BF_78 F hwd (ct_Fo_addTree _ _ _ hw) ⟨Nat.le_trans (by decide) hR.1, Nat.le_trans (by decide) hR.2⟩ hl.1 (Nat.le_of_ble_eq_true rfl) d_BF_tree_5 (fun v2 g1 H locs hw hwd => ?_)
  exact hret _ _ _ _ hw hwd _ _ d_BF_tree_8

theorem ct_BF_tree {l : Launch} {D : va_G} {cI cZ : ClassId} {ad : Nat → Nat} (x1 : Int32) (g : St) (K : Int32 → St → Prop) (h : pc_BF_tree x1 g K) : ctCI l y_BF_tree b_BF_tree 2 2 42 D cI cZ ad [.ref (ad 0), .int x1] g K :=
  enCI (by decide) (Nat.le_of_ble_eq_true rfl) (fun p e s m args below meth c A H0 ls Q F hwd hl hret => wb_BF_tree_0 F hret h hwd hl)

set_option maxHeartbeats 4000000 in
set_option maxRecDepth 100000 in
theorem wb_BF_isTableSize_0 {K : Int32 → St → Prop} {x0 : Int32} {x1 : Int32} {g : St} (F : fxC D cI cZ p R s m args c b_BF_isTableSize 2 R_BF 0 0)
    (hret : rtCZ D cI cZ ad p l e R s m args below meth c b_BF_isTableSize A H0 Q K)
    (hw : pb_BF_isTableSize_0 K x0 x1 g)
    (hwd : wdC D cI cZ ad A H0 g H locs) (hl : lv_has ls 2 [(0, .int x0), (1, .int x1)]) : W p l e R s m args below meth c H locs 0 0 Q (F0 m 0 ls []) := by
  obtain ⟨hx, hb, hml, hown, hts, hK, hN, hR⟩ := F
  have F : fxC D cI cZ p R s m args c b_BF_isTableSize 2 R_BF 0 0 := ⟨hx, hb, hml, hown, hts, hK, hN, hR⟩
  refine lv_iload_n hx hb d_BF_isTableSize_0 rfl (lv_at hl 0 rfl) ?_
  refine lv_bipush (v := 60) hx hb d_BF_isTableSize_1 (by decide) ?_
  refine lv_icmp_eq (tgt := 19) hx hb d_BF_isTableSize_3 (by decide) (fun hc => ?_) (fun hc => ?_)
  · have hw := hw.1 hc
    refine lv_iconst (v := 1) hx hb d_BF_isTableSize_19 (by decide) ?_
    refine lv_goto (tgt := 24) hx hb d_BF_isTableSize_20 (by decide) ?_
    exact hret _ _ _ _ hw (by decide) hwd _ _ d_BF_isTableSize_24
  · have hw := hw.2 hc
    refine lv_iload_n hx hb d_BF_isTableSize_6 rfl (lv_at hl 0 rfl) ?_
    refine lv_bipush (v := 60) hx hb d_BF_isTableSize_7 (by decide) ?_
    refine lv_icmp_ge (tgt := 23) hx hb d_BF_isTableSize_9 (by decide) (fun hc => ?_) (fun hc => ?_)
    · have hw := hw.1 hc
      refine lv_iconst (v := 0) hx hb d_BF_isTableSize_23 (by decide) ?_
      exact hret _ _ _ _ hw (by decide) hwd _ _ d_BF_isTableSize_24
    · have hw := hw.2 hc
      refine lv_iload_n hx hb d_BF_isTableSize_12 rfl (lv_at hl 0 rfl) ?_
      refine lv_iload_n hx hb d_BF_isTableSize_13 rfl (lv_at hl 1 rfl) ?_
      refine lv_iconst (v := 4) hx hb d_BF_isTableSize_14 (by decide) ?_
      obtain ⟨hne, hw⟩ := hw
      refine lv_idiv hx hb d_BF_isTableSize_15 hne ?_
      refine lv_icmp_lt (tgt := 23) hx hb d_BF_isTableSize_16 (by decide) (fun hc => ?_) (fun hc => ?_)
      · have hw := hw.1 hc
        refine lv_iconst (v := 0) hx hb d_BF_isTableSize_23 (by decide) ?_
        exact hret _ _ _ _ hw (by decide) hwd _ _ d_BF_isTableSize_24
      · have hw := hw.2 hc
        refine lv_iconst (v := 1) hx hb d_BF_isTableSize_19 (by decide) ?_
        refine lv_goto (tgt := 24) hx hb d_BF_isTableSize_20 (by decide) ?_
        exact hret _ _ _ _ hw (by decide) hwd _ _ d_BF_isTableSize_24

theorem ct_BF_isTableSize {l : Launch} {D : va_G} {cI cZ : ClassId} {ad : Nat → Nat} (x0 : Int32) (x1 : Int32) (g : St) (K : Int32 → St → Prop) (h : pc_BF_isTableSize x0 x1 g K) : ctCZ l y_BF_isTableSize b_BF_isTableSize 2 0 0 D cI cZ ad [.int x0, .int x1] g K :=
  enCZ (by decide) (Nat.le_of_ble_eq_true rfl) (fun p e s m args below meth c A H0 ls Q F hwd hl hret => wb_BF_isTableSize_0 F hret h hwd hl)

set_option maxHeartbeats 4000000 in
set_option maxRecDepth 100000 in
theorem wb_Fo_isLeaf_0 {K : Int32 → St → Prop} {x1 : Int32} {g : St} (F : fxC D cI cZ p R s m args c b_Fo_isLeaf 2 R_Fo 0 0)
    (hret : rtCZ D cI cZ ad p l e R s m args below meth c b_Fo_isLeaf A H0 Q K)
    (hw : pb_Fo_isLeaf_0 K x1 g)
    (hwd : wdC D cI cZ ad A H0 g H locs) (hl : lv_has ls 2 [(0, .ref (ad 2)), (1, .int x1)]) : W p l e R s m args below meth c H locs 0 0 Q (F0 m 0 ls []) := by
  obtain ⟨hx, hb, hml, hown, hts, hK, hN, hR⟩ := F
  have F : fxC D cI cZ p R s m args c b_Fo_isLeaf 2 R_Fo 0 0 := ⟨hx, hb, hml, hown, hts, hK, hN, hR⟩
  refine lv_aload_n hx hb d_Fo_isLeaf_0 rfl (lv_at hl 0 rfl) ?_
  refine gfC_Fo_9 F hwd d_Fo_isLeaf_1 ?_
  refine lv_iload_n hx hb d_Fo_isLeaf_4 rfl (lv_at hl 1 rfl) ?_
  obtain ⟨hi, hw⟩ := hw
  refine rdC_3 F hwd hi d_Fo_isLeaf_5 ?_
  refine lv_iconst (v := -1) hx hb d_Fo_isLeaf_6 (by decide) ?_
  refine lv_icmp_ne (tgt := 14) hx hb d_Fo_isLeaf_7 (by decide) (fun hc => ?_) (fun hc => ?_)
  · have hw := hw.1 hc
    refine lv_iconst (v := 0) hx hb d_Fo_isLeaf_14 (by decide) ?_
    exact hret _ _ _ _ hw (by decide) hwd _ _ d_Fo_isLeaf_15
  · have hw := hw.2 hc
    refine lv_iconst (v := 1) hx hb d_Fo_isLeaf_10 (by decide) ?_
    refine lv_goto (tgt := 15) hx hb d_Fo_isLeaf_11 (by decide) ?_
    exact hret _ _ _ _ hw (by decide) hwd _ _ d_Fo_isLeaf_15

theorem ct_Fo_isLeaf {l : Launch} {D : va_G} {cI cZ : ClassId} {ad : Nat → Nat} (x1 : Int32) (g : St) (K : Int32 → St → Prop) (h : pc_Fo_isLeaf x1 g K) : ctCZ l y_Fo_isLeaf b_Fo_isLeaf 2 0 0 D cI cZ ad [.ref (ad 2), .int x1] g K :=
  enCZ (by decide) (Nat.le_of_ble_eq_true rfl) (fun p e s m args below meth c A H0 ls Q F hwd hl hret => wb_Fo_isLeaf_0 F hret h hwd hl)

set_option maxHeartbeats 4000000 in
set_option maxRecDepth 100000 in
theorem wb_Ch_isDangling_0 {K : Int32 → St → Prop} {x1 : Int32} {g : St} (F : fxC D cI cZ p R s m args c b_Ch_isDangling 2 R_Ch 1 21)
    (hret : rtCZ D cI cZ ad p l e R s m args below meth c b_Ch_isDangling A H0 Q K)
    (hw : pb_Ch_isDangling_0 K x1 g)
    (hwd : wdC D cI cZ ad A H0 g H locs) (hl : lv_has ls 2 [(0, .ref (ad 9)), (1, .int x1)]) : W p l e R s m args below meth c H locs 0 0 Q (F0 m 0 ls []) := by
  obtain ⟨hx, hb, hml, hown, hts, hK, hN, hR⟩ := F
  have F : fxC D cI cZ p R s m args c b_Ch_isDangling 2 R_Ch 1 21 := ⟨hx, hb, hml, hown, hts, hK, hN, hR⟩
  refine lv_aload_n hx hb d_Ch_isDangling_0 rfl (lv_at hl 0 rfl) ?_
  refine gfC_Ch_15 F hwd d_Ch_isDangling_1 ?_
  refine lv_iload_n hx hb d_Ch_isDangling_4 rfl (lv_at hl 1 rfl) ?_
  refine mcC_Ch_36 F hwd (ct_Fo_isLeaf _ _ _ hw) ⟨Nat.le_trans (by decide) hR.1, Nat.le_trans (by decide) hR.2⟩ hl.1 (Nat.le_of_ble_eq_true rfl) d_Ch_isDangling_5 (fun v2 g1 H locs hw hwd => ?_)
  refine lv_if_ne (tgt := 53) hx hb d_Ch_isDangling_8 (by decide) (fun hc => ?_) (fun hc => ?_)
  · have hw := hw.1 hc
    refine lv_iconst (v := 0) hx hb d_Ch_isDangling_53 (by decide) ?_
    exact hret _ _ _ _ hw (by decide) hwd _ _ d_Ch_isDangling_54
  · have hw := hw.2 hc
    refine lv_aload_n hx hb d_Ch_isDangling_11 rfl (lv_at hl 0 rfl) ?_
    refine gfC_Ch_15 F hwd d_Ch_isDangling_12 ?_
    refine lv_aload_n hx hb d_Ch_isDangling_15 rfl (lv_at hl 0 rfl) ?_
    refine gfC_Ch_15 F hwd d_Ch_isDangling_16 ?_
    refine gfC_Ch_40 F hwd d_Ch_isDangling_19 ?_
    refine lv_iload_n hx hb d_Ch_isDangling_22 rfl (lv_at hl 1 rfl) ?_
    obtain ⟨hi, hw⟩ := hw
    refine rdC_6 F hwd hi d_Ch_isDangling_23 ?_
    refine mcC_Ch_49 F hwd (ct_Fo_isNode _ _ _ hw) ⟨Nat.le_trans (by decide) hR.1, Nat.le_trans (by decide) hR.2⟩ hl.1 (Nat.le_of_ble_eq_true rfl) d_Ch_isDangling_24 (fun v4 g3 H locs hw hwd => ?_)
    refine lv_if_eq (tgt := 49) hx hb d_Ch_isDangling_27 (by decide) (fun hc => ?_) (fun hc => ?_)
    · have hw := hw.1 hc
      refine lv_iconst (v := 1) hx hb d_Ch_isDangling_49 (by decide) ?_
      refine lv_goto (tgt := 54) hx hb d_Ch_isDangling_50 (by decide) ?_
      exact hret _ _ _ _ hw (by decide) hwd _ _ d_Ch_isDangling_54
    · have hw := hw.2 hc
      refine lv_aload_n hx hb d_Ch_isDangling_30 rfl (lv_at hl 0 rfl) ?_
      refine gfC_Ch_15 F hwd d_Ch_isDangling_31 ?_
      refine lv_aload_n hx hb d_Ch_isDangling_34 rfl (lv_at hl 0 rfl) ?_
      refine gfC_Ch_15 F hwd d_Ch_isDangling_35 ?_
      refine gfC_Ch_43 F hwd d_Ch_isDangling_38 ?_
      refine lv_iload_n hx hb d_Ch_isDangling_41 rfl (lv_at hl 1 rfl) ?_
      obtain ⟨hi, hw⟩ := hw
      refine rdC_7 F hwd hi d_Ch_isDangling_42 ?_
      refine mcC_Ch_49 F hwd (ct_Fo_isNode _ _ _ hw) ⟨Nat.le_trans (by decide) hR.1, Nat.le_trans (by decide) hR.2⟩ hl.1 (Nat.le_of_ble_eq_true rfl) d_Ch_isDangling_43 (fun v6 g5 H locs hw hwd => ?_)
      refine lv_if_ne (tgt := 53) hx hb d_Ch_isDangling_46 (by decide) (fun hc => ?_) (fun hc => ?_)
      · have hw := hw.1 hc
        refine lv_iconst (v := 0) hx hb d_Ch_isDangling_53 (by decide) ?_
        exact hret _ _ _ _ hw (by decide) hwd _ _ d_Ch_isDangling_54
      · have hw := hw.2 hc
        refine lv_iconst (v := 1) hx hb d_Ch_isDangling_49 (by decide) ?_
        refine lv_goto (tgt := 54) hx hb d_Ch_isDangling_50 (by decide) ?_
        exact hret _ _ _ _ hw (by decide) hwd _ _ d_Ch_isDangling_54

theorem ct_Ch_isDangling {l : Launch} {D : va_G} {cI cZ : ClassId} {ad : Nat → Nat} (x1 : Int32) (g : St) (K : Int32 → St → Prop) (h : pc_Ch_isDangling x1 g K) : ctCZ l y_Ch_isDangling b_Ch_isDangling 2 1 21 D cI cZ ad [.ref (ad 9), .int x1] g K :=
  enCZ (by decide) (Nat.le_of_ble_eq_true rfl) (fun p e s m args below meth c A H0 ls Q F hwd hl hret => wb_Ch_isDangling_0 F hret h hwd hl)

set_option maxHeartbeats 4000000 in
set_option maxRecDepth 100000 in
theorem wb_Ch_faultAt_0 {K : Int32 → St → Prop} {x1 : Int32} {x2 : Int32} {g : St} (F : fxC D cI cZ p R s m args c b_Ch_faultAt 3 R_Ch 2 42)
    (hret : rtCI D cI cZ ad p l e R s m args below meth c b_Ch_faultAt A H0 Q K)
    (hw : pb_Ch_faultAt_0 K x1 x2 g)
    (hwd : wdC D cI cZ ad A H0 g H locs) (hl : lv_has ls 3 [(0, .ref (ad 9)), (1, .int x1), (2, .int x2)]) : W p l e R s m args below meth c H locs 0 0 Q (F0 m 0 ls []) := by
  obtain ⟨hx, hb, hml, hown, hts, hK, hN, hR⟩ := F
  have F : fxC D cI cZ p R s m args c b_Ch_faultAt 3 R_Ch 2 42 := ⟨hx, hb, hml, hown, hts, hK, hN, hR⟩
  refine lv_aload_n hx hb d_Ch_faultAt_0 rfl (lv_at hl 0 rfl) ?_
  refine gfC_Ch_9 F hwd d_Ch_faultAt_1 ?_
  refine lv_iload_n hx hb d_Ch_faultAt_4 rfl (lv_at hl 1 rfl) ?_
  obtain ⟨hi, hw⟩ := hw
  refine rdC_10 F hwd hi d_Ch_faultAt_5 ?_
  refine lv_if_eq (tgt := 15) hx hb d_Ch_faultAt_6 (by decide) (fun hc => ?_) (fun hc => ?_)
  · have hw := hw.1 hc
    refine lv_aload_n hx hb d_Ch_faultAt_15 rfl (lv_at hl 0 rfl) ?_
    refine gfC_Ch_9 F hwd d_Ch_faultAt_16 ?_
    refine lv_iload_n hx hb d_Ch_faultAt_19 rfl (lv_at hl 1 rfl) ?_
    refine lv_iconst (v := 1) hx hb d_Ch_faultAt_20 (by decide) ?_
    obtain ⟨hi, hw⟩ := hw
    refine wrC_10 F hwd hi rfl d_Ch_faultAt_21 (fun H locs hwd => ?_)
    obtain ⟨g1, e_g1⟩ : ∃ z : St, z = ar g 10 x1 (1 : Int32) := ⟨_, rfl⟩
    have hwd : wdC D cI cZ ad A H0 g1 H locs := by rw [e_g1]; exact hwd
    have hw := hw g1 e_g1
    refine lv_iload_n hx hb d_Ch_faultAt_22 rfl (lv_at hl 2 rfl) ?_
    refine lv_bipush (v := 12) hx hb d_Ch_faultAt_23 (by decide) ?_
    refine lv_icmp_le (tgt := 34) hx hb d_Ch_faultAt_25 (by decide) (fun hc => ?_) (fun hc => ?_)
    · have hw := hw.1 hc
      refine lv_aload_n hx hb d_Ch_faultAt_34 rfl (lv_at hl 0 rfl) ?_
      refine lv_iload_n hx hb d_Ch_faultAt_35 rfl (lv_at hl 1 rfl) ?_
      refine mcC_Ch_46 F hwd (ct_Ch_isDangling _ _ _ hw) ⟨Nat.le_trans (by decide) hR.1, Nat.le_trans (by decide) hR.2⟩ hl.1 (Nat.le_of_ble_eq_true rfl) d_Ch_faultAt_36 (fun v3 g2 H locs hw hwd => ?_)
      refine lv_if_eq (tgt := 49) hx hb d_Ch_faultAt_39 (by decide) (fun hc => ?_) (fun hc => ?_)
      · have hw := hw.1 hc
        refine lv_iconst (v := 0) hx hb d_Ch_faultAt_49 (by decide) ?_
        exact hret _ _ _ _ hw hwd _ _ d_Ch_faultAt_50
      · have hw := hw.2 hc
        refine lv_bipush (v := 100) hx hb d_Ch_faultAt_42 (by decide) ?_
        refine lv_iload_n hx hb d_Ch_faultAt_44 rfl (lv_at hl 1 rfl) ?_
        refine lv_iadd hx hb d_Ch_faultAt_45 ?_
        refine lv_goto (tgt := 50) hx hb d_Ch_faultAt_46 (by decide) ?_
        exact hret _ _ _ _ hw hwd _ _ d_Ch_faultAt_50
    · have hw := hw.2 hc
      refine lv_sipush (v := 300) hx hb d_Ch_faultAt_28 (by decide) ?_
      refine lv_iload_n hx hb d_Ch_faultAt_31 rfl (lv_at hl 1 rfl) ?_
      refine lv_iadd hx hb d_Ch_faultAt_32 ?_
      exact hret _ _ _ _ hw hwd _ _ d_Ch_faultAt_33
  · have hw := hw.2 hc
    refine lv_sipush (v := 200) hx hb d_Ch_faultAt_9 (by decide) ?_
    refine lv_iload_n hx hb d_Ch_faultAt_12 rfl (lv_at hl 1 rfl) ?_
    refine lv_iadd hx hb d_Ch_faultAt_13 ?_
    exact hret _ _ _ _ hw hwd _ _ d_Ch_faultAt_14

theorem ct_Ch_faultAt {l : Launch} {D : va_G} {cI cZ : ClassId} {ad : Nat → Nat} (x1 : Int32) (x2 : Int32) (g : St) (K : Int32 → St → Prop) (h : pc_Ch_faultAt x1 x2 g K) : ctCI l y_Ch_faultAt b_Ch_faultAt 3 2 42 D cI cZ ad [.ref (ad 9), .int x1, .int x2] g K :=
  enCI (by decide) (Nat.le_of_ble_eq_true rfl) (fun p e s m args below meth c A H0 ls Q F hwd hl hret => wb_Ch_faultAt_0 F hret h hwd hl)

set_option maxHeartbeats 4000000 in
set_option maxRecDepth 100000 in
theorem wb_Ch_faultFrom_0 {rc : Int32 → Int32 → St → (Int32 → St → Prop) → Prop} {K : Int32 → St → Prop} {x1 : Int32} {x2 : Int32} {g : St} (F : fxC D cI cZ p R s m args c b_Ch_faultFrom 4 R_Ch 3 64)
    (hret : rtCI D cI cZ ad p l e R s m args below meth c b_Ch_faultFrom A H0 Q K) {f lo : Nat} (hrc : ∀ (y1 y2 : Int32) (g : St) (K : Int32 → St → Prop), rc y1 y2 g K → ctCI l y_Ch_faultFrom b_Ch_faultFrom 4 f lo D cI cZ ad [.ref (ad 9), .int y1, .int y2] g K) (hf0 : 3 ≤ f ∧ 64 ≤ lo) (hRr : f + 1 ≤ R.frames ∧ lo + 23 ≤ R.locals)
    (hw : pb_Ch_faultFrom_0 rc K x1 x2 g)
    (hwd : wdC D cI cZ ad A H0 g H locs) (hl : lv_has ls 4 [(0, .ref (ad 9)), (1, .int x1), (2, .int x2)]) : W p l e R s m args below meth c H locs 0 0 Q (F0 m 0 ls []) := by
  obtain ⟨hx, hb, hml, hown, hts, hK, hN, hR⟩ := F
  have F : fxC D cI cZ p R s m args c b_Ch_faultFrom 4 R_Ch 3 64 := ⟨hx, hb, hml, hown, hts, hK, hN, hR⟩
  refine lv_aload_n hx hb d_Ch_faultFrom_0 rfl (lv_at hl 0 rfl) ?_
  refine lv_iload_n hx hb d_Ch_faultFrom_1 rfl (lv_at hl 1 rfl) ?_
  refine lv_iload_n hx hb d_Ch_faultFrom_2 rfl (lv_at hl 2 rfl) ?_
  refine mcC_Ch_33 F hwd (ct_Ch_faultAt _ _ _ _ hw) ⟨Nat.le_trans (by decide) hR.1, Nat.le_trans (by decide) hR.2⟩ hl.1 (Nat.le_of_ble_eq_true rfl) d_Ch_faultFrom_3 (fun v2 g1 H locs hw hwd => ?_)
  refine lv_topi (fun v3 e_v3 => ?_)
  have hw := hw v3 e_v3
  refine lv_istore_n (lv' := [(3, .int v3), (0, .ref (ad 9)), (1, .int x1), (2, .int x2)]) hx hb d_Ch_faultFrom_6 rfl hl (by decide) rfl (fun ls hl => ?_)
  refine lv_iload_n hx hb d_Ch_faultFrom_7 rfl (lv_at hl 0 rfl) ?_
  refine lv_if_ne (tgt := 22) hx hb d_Ch_faultFrom_8 (by decide) (fun hc => ?_) (fun hc => ?_)
  · have hw := hw.1 hc
    refine lv_iload_n hx hb d_Ch_faultFrom_22 rfl (lv_at hl 0 rfl) ?_
    exact hret _ _ _ _ hw hwd _ _ d_Ch_faultFrom_23
  · have hw := hw.2 hc
    refine lv_aload_n hx hb d_Ch_faultFrom_11 rfl (lv_at hl 1 rfl) ?_
    refine gfC_Ch_15 F hwd d_Ch_faultFrom_12 ?_
    refine lv_iload_n hx hb d_Ch_faultFrom_15 rfl (lv_at hl 2 rfl) ?_
    refine mcC_Ch_36 F hwd (ct_Fo_isLeaf _ _ _ hw) ⟨Nat.le_trans (by decide) hR.1, Nat.le_trans (by decide) hR.2⟩ hl.1 (Nat.le_of_ble_eq_true rfl) d_Ch_faultFrom_16 (fun v5 g4 H locs hw hwd => ?_)
    refine lv_if_eq (tgt := 24) hx hb d_Ch_faultFrom_19 (by decide) (fun hc => ?_) (fun hc => ?_)
    · have hw := hw.1 hc
      refine lv_aload_n hx hb d_Ch_faultFrom_24 rfl (lv_at hl 1 rfl) ?_
      refine lv_aload_n hx hb d_Ch_faultFrom_25 rfl (lv_at hl 1 rfl) ?_
      refine gfC_Ch_15 F hwd d_Ch_faultFrom_26 ?_
      refine gfC_Ch_40 F hwd d_Ch_faultFrom_29 ?_
      refine lv_iload_n hx hb d_Ch_faultFrom_32 rfl (lv_at hl 2 rfl) ?_
      obtain ⟨hi, hw⟩ := hw
      refine rdC_6 F hwd hi d_Ch_faultFrom_33 ?_
      refine lv_iload_n hx hb d_Ch_faultFrom_34 rfl (lv_at hl 3 rfl) ?_
      refine lv_iconst (v := 1) hx hb d_Ch_faultFrom_35 (by decide) ?_
      refine lv_iadd hx hb d_Ch_faultFrom_36 ?_
      refine mcC_Ch_29 F hwd (hrc _ _ _ _ hw) ⟨by have := hRr.1; omega, by have := hRr.2; omega⟩ hl.1 (Nat.le_of_ble_eq_true rfl) d_Ch_faultFrom_37 (fun v7 g6 H locs hw hwd => ?_)
      refine lv_topi (fun v8 e_v8 => ?_)
      have hw := hw v8 e_v8
      refine lv_istore_n (lv' := [(3, .int v8), (0, .ref (ad 9)), (1, .int x1), (2, .int x2)]) hx hb d_Ch_faultFrom_40 rfl hl (by decide) rfl (fun ls hl => ?_)
      refine lv_iload_n hx hb d_Ch_faultFrom_41 rfl (lv_at hl 0 rfl) ?_
      refine lv_if_eq (tgt := 49) hx hb d_Ch_faultFrom_42 (by decide) (fun hc => ?_) (fun hc => ?_)
      · have hw := hw.1 hc
        refine lv_aload_n hx hb d_Ch_faultFrom_49 rfl (lv_at hl 1 rfl) ?_
        refine lv_aload_n hx hb d_Ch_faultFrom_50 rfl (lv_at hl 1 rfl) ?_
        refine gfC_Ch_15 F hwd d_Ch_faultFrom_51 ?_
        refine gfC_Ch_43 F hwd d_Ch_faultFrom_54 ?_
        refine lv_iload_n hx hb d_Ch_faultFrom_57 rfl (lv_at hl 2 rfl) ?_
        obtain ⟨hi, hw⟩ := hw
        refine rdC_7 F hwd hi d_Ch_faultFrom_58 ?_
        refine lv_iload_n hx hb d_Ch_faultFrom_59 rfl (lv_at hl 3 rfl) ?_
        refine lv_iconst (v := 1) hx hb d_Ch_faultFrom_60 (by decide) ?_
        refine lv_iadd hx hb d_Ch_faultFrom_61 ?_
        refine mcC_Ch_29 F hwd (hrc _ _ _ _ hw) ⟨by have := hRr.1; omega, by have := hRr.2; omega⟩ hl.1 (Nat.le_of_ble_eq_true rfl) d_Ch_faultFrom_62 (fun v10 g9 H locs hw hwd => ?_)
        exact hret _ _ _ _ hw hwd _ _ d_Ch_faultFrom_65
      · have hw := hw.2 hc
        refine lv_iload_n hx hb d_Ch_faultFrom_45 rfl (lv_at hl 0 rfl) ?_
        refine lv_goto (tgt := 65) hx hb d_Ch_faultFrom_46 (by decide) ?_
        exact hret _ _ _ _ hw hwd _ _ d_Ch_faultFrom_65
    · have hw := hw.2 hc
      refine lv_iload_n hx hb d_Ch_faultFrom_22 rfl (lv_at hl 0 rfl) ?_
      exact hret _ _ _ _ hw hwd _ _ d_Ch_faultFrom_23

theorem ct_Ch_faultFrom {l : Launch} {D : va_G} {cI cZ : ClassId} {ad : Nat → Nat} : ∀ (d : Nat) (x1 : Int32) (x2 : Int32) (g : St) (K : Int32 → St → Prop), pc_Ch_faultFrom d x1 x2 g K → ctCI l y_Ch_faultFrom b_Ch_faultFrom 4 (3 + d * 1) (64 + d * 23) D cI cZ ad [.ref (ad 9), .int x1, .int x2] g K := by
  intro d
  induction d with
  | zero => intro x1 x2 g K h; exact h.elim
  | succ d ih =>
    intro x1 x2 g K h
    refine enCI (by decide) (Nat.le_of_ble_eq_true rfl) (fun p e s m args below meth c A H0 ls Q F hwd hl hret => ?_)
    have F : fxC D cI cZ p { frames := 3 + (d + 1) * 1, cells := 0, slots := 0, locals := 64 + (d + 1) * 23 } s m args c b_Ch_faultFrom 4 R_Ch 3 64 := ⟨F.1, F.2.1, F.2.2.1, F.2.2.2.1, F.2.2.2.2.1, F.2.2.2.2.2.1, F.2.2.2.2.2.2.1, by show 3 ≤ 3 + (d + 1) * 1; omega, by show 64 ≤ 64 + (d + 1) * 23; omega⟩
    exact wb_Ch_faultFrom_0 F hret (f := 3 + d * 1) (lo := 64 + d * 23) ih ⟨by omega, by omega⟩ ⟨by show 3 + d * 1 + 1 ≤ 3 + (d + 1) * 1; omega, by show 64 + d * 23 + 23 ≤ 64 + (d + 1) * 23; omega⟩ h hwd hl

set_option maxHeartbeats 4000000 in
set_option maxRecDepth 100000 in
theorem wb_Ch_firstFault_25 {K : Int32 → St → Prop} {P25 : Int32 → Int32 → St → Prop} {x1 : Int32} {x2 : Int32} {g : St} (F : fxC D cI cZ p R s m args c b_Ch_firstFault 3 R_Ch 18 409)
    (hret : rtCI D cI cZ ad p l e R s m args below meth c b_Ch_firstFault A H0 Q K) (hp25 : ∀ (x1 : Int32) (x2 : Int32) (g : St) (H : Heap) (locs : List Loc) (ls : Array Slot), P25 x1 x2 g → wdC D cI cZ ad A H0 g H locs → lv_has ls 3 [(0, .ref (ad 9)), (1, .int x1), (2, .int x2)] → W p l e R s m args below meth c H locs 0 0 Q (F0 m 25 ls []))
    (hw : pb_Ch_firstFault_25 K P25 x1 x2 g)
    (hwd : wdC D cI cZ ad A H0 g H locs) (hl : lv_has ls 3 [(0, .ref (ad 9)), (1, .int x1), (2, .int x2)]) : W p l e R s m args below meth c H locs 0 0 Q (F0 m 25 ls []) := by
  obtain ⟨hx, hb, hml, hown, hts, hK, hN, hR⟩ := F
  have F : fxC D cI cZ p R s m args c b_Ch_firstFault 3 R_Ch 18 409 := ⟨hx, hb, hml, hown, hts, hK, hN, hR⟩
  refine lv_iload_n hx hb d_Ch_firstFault_25 rfl (lv_at hl 2 rfl) ?_
  refine lv_aload_n hx hb d_Ch_firstFault_26 rfl (lv_at hl 0 rfl) ?_
  refine gfC_Ch_15 F hwd d_Ch_firstFault_27 ?_
  refine gfC_Ch_19 F hwd d_Ch_firstFault_30 ?_
  refine lv_icmp_ge (tgt := 61) hx hb d_Ch_firstFault_33 (by decide) (fun hc => ?_) (fun hc => ?_)
  · have hw := hw.1 hc
    refine lv_iload_n hx hb d_Ch_firstFault_61 rfl (lv_at hl 1 rfl) ?_
    exact hret _ _ _ _ hw hwd _ _ d_Ch_firstFault_62
  · have hw := hw.2 hc
    refine lv_iload_n hx hb d_Ch_firstFault_36 rfl (lv_at hl 1 rfl) ?_
    refine lv_if_ne (tgt := 61) hx hb d_Ch_firstFault_37 (by decide) (fun hc => ?_) (fun hc => ?_)
    · have hw := hw.1 hc
      refine lv_iload_n hx hb d_Ch_firstFault_61 rfl (lv_at hl 1 rfl) ?_
      exact hret _ _ _ _ hw hwd _ _ d_Ch_firstFault_62
    · have hw := hw.2 hc
      refine lv_aload_n hx hb d_Ch_firstFault_40 rfl (lv_at hl 0 rfl) ?_
      refine lv_aload_n hx hb d_Ch_firstFault_41 rfl (lv_at hl 0 rfl) ?_
      refine gfC_Ch_15 F hwd d_Ch_firstFault_42 ?_
      refine gfC_Ch_25 F hwd d_Ch_firstFault_45 ?_
      refine lv_iload_n hx hb d_Ch_firstFault_48 rfl (lv_at hl 2 rfl) ?_
      obtain ⟨hi, hw⟩ := hw
      refine rdC_8 F hwd hi d_Ch_firstFault_49 ?_
      refine lv_iconst (v := 0) hx hb d_Ch_firstFault_50 (by decide) ?_
      refine mcC_Ch_29 F hwd (ct_Ch_faultFrom 14 _ _ _ _ hw) ⟨Nat.le_trans (by decide) hR.1, Nat.le_trans (by decide) hR.2⟩ hl.1 (Nat.le_of_ble_eq_true rfl) d_Ch_firstFault_51 (fun v2 g1 H locs hw hwd => ?_)
      refine lv_topi (fun v3 e_v3 => ?_)
      have hw := hw v3 e_v3
      refine lv_istore_n (lv' := [(1, .int v3), (0, .ref (ad 9)), (2, .int x2)]) hx hb d_Ch_firstFault_54 rfl hl (by decide) rfl (fun ls hl => ?_)
      obtain ⟨v4, e_v4⟩ : ∃ z, z = x2 + (1 : Int32) := ⟨_, rfl⟩
      have hw := hw v4 e_v4
      refine lv_iinc (k := 2) (lv' := [(2, .int v4), (1, .int v3), (0, .ref (ad 9))]) hx hb d_Ch_firstFault_55 hl rfl e_v4.symm (by decide) rfl (fun ls hl => ?_)
      refine lv_goto (tgt := 25) hx hb d_Ch_firstFault_58 (by decide) ?_
      exact hp25 _ _ _ H locs ls hw hwd (lv_sub hl [2, 1, 0] rfl)

set_option maxHeartbeats 4000000 in
theorem wl_Ch_firstFault_25 {K : Int32 → St → Prop} {x1 : Int32} {x2 : Int32} {g : St} (F : fxC D cI cZ p R s m args c b_Ch_firstFault 3 R_Ch 18 409)
    (hret : rtCI D cI cZ ad p l e R s m args below meth c b_Ch_firstFault A H0 Q K)
    (hw : pl_Ch_firstFault_25 K x1 x2 g)
    (hwd : wdC D cI cZ ad A H0 g H locs) (hl : lv_has ls 3 [(0, .ref (ad 9)), (1, .int x1), (2, .int x2)]) : W p l e R s m args below meth c H locs 0 0 Q (F0 m 25 ls []) := by
  refine hw (fun x1 x2 g => ∀ (H : Heap) (locs : List Loc) (ls : Array Slot), wdC D cI cZ ad A H0 g H locs → lv_has ls 3 [(0, .ref (ad 9)), (1, .int x1), (2, .int x2)] → W p l e R s m args below meth c H locs 0 0 Q (F0 m 25 ls [])) ?_ H locs ls hwd hl
  intro x1 x2 g hw H locs ls hwd hl
  exact wb_Ch_firstFault_25 F hret (fun x1 x2 g H locs ls h hwd hl => h H locs ls hwd hl) hw hwd hl

set_option maxHeartbeats 4000000 in
set_option maxRecDepth 100000 in
theorem wb_Ch_firstFault_2 {K : Int32 → St → Prop} {P2 : Int32 → St → Prop} {x1 : Int32} {g : St} (F : fxC D cI cZ p R s m args c b_Ch_firstFault 3 R_Ch 18 409)
    (hret : rtCI D cI cZ ad p l e R s m args below meth c b_Ch_firstFault A H0 Q K) (hp2 : ∀ (x1 : Int32) (g : St) (H : Heap) (locs : List Loc) (ls : Array Slot), P2 x1 g → wdC D cI cZ ad A H0 g H locs → lv_has ls 3 [(0, .ref (ad 9)), (1, .int x1)] → W p l e R s m args below meth c H locs 0 0 Q (F0 m 2 ls []))
    (hw : pb_Ch_firstFault_2 K P2 x1 g)
    (hwd : wdC D cI cZ ad A H0 g H locs) (hl : lv_has ls 3 [(0, .ref (ad 9)), (1, .int x1)]) : W p l e R s m args below meth c H locs 0 0 Q (F0 m 2 ls []) := by
  obtain ⟨hx, hb, hml, hown, hts, hK, hN, hR⟩ := F
  have F : fxC D cI cZ p R s m args c b_Ch_firstFault 3 R_Ch 18 409 := ⟨hx, hb, hml, hown, hts, hK, hN, hR⟩
  refine lv_iload_n hx hb d_Ch_firstFault_2 rfl (lv_at hl 1 rfl) ?_
  refine lv_bipush (v := 60) hx hb d_Ch_firstFault_3 (by decide) ?_
  refine lv_icmp_ge (tgt := 21) hx hb d_Ch_firstFault_5 (by decide) (fun hc => ?_) (fun hc => ?_)
  · have hw := hw.1 hc
    refine lv_iconst (v := 0) hx hb d_Ch_firstFault_21 (by decide) ?_
    refine lv_topi (fun v1 e_v1 => ?_)
    have hw := hw v1 e_v1
    refine lv_istore_n (lv' := [(1, .int v1), (0, .ref (ad 9))]) hx hb d_Ch_firstFault_22 rfl hl (by decide) rfl (fun ls hl => ?_)
    refine lv_iconst (v := 0) hx hb d_Ch_firstFault_23 (by decide) ?_
    refine lv_topi (fun v2 e_v2 => ?_)
    have hw := hw v2 e_v2
    refine lv_istore_n (lv' := [(2, .int v2), (1, .int v1), (0, .ref (ad 9))]) hx hb d_Ch_firstFault_24 rfl hl (by decide) rfl (fun ls hl => ?_)
    exact wl_Ch_firstFault_25 F hret hw hwd (lv_sub hl [2, 1, 0] rfl)
  · have hw := hw.2 hc
    refine lv_aload_n hx hb d_Ch_firstFault_8 rfl (lv_at hl 0 rfl) ?_
    refine gfC_Ch_9 F hwd d_Ch_firstFault_9 ?_
    refine lv_iload_n hx hb d_Ch_firstFault_12 rfl (lv_at hl 1 rfl) ?_
    refine lv_iconst (v := 0) hx hb d_Ch_firstFault_13 (by decide) ?_
    obtain ⟨hi, hw⟩ := hw
    refine wrC_10 F hwd hi rfl d_Ch_firstFault_14 (fun H locs hwd => ?_)
    obtain ⟨g3, e_g3⟩ : ∃ z : St, z = ar g 10 x1 (0 : Int32) := ⟨_, rfl⟩
    have hwd : wdC D cI cZ ad A H0 g3 H locs := by rw [e_g3]; exact hwd
    have hw := hw g3 e_g3
    obtain ⟨v4, e_v4⟩ : ∃ z, z = x1 + (1 : Int32) := ⟨_, rfl⟩
    have hw := hw v4 e_v4
    refine lv_iinc (k := 1) (lv' := [(1, .int v4), (0, .ref (ad 9))]) hx hb d_Ch_firstFault_15 hl rfl e_v4.symm (by decide) rfl (fun ls hl => ?_)
    refine lv_goto (tgt := 2) hx hb d_Ch_firstFault_18 (by decide) ?_
    exact hp2 _ _ H locs ls hw hwd (lv_sub hl [1, 0] rfl)

set_option maxHeartbeats 4000000 in
theorem wl_Ch_firstFault_2 {K : Int32 → St → Prop} {x1 : Int32} {g : St} (F : fxC D cI cZ p R s m args c b_Ch_firstFault 3 R_Ch 18 409)
    (hret : rtCI D cI cZ ad p l e R s m args below meth c b_Ch_firstFault A H0 Q K)
    (hw : pl_Ch_firstFault_2 K x1 g)
    (hwd : wdC D cI cZ ad A H0 g H locs) (hl : lv_has ls 3 [(0, .ref (ad 9)), (1, .int x1)]) : W p l e R s m args below meth c H locs 0 0 Q (F0 m 2 ls []) := by
  refine hw (fun x1 g => ∀ (H : Heap) (locs : List Loc) (ls : Array Slot), wdC D cI cZ ad A H0 g H locs → lv_has ls 3 [(0, .ref (ad 9)), (1, .int x1)] → W p l e R s m args below meth c H locs 0 0 Q (F0 m 2 ls [])) ?_ H locs ls hwd hl
  intro x1 g hw H locs ls hwd hl
  exact wb_Ch_firstFault_2 F hret (fun x1 g H locs ls h hwd hl => h H locs ls hwd hl) hw hwd hl

set_option maxHeartbeats 4000000 in
set_option maxRecDepth 100000 in
theorem wb_Ch_firstFault_0 {K : Int32 → St → Prop} {g : St} (F : fxC D cI cZ p R s m args c b_Ch_firstFault 3 R_Ch 18 409)
    (hret : rtCI D cI cZ ad p l e R s m args below meth c b_Ch_firstFault A H0 Q K)
    (hw : pb_Ch_firstFault_0 K g)
    (hwd : wdC D cI cZ ad A H0 g H locs) (hl : lv_has ls 3 [(0, .ref (ad 9))]) : W p l e R s m args below meth c H locs 0 0 Q (F0 m 0 ls []) := by
  obtain ⟨hx, hb, hml, hown, hts, hK, hN, hR⟩ := F
  have F : fxC D cI cZ p R s m args c b_Ch_firstFault 3 R_Ch 18 409 := ⟨hx, hb, hml, hown, hts, hK, hN, hR⟩
  refine lv_iconst (v := 0) hx hb d_Ch_firstFault_0 (by decide) ?_
  refine lv_topi (fun v1 e_v1 => ?_)
  have hw := hw v1 e_v1
  refine lv_istore_n (lv' := [(1, .int v1), (0, .ref (ad 9))]) hx hb d_Ch_firstFault_1 rfl hl (by decide) rfl (fun ls hl => ?_)
  exact wl_Ch_firstFault_2 F hret hw hwd (lv_sub hl [1, 0] rfl)

theorem ct_Ch_firstFault {l : Launch} {D : va_G} {cI cZ : ClassId} {ad : Nat → Nat} (g : St) (K : Int32 → St → Prop) (h : pc_Ch_firstFault g K) : ctCI l y_Ch_firstFault b_Ch_firstFault 3 18 409 D cI cZ ad [.ref (ad 9)] g K :=
  enCI (by decide) (Nat.le_of_ble_eq_true rfl) (fun p e s m args below meth c A H0 ls Q F hwd hl hret => wb_Ch_firstFault_0 F hret h hwd hl)

set_option maxHeartbeats 4000000 in
set_option maxRecDepth 100000 in
theorem wb_Cu_partLength_0 {K : Int32 → St → Prop} {x1 : Int32} {g : St} (F : fxC D cI cZ p R s m args c b_Cu_partLength 2 R_Cu 0 0)
    (hret : rtCI D cI cZ ad p l e R s m args below meth c b_Cu_partLength A H0 Q K)
    (hw : pb_Cu_partLength_0 K x1 g)
    (hwd : wdC D cI cZ ad A H0 g H locs) (hl : lv_has ls 2 [(0, .ref (ad 11)), (1, .int x1)]) : W p l e R s m args below meth c H locs 0 0 Q (F0 m 0 ls []) := by
  obtain ⟨hx, hb, hml, hown, hts, hK, hN, hR⟩ := F
  have F : fxC D cI cZ p R s m args c b_Cu_partLength 2 R_Cu 0 0 := ⟨hx, hb, hml, hown, hts, hK, hN, hR⟩
  refine lv_aload_n hx hb d_Cu_partLength_0 rfl (lv_at hl 0 rfl) ?_
  refine gfC_Cu_15 F hwd d_Cu_partLength_1 ?_
  refine lv_iload_n hx hb d_Cu_partLength_4 rfl (lv_at hl 1 rfl) ?_
  obtain ⟨hi, hw⟩ := hw
  refine rdC_13 F hwd hi d_Cu_partLength_5 ?_
  refine lv_iconst (v := -1) hx hb d_Cu_partLength_6 (by decide) ?_
  refine lv_icmp_ne (tgt := 19) hx hb d_Cu_partLength_7 (by decide) (fun hc => ?_) (fun hc => ?_)
  · have hw := hw.1 hc
    refine lv_iconst (v := 3) hx hb d_Cu_partLength_19 (by decide) ?_
    exact hret _ _ _ _ hw hwd _ _ d_Cu_partLength_20
  · have hw := hw.2 hc
    refine lv_aload_n hx hb d_Cu_partLength_10 rfl (lv_at hl 0 rfl) ?_
    refine gfC_Cu_9 F hwd d_Cu_partLength_11 ?_
    refine lv_iload_n hx hb d_Cu_partLength_14 rfl (lv_at hl 1 rfl) ?_
    obtain ⟨hi, hw⟩ := hw
    refine rdC_12 F hwd hi d_Cu_partLength_15 ?_
    refine lv_goto (tgt := 20) hx hb d_Cu_partLength_16 (by decide) ?_
    exact hret _ _ _ _ hw hwd _ _ d_Cu_partLength_20

theorem ct_Cu_partLength {l : Launch} {D : va_G} {cI cZ : ClassId} {ad : Nat → Nat} (x1 : Int32) (g : St) (K : Int32 → St → Prop) (h : pc_Cu_partLength x1 g K) : ctCI l y_Cu_partLength b_Cu_partLength 2 0 0 D cI cZ ad [.ref (ad 11), .int x1] g K :=
  enCI (by decide) (Nat.le_of_ble_eq_true rfl) (fun p e s m args below meth c A H0 ls Q F hwd hl hret => wb_Cu_partLength_0 F hret h hwd hl)

set_option maxHeartbeats 4000000 in
set_option maxRecDepth 100000 in
theorem wb_Cu_testLength_0 {K : Int32 → St → Prop} {x0 : Int32} {g : St} (F : fxC D cI cZ p R s m args c b_Cu_testLength 1 R_Cu 0 0)
    (hret : rtCI D cI cZ ad p l e R s m args below meth c b_Cu_testLength A H0 Q K)
    (hw : pb_Cu_testLength_0 K x0 g)
    (hwd : wdC D cI cZ ad A H0 g H locs) (hl : lv_has ls 1 [(0, .int x0)]) : W p l e R s m args below meth c H locs 0 0 Q (F0 m 0 ls []) := by
  obtain ⟨hx, hb, hml, hown, hts, hK, hN, hR⟩ := F
  have F : fxC D cI cZ p R s m args c b_Cu_testLength 1 R_Cu 0 0 := ⟨hx, hb, hml, hown, hts, hK, hN, hR⟩
  refine lv_iconst (v := 2) hx hb d_Cu_testLength_0 (by decide) ?_
  refine lv_iload_n hx hb d_Cu_testLength_1 rfl (lv_at hl 0 rfl) ?_
  refine lv_iadd hx hb d_Cu_testLength_2 ?_
  refine lv_bipush (v := 63) hx hb d_Cu_testLength_3 (by decide) ?_
  refine lv_icmp_gt (tgt := 12) hx hb d_Cu_testLength_5 (by decide) (fun hc => ?_) (fun hc => ?_)
  · have hw := hw.1 hc
    refine lv_iconst (v := 3) hx hb d_Cu_testLength_12 (by decide) ?_
    exact hret _ _ _ _ hw hwd _ _ d_Cu_testLength_13
  · have hw := hw.2 hc
    refine lv_iconst (v := 2) hx hb d_Cu_testLength_8 (by decide) ?_
    refine lv_goto (tgt := 13) hx hb d_Cu_testLength_9 (by decide) ?_
    exact hret _ _ _ _ hw hwd _ _ d_Cu_testLength_13

theorem ct_Cu_testLength {l : Launch} {D : va_G} {cI cZ : ClassId} {ad : Nat → Nat} (x0 : Int32) (g : St) (K : Int32 → St → Prop) (h : pc_Cu_testLength x0 g K) : ctCI l y_Cu_testLength b_Cu_testLength 1 0 0 D cI cZ ad [.int x0] g K :=
  enCI (by decide) (Nat.le_of_ble_eq_true rfl) (fun p e s m args below meth c A H0 ls Q F hwd hl hret => wb_Cu_testLength_0 F hret h hwd hl)

set_option maxHeartbeats 4000000 in
set_option maxRecDepth 100000 in
theorem wb_Cu_splitLength_0 {K : Int32 → St → Prop} {x1 : Int32} {g : St} (F : fxC D cI cZ p R s m args c b_Cu_splitLength 3 R_Cu 1 21)
    (hret : rtCI D cI cZ ad p l e R s m args below meth c b_Cu_splitLength A H0 Q K)
    (hw : pb_Cu_splitLength_0 K x1 g)
    (hwd : wdC D cI cZ ad A H0 g H locs) (hl : lv_has ls 3 [(0, .ref (ad 11)), (1, .int x1)]) : W p l e R s m args below meth c H locs 0 0 Q (F0 m 0 ls []) := by
  obtain ⟨hx, hb, hml, hown, hts, hK, hN, hR⟩ := F
  have F : fxC D cI cZ p R s m args c b_Cu_splitLength 3 R_Cu 1 21 := ⟨hx, hb, hml, hown, hts, hK, hN, hR⟩
  refine lv_aload_n hx hb d_Cu_splitLength_0 rfl (lv_at hl 0 rfl) ?_
  refine lv_aload_n hx hb d_Cu_splitLength_1 rfl (lv_at hl 0 rfl) ?_
  refine gfC_Cu_21 F hwd d_Cu_splitLength_2 ?_
  refine gfC_Cu_49 F hwd d_Cu_splitLength_5 ?_
  refine lv_iload_n hx hb d_Cu_splitLength_8 rfl (lv_at hl 1 rfl) ?_
  obtain ⟨hi, hw⟩ := hw
  refine rdC_6 F hwd hi d_Cu_splitLength_9 ?_
  refine mcC_Cu_63 F hwd (ct_Cu_partLength _ _ _ hw) ⟨Nat.le_trans (by decide) hR.1, Nat.le_trans (by decide) hR.2⟩ hl.1 (Nat.le_of_ble_eq_true rfl) d_Cu_splitLength_10 (fun v2 g1 H locs hw hwd => ?_)
  refine lv_topi (fun v3 e_v3 => ?_)
  have hw := hw v3 e_v3
  refine lv_istore_n (lv' := [(2, .int v3), (0, .ref (ad 11)), (1, .int x1)]) hx hb d_Cu_splitLength_13 rfl hl (by decide) rfl (fun ls hl => ?_)
  refine lv_iconst (v := 4) hx hb d_Cu_splitLength_14 (by decide) ?_
  refine lv_iload_n hx hb d_Cu_splitLength_15 rfl (lv_at hl 0 rfl) ?_
  refine mcC_Cu_66 F hwd (ct_Cu_testLength _ _ _ hw) ⟨Nat.le_trans (by decide) hR.1, Nat.le_trans (by decide) hR.2⟩ hl.1 (Nat.le_of_ble_eq_true rfl) d_Cu_splitLength_16 (fun v5 g4 H locs hw hwd => ?_)
  refine lv_iadd hx hb d_Cu_splitLength_19 ?_
  refine lv_iload_n hx hb d_Cu_splitLength_20 rfl (lv_at hl 0 rfl) ?_
  refine lv_iadd hx hb d_Cu_splitLength_21 ?_
  refine lv_aload_n hx hb d_Cu_splitLength_22 rfl (lv_at hl 1 rfl) ?_
  refine lv_aload_n hx hb d_Cu_splitLength_23 rfl (lv_at hl 1 rfl) ?_
  refine gfC_Cu_21 F hwd d_Cu_splitLength_24 ?_
  refine gfC_Cu_52 F hwd d_Cu_splitLength_27 ?_
  refine lv_iload_n hx hb d_Cu_splitLength_30 rfl (lv_at hl 2 rfl) ?_
  obtain ⟨hi, hw⟩ := hw
  refine rdC_7 F hwd hi d_Cu_splitLength_31 ?_
  refine mcC_Cu_63 F hwd (ct_Cu_partLength _ _ _ hw) ⟨Nat.le_trans (by decide) hR.1, Nat.le_trans (by decide) hR.2⟩ hl.1 (Nat.le_of_ble_eq_true rfl) d_Cu_splitLength_32 (fun v7 g6 H locs hw hwd => ?_)
  refine lv_iadd hx hb d_Cu_splitLength_35 ?_
  exact hret _ _ _ _ hw hwd _ _ d_Cu_splitLength_36

theorem ct_Cu_splitLength {l : Launch} {D : va_G} {cI cZ : ClassId} {ad : Nat → Nat} (x1 : Int32) (g : St) (K : Int32 → St → Prop) (h : pc_Cu_splitLength x1 g K) : ctCI l y_Cu_splitLength b_Cu_splitLength 3 1 21 D cI cZ ad [.ref (ad 11), .int x1] g K :=
  enCI (by decide) (Nat.le_of_ble_eq_true rfl) (fun p e s m args below meth c A H0 ls Q F hwd hl hret => wb_Cu_splitLength_0 F hret h hwd hl)

set_option maxHeartbeats 4000000 in
set_option maxRecDepth 100000 in
theorem wb_Cu_cutOut_0 {K : St → Prop} {x1 : Int32} {g : St} (F : fxC D cI cZ p R s m args c b_Cu_cutOut 2 R_Cu 0 0)
    (hret : rtCV D cI cZ ad p l e R s m args below meth c b_Cu_cutOut A H0 Q K)
    (hw : pb_Cu_cutOut_0 K x1 g)
    (hwd : wdC D cI cZ ad A H0 g H locs) (hl : lv_has ls 2 [(0, .ref (ad 11)), (1, .int x1)]) : W p l e R s m args below meth c H locs 0 0 Q (F0 m 0 ls []) := by
  obtain ⟨hx, hb, hml, hown, hts, hK, hN, hR⟩ := F
  have F : fxC D cI cZ p R s m args c b_Cu_cutOut 2 R_Cu 0 0 := ⟨hx, hb, hml, hown, hts, hK, hN, hR⟩
  refine lv_aload_n hx hb d_Cu_cutOut_0 rfl (lv_at hl 0 rfl) ?_
  refine gfC_Cu_25 F hwd d_Cu_cutOut_1 ?_
  refine lv_bipush (v := 60) hx hb d_Cu_cutOut_4 (by decide) ?_
  refine lv_icmp_ge (tgt := 39) hx hb d_Cu_cutOut_6 (by decide) (fun hc => ?_) (fun hc => ?_)
  · have hw := hw.1 hc
    exact hret _ _ _ hw hwd _ _ d_Cu_cutOut_39
  · have hw := hw.2 hc
    refine lv_aload_n hx hb d_Cu_cutOut_9 rfl (lv_at hl 0 rfl) ?_
    refine gfC_Cu_15 F hwd d_Cu_cutOut_10 ?_
    refine lv_iload_n hx hb d_Cu_cutOut_13 rfl (lv_at hl 1 rfl) ?_
    refine lv_aload_n hx hb d_Cu_cutOut_14 rfl (lv_at hl 0 rfl) ?_
    refine gfC_Cu_25 F hwd d_Cu_cutOut_15 ?_
    obtain ⟨hi, hw⟩ := hw
    refine wrC_13 F hwd hi d_Cu_cutOut_18 (fun H locs hwd => ?_)
    obtain ⟨g1, e_g1⟩ : ∃ z : St, z = ar g 13 x1 (g 102 0) := ⟨_, rfl⟩
    have hwd : wdC D cI cZ ad A H0 g1 H locs := by rw [e_g1]; exact hwd
    have hw := hw g1 e_g1
    refine lv_aload_n hx hb d_Cu_cutOut_19 rfl (lv_at hl 0 rfl) ?_
    refine gfC_Cu_18 F hwd d_Cu_cutOut_20 ?_
    refine lv_aload_n hx hb d_Cu_cutOut_23 rfl (lv_at hl 0 rfl) ?_
    refine gfC_Cu_25 F hwd d_Cu_cutOut_24 ?_
    refine lv_iload_n hx hb d_Cu_cutOut_27 rfl (lv_at hl 1 rfl) ?_
    obtain ⟨hi, hw⟩ := hw
    refine wrC_14 F hwd hi d_Cu_cutOut_28 (fun H locs hwd => ?_)
    obtain ⟨g2, e_g2⟩ : ∃ z : St, z = ar g1 14 (g1 102 0) x1 := ⟨_, rfl⟩
    have hwd : wdC D cI cZ ad A H0 g2 H locs := by rw [e_g2]; exact hwd
    have hw := hw g2 e_g2
    refine lv_aload_n hx hb d_Cu_cutOut_29 rfl (lv_at hl 0 rfl) ?_
    refine lv_dup hx hb d_Cu_cutOut_30 rfl ?_
    refine gfC_Cu_25 F hwd d_Cu_cutOut_31 ?_
    refine lv_iconst (v := 1) hx hb d_Cu_cutOut_34 (by decide) ?_
    refine lv_iadd hx hb d_Cu_cutOut_35 ?_
    refine pfC_Cu_25 F hwd d_Cu_cutOut_36 (fun H locs hwd => ?_)
    obtain ⟨g3, e_g3⟩ : ∃ z : St, z = sc g2 102 ((g2 102 0) + (1 : Int32)) := ⟨_, rfl⟩
    have hwd : wdC D cI cZ ad A H0 g3 H locs := by rw [e_g3]; exact hwd
    have hw := hw g3 e_g3
    exact hret _ _ _ hw hwd _ _ d_Cu_cutOut_39

theorem ct_Cu_cutOut {l : Launch} {D : va_G} {cI cZ : ClassId} {ad : Nat → Nat} (x1 : Int32) (g : St) (K : St → Prop) (h : pc_Cu_cutOut x1 g K) : ctCV l y_Cu_cutOut b_Cu_cutOut 2 0 0 D cI cZ ad [.ref (ad 11), .int x1] g K :=
  enCV (by decide) (Nat.le_of_ble_eq_true rfl) (fun p e s m args below meth c A H0 ls Q F hwd hl hret => wb_Cu_cutOut_0 F hret h hwd hl)
end WALKC0
