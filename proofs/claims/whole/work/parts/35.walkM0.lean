section WALKM0
variable {p : Program} {l : Launch} {e : Env} {R : Room} {s : State} {m : MethodId} {args : Array Value} {below : List Frame} {meth : Method} {c : Code} {H : Heap} {locs : List Loc} {Q : State → Prop}
variable {D : va_G} {cI cZ : ClassId} {ad : Nat → Nat} {A : Nat → Prop} {H0 : Heap} {ls : Array Slot}
set_option maxHeartbeats 4000000 in
set_option maxRecDepth 100000 in
theorem wb_Mo_leaf_0 {K : Int32 → St → Prop} {x1 : Int32} {g : St} (F : fxM D cI cZ p R s m args c b_Mo_leaf 2 R_Mo 0 0)
    (hret : rtMI D cI cZ ad p l e R s m args below meth c b_Mo_leaf A H0 Q K)
    (hw : pb_Mo_leaf_0 K x1 g)
    (hwd : wdM D cI cZ ad A H0 g H locs) (hl : lv_has ls 2 [(0, .ref (ad 0)), (1, .int x1)]) : W p l e R s m args below meth c H locs 0 0 Q (F0 m 0 ls []) := by
  obtain ⟨hx, hb, hml, hown, hts, hK, hN, hR⟩ := F
  have F : fxM D cI cZ p R s m args c b_Mo_leaf 2 R_Mo 0 0 := ⟨hx, hb, hml, hown, hts, hK, hN, hR⟩
  refine lv_aload_n hx hb d_Mo_leaf_0 rfl (lv_at hl 0 rfl) ?_
  refine gfM_Mo_71 F hwd d_Mo_leaf_1 ?_
  refine lv_bipush (v := 60) hx hb d_Mo_leaf_4 (by decide) ?_
  refine lv_icmp_ne (tgt := 11) hx hb d_Mo_leaf_6 (by decide) (fun hc => ?_) (fun hc => ?_)
  · have hw := hw.1 hc
    refine lv_aload_n hx hb d_Mo_leaf_11 rfl (lv_at hl 0 rfl) ?_
    refine gfM_Mo_7 F hwd d_Mo_leaf_12 ?_
    refine lv_aload_n hx hb d_Mo_leaf_15 rfl (lv_at hl 0 rfl) ?_
    refine gfM_Mo_71 F hwd d_Mo_leaf_16 ?_
    refine lv_iconst (v := -1) hx hb d_Mo_leaf_19 (by decide) ?_
    obtain ⟨hi, hw⟩ := hw
    refine wrM_1 F hwd hi d_Mo_leaf_20 (fun H locs hwd => ?_)
    obtain ⟨g1, e_g1⟩ : ∃ z : St, z = ar g 1 (g 100 0) (-1 : Int32) := ⟨_, rfl⟩
    have hwd : wdM D cI cZ ad A H0 g1 H locs := by rw [e_g1]; exact hwd
    have hw := hw g1 e_g1
    refine lv_aload_n hx hb d_Mo_leaf_21 rfl (lv_at hl 0 rfl) ?_
    refine gfM_Mo_16 F hwd d_Mo_leaf_22 ?_
    refine lv_aload_n hx hb d_Mo_leaf_25 rfl (lv_at hl 0 rfl) ?_
    refine gfM_Mo_71 F hwd d_Mo_leaf_26 ?_
    refine lv_iload_n hx hb d_Mo_leaf_29 rfl (lv_at hl 1 rfl) ?_
    obtain ⟨hi, hw⟩ := hw
    refine wrM_3 F hwd hi d_Mo_leaf_30 (fun H locs hwd => ?_)
    obtain ⟨g2, e_g2⟩ : ∃ z : St, z = ar g1 3 (g1 100 0) x1 := ⟨_, rfl⟩
    have hwd : wdM D cI cZ ad A H0 g2 H locs := by rw [e_g2]; exact hwd
    have hw := hw g2 e_g2
    refine lv_aload_n hx hb d_Mo_leaf_31 rfl (lv_at hl 0 rfl) ?_
    refine lv_dup hx hb d_Mo_leaf_32 rfl ?_
    refine gfM_Mo_71 F hwd d_Mo_leaf_33 ?_
    refine lv_iconst (v := 1) hx hb d_Mo_leaf_36 (by decide) ?_
    refine lv_iadd hx hb d_Mo_leaf_37 ?_
    refine pfM_Mo_71 F hwd d_Mo_leaf_38 (fun H locs hwd => ?_)
    obtain ⟨g3, e_g3⟩ : ∃ z : St, z = sc g2 100 ((g2 100 0) + (1 : Int32)) := ⟨_, rfl⟩
    have hwd : wdM D cI cZ ad A H0 g3 H locs := by rw [e_g3]; exact hwd
    have hw := hw g3 e_g3
    refine lv_aload_n hx hb d_Mo_leaf_41 rfl (lv_at hl 0 rfl) ?_
    refine gfM_Mo_71 F hwd d_Mo_leaf_42 ?_
    refine lv_iconst (v := 1) hx hb d_Mo_leaf_45 (by decide) ?_
    refine lv_isub hx hb d_Mo_leaf_46 ?_
    exact hret _ _ _ _ hw hwd _ _ d_Mo_leaf_47
  · have hw := hw.2 hc
    refine lv_iconst (v := -1) hx hb d_Mo_leaf_9 (by decide) ?_
    exact hret _ _ _ _ hw hwd _ _ d_Mo_leaf_10

theorem ct_Mo_leaf {l : Launch} {D : va_G} {cI cZ : ClassId} {ad : Nat → Nat} (x1 : Int32) (g : St) (K : Int32 → St → Prop) (h : pc_Mo_leaf x1 g K) : ctMI l y_Mo_leaf b_Mo_leaf 2 0 0 D cI cZ ad [.ref (ad 0), .int x1] g K :=
  enMI (by decide) (Nat.le_of_ble_eq_true rfl) (fun p e s m args below meth c A H0 ls Q F hwd hl hret => wb_Mo_leaf_0 F hret h hwd hl)

set_option maxHeartbeats 4000000 in
set_option maxRecDepth 100000 in
theorem wb_Mo_outside_0 {K : Int32 → St → Prop} {x0 : Int32} {x1 : Int32} {x2 : Int32} {g : St} (F : fxM D cI cZ p R s m args c b_Mo_outside 3 R_Mo 0 0)
    (hret : rtMZ D cI cZ ad p l e R s m args below meth c b_Mo_outside A H0 Q K)
    (hw : pb_Mo_outside_0 K x0 x1 x2 g)
    (hwd : wdM D cI cZ ad A H0 g H locs) (hl : lv_has ls 3 [(0, .int x0), (1, .int x1), (2, .int x2)]) : W p l e R s m args below meth c H locs 0 0 Q (F0 m 0 ls []) := by
  obtain ⟨hx, hb, hml, hown, hts, hK, hN, hR⟩ := F
  have F : fxM D cI cZ p R s m args c b_Mo_outside 3 R_Mo 0 0 := ⟨hx, hb, hml, hown, hts, hK, hN, hR⟩
  refine lv_iload_n hx hb d_Mo_outside_0 rfl (lv_at hl 0 rfl) ?_
  refine lv_iload_n hx hb d_Mo_outside_1 rfl (lv_at hl 1 rfl) ?_
  refine lv_icmp_lt (tgt := 10) hx hb d_Mo_outside_2 (by decide) (fun hc => ?_) (fun hc => ?_)
  · have hw := hw.1 hc
    refine lv_iconst (v := 1) hx hb d_Mo_outside_10 (by decide) ?_
    refine lv_goto (tgt := 15) hx hb d_Mo_outside_11 (by decide) ?_
    exact hret _ _ _ _ hw (by decide) hwd _ _ d_Mo_outside_15
  · have hw := hw.2 hc
    refine lv_iload_n hx hb d_Mo_outside_5 rfl (lv_at hl 0 rfl) ?_
    refine lv_iload_n hx hb d_Mo_outside_6 rfl (lv_at hl 2 rfl) ?_
    refine lv_icmp_le (tgt := 14) hx hb d_Mo_outside_7 (by decide) (fun hc => ?_) (fun hc => ?_)
    · have hw := hw.1 hc
      refine lv_iconst (v := 0) hx hb d_Mo_outside_14 (by decide) ?_
      exact hret _ _ _ _ hw (by decide) hwd _ _ d_Mo_outside_15
    · have hw := hw.2 hc
      refine lv_iconst (v := 1) hx hb d_Mo_outside_10 (by decide) ?_
      refine lv_goto (tgt := 15) hx hb d_Mo_outside_11 (by decide) ?_
      exact hret _ _ _ _ hw (by decide) hwd _ _ d_Mo_outside_15

theorem ct_Mo_outside {l : Launch} {D : va_G} {cI cZ : ClassId} {ad : Nat → Nat} (x0 : Int32) (x1 : Int32) (x2 : Int32) (g : St) (K : Int32 → St → Prop) (h : pc_Mo_outside x0 x1 x2 g K) : ctMZ l y_Mo_outside b_Mo_outside 3 0 0 D cI cZ ad [.int x0, .int x1, .int x2] g K :=
  enMZ (by decide) (Nat.le_of_ble_eq_true rfl) (fun p e s m args below meth c A H0 ls Q F hwd hl hret => wb_Mo_outside_0 F hret h hwd hl)

set_option maxHeartbeats 4000000 in
set_option maxRecDepth 100000 in
theorem wb_Mo_split_78 {K : Int32 → St → Prop} {x1 : Int32} {x2 : Int32} {x3 : Int32} {x4 : Int32} {x5 : Int32} {x6 : Int32} {g : St} (F : fxM D cI cZ p R s m args c b_Mo_split 7 R_Mo 1 22)
    (hret : rtMI D cI cZ ad p l e R s m args below meth c b_Mo_split A H0 Q K)
    (hw : pb_Mo_split_78 K x1 x2 x3 x4 x5 x6 g)
    (hwd : wdM D cI cZ ad A H0 g H locs) (hl : lv_has ls 7 [(0, .ref (ad 0)), (1, .int x1), (2, .int x2), (3, .int x3), (4, .int x4), (5, .int x5), (6, .int x6)]) : W p l e R s m args below meth c H locs 0 0 Q (F0 m 78 ls []) := by
  obtain ⟨hx, hb, hml, hown, hts, hK, hN, hR⟩ := F
  have F : fxM D cI cZ p R s m args c b_Mo_split 7 R_Mo 1 22 := ⟨hx, hb, hml, hown, hts, hK, hN, hR⟩
  refine lv_aload_n hx hb d_Mo_split_78 rfl (lv_at hl 0 rfl) ?_
  refine gfM_Mo_7 F hwd d_Mo_split_79 ?_
  refine lv_aload_n hx hb d_Mo_split_82 rfl (lv_at hl 0 rfl) ?_
  refine gfM_Mo_71 F hwd d_Mo_split_83 ?_
  refine lv_iload_n hx hb d_Mo_split_86 rfl (lv_at hl 1 rfl) ?_
  obtain ⟨hi, hw⟩ := hw
  refine wrM_1 F hwd hi d_Mo_split_87 (fun H locs hwd => ?_)
  obtain ⟨g1, e_g1⟩ : ∃ z : St, z = ar g 1 (g 100 0) x1 := ⟨_, rfl⟩
  have hwd : wdM D cI cZ ad A H0 g1 H locs := by rw [e_g1]; exact hwd
  have hw := hw g1 e_g1
  refine lv_aload_n hx hb d_Mo_split_88 rfl (lv_at hl 0 rfl) ?_
  refine gfM_Mo_13 F hwd d_Mo_split_89 ?_
  refine lv_aload_n hx hb d_Mo_split_92 rfl (lv_at hl 0 rfl) ?_
  refine gfM_Mo_71 F hwd d_Mo_split_93 ?_
  refine lv_iload_n hx hb d_Mo_split_96 rfl (lv_at hl 2 rfl) ?_
  obtain ⟨hi, hw⟩ := hw
  refine wrM_2 F hwd hi d_Mo_split_97 (fun H locs hwd => ?_)
  obtain ⟨g2, e_g2⟩ : ∃ z : St, z = ar g1 2 (g1 100 0) x2 := ⟨_, rfl⟩
  have hwd : wdM D cI cZ ad A H0 g2 H locs := by rw [e_g2]; exact hwd
  have hw := hw g2 e_g2
  refine lv_aload_n hx hb d_Mo_split_98 rfl (lv_at hl 0 rfl) ?_
  refine gfM_Mo_16 F hwd d_Mo_split_99 ?_
  refine lv_aload_n hx hb d_Mo_split_102 rfl (lv_at hl 0 rfl) ?_
  refine gfM_Mo_71 F hwd d_Mo_split_103 ?_
  refine lv_iload_n hx hb d_Mo_split_106 rfl (lv_at hl 3 rfl) ?_
  obtain ⟨hi, hw⟩ := hw
  refine wrM_3 F hwd hi d_Mo_split_107 (fun H locs hwd => ?_)
  obtain ⟨g3, e_g3⟩ : ∃ z : St, z = ar g2 3 (g2 100 0) x3 := ⟨_, rfl⟩
  have hwd : wdM D cI cZ ad A H0 g3 H locs := by rw [e_g3]; exact hwd
  have hw := hw g3 e_g3
  refine lv_aload_n hx hb d_Mo_split_108 rfl (lv_at hl 0 rfl) ?_
  refine gfM_Mo_19 F hwd d_Mo_split_109 ?_
  refine lv_aload_n hx hb d_Mo_split_112 rfl (lv_at hl 0 rfl) ?_
  refine gfM_Mo_71 F hwd d_Mo_split_113 ?_
  refine lv_iload hx hb d_Mo_split_116 (lv_at hl 4 rfl) ?_
  obtain ⟨hi, hw⟩ := hw
  refine wrM_4 F hwd hi d_Mo_split_118 (fun H locs hwd => ?_)
  obtain ⟨g4, e_g4⟩ : ∃ z : St, z = ar g3 4 (g3 100 0) x4 := ⟨_, rfl⟩
  have hwd : wdM D cI cZ ad A H0 g4 H locs := by rw [e_g4]; exact hwd
  have hw := hw g4 e_g4
  refine lv_aload_n hx hb d_Mo_split_119 rfl (lv_at hl 0 rfl) ?_
  refine gfM_Mo_22 F hwd d_Mo_split_120 ?_
  refine lv_aload_n hx hb d_Mo_split_123 rfl (lv_at hl 0 rfl) ?_
  refine gfM_Mo_71 F hwd d_Mo_split_124 ?_
  refine lv_iload hx hb d_Mo_split_127 (lv_at hl 5 rfl) ?_
  obtain ⟨hi, hw⟩ := hw
  refine wrM_5 F hwd hi d_Mo_split_129 (fun H locs hwd => ?_)
  obtain ⟨g5, e_g5⟩ : ∃ z : St, z = ar g4 5 (g4 100 0) x5 := ⟨_, rfl⟩
  have hwd : wdM D cI cZ ad A H0 g5 H locs := by rw [e_g5]; exact hwd
  have hw := hw g5 e_g5
  refine lv_aload_n hx hb d_Mo_split_130 rfl (lv_at hl 0 rfl) ?_
  refine lv_dup hx hb d_Mo_split_131 rfl ?_
  refine gfM_Mo_71 F hwd d_Mo_split_132 ?_
  refine lv_iconst (v := 1) hx hb d_Mo_split_135 (by decide) ?_
  refine lv_iadd hx hb d_Mo_split_136 ?_
  refine pfM_Mo_71 F hwd d_Mo_split_137 (fun H locs hwd => ?_)
  obtain ⟨g6, e_g6⟩ : ∃ z : St, z = sc g5 100 ((g5 100 0) + (1 : Int32)) := ⟨_, rfl⟩
  have hwd : wdM D cI cZ ad A H0 g6 H locs := by rw [e_g6]; exact hwd
  have hw := hw g6 e_g6
  refine lv_aload_n hx hb d_Mo_split_140 rfl (lv_at hl 0 rfl) ?_
  refine gfM_Mo_71 F hwd d_Mo_split_141 ?_
  refine lv_iconst (v := 1) hx hb d_Mo_split_144 (by decide) ?_
  refine lv_isub hx hb d_Mo_split_145 ?_
  exact hret _ _ _ _ hw hwd _ _ d_Mo_split_146

set_option maxHeartbeats 4000000 in
set_option maxRecDepth 100000 in
theorem wb_Mo_split_46 {K : Int32 → St → Prop} {x1 : Int32} {x2 : Int32} {x3 : Int32} {x4 : Int32} {x5 : Int32} {t0 : Int32} {g : St} (F : fxM D cI cZ p R s m args c b_Mo_split 7 R_Mo 1 22)
    (hret : rtMI D cI cZ ad p l e R s m args below meth c b_Mo_split A H0 Q K)
    (hw : pb_Mo_split_46 K x1 x2 x3 x4 x5 t0 g)
    (hwd : wdM D cI cZ ad A H0 g H locs) (hl : lv_has ls 7 [(0, .ref (ad 0)), (1, .int x1), (2, .int x2), (3, .int x3), (4, .int x4), (5, .int x5)]) : W p l e R s m args below meth c H locs 0 0 Q (F0 m 46 ls [.int t0]) := by
  obtain ⟨hx, hb, hml, hown, hts, hK, hN, hR⟩ := F
  have F : fxM D cI cZ p R s m args c b_Mo_split 7 R_Mo 1 22 := ⟨hx, hb, hml, hown, hts, hK, hN, hR⟩
  refine lv_topi (fun v1 e_v1 => ?_)
  have hw := hw v1 e_v1
  refine lv_istore (lv' := [(6, .int v1), (0, .ref (ad 0)), (1, .int x1), (2, .int x2), (3, .int x3), (4, .int x4), (5, .int x5)]) hx hb d_Mo_split_46 hl (by decide) rfl (fun ls hl => ?_)
  refine lv_aload_n hx hb d_Mo_split_48 rfl (lv_at hl 1 rfl) ?_
  refine gfM_Mo_71 F hwd d_Mo_split_49 ?_
  refine lv_bipush (v := 60) hx hb d_Mo_split_52 (by decide) ?_
  refine lv_icmp_eq (tgt := 76) hx hb d_Mo_split_54 (by decide) (fun hc => ?_) (fun hc => ?_)
  · have hw := hw.1 hc
    refine lv_iconst (v := -1) hx hb d_Mo_split_76 (by decide) ?_
    exact hret _ _ _ _ hw hwd _ _ d_Mo_split_77
  · have hw := hw.2 hc
    refine lv_iload hx hb d_Mo_split_57 (lv_at hl 0 rfl) ?_
    refine lv_if_ne (tgt := 76) hx hb d_Mo_split_59 (by decide) (fun hc => ?_) (fun hc => ?_)
    · have hw := hw.1 hc
      refine lv_iconst (v := -1) hx hb d_Mo_split_76 (by decide) ?_
      exact hret _ _ _ _ hw hwd _ _ d_Mo_split_77
    · have hw := hw.2 hc
      refine lv_iload_n hx hb d_Mo_split_62 rfl (lv_at hl 2 rfl) ?_
      refine lv_iconst (v := 4) hx hb d_Mo_split_63 (by decide) ?_
      refine lv_icmp_ge (tgt := 78) hx hb d_Mo_split_64 (by decide) (fun hc => ?_) (fun hc => ?_)
      · have hw := hw.1 hc
        exact wb_Mo_split_78 F hret hw hwd (lv_sub hl [1, 2, 3, 4, 5, 6, 0] rfl)
      · have hw := hw.2 hc
        refine lv_iload_n hx hb d_Mo_split_67 rfl (lv_at hl 4 rfl) ?_
        refine lv_ldc (v := 2147483647) hx hb hown (hts _ kM_0) d_Mo_split_68 ?_
        refine lv_iand hx hb d_Mo_split_70 ?_
        refine lv_ldc (v := 2139095040) hx hb hown (hts _ kM_1) d_Mo_split_71 ?_
        refine lv_icmp_lt (tgt := 78) hx hb d_Mo_split_73 (by decide) (fun hc => ?_) (fun hc => ?_)
        · have hw := hw.1 hc
          exact wb_Mo_split_78 F hret hw hwd (lv_sub hl [1, 2, 3, 4, 5, 6, 0] rfl)
        · have hw := hw.2 hc
          refine lv_iconst (v := -1) hx hb d_Mo_split_76 (by decide) ?_
          exact hret _ _ _ _ hw hwd _ _ d_Mo_split_77

set_option maxHeartbeats 4000000 in
set_option maxRecDepth 100000 in
theorem wb_Mo_split_41 {K : Int32 → St → Prop} {x1 : Int32} {x2 : Int32} {x3 : Int32} {x4 : Int32} {x5 : Int32} {g : St} (F : fxM D cI cZ p R s m args c b_Mo_split 7 R_Mo 1 22)
    (hret : rtMI D cI cZ ad p l e R s m args below meth c b_Mo_split A H0 Q K)
    (hw : pb_Mo_split_41 K x1 x2 x3 x4 x5 g)
    (hwd : wdM D cI cZ ad A H0 g H locs) (hl : lv_has ls 7 [(0, .ref (ad 0)), (1, .int x1), (2, .int x2), (3, .int x3), (4, .int x4), (5, .int x5)]) : W p l e R s m args below meth c H locs 0 0 Q (F0 m 41 ls []) := by
  obtain ⟨hx, hb, hml, hown, hts, hK, hN, hR⟩ := F
  have F : fxM D cI cZ p R s m args c b_Mo_split 7 R_Mo 1 22 := ⟨hx, hb, hml, hown, hts, hK, hN, hR⟩
  refine lv_iconst (v := 1) hx hb d_Mo_split_41 (by decide) ?_
  refine lv_goto (tgt := 46) hx hb d_Mo_split_42 (by decide) ?_
  exact wb_Mo_split_46 F hret hw hwd (lv_sub hl [0, 1, 2, 3, 4, 5] rfl)

set_option maxHeartbeats 4000000 in
set_option maxRecDepth 100000 in
theorem wb_Mo_split_0 {K : Int32 → St → Prop} {x1 : Int32} {x2 : Int32} {x3 : Int32} {x4 : Int32} {x5 : Int32} {g : St} (F : fxM D cI cZ p R s m args c b_Mo_split 7 R_Mo 1 22)
    (hret : rtMI D cI cZ ad p l e R s m args below meth c b_Mo_split A H0 Q K)
    (hw : pb_Mo_split_0 K x1 x2 x3 x4 x5 g)
    (hwd : wdM D cI cZ ad A H0 g H locs) (hl : lv_has ls 7 [(0, .ref (ad 0)), (1, .int x1), (2, .int x2), (3, .int x3), (4, .int x4), (5, .int x5)]) : W p l e R s m args below meth c H locs 0 0 Q (F0 m 0 ls []) := by
  obtain ⟨hx, hb, hml, hown, hts, hK, hN, hR⟩ := F
  have F : fxM D cI cZ p R s m args c b_Mo_split 7 R_Mo 1 22 := ⟨hx, hb, hml, hown, hts, hK, hN, hR⟩
  refine lv_iload_n hx hb d_Mo_split_0 rfl (lv_at hl 1 rfl) ?_
  refine lv_iconst (v := 0) hx hb d_Mo_split_1 (by decide) ?_
  refine lv_iconst (v := 5) hx hb d_Mo_split_2 (by decide) ?_
  refine mcM_Mo_75 F hwd (ct_Mo_outside _ _ _ _ _ hw) ⟨Nat.le_trans (by decide) hR.1, Nat.le_trans (by decide) hR.2⟩ hl.1 (Nat.le_of_ble_eq_true rfl) d_Mo_split_3 (fun v2 g1 H locs hw hwd => ?_)
  refine lv_if_ne (tgt := 41) hx hb d_Mo_split_6 (by decide) (fun hc => ?_) (fun hc => ?_)
  · have hw := hw.1 hc
    exact wb_Mo_split_41 F hret hw hwd (lv_sub hl [0, 1, 2, 3, 4, 5] rfl)
  · have hw := hw.2 hc
    refine lv_iload_n hx hb d_Mo_split_9 rfl (lv_at hl 2 rfl) ?_
    refine lv_iconst (v := 0) hx hb d_Mo_split_10 (by decide) ?_
    refine lv_bipush (v := 7) hx hb d_Mo_split_11 (by decide) ?_
    refine mcM_Mo_75 F hwd (ct_Mo_outside _ _ _ _ _ hw) ⟨Nat.le_trans (by decide) hR.1, Nat.le_trans (by decide) hR.2⟩ hl.1 (Nat.le_of_ble_eq_true rfl) d_Mo_split_13 (fun v4 g3 H locs hw hwd => ?_)
    refine lv_if_ne (tgt := 41) hx hb d_Mo_split_16 (by decide) (fun hc => ?_) (fun hc => ?_)
    · have hw := hw.1 hc
      exact wb_Mo_split_41 F hret hw hwd (lv_sub hl [0, 1, 2, 3, 4, 5] rfl)
    · have hw := hw.2 hc
      refine lv_iload hx hb d_Mo_split_19 (lv_at hl 4 rfl) ?_
      refine lv_iconst (v := 0) hx hb d_Mo_split_21 (by decide) ?_
      refine lv_bipush (v := 59) hx hb d_Mo_split_22 (by decide) ?_
      refine mcM_Mo_75 F hwd (ct_Mo_outside _ _ _ _ _ hw) ⟨Nat.le_trans (by decide) hR.1, Nat.le_trans (by decide) hR.2⟩ hl.1 (Nat.le_of_ble_eq_true rfl) d_Mo_split_24 (fun v6 g5 H locs hw hwd => ?_)
      refine lv_if_ne (tgt := 41) hx hb d_Mo_split_27 (by decide) (fun hc => ?_) (fun hc => ?_)
      · have hw := hw.1 hc
        exact wb_Mo_split_41 F hret hw hwd (lv_sub hl [0, 1, 2, 3, 4, 5] rfl)
      · have hw := hw.2 hc
        refine lv_iload hx hb d_Mo_split_30 (lv_at hl 5 rfl) ?_
        refine lv_iconst (v := 0) hx hb d_Mo_split_32 (by decide) ?_
        refine lv_bipush (v := 59) hx hb d_Mo_split_33 (by decide) ?_
        refine mcM_Mo_75 F hwd (ct_Mo_outside _ _ _ _ _ hw) ⟨Nat.le_trans (by decide) hR.1, Nat.le_trans (by decide) hR.2⟩ hl.1 (Nat.le_of_ble_eq_true rfl) d_Mo_split_35 (fun v8 g7 H locs hw hwd => ?_)
        refine lv_if_eq (tgt := 45) hx hb d_Mo_split_38 (by decide) (fun hc => ?_) (fun hc => ?_)
        · have hw := hw.1 hc
          refine lv_iconst (v := 0) hx hb d_Mo_split_45 (by decide) ?_
          exact wb_Mo_split_46 F hret hw hwd (lv_sub hl [0, 1, 2, 3, 4, 5] rfl)
        · have hw := hw.2 hc
          exact wb_Mo_split_41 F hret hw hwd (lv_sub hl [0, 1, 2, 3, 4, 5] rfl)

theorem ct_Mo_split {l : Launch} {D : va_G} {cI cZ : ClassId} {ad : Nat → Nat} (x1 : Int32) (x2 : Int32) (x3 : Int32) (x4 : Int32) (x5 : Int32) (g : St) (K : Int32 → St → Prop) (h : pc_Mo_split x1 x2 x3 x4 x5 g K) : ctMI l y_Mo_split b_Mo_split 7 1 22 D cI cZ ad [.ref (ad 0), .int x1, .int x2, .int x3, .int x4, .int x5] g K :=
  enMI (by decide) (Nat.le_of_ble_eq_true rfl) (fun p e s m args below meth c A H0 ls Q F hwd hl hret => wb_Mo_split_0 F hret h hwd hl)

set_option maxHeartbeats 4000000 in
set_option maxRecDepth 100000 in
theorem wb_Mo_tree_0 {K : Int32 → St → Prop} {x1 : Int32} {g : St} (F : fxM D cI cZ p R s m args c b_Mo_tree 2 R_Mo 1 22)
    (hret : rtMI D cI cZ ad p l e R s m args below meth c b_Mo_tree A H0 Q K)
    (hw : pb_Mo_tree_0 K x1 g)
    (hwd : wdM D cI cZ ad A H0 g H locs) (hl : lv_has ls 2 [(0, .ref (ad 0)), (1, .int x1)]) : W p l e R s m args below meth c H locs 0 0 Q (F0 m 0 ls []) := by
  obtain ⟨hx, hb, hml, hown, hts, hK, hN, hR⟩ := F
  have F : fxM D cI cZ p R s m args c b_Mo_tree 2 R_Mo 1 22 := ⟨hx, hb, hml, hown, hts, hK, hN, hR⟩
  refine lv_aload_n hx hb d_Mo_tree_0 rfl (lv_at hl 0 rfl) ?_
  refine gfM_Mo_81 F hwd d_Mo_tree_1 ?_
  refine lv_bipush (v := 8) hx hb d_Mo_tree_4 (by decide) ?_
  refine lv_icmp_eq (tgt := 23) hx hb d_Mo_tree_6 (by decide) (fun hc => ?_) (fun hc => ?_)
  · have hw := hw.1 hc
    refine lv_iconst (v := -1) hx hb d_Mo_tree_23 (by decide) ?_
    exact hret _ _ _ _ hw hwd _ _ d_Mo_tree_24
  · have hw := hw.2 hc
    refine lv_iload_n hx hb d_Mo_tree_9 rfl (lv_at hl 1 rfl) ?_
    refine lv_iconst (v := 0) hx hb d_Mo_tree_10 (by decide) ?_
    refine lv_aload_n hx hb d_Mo_tree_11 rfl (lv_at hl 0 rfl) ?_
    refine gfM_Mo_71 F hwd d_Mo_tree_12 ?_
    refine lv_iconst (v := 1) hx hb d_Mo_tree_15 (by decide) ?_
    refine lv_isub hx hb d_Mo_tree_16 ?_
    refine mcM_Mo_75 F hwd (ct_Mo_outside _ _ _ _ _ hw) ⟨Nat.le_trans (by decide) hR.1, Nat.le_trans (by decide) hR.2⟩ hl.1 (Nat.le_of_ble_eq_true rfl) d_Mo_tree_17 (fun v2 g1 H locs hw hwd => ?_)
    refine lv_if_eq (tgt := 25) hx hb d_Mo_tree_20 (by decide) (fun hc => ?_) (fun hc => ?_)
    · have hw := hw.1 hc
      refine lv_aload_n hx hb d_Mo_tree_25 rfl (lv_at hl 0 rfl) ?_
      refine gfM_Mo_25 F hwd d_Mo_tree_26 ?_
      refine lv_aload_n hx hb d_Mo_tree_29 rfl (lv_at hl 0 rfl) ?_
      refine gfM_Mo_81 F hwd d_Mo_tree_30 ?_
      refine lv_iload_n hx hb d_Mo_tree_33 rfl (lv_at hl 1 rfl) ?_
      obtain ⟨hi, hw⟩ := hw
      refine wrM_6 F hwd hi d_Mo_tree_34 (fun H locs hwd => ?_)
      obtain ⟨g3, e_g3⟩ : ∃ z : St, z = ar g1 6 (g1 101 0) x1 := ⟨_, rfl⟩
      have hwd : wdM D cI cZ ad A H0 g3 H locs := by rw [e_g3]; exact hwd
      have hw := hw g3 e_g3
      refine lv_aload_n hx hb d_Mo_tree_35 rfl (lv_at hl 0 rfl) ?_
      refine lv_dup hx hb d_Mo_tree_36 rfl ?_
      refine gfM_Mo_81 F hwd d_Mo_tree_37 ?_
      refine lv_iconst (v := 1) hx hb d_Mo_tree_40 (by decide) ?_
      refine lv_iadd hx hb d_Mo_tree_41 ?_
      refine pfM_Mo_81 F hwd d_Mo_tree_42 (fun H locs hwd => ?_)
      obtain ⟨g4, e_g4⟩ : ∃ z : St, z = sc g3 101 ((g3 101 0) + (1 : Int32)) := ⟨_, rfl⟩
      have hwd : wdM D cI cZ ad A H0 g4 H locs := by rw [e_g4]; exact hwd
      have hw := hw g4 e_g4
      refine lv_aload_n hx hb d_Mo_tree_45 rfl (lv_at hl 0 rfl) ?_
      refine gfM_Mo_81 F hwd d_Mo_tree_46 ?_
      refine lv_iconst (v := 1) hx hb d_Mo_tree_49 (by decide) ?_
      refine lv_isub hx hb d_Mo_tree_50 ?_
      exact hret _ _ _ _ hw hwd _ _ d_Mo_tree_51
    · have hw := hw.2 hc
      refine lv_iconst (v := -1) hx hb d_Mo_tree_23 (by decide) ?_
      exact hret _ _ _ _ hw hwd _ _ d_Mo_tree_24

theorem ct_Mo_tree {l : Launch} {D : va_G} {cI cZ : ClassId} {ad : Nat → Nat} (x1 : Int32) (g : St) (K : Int32 → St → Prop) (h : pc_Mo_tree x1 g K) : ctMI l y_Mo_tree b_Mo_tree 2 1 22 D cI cZ ad [.ref (ad 0), .int x1] g K :=
  enMI (by decide) (Nat.le_of_ble_eq_true rfl) (fun p e s m args below meth c A H0 ls Q F hwd hl hret => wb_Mo_tree_0 F hret h hwd hl)

set_option maxHeartbeats 4000000 in
set_option maxRecDepth 100000 in
theorem wb_Mo_wrong_63 {K : Int32 → St → Prop} {x1 : Int32} {x2 : Int32} {g : St} (F : fxM D cI cZ p R s m args c b_Mo_wrong 3 R_Mo 0 0)
    (hret : rtMI D cI cZ ad p l e R s m args below meth c b_Mo_wrong A H0 Q K)
    (hw : pb_Mo_wrong_63 K x1 x2 g)
    (hwd : wdM D cI cZ ad A H0 g H locs) (hl : lv_has ls 3 [(0, .ref (ad 0)), (1, .int x1), (2, .int x2)]) : W p l e R s m args below meth c H locs 0 0 Q (F0 m 63 ls []) := by
  obtain ⟨hx, hb, hml, hown, hts, hK, hN, hR⟩ := F
  have F : fxM D cI cZ p R s m args c b_Mo_wrong 3 R_Mo 0 0 := ⟨hx, hb, hml, hown, hts, hK, hN, hR⟩
  refine lv_bipush (v := 100) hx hb d_Mo_wrong_63 (by decide) ?_
  refine lv_iload_n hx hb d_Mo_wrong_65 rfl (lv_at hl 1 rfl) ?_
  refine lv_iadd hx hb d_Mo_wrong_66 ?_
  refine lv_goto (tgt := 71) hx hb d_Mo_wrong_67 (by decide) ?_
  exact hret _ _ _ _ hw hwd _ _ d_Mo_wrong_71

set_option maxHeartbeats 4000000 in
set_option maxRecDepth 100000 in
theorem wb_Mo_wrong_0 {K : Int32 → St → Prop} {x1 : Int32} {x2 : Int32} {g : St} (F : fxM D cI cZ p R s m args c b_Mo_wrong 3 R_Mo 0 0)
    (hret : rtMI D cI cZ ad p l e R s m args below meth c b_Mo_wrong A H0 Q K)
    (hw : pb_Mo_wrong_0 K x1 x2 g)
    (hwd : wdM D cI cZ ad A H0 g H locs) (hl : lv_has ls 3 [(0, .ref (ad 0)), (1, .int x1), (2, .int x2)]) : W p l e R s m args below meth c H locs 0 0 Q (F0 m 0 ls []) := by
  obtain ⟨hx, hb, hml, hown, hts, hK, hN, hR⟩ := F
  have F : fxM D cI cZ p R s m args c b_Mo_wrong 3 R_Mo 0 0 := ⟨hx, hb, hml, hown, hts, hK, hN, hR⟩
  refine lv_aload_n hx hb d_Mo_wrong_0 rfl (lv_at hl 0 rfl) ?_
  refine gfM_Mo_31 F hwd d_Mo_wrong_1 ?_
  refine lv_iload_n hx hb d_Mo_wrong_4 rfl (lv_at hl 1 rfl) ?_
  obtain ⟨hi, hw⟩ := hw
  refine rdM_8 F hwd hi d_Mo_wrong_5 ?_
  refine lv_if_eq (tgt := 15) hx hb d_Mo_wrong_6 (by decide) (fun hc => ?_) (fun hc => ?_)
  · have hw := hw.1 hc
    refine lv_iload_n hx hb d_Mo_wrong_15 rfl (lv_at hl 2 rfl) ?_
    refine lv_bipush (v := 12) hx hb d_Mo_wrong_16 (by decide) ?_
    refine lv_icmp_le (tgt := 27) hx hb d_Mo_wrong_18 (by decide) (fun hc => ?_) (fun hc => ?_)
    · have hw := hw.1 hc
      refine lv_aload_n hx hb d_Mo_wrong_27 rfl (lv_at hl 0 rfl) ?_
      refine gfM_Mo_7 F hwd d_Mo_wrong_28 ?_
      refine lv_iload_n hx hb d_Mo_wrong_31 rfl (lv_at hl 1 rfl) ?_
      obtain ⟨hi, hw⟩ := hw
      refine rdM_1 F hwd hi d_Mo_wrong_32 ?_
      refine lv_iconst (v := -1) hx hb d_Mo_wrong_33 (by decide) ?_
      refine lv_icmp_eq (tgt := 70) hx hb d_Mo_wrong_34 (by decide) (fun hc => ?_) (fun hc => ?_)
      · have hw := hw.1 hc
        refine lv_iconst (v := 0) hx hb d_Mo_wrong_70 (by decide) ?_
        exact hret _ _ _ _ hw hwd _ _ d_Mo_wrong_71
      · have hw := hw.2 hc
        refine lv_aload_n hx hb d_Mo_wrong_37 rfl (lv_at hl 0 rfl) ?_
        refine gfM_Mo_19 F hwd d_Mo_wrong_38 ?_
        refine lv_iload_n hx hb d_Mo_wrong_41 rfl (lv_at hl 1 rfl) ?_
        obtain ⟨hi, hw⟩ := hw
        refine rdM_4 F hwd hi d_Mo_wrong_42 ?_
        refine lv_aload_n hx hb d_Mo_wrong_43 rfl (lv_at hl 0 rfl) ?_
        refine gfM_Mo_71 F hwd d_Mo_wrong_44 ?_
        refine lv_icmp_ge (tgt := 63) hx hb d_Mo_wrong_47 (by decide) (fun hc => ?_) (fun hc => ?_)
        · have hw := hw.1 hc
          exact wb_Mo_wrong_63 F hret hw hwd (lv_sub hl [0, 1, 2] rfl)
        · have hw := hw.2 hc
          refine lv_aload_n hx hb d_Mo_wrong_50 rfl (lv_at hl 0 rfl) ?_
          refine gfM_Mo_22 F hwd d_Mo_wrong_51 ?_
          refine lv_iload_n hx hb d_Mo_wrong_54 rfl (lv_at hl 1 rfl) ?_
          obtain ⟨hi, hw⟩ := hw
          refine rdM_5 F hwd hi d_Mo_wrong_55 ?_
          refine lv_aload_n hx hb d_Mo_wrong_56 rfl (lv_at hl 0 rfl) ?_
          refine gfM_Mo_71 F hwd d_Mo_wrong_57 ?_
          refine lv_icmp_lt (tgt := 70) hx hb d_Mo_wrong_60 (by decide) (fun hc => ?_) (fun hc => ?_)
          · have hw := hw.1 hc
            refine lv_iconst (v := 0) hx hb d_Mo_wrong_70 (by decide) ?_
            exact hret _ _ _ _ hw hwd _ _ d_Mo_wrong_71
          · have hw := hw.2 hc
            exact wb_Mo_wrong_63 F hret hw hwd (lv_sub hl [0, 1, 2] rfl)
    · have hw := hw.2 hc
      refine lv_sipush (v := 300) hx hb d_Mo_wrong_21 (by decide) ?_
      refine lv_iload_n hx hb d_Mo_wrong_24 rfl (lv_at hl 1 rfl) ?_
      refine lv_iadd hx hb d_Mo_wrong_25 ?_
      exact hret _ _ _ _ hw hwd _ _ d_Mo_wrong_26
  · have hw := hw.2 hc
    refine lv_sipush (v := 200) hx hb d_Mo_wrong_9 (by decide) ?_
    refine lv_iload_n hx hb d_Mo_wrong_12 rfl (lv_at hl 1 rfl) ?_
    refine lv_iadd hx hb d_Mo_wrong_13 ?_
    exact hret _ _ _ _ hw hwd _ _ d_Mo_wrong_14

theorem ct_Mo_wrong {l : Launch} {D : va_G} {cI cZ : ClassId} {ad : Nat → Nat} (x1 : Int32) (x2 : Int32) (g : St) (K : Int32 → St → Prop) (h : pc_Mo_wrong x1 x2 g K) : ctMI l y_Mo_wrong b_Mo_wrong 3 0 0 D cI cZ ad [.ref (ad 0), .int x1, .int x2] g K :=
  enMI (by decide) (Nat.le_of_ble_eq_true rfl) (fun p e s m args below meth c A H0 ls Q F hwd hl hret => wb_Mo_wrong_0 F hret h hwd hl)

set_option maxHeartbeats 4000000 in
set_option maxRecDepth 100000 in
theorem wb_Mo_fault_159 {K : Int32 → St → Prop} {P23 : Int32 → St → Prop} {P52 : Int32 → Int32 → St → Prop} {x1 : Int32} {x2 : Int32} {x3 : Int32} {x4 : Int32} {x5 : Int32} {g : St} (F : fxM D cI cZ p R s m args c b_Mo_fault 6 R_Mo 1 22)
    (hret : rtMI D cI cZ ad p l e R s m args below meth c b_Mo_fault A H0 Q K) (hp23 : ∀ (x1 : Int32) (g : St) (H : Heap) (locs : List Loc) (ls : Array Slot), P23 x1 g → wdM D cI cZ ad A H0 g H locs → lv_has ls 6 [(0, .ref (ad 0)), (1, .int x1)] → W p l e R s m args below meth c H locs 0 0 Q (F0 m 23 ls [])) (hp52 : ∀ (x1 : Int32) (x2 : Int32) (g : St) (H : Heap) (locs : List Loc) (ls : Array Slot), P52 x1 x2 g → wdM D cI cZ ad A H0 g H locs → lv_has ls 6 [(0, .ref (ad 0)), (1, .int x1), (2, .int x2)] → W p l e R s m args below meth c H locs 0 0 Q (F0 m 52 ls []))
    (hw : pb_Mo_fault_159 K P23 P52 x1 x2 x3 x4 x5 g)
    (hwd : wdM D cI cZ ad A H0 g H locs) (hl : lv_has ls 6 [(0, .ref (ad 0)), (1, .int x1), (2, .int x2), (3, .int x3), (4, .int x4), (5, .int x5)]) : W p l e R s m args below meth c H locs 0 0 Q (F0 m 159 ls []) := by
  obtain ⟨hx, hb, hml, hown, hts, hK, hN, hR⟩ := F
  have F : fxM D cI cZ p R s m args c b_Mo_fault 6 R_Mo 1 22 := ⟨hx, hb, hml, hown, hts, hK, hN, hR⟩
  refine lv_goto (tgt := 52) hx hb d_Mo_fault_159 (by decide) ?_
  exact hp52 _ _ _ H locs ls hw hwd (lv_sub hl [0, 1, 2] rfl)

set_option maxHeartbeats 4000000 in
set_option maxRecDepth 100000 in
theorem wb_Mo_fault_52 {K : Int32 → St → Prop} {P23 : Int32 → St → Prop} {P52 : Int32 → Int32 → St → Prop} {x1 : Int32} {x2 : Int32} {g : St} (F : fxM D cI cZ p R s m args c b_Mo_fault 6 R_Mo 1 22)
    (hret : rtMI D cI cZ ad p l e R s m args below meth c b_Mo_fault A H0 Q K) (hp23 : ∀ (x1 : Int32) (g : St) (H : Heap) (locs : List Loc) (ls : Array Slot), P23 x1 g → wdM D cI cZ ad A H0 g H locs → lv_has ls 6 [(0, .ref (ad 0)), (1, .int x1)] → W p l e R s m args below meth c H locs 0 0 Q (F0 m 23 ls [])) (hp52 : ∀ (x1 : Int32) (x2 : Int32) (g : St) (H : Heap) (locs : List Loc) (ls : Array Slot), P52 x1 x2 g → wdM D cI cZ ad A H0 g H locs → lv_has ls 6 [(0, .ref (ad 0)), (1, .int x1), (2, .int x2)] → W p l e R s m args below meth c H locs 0 0 Q (F0 m 52 ls []))
    (hw : pb_Mo_fault_52 K P23 P52 x1 x2 g)
    (hwd : wdM D cI cZ ad A H0 g H locs) (hl : lv_has ls 6 [(0, .ref (ad 0)), (1, .int x1), (2, .int x2)]) : W p l e R s m args below meth c H locs 0 0 Q (F0 m 52 ls []) := by
  obtain ⟨hx, hb, hml, hown, hts, hK, hN, hR⟩ := F
  have F : fxM D cI cZ p R s m args c b_Mo_fault 6 R_Mo 1 22 := ⟨hx, hb, hml, hown, hts, hK, hN, hR⟩
  refine lv_iload_n hx hb d_Mo_fault_52 rfl (lv_at hl 2 rfl) ?_
  refine lv_if_le (tgt := 162) hx hb d_Mo_fault_53 (by decide) (fun hc => ?_) (fun hc => ?_)
  · have hw := hw.1 hc
    obtain ⟨v1, e_v1⟩ : ∃ z, z = x1 + (1 : Int32) := ⟨_, rfl⟩
    have hw := hw v1 e_v1
    refine lv_iinc (k := 1) (lv' := [(1, .int v1), (0, .ref (ad 0)), (2, .int x2)]) hx hb d_Mo_fault_162 hl rfl e_v1.symm (by decide) rfl (fun ls hl => ?_)
    refine lv_goto (tgt := 23) hx hb d_Mo_fault_165 (by decide) ?_
    exact hp23 _ _ H locs ls hw hwd (lv_sub hl [1, 0] rfl)
  · have hw := hw.2 hc
    obtain ⟨v2, e_v2⟩ : ∃ z, z = x2 + (-1 : Int32) := ⟨_, rfl⟩
    have hw := hw v2 e_v2
    refine lv_iinc (k := 2) (lv' := [(2, .int v2), (0, .ref (ad 0)), (1, .int x1)]) hx hb d_Mo_fault_56 hl rfl e_v2.symm (by decide) rfl (fun ls hl => ?_)
    refine lv_aload_n hx hb d_Mo_fault_59 rfl (lv_at hl 1 rfl) ?_
    refine gfM_Mo_35 F hwd d_Mo_fault_60 ?_
    refine lv_iload_n hx hb d_Mo_fault_63 rfl (lv_at hl 0 rfl) ?_
    obtain ⟨hi, hw⟩ := hw
    refine rdM_9 F hwd hi d_Mo_fault_64 ?_
    refine lv_topi (fun v3 e_v3 => ?_)
    have hw := hw v3 e_v3
    refine lv_istore_n (lv' := [(3, .int v3), (2, .int v2), (0, .ref (ad 0)), (1, .int x1)]) hx hb d_Mo_fault_65 rfl hl (by decide) rfl (fun ls hl => ?_)
    refine lv_aload_n hx hb d_Mo_fault_66 rfl (lv_at hl 2 rfl) ?_
    refine gfM_Mo_38 F hwd d_Mo_fault_67 ?_
    refine lv_iload_n hx hb d_Mo_fault_70 rfl (lv_at hl 1 rfl) ?_
    obtain ⟨hi, hw⟩ := hw
    refine rdM_10 F hwd hi d_Mo_fault_71 ?_
    refine lv_topi (fun v4 e_v4 => ?_)
    have hw := hw v4 e_v4
    refine lv_istore (lv' := [(4, .int v4), (3, .int v3), (2, .int v2), (0, .ref (ad 0)), (1, .int x1)]) hx hb d_Mo_fault_72 hl (by decide) rfl (fun ls hl => ?_)
    refine lv_aload_n hx hb d_Mo_fault_74 rfl (lv_at hl 3 rfl) ?_
    refine lv_iload_n hx hb d_Mo_fault_75 rfl (lv_at hl 1 rfl) ?_
    refine lv_iload hx hb d_Mo_fault_76 (lv_at hl 0 rfl) ?_
    refine mcM_Mo_84 F hwd (ct_Mo_wrong _ _ _ _ hw) ⟨Nat.le_trans (by decide) hR.1, Nat.le_trans (by decide) hR.2⟩ hl.1 (Nat.le_of_ble_eq_true rfl) d_Mo_fault_78 (fun v6 g5 H locs hw hwd => ?_)
    refine lv_topi (fun v7 e_v7 => ?_)
    have hw := hw v7 e_v7
    refine lv_istore (lv' := [(5, .int v7), (4, .int v4), (3, .int v3), (2, .int v2), (0, .ref (ad 0)), (1, .int x1)]) hx hb d_Mo_fault_81 hl (by decide) rfl (fun ls hl => ?_)
    refine lv_iload hx hb d_Mo_fault_83 (lv_at hl 0 rfl) ?_
    refine lv_if_eq (tgt := 91) hx hb d_Mo_fault_85 (by decide) (fun hc => ?_) (fun hc => ?_)
    · have hw := hw.1 hc
      refine lv_aload_n hx hb d_Mo_fault_91 rfl (lv_at hl 4 rfl) ?_
      refine gfM_Mo_31 F hwd d_Mo_fault_92 ?_
      refine lv_iload_n hx hb d_Mo_fault_95 rfl (lv_at hl 2 rfl) ?_
      refine lv_iconst (v := 1) hx hb d_Mo_fault_96 (by decide) ?_
      obtain ⟨hi, hw⟩ := hw
      refine wrM_8 F hwd hi rfl d_Mo_fault_97 (fun H locs hwd => ?_)
      obtain ⟨g8, e_g8⟩ : ∃ z : St, z = ar g5 8 v3 (1 : Int32) := ⟨_, rfl⟩
      have hwd : wdM D cI cZ ad A H0 g8 H locs := by rw [e_g8]; exact hwd
      have hw := hw g8 e_g8
      refine lv_aload_n hx hb d_Mo_fault_98 rfl (lv_at hl 4 rfl) ?_
      refine gfM_Mo_7 F hwd d_Mo_fault_99 ?_
      refine lv_iload_n hx hb d_Mo_fault_102 rfl (lv_at hl 2 rfl) ?_
      obtain ⟨hi, hw⟩ := hw
      refine rdM_1 F hwd hi d_Mo_fault_103 ?_
      refine lv_iconst (v := -1) hx hb d_Mo_fault_104 (by decide) ?_
      refine lv_icmp_eq (tgt := 159) hx hb d_Mo_fault_105 (by decide) (fun hc => ?_) (fun hc => ?_)
      · have hw := hw.1 hc
        exact wb_Mo_fault_159 F hret hp23 hp52 hw hwd (lv_sub hl [4, 5, 3, 2, 1, 0] rfl)
      · have hw := hw.2 hc
        refine lv_aload_n hx hb d_Mo_fault_108 rfl (lv_at hl 4 rfl) ?_
        refine gfM_Mo_35 F hwd d_Mo_fault_109 ?_
        refine lv_iload_n hx hb d_Mo_fault_112 rfl (lv_at hl 3 rfl) ?_
        refine lv_aload_n hx hb d_Mo_fault_113 rfl (lv_at hl 4 rfl) ?_
        refine gfM_Mo_22 F hwd d_Mo_fault_114 ?_
        refine lv_iload_n hx hb d_Mo_fault_117 rfl (lv_at hl 2 rfl) ?_
        obtain ⟨hi, hw⟩ := hw
        refine rdM_5 F hwd hi d_Mo_fault_118 ?_
        obtain ⟨hi, hw⟩ := hw
        refine wrM_9 F hwd hi d_Mo_fault_119 (fun H locs hwd => ?_)
        obtain ⟨g9, e_g9⟩ : ∃ z : St, z = ar g8 9 v2 (g8 5 (v3).toNatClampNeg) := ⟨_, rfl⟩
        have hwd : wdM D cI cZ ad A H0 g9 H locs := by rw [e_g9]; exact hwd
        have hw := hw g9 e_g9
        refine lv_aload_n hx hb d_Mo_fault_120 rfl (lv_at hl 4 rfl) ?_
        refine gfM_Mo_38 F hwd d_Mo_fault_121 ?_
        refine lv_iload_n hx hb d_Mo_fault_124 rfl (lv_at hl 3 rfl) ?_
        refine lv_iload hx hb d_Mo_fault_125 (lv_at hl 1 rfl) ?_
        refine lv_iconst (v := 1) hx hb d_Mo_fault_127 (by decide) ?_
        refine lv_iadd hx hb d_Mo_fault_128 ?_
        obtain ⟨hi, hw⟩ := hw
        refine wrM_10 F hwd hi d_Mo_fault_129 (fun H locs hwd => ?_)
        obtain ⟨g10, e_g10⟩ : ∃ z : St, z = ar g9 10 v2 (v4 + (1 : Int32)) := ⟨_, rfl⟩
        have hwd : wdM D cI cZ ad A H0 g10 H locs := by rw [e_g10]; exact hwd
        have hw := hw g10 e_g10
        refine lv_aload_n hx hb d_Mo_fault_130 rfl (lv_at hl 4 rfl) ?_
        refine gfM_Mo_35 F hwd d_Mo_fault_131 ?_
        refine lv_iload_n hx hb d_Mo_fault_134 rfl (lv_at hl 3 rfl) ?_
        refine lv_iconst (v := 1) hx hb d_Mo_fault_135 (by decide) ?_
        refine lv_iadd hx hb d_Mo_fault_136 ?_
        refine lv_aload_n hx hb d_Mo_fault_137 rfl (lv_at hl 4 rfl) ?_
        refine gfM_Mo_19 F hwd d_Mo_fault_138 ?_
        refine lv_iload_n hx hb d_Mo_fault_141 rfl (lv_at hl 2 rfl) ?_
        obtain ⟨hi, hw⟩ := hw
        refine rdM_4 F hwd hi d_Mo_fault_142 ?_
        obtain ⟨hi, hw⟩ := hw
        refine wrM_9 F hwd hi d_Mo_fault_143 (fun H locs hwd => ?_)
        obtain ⟨g11, e_g11⟩ : ∃ z : St, z = ar g10 9 (v2 + (1 : Int32)) (g10 4 (v3).toNatClampNeg) := ⟨_, rfl⟩
        have hwd : wdM D cI cZ ad A H0 g11 H locs := by rw [e_g11]; exact hwd
        have hw := hw g11 e_g11
        refine lv_aload_n hx hb d_Mo_fault_144 rfl (lv_at hl 4 rfl) ?_
        refine gfM_Mo_38 F hwd d_Mo_fault_145 ?_
        refine lv_iload_n hx hb d_Mo_fault_148 rfl (lv_at hl 3 rfl) ?_
        refine lv_iconst (v := 1) hx hb d_Mo_fault_149 (by decide) ?_
        refine lv_iadd hx hb d_Mo_fault_150 ?_
        refine lv_iload hx hb d_Mo_fault_151 (lv_at hl 1 rfl) ?_
        refine lv_iconst (v := 1) hx hb d_Mo_fault_153 (by decide) ?_
        refine lv_iadd hx hb d_Mo_fault_154 ?_
        obtain ⟨hi, hw⟩ := hw
        refine wrM_10 F hwd hi d_Mo_fault_155 (fun H locs hwd => ?_)
        obtain ⟨g12, e_g12⟩ : ∃ z : St, z = ar g11 10 (v2 + (1 : Int32)) (v4 + (1 : Int32)) := ⟨_, rfl⟩
        have hwd : wdM D cI cZ ad A H0 g12 H locs := by rw [e_g12]; exact hwd
        have hw := hw g12 e_g12
        obtain ⟨v13, e_v13⟩ : ∃ z, z = v2 + (2 : Int32) := ⟨_, rfl⟩
        have hw := hw v13 e_v13
        refine lv_iinc (k := 3) (lv' := [(2, .int v13), (5, .int v7), (4, .int v4), (3, .int v3), (0, .ref (ad 0)), (1, .int x1)]) hx hb d_Mo_fault_156 hl rfl e_v13.symm (by decide) rfl (fun ls hl => ?_)
        exact wb_Mo_fault_159 F hret hp23 hp52 hw hwd (lv_sub hl [4, 5, 0, 3, 2, 1] rfl)
    · have hw := hw.2 hc
      refine lv_iload hx hb d_Mo_fault_88 (lv_at hl 0 rfl) ?_
      exact hret _ _ _ _ hw hwd _ _ d_Mo_fault_90

set_option maxHeartbeats 4000000 in
theorem wl_Mo_fault_52 {K : Int32 → St → Prop} {P23 : Int32 → St → Prop} {x1 : Int32} {x2 : Int32} {g : St} (F : fxM D cI cZ p R s m args c b_Mo_fault 6 R_Mo 1 22)
    (hret : rtMI D cI cZ ad p l e R s m args below meth c b_Mo_fault A H0 Q K) (hp23 : ∀ (x1 : Int32) (g : St) (H : Heap) (locs : List Loc) (ls : Array Slot), P23 x1 g → wdM D cI cZ ad A H0 g H locs → lv_has ls 6 [(0, .ref (ad 0)), (1, .int x1)] → W p l e R s m args below meth c H locs 0 0 Q (F0 m 23 ls []))
    (hw : pl_Mo_fault_52 K P23 x1 x2 g)
    (hwd : wdM D cI cZ ad A H0 g H locs) (hl : lv_has ls 6 [(0, .ref (ad 0)), (1, .int x1), (2, .int x2)]) : W p l e R s m args below meth c H locs 0 0 Q (F0 m 52 ls []) := by
  refine hw (fun x1 x2 g => ∀ (H : Heap) (locs : List Loc) (ls : Array Slot), wdM D cI cZ ad A H0 g H locs → lv_has ls 6 [(0, .ref (ad 0)), (1, .int x1), (2, .int x2)] → W p l e R s m args below meth c H locs 0 0 Q (F0 m 52 ls [])) ?_ H locs ls hwd hl
  intro x1 x2 g hw H locs ls hwd hl
  exact wb_Mo_fault_52 F hret hp23 (fun x1 x2 g H locs ls h hwd hl => h H locs ls hwd hl) hw hwd hl

set_option maxHeartbeats 4000000 in
set_option maxRecDepth 100000 in
theorem wb_Mo_fault_23 {K : Int32 → St → Prop} {P23 : Int32 → St → Prop} {x1 : Int32} {g : St} (F : fxM D cI cZ p R s m args c b_Mo_fault 6 R_Mo 1 22)
    (hret : rtMI D cI cZ ad p l e R s m args below meth c b_Mo_fault A H0 Q K) (hp23 : ∀ (x1 : Int32) (g : St) (H : Heap) (locs : List Loc) (ls : Array Slot), P23 x1 g → wdM D cI cZ ad A H0 g H locs → lv_has ls 6 [(0, .ref (ad 0)), (1, .int x1)] → W p l e R s m args below meth c H locs 0 0 Q (F0 m 23 ls []))
    (hw : pb_Mo_fault_23 K P23 x1 g)
    (hwd : wdM D cI cZ ad A H0 g H locs) (hl : lv_has ls 6 [(0, .ref (ad 0)), (1, .int x1)]) : W p l e R s m args below meth c H locs 0 0 Q (F0 m 23 ls []) := by
  obtain ⟨hx, hb, hml, hown, hts, hK, hN, hR⟩ := F
  have F : fxM D cI cZ p R s m args c b_Mo_fault 6 R_Mo 1 22 := ⟨hx, hb, hml, hown, hts, hK, hN, hR⟩
  refine lv_iload_n hx hb d_Mo_fault_23 rfl (lv_at hl 1 rfl) ?_
  refine lv_aload_n hx hb d_Mo_fault_24 rfl (lv_at hl 0 rfl) ?_
  refine gfM_Mo_81 F hwd d_Mo_fault_25 ?_
  refine lv_icmp_ge (tgt := 168) hx hb d_Mo_fault_28 (by decide) (fun hc => ?_) (fun hc => ?_)
  · have hw := hw.1 hc
    refine lv_iconst (v := 0) hx hb d_Mo_fault_168 (by decide) ?_
    exact hret _ _ _ _ hw hwd _ _ d_Mo_fault_169
  · have hw := hw.2 hc
    refine lv_iconst (v := 1) hx hb d_Mo_fault_31 (by decide) ?_
    refine lv_topi (fun v1 e_v1 => ?_)
    have hw := hw v1 e_v1
    refine lv_istore_n (lv' := [(2, .int v1), (0, .ref (ad 0)), (1, .int x1)]) hx hb d_Mo_fault_32 rfl hl (by decide) rfl (fun ls hl => ?_)
    refine lv_aload_n hx hb d_Mo_fault_33 rfl (lv_at hl 1 rfl) ?_
    refine gfM_Mo_35 F hwd d_Mo_fault_34 ?_
    refine lv_iconst (v := 0) hx hb d_Mo_fault_37 (by decide) ?_
    refine lv_aload_n hx hb d_Mo_fault_38 rfl (lv_at hl 1 rfl) ?_
    refine gfM_Mo_25 F hwd d_Mo_fault_39 ?_
    refine lv_iload_n hx hb d_Mo_fault_42 rfl (lv_at hl 2 rfl) ?_
    obtain ⟨hi, hw⟩ := hw
    refine rdM_6 F hwd hi d_Mo_fault_43 ?_
    obtain ⟨hi, hw⟩ := hw
    refine wrM_9 F hwd hi d_Mo_fault_44 (fun H locs hwd => ?_)
    obtain ⟨g2, e_g2⟩ : ∃ z : St, z = ar g 9 (0 : Int32) (g 6 (x1).toNatClampNeg) := ⟨_, rfl⟩
    have hwd : wdM D cI cZ ad A H0 g2 H locs := by rw [e_g2]; exact hwd
    have hw := hw g2 e_g2
    refine lv_aload_n hx hb d_Mo_fault_45 rfl (lv_at hl 1 rfl) ?_
    refine gfM_Mo_38 F hwd d_Mo_fault_46 ?_
    refine lv_iconst (v := 0) hx hb d_Mo_fault_49 (by decide) ?_
    refine lv_iconst (v := 0) hx hb d_Mo_fault_50 (by decide) ?_
    obtain ⟨hi, hw⟩ := hw
    refine wrM_10 F hwd hi d_Mo_fault_51 (fun H locs hwd => ?_)
    obtain ⟨g3, e_g3⟩ : ∃ z : St, z = ar g2 10 (0 : Int32) (0 : Int32) := ⟨_, rfl⟩
    have hwd : wdM D cI cZ ad A H0 g3 H locs := by rw [e_g3]; exact hwd
    have hw := hw g3 e_g3
    exact wl_Mo_fault_52 F hret hp23 hw hwd (lv_sub hl [1, 2, 0] rfl)

set_option maxHeartbeats 4000000 in
theorem wl_Mo_fault_23 {K : Int32 → St → Prop} {x1 : Int32} {g : St} (F : fxM D cI cZ p R s m args c b_Mo_fault 6 R_Mo 1 22)
    (hret : rtMI D cI cZ ad p l e R s m args below meth c b_Mo_fault A H0 Q K)
    (hw : pl_Mo_fault_23 K x1 g)
    (hwd : wdM D cI cZ ad A H0 g H locs) (hl : lv_has ls 6 [(0, .ref (ad 0)), (1, .int x1)]) : W p l e R s m args below meth c H locs 0 0 Q (F0 m 23 ls []) := by
  refine hw (fun x1 g => ∀ (H : Heap) (locs : List Loc) (ls : Array Slot), wdM D cI cZ ad A H0 g H locs → lv_has ls 6 [(0, .ref (ad 0)), (1, .int x1)] → W p l e R s m args below meth c H locs 0 0 Q (F0 m 23 ls [])) ?_ H locs ls hwd hl
  intro x1 g hw H locs ls hwd hl
  exact wb_Mo_fault_23 F hret (fun x1 g H locs ls h hwd hl => h H locs ls hwd hl) hw hwd hl

set_option maxHeartbeats 4000000 in
set_option maxRecDepth 100000 in
theorem wb_Mo_fault_2 {K : Int32 → St → Prop} {P2 : Int32 → St → Prop} {x1 : Int32} {g : St} (F : fxM D cI cZ p R s m args c b_Mo_fault 6 R_Mo 1 22)
    (hret : rtMI D cI cZ ad p l e R s m args below meth c b_Mo_fault A H0 Q K) (hp2 : ∀ (x1 : Int32) (g : St) (H : Heap) (locs : List Loc) (ls : Array Slot), P2 x1 g → wdM D cI cZ ad A H0 g H locs → lv_has ls 6 [(0, .ref (ad 0)), (1, .int x1)] → W p l e R s m args below meth c H locs 0 0 Q (F0 m 2 ls []))
    (hw : pb_Mo_fault_2 K P2 x1 g)
    (hwd : wdM D cI cZ ad A H0 g H locs) (hl : lv_has ls 6 [(0, .ref (ad 0)), (1, .int x1)]) : W p l e R s m args below meth c H locs 0 0 Q (F0 m 2 ls []) := by
  obtain ⟨hx, hb, hml, hown, hts, hK, hN, hR⟩ := F
  have F : fxM D cI cZ p R s m args c b_Mo_fault 6 R_Mo 1 22 := ⟨hx, hb, hml, hown, hts, hK, hN, hR⟩
  refine lv_iload_n hx hb d_Mo_fault_2 rfl (lv_at hl 1 rfl) ?_
  refine lv_bipush (v := 60) hx hb d_Mo_fault_3 (by decide) ?_
  refine lv_icmp_ge (tgt := 21) hx hb d_Mo_fault_5 (by decide) (fun hc => ?_) (fun hc => ?_)
  · have hw := hw.1 hc
    refine lv_iconst (v := 0) hx hb d_Mo_fault_21 (by decide) ?_
    refine lv_topi (fun v1 e_v1 => ?_)
    have hw := hw v1 e_v1
    refine lv_istore_n (lv' := [(1, .int v1), (0, .ref (ad 0))]) hx hb d_Mo_fault_22 rfl hl (by decide) rfl (fun ls hl => ?_)
    exact wl_Mo_fault_23 F hret hw hwd (lv_sub hl [1, 0] rfl)
  · have hw := hw.2 hc
    refine lv_aload_n hx hb d_Mo_fault_8 rfl (lv_at hl 0 rfl) ?_
    refine gfM_Mo_31 F hwd d_Mo_fault_9 ?_
    refine lv_iload_n hx hb d_Mo_fault_12 rfl (lv_at hl 1 rfl) ?_
    refine lv_iconst (v := 0) hx hb d_Mo_fault_13 (by decide) ?_
    obtain ⟨hi, hw⟩ := hw
    refine wrM_8 F hwd hi rfl d_Mo_fault_14 (fun H locs hwd => ?_)
    obtain ⟨g2, e_g2⟩ : ∃ z : St, z = ar g 8 x1 (0 : Int32) := ⟨_, rfl⟩
    have hwd : wdM D cI cZ ad A H0 g2 H locs := by rw [e_g2]; exact hwd
    have hw := hw g2 e_g2
    obtain ⟨v3, e_v3⟩ : ∃ z, z = x1 + (1 : Int32) := ⟨_, rfl⟩
    have hw := hw v3 e_v3
    refine lv_iinc (k := 1) (lv' := [(1, .int v3), (0, .ref (ad 0))]) hx hb d_Mo_fault_15 hl rfl e_v3.symm (by decide) rfl (fun ls hl => ?_)
    refine lv_goto (tgt := 2) hx hb d_Mo_fault_18 (by decide) ?_
    exact hp2 _ _ H locs ls hw hwd (lv_sub hl [1, 0] rfl)

set_option maxHeartbeats 4000000 in
theorem wl_Mo_fault_2 {K : Int32 → St → Prop} {x1 : Int32} {g : St} (F : fxM D cI cZ p R s m args c b_Mo_fault 6 R_Mo 1 22)
    (hret : rtMI D cI cZ ad p l e R s m args below meth c b_Mo_fault A H0 Q K)
    (hw : pl_Mo_fault_2 K x1 g)
    (hwd : wdM D cI cZ ad A H0 g H locs) (hl : lv_has ls 6 [(0, .ref (ad 0)), (1, .int x1)]) : W p l e R s m args below meth c H locs 0 0 Q (F0 m 2 ls []) := by
  refine hw (fun x1 g => ∀ (H : Heap) (locs : List Loc) (ls : Array Slot), wdM D cI cZ ad A H0 g H locs → lv_has ls 6 [(0, .ref (ad 0)), (1, .int x1)] → W p l e R s m args below meth c H locs 0 0 Q (F0 m 2 ls [])) ?_ H locs ls hwd hl
  intro x1 g hw H locs ls hwd hl
  exact wb_Mo_fault_2 F hret (fun x1 g H locs ls h hwd hl => h H locs ls hwd hl) hw hwd hl

set_option maxHeartbeats 4000000 in
set_option maxRecDepth 100000 in
theorem wb_Mo_fault_0 {K : Int32 → St → Prop} {g : St} (F : fxM D cI cZ p R s m args c b_Mo_fault 6 R_Mo 1 22)
    (hret : rtMI D cI cZ ad p l e R s m args below meth c b_Mo_fault A H0 Q K)
    (hw : pb_Mo_fault_0 K g)
    (hwd : wdM D cI cZ ad A H0 g H locs) (hl : lv_has ls 6 [(0, .ref (ad 0))]) : W p l e R s m args below meth c H locs 0 0 Q (F0 m 0 ls []) := by
  obtain ⟨hx, hb, hml, hown, hts, hK, hN, hR⟩ := F
  have F : fxM D cI cZ p R s m args c b_Mo_fault 6 R_Mo 1 22 := ⟨hx, hb, hml, hown, hts, hK, hN, hR⟩
  refine lv_iconst (v := 0) hx hb d_Mo_fault_0 (by decide) ?_
  refine lv_topi (fun v1 e_v1 => ?_)
  have hw := hw v1 e_v1
  refine lv_istore_n (lv' := [(1, .int v1), (0, .ref (ad 0))]) hx hb d_Mo_fault_1 rfl hl (by decide) rfl (fun ls hl => ?_)
  exact wl_Mo_fault_2 F hret hw hwd (lv_sub hl [1, 0] rfl)

theorem ct_Mo_fault {l : Launch} {D : va_G} {cI cZ : ClassId} {ad : Nat → Nat} (g : St) (K : Int32 → St → Prop) (h : pc_Mo_fault g K) : ctMI l y_Mo_fault b_Mo_fault 6 1 22 D cI cZ ad [.ref (ad 0)] g K :=
  enMI (by decide) (Nat.le_of_ble_eq_true rfl) (fun p e s m args below meth c A H0 ls Q F hwd hl hret => wb_Mo_fault_0 F hret h hwd hl)

set_option maxHeartbeats 4000000 in
set_option maxRecDepth 100000 in
theorem wb_Mo_part_0 {K : Int32 → St → Prop} {x1 : Int32} {g : St} (F : fxM D cI cZ p R s m args c b_Mo_part 2 R_Mo 0 0)
    (hret : rtMI D cI cZ ad p l e R s m args below meth c b_Mo_part A H0 Q K)
    (hw : pb_Mo_part_0 K x1 g)
    (hwd : wdM D cI cZ ad A H0 g H locs) (hl : lv_has ls 2 [(0, .ref (ad 0)), (1, .int x1)]) : W p l e R s m args below meth c H locs 0 0 Q (F0 m 0 ls []) := by
  obtain ⟨hx, hb, hml, hown, hts, hK, hN, hR⟩ := F
  have F : fxM D cI cZ p R s m args c b_Mo_part 2 R_Mo 0 0 := ⟨hx, hb, hml, hown, hts, hK, hN, hR⟩
  refine lv_aload_n hx hb d_Mo_part_0 rfl (lv_at hl 0 rfl) ?_
  refine gfM_Mo_47 F hwd d_Mo_part_1 ?_
  refine lv_iload_n hx hb d_Mo_part_4 rfl (lv_at hl 1 rfl) ?_
  obtain ⟨hi, hw⟩ := hw
  refine rdM_13 F hwd hi d_Mo_part_5 ?_
  refine lv_if_lt (tgt := 13) hx hb d_Mo_part_6 (by decide) (fun hc => ?_) (fun hc => ?_)
  · have hw := hw.1 hc
    refine lv_aload_n hx hb d_Mo_part_13 rfl (lv_at hl 0 rfl) ?_
    refine gfM_Mo_44 F hwd d_Mo_part_14 ?_
    refine lv_iload_n hx hb d_Mo_part_17 rfl (lv_at hl 1 rfl) ?_
    obtain ⟨hi, hw⟩ := hw
    refine rdM_12 F hwd hi d_Mo_part_18 ?_
    exact hret _ _ _ _ hw hwd _ _ d_Mo_part_19
  · have hw := hw.2 hc
    refine lv_iconst (v := 3) hx hb d_Mo_part_9 (by decide) ?_
    refine lv_goto (tgt := 19) hx hb d_Mo_part_10 (by decide) ?_
    exact hret _ _ _ _ hw hwd _ _ d_Mo_part_19

theorem ct_Mo_part {l : Launch} {D : va_G} {cI cZ : ClassId} {ad : Nat → Nat} (x1 : Int32) (g : St) (K : Int32 → St → Prop) (h : pc_Mo_part x1 g K) : ctMI l y_Mo_part b_Mo_part 2 0 0 D cI cZ ad [.ref (ad 0), .int x1] g K :=
  enMI (by decide) (Nat.le_of_ble_eq_true rfl) (fun p e s m args below meth c A H0 ls Q F hwd hl hret => wb_Mo_part_0 F hret h hwd hl)

set_option maxHeartbeats 4000000 in
set_option maxRecDepth 100000 in
theorem wb_Mo_far_0 {K : Int32 → St → Prop} {x1 : Int32} {g : St} (F : fxM D cI cZ p R s m args c b_Mo_far 3 R_Mo 1 21)
    (hret : rtMI D cI cZ ad p l e R s m args below meth c b_Mo_far A H0 Q K)
    (hw : pb_Mo_far_0 K x1 g)
    (hwd : wdM D cI cZ ad A H0 g H locs) (hl : lv_has ls 3 [(0, .ref (ad 0)), (1, .int x1)]) : W p l e R s m args below meth c H locs 0 0 Q (F0 m 0 ls []) := by
  obtain ⟨hx, hb, hml, hown, hts, hK, hN, hR⟩ := F
  have F : fxM D cI cZ p R s m args c b_Mo_far 3 R_Mo 1 21 := ⟨hx, hb, hml, hown, hts, hK, hN, hR⟩
  refine lv_iconst (v := 2) hx hb d_Mo_far_0 (by decide) ?_
  refine lv_aload_n hx hb d_Mo_far_1 rfl (lv_at hl 0 rfl) ?_
  refine lv_aload_n hx hb d_Mo_far_2 rfl (lv_at hl 0 rfl) ?_
  refine gfM_Mo_19 F hwd d_Mo_far_3 ?_
  refine lv_iload_n hx hb d_Mo_far_6 rfl (lv_at hl 1 rfl) ?_
  obtain ⟨hi, hw⟩ := hw
  refine rdM_4 F hwd hi d_Mo_far_7 ?_
  refine mcM_Mo_88 F hwd (ct_Mo_part _ _ _ hw) ⟨Nat.le_trans (by decide) hR.1, Nat.le_trans (by decide) hR.2⟩ hl.1 (Nat.le_of_ble_eq_true rfl) d_Mo_far_8 (fun v2 g1 H locs hw hwd => ?_)
  refine lv_iadd hx hb d_Mo_far_11 ?_
  refine lv_topi (fun v3 e_v3 => ?_)
  have hw := hw v3 e_v3
  refine lv_istore_n (lv' := [(2, .int v3), (0, .ref (ad 0)), (1, .int x1)]) hx hb d_Mo_far_12 rfl hl (by decide) rfl (fun ls hl => ?_)
  refine lv_iload_n hx hb d_Mo_far_13 rfl (lv_at hl 0 rfl) ?_
  refine lv_bipush (v := 63) hx hb d_Mo_far_14 (by decide) ?_
  refine lv_icmp_gt (tgt := 23) hx hb d_Mo_far_16 (by decide) (fun hc => ?_) (fun hc => ?_)
  · have hw := hw.1 hc
    refine lv_iload_n hx hb d_Mo_far_23 rfl (lv_at hl 0 rfl) ?_
    refine lv_iconst (v := 1) hx hb d_Mo_far_24 (by decide) ?_
    refine lv_iadd hx hb d_Mo_far_25 ?_
    exact hret _ _ _ _ hw hwd _ _ d_Mo_far_26
  · have hw := hw.2 hc
    refine lv_iload_n hx hb d_Mo_far_19 rfl (lv_at hl 0 rfl) ?_
    refine lv_goto (tgt := 26) hx hb d_Mo_far_20 (by decide) ?_
    exact hret _ _ _ _ hw hwd _ _ d_Mo_far_26

theorem ct_Mo_far {l : Launch} {D : va_G} {cI cZ : ClassId} {ad : Nat → Nat} (x1 : Int32) (g : St) (K : Int32 → St → Prop) (h : pc_Mo_far x1 g K) : ctMI l y_Mo_far b_Mo_far 3 1 21 D cI cZ ad [.ref (ad 0), .int x1] g K :=
  enMI (by decide) (Nat.le_of_ble_eq_true rfl) (fun p e s m args below meth c A H0 ls Q F hwd hl hret => wb_Mo_far_0 F hret h hwd hl)

set_option maxHeartbeats 4000000 in
set_option maxRecDepth 100000 in
theorem wb_Mo_bytesOf_0 {K : Int32 → St → Prop} {x1 : Int32} {g : St} (F : fxM D cI cZ p R s m args c b_Mo_bytesOf 2 R_Mo 2 43)
    (hret : rtMI D cI cZ ad p l e R s m args below meth c b_Mo_bytesOf A H0 Q K)
    (hw : pb_Mo_bytesOf_0 K x1 g)
    (hwd : wdM D cI cZ ad A H0 g H locs) (hl : lv_has ls 2 [(0, .ref (ad 0)), (1, .int x1)]) : W p l e R s m args below meth c H locs 0 0 Q (F0 m 0 ls []) := by
  obtain ⟨hx, hb, hml, hown, hts, hK, hN, hR⟩ := F
  have F : fxM D cI cZ p R s m args c b_Mo_bytesOf 2 R_Mo 2 43 := ⟨hx, hb, hml, hown, hts, hK, hN, hR⟩
  refine lv_iconst (v := 4) hx hb d_Mo_bytesOf_0 (by decide) ?_
  refine lv_aload_n hx hb d_Mo_bytesOf_1 rfl (lv_at hl 0 rfl) ?_
  refine lv_iload_n hx hb d_Mo_bytesOf_2 rfl (lv_at hl 1 rfl) ?_
  refine mcM_Mo_92 F hwd (ct_Mo_far _ _ _ hw) ⟨Nat.le_trans (by decide) hR.1, Nat.le_trans (by decide) hR.2⟩ hl.1 (Nat.le_of_ble_eq_true rfl) d_Mo_bytesOf_3 (fun v2 g1 H locs hw hwd => ?_)
  refine lv_iadd hx hb d_Mo_bytesOf_6 ?_
  refine lv_aload_n hx hb d_Mo_bytesOf_7 rfl (lv_at hl 0 rfl) ?_
  refine lv_aload_n hx hb d_Mo_bytesOf_8 rfl (lv_at hl 0 rfl) ?_
  refine gfM_Mo_22 F hwd d_Mo_bytesOf_9 ?_
  refine lv_iload_n hx hb d_Mo_bytesOf_12 rfl (lv_at hl 1 rfl) ?_
  obtain ⟨hi, hw⟩ := hw
  refine rdM_5 F hwd hi d_Mo_bytesOf_13 ?_
  refine mcM_Mo_88 F hwd (ct_Mo_part _ _ _ hw) ⟨Nat.le_trans (by decide) hR.1, Nat.le_trans (by decide) hR.2⟩ hl.1 (Nat.le_of_ble_eq_true rfl) d_Mo_bytesOf_14 (fun v4 g3 H locs hw hwd => ?_)
  refine lv_iadd hx hb d_Mo_bytesOf_17 ?_
  exact hret _ _ _ _ hw hwd _ _ d_Mo_bytesOf_18

theorem ct_Mo_bytesOf {l : Launch} {D : va_G} {cI cZ : ClassId} {ad : Nat → Nat} (x1 : Int32) (g : St) (K : Int32 → St → Prop) (h : pc_Mo_bytesOf x1 g K) : ctMI l y_Mo_bytesOf b_Mo_bytesOf 2 2 43 D cI cZ ad [.ref (ad 0), .int x1] g K :=
  enMI (by decide) (Nat.le_of_ble_eq_true rfl) (fun p e s m args below meth c A H0 ls Q F hwd hl hret => wb_Mo_bytesOf_0 F hret h hwd hl)

set_option maxHeartbeats 4000000 in
set_option maxRecDepth 100000 in
theorem wb_Mo_newMethod_0 {K : St → Prop} {x1 : Int32} {g : St} (F : fxM D cI cZ p R s m args c b_Mo_newMethod 2 R_Mo 0 0)
    (hret : rtMV D cI cZ ad p l e R s m args below meth c b_Mo_newMethod A H0 Q K)
    (hw : pb_Mo_newMethod_0 K x1 g)
    (hwd : wdM D cI cZ ad A H0 g H locs) (hl : lv_has ls 2 [(0, .ref (ad 0)), (1, .int x1)]) : W p l e R s m args below meth c H locs 0 0 Q (F0 m 0 ls []) := by
  obtain ⟨hx, hb, hml, hown, hts, hK, hN, hR⟩ := F
  have F : fxM D cI cZ p R s m args c b_Mo_newMethod 2 R_Mo 0 0 := ⟨hx, hb, hml, hown, hts, hK, hN, hR⟩
  refine lv_aload_n hx hb d_Mo_newMethod_0 rfl (lv_at hl 0 rfl) ?_
  refine gfM_Mo_56 F hwd d_Mo_newMethod_1 ?_
  refine lv_aload_n hx hb d_Mo_newMethod_4 rfl (lv_at hl 0 rfl) ?_
  refine gfM_Mo_95 F hwd d_Mo_newMethod_5 ?_
  refine lv_iload_n hx hb d_Mo_newMethod_8 rfl (lv_at hl 1 rfl) ?_
  obtain ⟨hi, hw⟩ := hw
  refine wrM_16 F hwd hi d_Mo_newMethod_9 (fun H locs hwd => ?_)
  obtain ⟨g1, e_g1⟩ : ∃ z : St, z = ar g 16 (g 103 0) x1 := ⟨_, rfl⟩
  have hwd : wdM D cI cZ ad A H0 g1 H locs := by rw [e_g1]; exact hwd
  have hw := hw g1 e_g1
  refine lv_aload_n hx hb d_Mo_newMethod_10 rfl (lv_at hl 0 rfl) ?_
  refine lv_dup hx hb d_Mo_newMethod_11 rfl ?_
  refine gfM_Mo_95 F hwd d_Mo_newMethod_12 ?_
  refine lv_iconst (v := 1) hx hb d_Mo_newMethod_15 (by decide) ?_
  refine lv_iadd hx hb d_Mo_newMethod_16 ?_
  refine pfM_Mo_95 F hwd d_Mo_newMethod_17 (fun H locs hwd => ?_)
  obtain ⟨g2, e_g2⟩ : ∃ z : St, z = sc g1 103 ((g1 103 0) + (1 : Int32)) := ⟨_, rfl⟩
  have hwd : wdM D cI cZ ad A H0 g2 H locs := by rw [e_g2]; exact hwd
  have hw := hw g2 e_g2
  exact hret _ _ _ hw hwd _ _ d_Mo_newMethod_20

theorem ct_Mo_newMethod {l : Launch} {D : va_G} {cI cZ : ClassId} {ad : Nat → Nat} (x1 : Int32) (g : St) (K : St → Prop) (h : pc_Mo_newMethod x1 g K) : ctMV l y_Mo_newMethod b_Mo_newMethod 2 0 0 D cI cZ ad [.ref (ad 0), .int x1] g K :=
  enMV (by decide) (Nat.le_of_ble_eq_true rfl) (fun p e s m args below meth c A H0 ls Q F hwd hl hret => wb_Mo_newMethod_0 F hret h hwd hl)

set_option maxHeartbeats 4000000 in
set_option maxRecDepth 100000 in
theorem wb_Mo_cutOut_0 {K : St → Prop} {x1 : Int32} {g : St} (F : fxM D cI cZ p R s m args c b_Mo_cutOut 2 R_Mo 1 21)
    (hret : rtMV D cI cZ ad p l e R s m args below meth c b_Mo_cutOut A H0 Q K)
    (hw : pb_Mo_cutOut_0 K x1 g)
    (hwd : wdM D cI cZ ad A H0 g H locs) (hl : lv_has ls 2 [(0, .ref (ad 0)), (1, .int x1)]) : W p l e R s m args below meth c H locs 0 0 Q (F0 m 0 ls []) := by
  obtain ⟨hx, hb, hml, hown, hts, hK, hN, hR⟩ := F
  have F : fxM D cI cZ p R s m args c b_Mo_cutOut 2 R_Mo 1 21 := ⟨hx, hb, hml, hown, hts, hK, hN, hR⟩
  refine lv_aload_n hx hb d_Mo_cutOut_0 rfl (lv_at hl 0 rfl) ?_
  refine gfM_Mo_47 F hwd d_Mo_cutOut_1 ?_
  refine lv_iload_n hx hb d_Mo_cutOut_4 rfl (lv_at hl 1 rfl) ?_
  refine lv_aload_n hx hb d_Mo_cutOut_5 rfl (lv_at hl 0 rfl) ?_
  refine gfM_Mo_95 F hwd d_Mo_cutOut_6 ?_
  obtain ⟨hi, hw⟩ := hw
  refine wrM_13 F hwd hi d_Mo_cutOut_9 (fun H locs hwd => ?_)
  obtain ⟨g1, e_g1⟩ : ∃ z : St, z = ar g 13 x1 (g 103 0) := ⟨_, rfl⟩
  have hwd : wdM D cI cZ ad A H0 g1 H locs := by rw [e_g1]; exact hwd
  have hw := hw g1 e_g1
  refine lv_aload_n hx hb d_Mo_cutOut_10 rfl (lv_at hl 0 rfl) ?_
  refine lv_iload_n hx hb d_Mo_cutOut_11 rfl (lv_at hl 1 rfl) ?_
  refine mcM_Mo_98 F hwd (ct_Mo_newMethod _ _ _ hw) ⟨Nat.le_trans (by decide) hR.1, Nat.le_trans (by decide) hR.2⟩ hl.1 (Nat.le_of_ble_eq_true rfl) d_Mo_cutOut_12 (fun g2 H locs hw hwd => ?_)
  exact hret _ _ _ hw hwd _ _ d_Mo_cutOut_15

theorem ct_Mo_cutOut {l : Launch} {D : va_G} {cI cZ : ClassId} {ad : Nat → Nat} (x1 : Int32) (g : St) (K : St → Prop) (h : pc_Mo_cutOut x1 g K) : ctMV l y_Mo_cutOut b_Mo_cutOut 2 1 21 D cI cZ ad [.ref (ad 0), .int x1] g K :=
  enMV (by decide) (Nat.le_of_ble_eq_true rfl) (fun p e s m args below meth c A H0 ls Q F hwd hl hret => wb_Mo_cutOut_0 F hret h hwd hl)
end WALKM0
