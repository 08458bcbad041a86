section WALKC3
variable {p : Program} {l : Launch} {e : Env} {R : Room} {s : State} {m : MethodId} {args : Array Value} {below : List Frame} {meth : Method} {c : Code} {H : Heap} {locs : List Loc} {Q : State → Prop}
variable {D : va_G} {cI cZ : ClassId} {ad : Nat → Nat} {A : Nat → Prop} {H0 : Heap} {ls : Array Slot}
set_option maxHeartbeats 4000000 in
set_option maxRecDepth 100000 in
theorem wb_Ru_wholeOf_0 {K : Int32 → St → Prop} {x0 : Int32} {g : St} (F : fxC D cI cZ p R s m args c b_Ru_wholeOf 4 R_Ru 0 0)
    (hret : rtCI D cI cZ ad p l e R s m args below meth c b_Ru_wholeOf A H0 Q K)
    (hw : pb_Ru_wholeOf_0 K x0 g)
    (hwd : wdC D cI cZ ad A H0 g H locs) (hl : lv_has ls 4 [(0, .int x0)]) : W p l e R s m args below meth c H locs 0 0 Q (F0 m 0 ls []) := by
  obtain ⟨hx, hb, hml, hown, hts, hK, hN, hR⟩ := F
  have F : fxC D cI cZ p R s m args c b_Ru_wholeOf 4 R_Ru 0 0 := ⟨hx, hb, hml, hown, hts, hK, hN, hR⟩
  refine lv_iload_n hx hb d_Ru_wholeOf_0 rfl (lv_at hl 0 rfl) ?_
  refine lv_ldc (v := 2147483647) hx hb hown (hts _ kC_0) d_Ru_wholeOf_1 ?_
  refine lv_iand hx hb d_Ru_wholeOf_3 ?_
  refine lv_if_ne (tgt := 9) hx hb d_Ru_wholeOf_4 (by decide) (fun hc => ?_) (fun hc => ?_)
  · have hw := hw.1 hc
    refine lv_iload_n hx hb d_Ru_wholeOf_9 rfl (lv_at hl 0 rfl) ?_
    refine lv_bipush (v := 23) hx hb d_Ru_wholeOf_10 (by decide) ?_
    refine lv_iushr hx hb d_Ru_wholeOf_12 rfl ?_
    refine lv_bipush (v := 127) hx hb d_Ru_wholeOf_13 (by decide) ?_
    refine lv_isub hx hb d_Ru_wholeOf_15 ?_
    refine lv_topi (fun v1 e_v1 => ?_)
    have hw := hw v1 e_v1
    refine lv_istore_n (lv' := [(1, .int v1), (0, .int x0)]) hx hb d_Ru_wholeOf_16 rfl hl (by decide) rfl (fun ls hl => ?_)
    refine lv_iload_n hx hb d_Ru_wholeOf_17 rfl (lv_at hl 0 rfl) ?_
    refine lv_if_lt (tgt := 26) hx hb d_Ru_wholeOf_18 (by decide) (fun hc => ?_) (fun hc => ?_)
    · have hw := hw.1 hc
      refine lv_iconst (v := -1) hx hb d_Ru_wholeOf_26 (by decide) ?_
      exact hret _ _ _ _ hw hwd _ _ d_Ru_wholeOf_27
    · have hw := hw.2 hc
      refine lv_iload_n hx hb d_Ru_wholeOf_21 rfl (lv_at hl 0 rfl) ?_
      refine lv_iconst (v := 4) hx hb d_Ru_wholeOf_22 (by decide) ?_
      refine lv_icmp_le (tgt := 28) hx hb d_Ru_wholeOf_23 (by decide) (fun hc => ?_) (fun hc => ?_)
      · have hw := hw.1 hc
        refine lv_iload_n hx hb d_Ru_wholeOf_28 rfl (lv_at hl 1 rfl) ?_
        refine lv_ldc (v := 8388607) hx hb hown (hts _ kC_4) d_Ru_wholeOf_29 ?_
        refine lv_iand hx hb d_Ru_wholeOf_31 ?_
        refine lv_ldc (v := 8388608) hx hb hown (hts _ kC_5) d_Ru_wholeOf_32 ?_
        refine lv_ior hx hb d_Ru_wholeOf_34 ?_
        refine lv_topi (fun v2 e_v2 => ?_)
        have hw := hw v2 e_v2
        refine lv_istore_n (lv' := [(2, .int v2), (1, .int v1), (0, .int x0)]) hx hb d_Ru_wholeOf_35 rfl hl (by decide) rfl (fun ls hl => ?_)
        refine lv_iload_n hx hb d_Ru_wholeOf_36 rfl (lv_at hl 0 rfl) ?_
        refine lv_bipush (v := 23) hx hb d_Ru_wholeOf_37 (by decide) ?_
        refine lv_iload_n hx hb d_Ru_wholeOf_39 rfl (lv_at hl 1 rfl) ?_
        refine lv_isub hx hb d_Ru_wholeOf_40 ?_
        refine lv_ishr hx hb d_Ru_wholeOf_41 ?_
        refine lv_topi (fun v3 e_v3 => ?_)
        have hw := hw v3 e_v3
        refine lv_istore_n (lv' := [(3, .int v3), (2, .int v2), (1, .int v1), (0, .int x0)]) hx hb d_Ru_wholeOf_42 rfl hl (by decide) rfl (fun ls hl => ?_)
        refine lv_iload_n hx hb d_Ru_wholeOf_43 rfl (lv_at hl 0 rfl) ?_
        refine lv_bipush (v := 23) hx hb d_Ru_wholeOf_44 (by decide) ?_
        refine lv_iload_n hx hb d_Ru_wholeOf_46 rfl (lv_at hl 2 rfl) ?_
        refine lv_isub hx hb d_Ru_wholeOf_47 ?_
        refine lv_ishl hx hb d_Ru_wholeOf_48 ?_
        refine lv_iload_n hx hb d_Ru_wholeOf_49 rfl (lv_at hl 1 rfl) ?_
        refine lv_icmp_ne (tgt := 57) hx hb d_Ru_wholeOf_50 (by decide) (fun hc => ?_) (fun hc => ?_)
        · have hw := hw.1 hc
          refine lv_iconst (v := -1) hx hb d_Ru_wholeOf_57 (by decide) ?_
          exact hret _ _ _ _ hw hwd _ _ d_Ru_wholeOf_58
        · have hw := hw.2 hc
          refine lv_iload_n hx hb d_Ru_wholeOf_53 rfl (lv_at hl 0 rfl) ?_
          refine lv_goto (tgt := 58) hx hb d_Ru_wholeOf_54 (by decide) ?_
          exact hret _ _ _ _ hw hwd _ _ d_Ru_wholeOf_58
      · have hw := hw.2 hc
        refine lv_iconst (v := -1) hx hb d_Ru_wholeOf_26 (by decide) ?_
        exact hret _ _ _ _ hw hwd _ _ d_Ru_wholeOf_27
  · have hw := hw.2 hc
    refine lv_iconst (v := 0) hx hb d_Ru_wholeOf_7 (by decide) ?_
    exact hret _ _ _ _ hw hwd _ _ d_Ru_wholeOf_8

theorem ct_Ru_wholeOf {l : Launch} {D : va_G} {cI cZ : ClassId} {ad : Nat → Nat} (x0 : Int32) (g : St) (K : Int32 → St → Prop) (h : pc_Ru_wholeOf x0 g K) : ctCI l y_Ru_wholeOf b_Ru_wholeOf 4 0 0 D cI cZ ad [.int x0] g K :=
  enCI (by decide) (Nat.le_of_ble_eq_true rfl) (fun p e s m args below meth c A H0 ls Q F hwd hl hret => wb_Ru_wholeOf_0 F hret h hwd hl)

set_option maxHeartbeats 4000000 in
set_option maxRecDepth 100000 in
theorem wb_Ru_orderOf_0 {K : Int32 → St → Prop} {x0 : Int32} {g : St} (F : fxC D cI cZ p R s m args c b_Ru_orderOf 1 R_Ru 0 0)
    (hret : rtCI D cI cZ ad p l e R s m args below meth c b_Ru_orderOf A H0 Q K)
    (hw : pb_Ru_orderOf_0 K x0 g)
    (hwd : wdC D cI cZ ad A H0 g H locs) (hl : lv_has ls 1 [(0, .int x0)]) : W p l e R s m args below meth c H locs 0 0 Q (F0 m 0 ls []) := by
  obtain ⟨hx, hb, hml, hown, hts, hK, hN, hR⟩ := F
  have F : fxC D cI cZ p R s m args c b_Ru_orderOf 1 R_Ru 0 0 := ⟨hx, hb, hml, hown, hts, hK, hN, hR⟩
  refine lv_iload_n hx hb d_Ru_orderOf_0 rfl (lv_at hl 0 rfl) ?_
  refine lv_if_lt (tgt := 8) hx hb d_Ru_orderOf_1 (by decide) (fun hc => ?_) (fun hc => ?_)
  · have hw := hw.1 hc
    refine lv_iload_n hx hb d_Ru_orderOf_8 rfl (lv_at hl 0 rfl) ?_
    refine lv_ldc (v := 2147483647) hx hb hown (hts _ kC_0) d_Ru_orderOf_9 ?_
    refine lv_iand hx hb d_Ru_orderOf_11 ?_
    refine lv_ineg hx hb d_Ru_orderOf_12 ?_
    exact hret _ _ _ _ hw hwd _ _ d_Ru_orderOf_13
  · have hw := hw.2 hc
    refine lv_iload_n hx hb d_Ru_orderOf_4 rfl (lv_at hl 0 rfl) ?_
    refine lv_goto (tgt := 13) hx hb d_Ru_orderOf_5 (by decide) ?_
    exact hret _ _ _ _ hw hwd _ _ d_Ru_orderOf_13

theorem ct_Ru_orderOf {l : Launch} {D : va_G} {cI cZ : ClassId} {ad : Nat → Nat} (x0 : Int32) (g : St) (K : Int32 → St → Prop) (h : pc_Ru_orderOf x0 g K) : ctCI l y_Ru_orderOf b_Ru_orderOf 1 0 0 D cI cZ ad [.int x0] g K :=
  enCI (by decide) (Nat.le_of_ble_eq_true rfl) (fun p e s m args below meth c A H0 ls Q F hwd hl hret => wb_Ru_orderOf_0 F hret h hwd hl)

set_option maxHeartbeats 4000000 in
set_option maxRecDepth 100000 in
theorem wb_Ru_goesToYes_0 {K : Int32 → St → Prop} {x0 : Int32} {x1 : Int32} {x2 : Int32} {g : St} (F : fxC D cI cZ p R s m args c b_Ru_goesToYes 4 R_Ru 1 23)
    (hret : rtCZ D cI cZ ad p l e R s m args below meth c b_Ru_goesToYes A H0 Q K)
    (hw : pb_Ru_goesToYes_0 K x0 x1 x2 g)
    (hwd : wdC D cI cZ ad A H0 g H locs) (hl : lv_has ls 4 [(0, .int x0), (1, .int x1), (2, .int x2)]) : W p l e R s m args below meth c H locs 0 0 Q (F0 m 0 ls []) := by
  obtain ⟨hx, hb, hml, hown, hts, hK, hN, hR⟩ := F
  have F : fxC D cI cZ p R s m args c b_Ru_goesToYes 4 R_Ru 1 23 := ⟨hx, hb, hml, hown, hts, hK, hN, hR⟩
  refine lv_iload_n hx hb d_Ru_goesToYes_0 rfl (lv_at hl 1 rfl) ?_
  refine lv_ldc (v := 2147483647) hx hb hown (hts _ kC_0) d_Ru_goesToYes_1 ?_
  refine lv_iand hx hb d_Ru_goesToYes_3 ?_
  refine lv_ldc (v := 2139095040) hx hb hown (hts _ kC_1) d_Ru_goesToYes_4 ?_
  refine lv_icmp_le (tgt := 22) hx hb d_Ru_goesToYes_6 (by decide) (fun hc => ?_) (fun hc => ?_)
  · have hw := hw.1 hc
    refine lv_iload_n hx hb d_Ru_goesToYes_22 rfl (lv_at hl 0 rfl) ?_
    refine mcC_Ru_9 F hwd (ct_Ru_isBitRule _ _ _ hw) ⟨Nat.le_trans (by decide) hR.1, Nat.le_trans (by decide) hR.2⟩ hl.1 (Nat.le_of_ble_eq_true rfl) d_Ru_goesToYes_23 (fun v2 g1 H locs hw hwd => ?_)
    refine lv_if_eq (tgt := 54) hx hb d_Ru_goesToYes_26 (by decide) (fun hc => ?_) (fun hc => ?_)
    · have hw := hw.1 hc
      refine lv_iload_n hx hb d_Ru_goesToYes_54 rfl (lv_at hl 0 rfl) ?_
      refine lv_iconst (v := 2) hx hb d_Ru_goesToYes_55 (by decide) ?_
      refine lv_icmp_ge (tgt := 78) hx hb d_Ru_goesToYes_56 (by decide) (fun hc => ?_) (fun hc => ?_)
      · have hw := hw.1 hc
        refine lv_iload_n hx hb d_Ru_goesToYes_78 rfl (lv_at hl 1 rfl) ?_
        refine mcC_Ru_21 F hwd (ct_Ru_orderOf _ _ _ hw) ⟨Nat.le_trans (by decide) hR.1, Nat.le_trans (by decide) hR.2⟩ hl.1 (Nat.le_of_ble_eq_true rfl) d_Ru_goesToYes_79 (fun v4 g3 H locs hw hwd => ?_)
        refine lv_iload_n hx hb d_Ru_goesToYes_82 rfl (lv_at hl 2 rfl) ?_
        refine mcC_Ru_21 F hwd (ct_Ru_orderOf _ _ _ hw) ⟨Nat.le_trans (by decide) hR.1, Nat.le_trans (by decide) hR.2⟩ hl.1 (Nat.le_of_ble_eq_true rfl) d_Ru_goesToYes_83 (fun v6 g5 H locs hw hwd => ?_)
        refine lv_icmp_gt (tgt := 93) hx hb d_Ru_goesToYes_86 (by decide) (fun hc => ?_) (fun hc => ?_)
        · have hw := hw.1 hc
          refine lv_iconst (v := 0) hx hb d_Ru_goesToYes_93 (by decide) ?_
          exact hret _ _ _ _ hw (by decide) hwd _ _ d_Ru_goesToYes_94
        · have hw := hw.2 hc
          refine lv_iconst (v := 1) hx hb d_Ru_goesToYes_89 (by decide) ?_
          refine lv_goto (tgt := 94) hx hb d_Ru_goesToYes_90 (by decide) ?_
          exact hret _ _ _ _ hw (by decide) hwd _ _ d_Ru_goesToYes_94
      · have hw := hw.2 hc
        refine lv_iload_n hx hb d_Ru_goesToYes_59 rfl (lv_at hl 1 rfl) ?_
        refine mcC_Ru_21 F hwd (ct_Ru_orderOf _ _ _ hw) ⟨Nat.le_trans (by decide) hR.1, Nat.le_trans (by decide) hR.2⟩ hl.1 (Nat.le_of_ble_eq_true rfl) d_Ru_goesToYes_60 (fun v8 g7 H locs hw hwd => ?_)
        refine lv_iload_n hx hb d_Ru_goesToYes_63 rfl (lv_at hl 2 rfl) ?_
        refine mcC_Ru_21 F hwd (ct_Ru_orderOf _ _ _ hw) ⟨Nat.le_trans (by decide) hR.1, Nat.le_trans (by decide) hR.2⟩ hl.1 (Nat.le_of_ble_eq_true rfl) d_Ru_goesToYes_64 (fun v10 g9 H locs hw hwd => ?_)
        refine lv_icmp_ge (tgt := 74) hx hb d_Ru_goesToYes_67 (by decide) (fun hc => ?_) (fun hc => ?_)
        · have hw := hw.1 hc
          refine lv_iconst (v := 0) hx hb d_Ru_goesToYes_74 (by decide) ?_
          refine lv_goto (tgt := 94) hx hb d_Ru_goesToYes_75 (by decide) ?_
          exact hret _ _ _ _ hw (by decide) hwd _ _ d_Ru_goesToYes_94
        · have hw := hw.2 hc
          refine lv_iconst (v := 1) hx hb d_Ru_goesToYes_70 (by decide) ?_
          refine lv_goto (tgt := 94) hx hb d_Ru_goesToYes_71 (by decide) ?_
          exact hret _ _ _ _ hw (by decide) hwd _ _ d_Ru_goesToYes_94
    · have hw := hw.2 hc
      refine lv_iload_n hx hb d_Ru_goesToYes_29 rfl (lv_at hl 1 rfl) ?_
      refine mcC_Ru_17 F hwd (ct_Ru_wholeOf _ _ _ hw) ⟨Nat.le_trans (by decide) hR.1, Nat.le_trans (by decide) hR.2⟩ hl.1 (Nat.le_of_ble_eq_true rfl) d_Ru_goesToYes_30 (fun v12 g11 H locs hw hwd => ?_)
      refine lv_topi (fun v13 e_v13 => ?_)
      have hw := hw v13 e_v13
      refine lv_istore_n (lv' := [(3, .int v13), (0, .int x0), (1, .int x1), (2, .int x2)]) hx hb d_Ru_goesToYes_33 rfl hl (by decide) rfl (fun ls hl => ?_)
      refine lv_iload_n hx hb d_Ru_goesToYes_34 rfl (lv_at hl 0 rfl) ?_
      refine lv_iconst (v := -1) hx hb d_Ru_goesToYes_35 (by decide) ?_
      refine lv_icmp_eq (tgt := 52) hx hb d_Ru_goesToYes_36 (by decide) (fun hc => ?_) (fun hc => ?_)
      · have hw := hw.1 hc
        refine lv_iconst (v := 0) hx hb d_Ru_goesToYes_52 (by decide) ?_
        exact hret _ _ _ _ hw (by decide) hwd _ _ d_Ru_goesToYes_53
      · have hw := hw.2 hc
        refine lv_iload_n hx hb d_Ru_goesToYes_39 rfl (lv_at hl 3 rfl) ?_
        refine lv_iload_n hx hb d_Ru_goesToYes_40 rfl (lv_at hl 0 rfl) ?_
        refine lv_iushr hx hb d_Ru_goesToYes_41 rfl ?_
        refine lv_iconst (v := 1) hx hb d_Ru_goesToYes_42 (by decide) ?_
        refine lv_iand hx hb d_Ru_goesToYes_43 ?_
        refine lv_iconst (v := 1) hx hb d_Ru_goesToYes_44 (by decide) ?_
        refine lv_icmp_ne (tgt := 52) hx hb d_Ru_goesToYes_45 (by decide) (fun hc => ?_) (fun hc => ?_)
        · have hw := hw.1 hc
          refine lv_iconst (v := 0) hx hb d_Ru_goesToYes_52 (by decide) ?_
          exact hret _ _ _ _ hw (by decide) hwd _ _ d_Ru_goesToYes_53
        · have hw := hw.2 hc
          refine lv_iconst (v := 1) hx hb d_Ru_goesToYes_48 (by decide) ?_
          refine lv_goto (tgt := 53) hx hb d_Ru_goesToYes_49 (by decide) ?_
          exact hret _ _ _ _ hw (by decide) hwd _ _ d_Ru_goesToYes_53
  · have hw := hw.2 hc
    refine lv_iload_n hx hb d_Ru_goesToYes_9 rfl (lv_at hl 0 rfl) ?_
    refine lv_iconst (v := 1) hx hb d_Ru_goesToYes_10 (by decide) ?_
    refine lv_iand hx hb d_Ru_goesToYes_11 ?_
    refine lv_iconst (v := 1) hx hb d_Ru_goesToYes_12 (by decide) ?_
    refine lv_icmp_ne (tgt := 20) hx hb d_Ru_goesToYes_13 (by decide) (fun hc => ?_) (fun hc => ?_)
    · have hw := hw.1 hc
      refine lv_iconst (v := 0) hx hb d_Ru_goesToYes_20 (by decide) ?_
      exact hret _ _ _ _ hw (by decide) hwd _ _ d_Ru_goesToYes_21
    · have hw := hw.2 hc
      refine lv_iconst (v := 1) hx hb d_Ru_goesToYes_16 (by decide) ?_
      refine lv_goto (tgt := 21) hx hb d_Ru_goesToYes_17 (by decide) ?_
      exact hret _ _ _ _ hw (by decide) hwd _ _ d_Ru_goesToYes_21

theorem ct_Ru_goesToYes {l : Launch} {D : va_G} {cI cZ : ClassId} {ad : Nat → Nat} (x0 : Int32) (x1 : Int32) (x2 : Int32) (g : St) (K : Int32 → St → Prop) (h : pc_Ru_goesToYes x0 x1 x2 g K) : ctCZ l y_Ru_goesToYes b_Ru_goesToYes 4 1 23 D cI cZ ad [.int x0, .int x1, .int x2] g K :=
  enCZ (by decide) (Nat.le_of_ble_eq_true rfl) (fun p e s m args below meth c A H0 ls Q F hwd hl hret => wb_Ru_goesToYes_0 F hret h hwd hl)

set_option maxHeartbeats 4000000 in
set_option maxRecDepth 100000 in
theorem wb_Ma_testMove_38 {K : Int32 → St → Prop} {x1 : Int32} {x2 : Int32} {x3 : Int32} {x4 : Int32} {x5 : Int32} {t0 : Int32} {t1 : Int32} {g : St} (F : fxC D cI cZ p R s m args c b_Ma_testMove 8 R_Ma 2 46)
    (hret : rtCI D cI cZ ad p l e R s m args below meth c b_Ma_testMove A H0 Q K)
    (hw : pb_Ma_testMove_38 K x1 x2 x3 x4 x5 t0 t1 g)
    (hwd : wdC D cI cZ ad A H0 g H locs) (hl : lv_has ls 8 [(0, .ref (ad 24)), (1, .int x1), (2, .int x2), (3, .int x3), (4, .int x4), (5, .int x5)]) : W p l e R s m args below meth c H locs 0 0 Q (F0 m 38 ls [.int t1, .int t0]) := by
  obtain ⟨hx, hb, hml, hown, hts, hK, hN, hR⟩ := F
  have F : fxC D cI cZ p R s m args c b_Ma_testMove 8 R_Ma 2 46 := ⟨hx, hb, hml, hown, hts, hK, hN, hR⟩
  refine lv_isub hx hb d_Ma_testMove_38 ?_
  refine lv_topi (fun v1 e_v1 => ?_)
  have hw := hw v1 e_v1
  refine lv_istore (lv' := [(6, .int v1), (0, .ref (ad 24)), (1, .int x1), (2, .int x2), (3, .int x3), (4, .int x4), (5, .int x5)]) hx hb d_Ma_testMove_39 hl (by decide) rfl (fun ls hl => ?_)
  refine lv_iload hx hb d_Ma_testMove_41 (lv_at hl 0 rfl) ?_
  refine lv_iload_n hx hb d_Ma_testMove_43 rfl (lv_at hl 3 rfl) ?_
  refine lv_iload_n hx hb d_Ma_testMove_44 rfl (lv_at hl 4 rfl) ?_
  refine mcC_Ma_76 F hwd (ct_Ru_goesToYes _ _ _ _ _ hw) ⟨Nat.le_trans (by decide) hR.1, Nat.le_trans (by decide) hR.2⟩ hl.1 (Nat.le_of_ble_eq_true rfl) d_Ma_testMove_45 (fun v3 g2 H locs hw hwd => ?_)
  refine lv_if_eq (tgt := 62) hx hb d_Ma_testMove_48 (by decide) (fun hc => ?_) (fun hc => ?_)
  · have hw := hw.1 hc
    refine lv_aload_n hx hb d_Ma_testMove_62 rfl (lv_at hl 1 rfl) ?_
    refine gfC_Ma_9 F hwd d_Ma_testMove_63 ?_
    refine lv_iload_n hx hb d_Ma_testMove_66 rfl (lv_at hl 2 rfl) ?_
    refine lv_iconst (v := 1) hx hb d_Ma_testMove_67 (by decide) ?_
    refine lv_iadd hx hb d_Ma_testMove_68 ?_
    refine mcC_Ma_49 F hwd (ct_Co_byteOfAll _ _ _ hw) ⟨Nat.le_trans (by decide) hR.1, Nat.le_trans (by decide) hR.2⟩ hl.1 (Nat.le_of_ble_eq_true rfl) d_Ma_testMove_69 (fun v5 g4 H locs hw hwd => ?_)
    refine lv_topi (fun v6 e_v6 => ?_)
    have hw := hw v6 e_v6
    refine lv_istore (lv' := [(7, .int v6), (6, .int v1), (0, .ref (ad 24)), (1, .int x1), (2, .int x2), (3, .int x3), (4, .int x4), (5, .int x5)]) hx hb d_Ma_testMove_72 hl (by decide) rfl (fun ls hl => ?_)
    refine lv_iload hx hb d_Ma_testMove_74 (lv_at hl 7 rfl) ?_
    refine lv_if_eq (tgt := 99) hx hb d_Ma_testMove_76 (by decide) (fun hc => ?_) (fun hc => ?_)
    · have hw := hw.1 hc
      refine lv_iload hx hb d_Ma_testMove_99 (lv_at hl 0 rfl) ?_
      exact hret _ _ _ _ hw hwd _ _ d_Ma_testMove_101
    · have hw := hw.2 hc
      refine lv_sipush (v := 256) hx hb d_Ma_testMove_79 (by decide) ?_
      refine lv_iload hx hb d_Ma_testMove_82 (lv_at hl 0 rfl) ?_
      refine lv_imul hx hb d_Ma_testMove_84 ?_
      refine lv_aload_n hx hb d_Ma_testMove_85 rfl (lv_at hl 2 rfl) ?_
      refine gfC_Ma_9 F hwd d_Ma_testMove_86 ?_
      refine lv_iload_n hx hb d_Ma_testMove_89 rfl (lv_at hl 3 rfl) ?_
      refine lv_iconst (v := 2) hx hb d_Ma_testMove_90 (by decide) ?_
      refine lv_iadd hx hb d_Ma_testMove_91 ?_
      refine mcC_Ma_49 F hwd (ct_Co_byteOfAll _ _ _ hw) ⟨Nat.le_trans (by decide) hR.1, Nat.le_trans (by decide) hR.2⟩ hl.1 (Nat.le_of_ble_eq_true rfl) d_Ma_testMove_92 (fun v8 g7 H locs hw hwd => ?_)
      refine lv_iadd hx hb d_Ma_testMove_95 ?_
      refine lv_goto (tgt := 101) hx hb d_Ma_testMove_96 (by decide) ?_
      exact hret _ _ _ _ hw hwd _ _ d_Ma_testMove_101
  · have hw := hw.2 hc
    refine lv_iload hx hb d_Ma_testMove_51 (lv_at hl 6 rfl) ?_
    refine lv_if_eq (tgt := 60) hx hb d_Ma_testMove_53 (by decide) (fun hc => ?_) (fun hc => ?_)
    · have hw := hw.1 hc
      refine lv_iconst (v := 2) hx hb d_Ma_testMove_60 (by decide) ?_
      exact hret _ _ _ _ hw hwd _ _ d_Ma_testMove_61
    · have hw := hw.2 hc
      refine lv_iconst (v := 3) hx hb d_Ma_testMove_56 (by decide) ?_
      refine lv_goto (tgt := 61) hx hb d_Ma_testMove_57 (by decide) ?_
      exact hret _ _ _ _ hw hwd _ _ d_Ma_testMove_61

set_option maxHeartbeats 4000000 in
set_option maxRecDepth 100000 in
theorem wb_Ma_testMove_22 {K : Int32 → St → Prop} {x1 : Int32} {x2 : Int32} {x3 : Int32} {x4 : Int32} {t0 : Int32} {g : St} (F : fxC D cI cZ p R s m args c b_Ma_testMove 8 R_Ma 2 46)
    (hret : rtCI D cI cZ ad p l e R s m args below meth c b_Ma_testMove A H0 Q K)
    (hw : pb_Ma_testMove_22 K x1 x2 x3 x4 t0 g)
    (hwd : wdC D cI cZ ad A H0 g H locs) (hl : lv_has ls 8 [(0, .ref (ad 24)), (1, .int x1), (2, .int x2), (3, .int x3), (4, .int x4)]) : W p l e R s m args below meth c H locs 0 0 Q (F0 m 22 ls [.int t0]) := by
  obtain ⟨hx, hb, hml, hown, hts, hK, hN, hR⟩ := F
  have F : fxC D cI cZ p R s m args c b_Ma_testMove 8 R_Ma 2 46 := ⟨hx, hb, hml, hown, hts, hK, hN, hR⟩
  refine lv_topi (fun v1 e_v1 => ?_)
  have hw := hw v1 e_v1
  refine lv_istore (lv' := [(5, .int v1), (0, .ref (ad 24)), (1, .int x1), (2, .int x2), (3, .int x3), (4, .int x4)]) hx hb d_Ma_testMove_22 hl (by decide) rfl (fun ls hl => ?_)
  refine lv_iload hx hb d_Ma_testMove_24 (lv_at hl 5 rfl) ?_
  refine lv_iload hx hb d_Ma_testMove_26 (lv_at hl 0 rfl) ?_
  refine lv_if_eq (tgt := 36) hx hb d_Ma_testMove_28 (by decide) (fun hc => ?_) (fun hc => ?_)
  · have hw := hw.1 hc
    refine lv_bipush (v := 10) hx hb d_Ma_testMove_36 (by decide) ?_
    exact wb_Ma_testMove_38 F hret hw hwd (lv_sub hl [1, 2, 3, 4, 5, 0] rfl)
  · have hw := hw.2 hc
    refine lv_bipush (v := 20) hx hb d_Ma_testMove_31 (by decide) ?_
    refine lv_goto (tgt := 38) hx hb d_Ma_testMove_33 (by decide) ?_
    exact wb_Ma_testMove_38 F hret hw hwd (lv_sub hl [1, 2, 3, 4, 5, 0] rfl)

set_option maxHeartbeats 4000000 in
set_option maxRecDepth 100000 in
theorem wb_Ma_testMove_0 {K : Int32 → St → Prop} {x1 : Int32} {x2 : Int32} {x3 : Int32} {g : St} (F : fxC D cI cZ p R s m args c b_Ma_testMove 8 R_Ma 2 46)
    (hret : rtCI D cI cZ ad p l e R s m args below meth c b_Ma_testMove A H0 Q K)
    (hw : pb_Ma_testMove_0 K x1 x2 x3 g)
    (hwd : wdC D cI cZ ad A H0 g H locs) (hl : lv_has ls 8 [(0, .ref (ad 24)), (1, .int x1), (2, .int x2), (3, .int x3)]) : W p l e R s m args below meth c H locs 0 0 Q (F0 m 0 ls []) := by
  obtain ⟨hx, hb, hml, hown, hts, hK, hN, hR⟩ := F
  have F : fxC D cI cZ p R s m args c b_Ma_testMove 8 R_Ma 2 46 := ⟨hx, hb, hml, hown, hts, hK, hN, hR⟩
  refine lv_aload_n hx hb d_Ma_testMove_0 rfl (lv_at hl 0 rfl) ?_
  refine gfC_Ma_9 F hwd d_Ma_testMove_1 ?_
  refine lv_iload_n hx hb d_Ma_testMove_4 rfl (lv_at hl 1 rfl) ?_
  refine mcC_Ma_49 F hwd (ct_Co_byteOfAll _ _ _ hw) ⟨Nat.le_trans (by decide) hR.1, Nat.le_trans (by decide) hR.2⟩ hl.1 (Nat.le_of_ble_eq_true rfl) d_Ma_testMove_5 (fun v2 g1 H locs hw hwd => ?_)
  refine lv_topi (fun v3 e_v3 => ?_)
  have hw := hw v3 e_v3
  refine lv_istore (lv' := [(4, .int v3), (0, .ref (ad 24)), (1, .int x1), (2, .int x2), (3, .int x3)]) hx hb d_Ma_testMove_8 hl (by decide) rfl (fun ls hl => ?_)
  refine lv_iload hx hb d_Ma_testMove_10 (lv_at hl 0 rfl) ?_
  refine lv_bipush (v := 20) hx hb d_Ma_testMove_12 (by decide) ?_
  refine lv_icmp_lt (tgt := 21) hx hb d_Ma_testMove_14 (by decide) (fun hc => ?_) (fun hc => ?_)
  · have hw := hw.1 hc
    refine lv_iconst (v := 0) hx hb d_Ma_testMove_21 (by decide) ?_
    exact wb_Ma_testMove_22 F hret hw hwd (lv_sub hl [1, 2, 3, 4, 0] rfl)
  · have hw := hw.2 hc
    refine lv_iconst (v := 1) hx hb d_Ma_testMove_17 (by decide) ?_
    refine lv_goto (tgt := 22) hx hb d_Ma_testMove_18 (by decide) ?_
    exact wb_Ma_testMove_22 F hret hw hwd (lv_sub hl [1, 2, 3, 4, 0] rfl)

theorem ct_Ma_testMove {l : Launch} {D : va_G} {cI cZ : ClassId} {ad : Nat → Nat} (x1 : Int32) (x2 : Int32) (x3 : Int32) (g : St) (K : Int32 → St → Prop) (h : pc_Ma_testMove x1 x2 x3 g K) : ctCI l y_Ma_testMove b_Ma_testMove 8 2 46 D cI cZ ad [.ref (ad 24), .int x1, .int x2, .int x3] g K :=
  enCI (by decide) (Nat.le_of_ble_eq_true rfl) (fun p e s m args below meth c A H0 ls Q F hwd hl hret => wb_Ma_testMove_0 F hret h hwd hl)

set_option maxHeartbeats 4000000 in
set_option maxRecDepth 100000 in
theorem wb_Ma_operand_0 {K : Int32 → St → Prop} {x1 : Int32} {x2 : Int32} {x3 : Int32} {g : St} (F : fxC D cI cZ p R s m args c b_Ma_operand 4 R_Ma 2 43)
    (hret : rtCI D cI cZ ad p l e R s m args below meth c b_Ma_operand A H0 Q K)
    (hw : pb_Ma_operand_0 K x1 x2 x3 g)
    (hwd : wdC D cI cZ ad A H0 g H locs) (hl : lv_has ls 4 [(0, .ref (ad 24)), (1, .int x1), (2, .int x2), (3, .int x3)]) : W p l e R s m args below meth c H locs 0 0 Q (F0 m 0 ls []) := by
  obtain ⟨hx, hb, hml, hown, hts, hK, hN, hR⟩ := F
  have F : fxC D cI cZ p R s m args c b_Ma_operand 4 R_Ma 2 43 := ⟨hx, hb, hml, hown, hts, hK, hN, hR⟩
  refine lv_iload_n hx hb d_Ma_operand_0 rfl (lv_at hl 1 rfl) ?_
  refine lv_iconst (v := 1) hx hb d_Ma_operand_1 (by decide) ?_
  refine lv_icmp_ne (tgt := 23) hx hb d_Ma_operand_2 (by decide) (fun hc => ?_) (fun hc => ?_)
  · have hw := hw.1 hc
    refine lv_aload_n hx hb d_Ma_operand_23 rfl (lv_at hl 0 rfl) ?_
    refine gfC_Ma_15 F hwd d_Ma_operand_24 ?_
    refine lv_iload_n hx hb d_Ma_operand_27 rfl (lv_at hl 2 rfl) ?_
    refine lv_iload_n hx hb d_Ma_operand_28 rfl (lv_at hl 3 rfl) ?_
    refine mcC_Ma_66 F hwd (ct_Ta_holds _ _ _ _ hw) ⟨Nat.le_trans (by decide) hR.1, Nat.le_trans (by decide) hR.2⟩ hl.1 (Nat.le_of_ble_eq_true rfl) d_Ma_operand_29 (fun v2 g1 H locs hw hwd => ?_)
    refine lv_if_eq (tgt := 57) hx hb d_Ma_operand_32 (by decide) (fun hc => ?_) (fun hc => ?_)
    · have hw := hw.1 hc
      refine lv_iconst (v := 0) hx hb d_Ma_operand_57 (by decide) ?_
      exact hret _ _ _ _ hw hwd _ _ d_Ma_operand_58
    · have hw := hw.2 hc
      refine lv_aload_n hx hb d_Ma_operand_35 rfl (lv_at hl 0 rfl) ?_
      refine gfC_Ma_15 F hwd d_Ma_operand_36 ?_
      refine gfC_Ma_72 F hwd d_Ma_operand_39 ?_
      refine lv_aload_n hx hb d_Ma_operand_42 rfl (lv_at hl 0 rfl) ?_
      refine gfC_Ma_15 F hwd d_Ma_operand_43 ?_
      refine gfC_Ma_75 F hwd d_Ma_operand_46 ?_
      refine lv_iload_n hx hb d_Ma_operand_49 rfl (lv_at hl 2 rfl) ?_
      obtain ⟨hi, hw⟩ := hw
      refine rdC_18 F hwd hi d_Ma_operand_50 ?_
      refine lv_iload_n hx hb d_Ma_operand_51 rfl (lv_at hl 3 rfl) ?_
      refine lv_iadd hx hb d_Ma_operand_52 ?_
      obtain ⟨hi, hw⟩ := hw
      refine rdC_17 F hwd hi d_Ma_operand_53 ?_
      refine lv_goto (tgt := 58) hx hb d_Ma_operand_54 (by decide) ?_
      exact hret _ _ _ _ hw hwd _ _ d_Ma_operand_58
  · have hw := hw.2 hc
    refine lv_iload_n hx hb d_Ma_operand_5 rfl (lv_at hl 3 rfl) ?_
    refine mcC_Ma_63 F hwd (ct_BF_isFeature _ _ _ hw) ⟨Nat.le_trans (by decide) hR.1, Nat.le_trans (by decide) hR.2⟩ hl.1 (Nat.le_of_ble_eq_true rfl) d_Ma_operand_6 (fun v4 g3 H locs hw hwd => ?_)
    refine lv_if_eq (tgt := 21) hx hb d_Ma_operand_9 (by decide) (fun hc => ?_) (fun hc => ?_)
    · have hw := hw.1 hc
      refine lv_iconst (v := 0) hx hb d_Ma_operand_21 (by decide) ?_
      exact hret _ _ _ _ hw hwd _ _ d_Ma_operand_22
    · have hw := hw.2 hc
      refine lv_aload_n hx hb d_Ma_operand_12 rfl (lv_at hl 0 rfl) ?_
      refine gfC_Ma_19 F hwd d_Ma_operand_13 ?_
      refine lv_iload_n hx hb d_Ma_operand_16 rfl (lv_at hl 3 rfl) ?_
      obtain ⟨hi, hw⟩ := hw
      refine rdC_1 F hwd hi d_Ma_operand_17 ?_
      refine lv_goto (tgt := 22) hx hb d_Ma_operand_18 (by decide) ?_
      exact hret _ _ _ _ hw hwd _ _ d_Ma_operand_22

theorem ct_Ma_operand {l : Launch} {D : va_G} {cI cZ : ClassId} {ad : Nat → Nat} (x1 : Int32) (x2 : Int32) (x3 : Int32) (g : St) (K : Int32 → St → Prop) (h : pc_Ma_operand x1 x2 x3 g K) : ctCI l y_Ma_operand b_Ma_operand 4 2 43 D cI cZ ad [.ref (ad 24), .int x1, .int x2, .int x3] g K :=
  enCI (by decide) (Nat.le_of_ble_eq_true rfl) (fun p e s m args below meth c A H0 ls Q F hwd hl hret => wb_Ma_operand_0 F hret h hwd hl)

set_option maxHeartbeats 4000000 in
set_option maxRecDepth 100000 in
theorem wb_Ma_runMethod_157 {rc : Int32 → Int32 → St → (Int32 → St → Prop) → Prop} {K : Int32 → St → Prop} {P38 : Int32 → Int32 → Int32 → Int32 → Int32 → Int32 → St → Prop} {x1 : Int32} {x2 : Int32} {x3 : Int32} {x4 : Int32} {x5 : Int32} {x6 : Int32} {x7 : Int32} {g : St} (F : fxC D cI cZ p R s m args c b_Ma_runMethod 8 R_Ma 3 73)
    (hret : rtCI D cI cZ ad p l e R s m args below meth c b_Ma_runMethod A H0 Q K) {f lo : Nat} (hrc : ∀ (y1 y2 : Int32) (g : St) (K : Int32 → St → Prop), rc y1 y2 g K → ctCI l y_Ma_runMethod b_Ma_runMethod 8 f lo D cI cZ ad [.ref (ad 24), .int y1, .int y2] g K) (hf0 : 3 ≤ f ∧ 73 ≤ lo) (hRr : f + 1 ≤ R.frames ∧ lo + 27 ≤ R.locals) (hp38 : ∀ (x1 : Int32) (x2 : Int32) (x3 : Int32) (x4 : Int32) (x5 : Int32) (x6 : Int32) (g : St) (H : Heap) (locs : List Loc) (ls : Array Slot), P38 x1 x2 x3 x4 x5 x6 g → wdC D cI cZ ad A H0 g H locs → lv_has ls 8 [(0, .ref (ad 24)), (1, .int x1), (2, .int x2), (3, .int x3), (4, .int x4), (5, .int x5), (6, .int x6)] → W p l e R s m args below meth c H locs 0 0 Q (F0 m 38 ls []))
    (hw : pb_Ma_runMethod_157 rc K P38 x1 x2 x3 x4 x5 x6 x7 g)
    (hwd : wdC D cI cZ ad A H0 g H locs) (hl : lv_has ls 8 [(0, .ref (ad 24)), (1, .int x1), (2, .int x2), (3, .int x3), (4, .int x4), (5, .int x5), (6, .int x6), (7, .int x7)]) : W p l e R s m args below meth c H locs 0 0 Q (F0 m 157 ls []) := by
  obtain ⟨hx, hb, hml, hown, hts, hK, hN, hR⟩ := F
  have F : fxC D cI cZ p R s m args c b_Ma_runMethod 8 R_Ma 3 73 := ⟨hx, hb, hml, hown, hts, hK, hN, hR⟩
  obtain ⟨v1, e_v1⟩ : ∃ z, z = x6 + (1 : Int32) := ⟨_, rfl⟩
  have hw := hw v1 e_v1
  refine lv_iinc (k := 6) (lv' := [(6, .int v1), (0, .ref (ad 24)), (1, .int x1), (2, .int x2), (3, .int x3), (4, .int x4), (5, .int x5), (7, .int x7)]) hx hb d_Ma_runMethod_157 hl rfl e_v1.symm (by decide) rfl (fun ls hl => ?_)
  refine lv_goto (tgt := 38) hx hb d_Ma_runMethod_160 (by decide) ?_
  exact hp38 _ _ _ _ _ _ _ H locs ls hw hwd (lv_sub hl [1, 2, 3, 4, 5, 6, 0] rfl)

set_option maxHeartbeats 4000000 in
set_option maxRecDepth 100000 in
theorem wb_Ma_runMethod_154 {rc : Int32 → Int32 → St → (Int32 → St → Prop) → Prop} {K : Int32 → St → Prop} {P38 : Int32 → Int32 → Int32 → Int32 → Int32 → Int32 → St → Prop} {x1 : Int32} {x2 : Int32} {x3 : Int32} {x4 : Int32} {x5 : Int32} {x6 : Int32} {x7 : Int32} {g : St} (F : fxC D cI cZ p R s m args c b_Ma_runMethod 8 R_Ma 3 73)
    (hret : rtCI D cI cZ ad p l e R s m args below meth c b_Ma_runMethod A H0 Q K) {f lo : Nat} (hrc : ∀ (y1 y2 : Int32) (g : St) (K : Int32 → St → Prop), rc y1 y2 g K → ctCI l y_Ma_runMethod b_Ma_runMethod 8 f lo D cI cZ ad [.ref (ad 24), .int y1, .int y2] g K) (hf0 : 3 ≤ f ∧ 73 ≤ lo) (hRr : f + 1 ≤ R.frames ∧ lo + 27 ≤ R.locals) (hp38 : ∀ (x1 : Int32) (x2 : Int32) (x3 : Int32) (x4 : Int32) (x5 : Int32) (x6 : Int32) (g : St) (H : Heap) (locs : List Loc) (ls : Array Slot), P38 x1 x2 x3 x4 x5 x6 g → wdC D cI cZ ad A H0 g H locs → lv_has ls 8 [(0, .ref (ad 24)), (1, .int x1), (2, .int x2), (3, .int x3), (4, .int x4), (5, .int x5), (6, .int x6)] → W p l e R s m args below meth c H locs 0 0 Q (F0 m 38 ls []))
    (hw : pb_Ma_runMethod_154 rc K P38 x1 x2 x3 x4 x5 x6 x7 g)
    (hwd : wdC D cI cZ ad A H0 g H locs) (hl : lv_has ls 8 [(0, .ref (ad 24)), (1, .int x1), (2, .int x2), (3, .int x3), (4, .int x4), (5, .int x5), (6, .int x6), (7, .int x7)]) : W p l e R s m args below meth c H locs 0 0 Q (F0 m 154 ls []) := by
  obtain ⟨hx, hb, hml, hown, hts, hK, hN, hR⟩ := F
  have F : fxC D cI cZ p R s m args c b_Ma_runMethod 8 R_Ma 3 73 := ⟨hx, hb, hml, hown, hts, hK, hN, hR⟩
  obtain ⟨v1, e_v1⟩ : ∃ z, z = x5 + (2 : Int32) := ⟨_, rfl⟩
  have hw := hw v1 e_v1
  refine lv_iinc (k := 5) (lv' := [(5, .int v1), (0, .ref (ad 24)), (1, .int x1), (2, .int x2), (3, .int x3), (4, .int x4), (6, .int x6), (7, .int x7)]) hx hb d_Ma_runMethod_154 hl rfl e_v1.symm (by decide) rfl (fun ls hl => ?_)
  exact wb_Ma_runMethod_157 F hret hrc hf0 hRr hp38 hw hwd (lv_sub hl [1, 2, 3, 4, 5, 0, 6, 7] rfl)

set_option maxHeartbeats 4000000 in
set_option maxRecDepth 100000 in
theorem wb_Ma_runMethod_38 {rc : Int32 → Int32 → St → (Int32 → St → Prop) → Prop} {K : Int32 → St → Prop} {P38 : Int32 → Int32 → Int32 → Int32 → Int32 → Int32 → St → Prop} {x1 : Int32} {x2 : Int32} {x3 : Int32} {x4 : Int32} {x5 : Int32} {x6 : Int32} {g : St} (F : fxC D cI cZ p R s m args c b_Ma_runMethod 8 R_Ma 3 73)
    (hret : rtCI D cI cZ ad p l e R s m args below meth c b_Ma_runMethod A H0 Q K) {f lo : Nat} (hrc : ∀ (y1 y2 : Int32) (g : St) (K : Int32 → St → Prop), rc y1 y2 g K → ctCI l y_Ma_runMethod b_Ma_runMethod 8 f lo D cI cZ ad [.ref (ad 24), .int y1, .int y2] g K) (hf0 : 3 ≤ f ∧ 73 ≤ lo) (hRr : f + 1 ≤ R.frames ∧ lo + 27 ≤ R.locals) (hp38 : ∀ (x1 : Int32) (x2 : Int32) (x3 : Int32) (x4 : Int32) (x5 : Int32) (x6 : Int32) (g : St) (H : Heap) (locs : List Loc) (ls : Array Slot), P38 x1 x2 x3 x4 x5 x6 g → wdC D cI cZ ad A H0 g H locs → lv_has ls 8 [(0, .ref (ad 24)), (1, .int x1), (2, .int x2), (3, .int x3), (4, .int x4), (5, .int x5), (6, .int x6)] → W p l e R s m args below meth c H locs 0 0 Q (F0 m 38 ls []))
    (hw : pb_Ma_runMethod_38 rc K P38 x1 x2 x3 x4 x5 x6 g)
    (hwd : wdC D cI cZ ad A H0 g H locs) (hl : lv_has ls 8 [(0, .ref (ad 24)), (1, .int x1), (2, .int x2), (3, .int x3), (4, .int x4), (5, .int x5), (6, .int x6)]) : W p l e R s m args below meth c H locs 0 0 Q (F0 m 38 ls []) := by
  obtain ⟨hx, hb, hml, hown, hts, hK, hN, hR⟩ := F
  have F : fxC D cI cZ p R s m args c b_Ma_runMethod 8 R_Ma 3 73 := ⟨hx, hb, hml, hown, hts, hK, hN, hR⟩
  refine lv_iload hx hb d_Ma_runMethod_38 (lv_at hl 6 rfl) ?_
  refine lv_sipush (v := 600) hx hb d_Ma_runMethod_40 (by decide) ?_
  refine lv_icmp_ge (tgt := 163) hx hb d_Ma_runMethod_43 (by decide) (fun hc => ?_) (fun hc => ?_)
  · have hw := hw.1 hc
    refine lv_iload_n hx hb d_Ma_runMethod_163 rfl (lv_at hl 3 rfl) ?_
    exact hret _ _ _ _ hw hwd _ _ d_Ma_runMethod_164
  · have hw := hw.2 hc
    refine lv_aload_n hx hb d_Ma_runMethod_46 rfl (lv_at hl 0 rfl) ?_
    refine gfC_Ma_9 F hwd d_Ma_runMethod_47 ?_
    refine lv_iload hx hb d_Ma_runMethod_50 (lv_at hl 5 rfl) ?_
    refine mcC_Ma_49 F hwd (ct_Co_byteOfAll _ _ _ hw) ⟨Nat.le_trans (by decide) hR.1, Nat.le_trans (by decide) hR.2⟩ hl.1 (Nat.le_of_ble_eq_true rfl) d_Ma_runMethod_52 (fun v2 g1 H locs hw hwd => ?_)
    refine lv_topi (fun v3 e_v3 => ?_)
    have hw := hw v3 e_v3
    refine lv_istore (lv' := [(7, .int v3), (0, .ref (ad 24)), (1, .int x1), (2, .int x2), (3, .int x3), (4, .int x4), (5, .int x5), (6, .int x6)]) hx hb d_Ma_runMethod_55 hl (by decide) rfl (fun ls hl => ?_)
    refine lv_aload_n hx hb d_Ma_runMethod_57 rfl (lv_at hl 1 rfl) ?_
    refine lv_dup hx hb d_Ma_runMethod_58 rfl ?_
    refine gfC_Ma_23 F hwd d_Ma_runMethod_59 ?_
    refine lv_iconst (v := 1) hx hb d_Ma_runMethod_62 (by decide) ?_
    refine lv_iadd hx hb d_Ma_runMethod_63 ?_
    refine pfC_Ma_23 F hwd d_Ma_runMethod_64 (fun H locs hwd => ?_)
    obtain ⟨g4, e_g4⟩ : ∃ z : St, z = sc g1 107 ((g1 107 0) + (1 : Int32)) := ⟨_, rfl⟩
    have hwd : wdC D cI cZ ad A H0 g4 H locs := by rw [e_g4]; exact hwd
    have hw := hw g4 e_g4
    refine lv_iload hx hb d_Ma_runMethod_67 (lv_at hl 0 rfl) ?_
    refine lv_iconst (v := 3) hx hb d_Ma_runMethod_69 (by decide) ?_
    refine lv_icmp_ne (tgt := 75) hx hb d_Ma_runMethod_70 (by decide) (fun hc => ?_) (fun hc => ?_)
    · have hw := hw.1 hc
      refine lv_iload hx hb d_Ma_runMethod_75 (lv_at hl 0 rfl) ?_
      refine lv_bipush (v := 10) hx hb d_Ma_runMethod_77 (by decide) ?_
      refine lv_icmp_lt (tgt := 99) hx hb d_Ma_runMethod_79 (by decide) (fun hc => ?_) (fun hc => ?_)
      · have hw := hw.1 hc
        refine lv_iload_n hx hb d_Ma_runMethod_99 rfl (lv_at hl 4 rfl) ?_
        refine lv_topi (fun v5 e_v5 => ?_)
        have hw := hw v5 e_v5
        refine lv_istore (lv' := [(4, .int v5), (7, .int v3), (0, .ref (ad 24)), (1, .int x1), (2, .int x2), (3, .int x3), (5, .int x5), (6, .int x6)]) hx hb d_Ma_runMethod_100 hl (by decide) rfl (fun ls hl => ?_)
        refine lv_aload_n hx hb d_Ma_runMethod_102 rfl (lv_at hl 2 rfl) ?_
        refine lv_iload hx hb d_Ma_runMethod_103 (lv_at hl 1 rfl) ?_
        refine lv_aload_n hx hb d_Ma_runMethod_105 rfl (lv_at hl 2 rfl) ?_
        refine gfC_Ma_9 F hwd d_Ma_runMethod_106 ?_
        refine gfC_Ma_57 F hwd d_Ma_runMethod_109 ?_
        refine lv_iload_n hx hb d_Ma_runMethod_112 rfl (lv_at hl 3 rfl) ?_
        obtain ⟨hi, hw⟩ := hw
        refine rdC_22 F hwd hi d_Ma_runMethod_113 ?_
        refine lv_aload_n hx hb d_Ma_runMethod_114 rfl (lv_at hl 2 rfl) ?_
        refine gfC_Ma_9 F hwd d_Ma_runMethod_115 ?_
        refine lv_iload hx hb d_Ma_runMethod_118 (lv_at hl 6 rfl) ?_
        refine lv_iconst (v := 1) hx hb d_Ma_runMethod_120 (by decide) ?_
        refine lv_iadd hx hb d_Ma_runMethod_121 ?_
        refine mcC_Ma_49 F hwd (ct_Co_byteOfAll _ _ _ hw) ⟨Nat.le_trans (by decide) hR.1, Nat.le_trans (by decide) hR.2⟩ hl.1 (Nat.le_of_ble_eq_true rfl) d_Ma_runMethod_122 (fun v7 g6 H locs hw hwd => ?_)
        refine mcC_Ma_60 F hwd (ct_Ma_operand _ _ _ _ _ hw) ⟨Nat.le_trans (by decide) hR.1, Nat.le_trans (by decide) hR.2⟩ hl.1 (Nat.le_of_ble_eq_true rfl) d_Ma_runMethod_125 (fun v9 g8 H locs hw hwd => ?_)
        refine lv_topi (fun v10 e_v10 => ?_)
        have hw := hw v10 e_v10
        refine lv_istore_n (lv' := [(3, .int v10), (4, .int v5), (7, .int v3), (0, .ref (ad 24)), (1, .int x1), (2, .int x2), (5, .int x5), (6, .int x6)]) hx hb d_Ma_runMethod_128 rfl hl (by decide) rfl (fun ls hl => ?_)
        refine lv_iload hx hb d_Ma_runMethod_129 (lv_at hl 2 rfl) ?_
        refine lv_iconst (v := 4) hx hb d_Ma_runMethod_131 (by decide) ?_
        refine lv_icmp_ne (tgt := 154) hx hb d_Ma_runMethod_132 (by decide) (fun hc => ?_) (fun hc => ?_)
        · have hw := hw.1 hc
          exact wb_Ma_runMethod_154 F hret hrc hf0 hRr hp38 hw hwd (lv_sub hl [3, 4, 5, 0, 1, 6, 7, 2] rfl)
        · have hw := hw.2 hc
          refine lv_aload_n hx hb d_Ma_runMethod_135 rfl (lv_at hl 3 rfl) ?_
          refine lv_dup hx hb d_Ma_runMethod_136 rfl ?_
          refine gfC_Ma_27 F hwd d_Ma_runMethod_137 ?_
          refine lv_iconst (v := 1) hx hb d_Ma_runMethod_140 (by decide) ?_
          refine lv_iadd hx hb d_Ma_runMethod_141 ?_
          refine pfC_Ma_27 F hwd d_Ma_runMethod_142 (fun H locs hwd => ?_)
          obtain ⟨g11, e_g11⟩ : ∃ z : St, z = sc g8 108 ((g8 108 0) + (1 : Int32)) := ⟨_, rfl⟩
          have hwd : wdC D cI cZ ad A H0 g11 H locs := by rw [e_g11]; exact hwd
          have hw := hw g11 e_g11
          refine lv_aload_n hx hb d_Ma_runMethod_145 rfl (lv_at hl 3 rfl) ?_
          refine lv_iload_n hx hb d_Ma_runMethod_146 rfl (lv_at hl 0 rfl) ?_
          refine lv_iload_n hx hb d_Ma_runMethod_147 rfl (lv_at hl 5 rfl) ?_
          refine lv_iconst (v := 1) hx hb d_Ma_runMethod_148 (by decide) ?_
          refine lv_iadd hx hb d_Ma_runMethod_149 ?_
          refine mcC_Ma_38 F hwd (hrc _ _ _ _ hw) ⟨by have := hRr.1; omega, by have := hRr.2; omega⟩ hl.1 (Nat.le_of_ble_eq_true rfl) d_Ma_runMethod_150 (fun v13 g12 H locs hw hwd => ?_)
          refine lv_topi (fun v14 e_v14 => ?_)
          have hw := hw v14 e_v14
          refine lv_istore_n (lv' := [(3, .int v14), (4, .int v5), (7, .int v3), (0, .ref (ad 24)), (1, .int x1), (2, .int x2), (5, .int x5), (6, .int x6)]) hx hb d_Ma_runMethod_153 rfl hl (by decide) rfl (fun ls hl => ?_)
          exact wb_Ma_runMethod_154 F hret hrc hf0 hRr hp38 hw hwd (lv_sub hl [3, 4, 5, 0, 1, 6, 7, 2] rfl)
      · have hw := hw.2 hc
        refine lv_iload hx hb d_Ma_runMethod_82 (lv_at hl 6 rfl) ?_
        refine lv_aload_n hx hb d_Ma_runMethod_84 rfl (lv_at hl 1 rfl) ?_
        refine lv_iload hx hb d_Ma_runMethod_85 (lv_at hl 6 rfl) ?_
        refine lv_iload hx hb d_Ma_runMethod_87 (lv_at hl 5 rfl) ?_
        refine lv_iload_n hx hb d_Ma_runMethod_89 rfl (lv_at hl 4 rfl) ?_
        refine mcC_Ma_53 F hwd (ct_Ma_testMove _ _ _ _ _ hw) ⟨Nat.le_trans (by decide) hR.1, Nat.le_trans (by decide) hR.2⟩ hl.1 (Nat.le_of_ble_eq_true rfl) d_Ma_runMethod_90 (fun v16 g15 H locs hw hwd => ?_)
        refine lv_iadd hx hb d_Ma_runMethod_93 ?_
        refine lv_topi (fun v17 e_v17 => ?_)
        have hw := hw v17 e_v17
        refine lv_istore (lv' := [(5, .int v17), (7, .int v3), (0, .ref (ad 24)), (1, .int x1), (2, .int x2), (3, .int x3), (4, .int x4), (6, .int x6)]) hx hb d_Ma_runMethod_94 hl (by decide) rfl (fun ls hl => ?_)
        refine lv_goto (tgt := 157) hx hb d_Ma_runMethod_96 (by decide) ?_
        exact wb_Ma_runMethod_157 F hret hrc hf0 hRr hp38 hw hwd (lv_sub hl [2, 3, 4, 5, 6, 0, 7, 1] rfl)
    · have hw := hw.2 hc
      refine lv_iload_n hx hb d_Ma_runMethod_73 rfl (lv_at hl 4 rfl) ?_
      exact hret _ _ _ _ hw hwd _ _ d_Ma_runMethod_74

set_option maxHeartbeats 4000000 in
theorem wl_Ma_runMethod_38 {rc : Int32 → Int32 → St → (Int32 → St → Prop) → Prop} {K : Int32 → St → Prop} {x1 : Int32} {x2 : Int32} {x3 : Int32} {x4 : Int32} {x5 : Int32} {x6 : Int32} {g : St} (F : fxC D cI cZ p R s m args c b_Ma_runMethod 8 R_Ma 3 73)
    (hret : rtCI D cI cZ ad p l e R s m args below meth c b_Ma_runMethod A H0 Q K) {f lo : Nat} (hrc : ∀ (y1 y2 : Int32) (g : St) (K : Int32 → St → Prop), rc y1 y2 g K → ctCI l y_Ma_runMethod b_Ma_runMethod 8 f lo D cI cZ ad [.ref (ad 24), .int y1, .int y2] g K) (hf0 : 3 ≤ f ∧ 73 ≤ lo) (hRr : f + 1 ≤ R.frames ∧ lo + 27 ≤ R.locals)
    (hw : pl_Ma_runMethod_38 rc K x1 x2 x3 x4 x5 x6 g)
    (hwd : wdC D cI cZ ad A H0 g H locs) (hl : lv_has ls 8 [(0, .ref (ad 24)), (1, .int x1), (2, .int x2), (3, .int x3), (4, .int x4), (5, .int x5), (6, .int x6)]) : W p l e R s m args below meth c H locs 0 0 Q (F0 m 38 ls []) := by
  refine hw (fun x1 x2 x3 x4 x5 x6 g => ∀ (H : Heap) (locs : List Loc) (ls : Array Slot), wdC D cI cZ ad A H0 g H locs → lv_has ls 8 [(0, .ref (ad 24)), (1, .int x1), (2, .int x2), (3, .int x3), (4, .int x4), (5, .int x5), (6, .int x6)] → W p l e R s m args below meth c H locs 0 0 Q (F0 m 38 ls [])) ?_ H locs ls hwd hl
  intro x1 x2 x3 x4 x5 x6 g hw H locs ls hwd hl
  exact wb_Ma_runMethod_38 F hret hrc hf0 hRr (fun x1 x2 x3 x4 x5 x6 g H locs ls h hwd hl => h H locs ls hwd hl) hw hwd hl

set_option maxHeartbeats 4000000 in
set_option maxRecDepth 100000 in
theorem wb_Ma_runMethod_0 {rc : Int32 → Int32 → St → (Int32 → St → Prop) → Prop} {K : Int32 → St → Prop} {x1 : Int32} {x2 : Int32} {g : St} (F : fxC D cI cZ p R s m args c b_Ma_runMethod 8 R_Ma 3 73)
    (hret : rtCI D cI cZ ad p l e R s m args below meth c b_Ma_runMethod A H0 Q K) {f lo : Nat} (hrc : ∀ (y1 y2 : Int32) (g : St) (K : Int32 → St → Prop), rc y1 y2 g K → ctCI l y_Ma_runMethod b_Ma_runMethod 8 f lo D cI cZ ad [.ref (ad 24), .int y1, .int y2] g K) (hf0 : 3 ≤ f ∧ 73 ≤ lo) (hRr : f + 1 ≤ R.frames ∧ lo + 27 ≤ R.locals)
    (hw : pb_Ma_runMethod_0 rc K x1 x2 g)
    (hwd : wdC D cI cZ ad A H0 g H locs) (hl : lv_has ls 8 [(0, .ref (ad 24)), (1, .int x1), (2, .int x2)]) : W p l e R s m args below meth c H locs 0 0 Q (F0 m 0 ls []) := by
  obtain ⟨hx, hb, hml, hown, hts, hK, hN, hR⟩ := F
  have F : fxC D cI cZ p R s m args c b_Ma_runMethod 8 R_Ma 3 73 := ⟨hx, hb, hml, hown, hts, hK, hN, hR⟩
  refine lv_iload_n hx hb d_Ma_runMethod_0 rfl (lv_at hl 2 rfl) ?_
  refine lv_bipush (v := 12) hx hb d_Ma_runMethod_1 (by decide) ?_
  refine lv_icmp_gt (tgt := 17) hx hb d_Ma_runMethod_3 (by decide) (fun hc => ?_) (fun hc => ?_)
  · have hw := hw.1 hc
    refine lv_iconst (v := 0) hx hb d_Ma_runMethod_17 (by decide) ?_
    exact hret _ _ _ _ hw hwd _ _ d_Ma_runMethod_18
  · have hw := hw.2 hc
    refine lv_aload_n hx hb d_Ma_runMethod_6 rfl (lv_at hl 0 rfl) ?_
    refine gfC_Ma_9 F hwd d_Ma_runMethod_7 ?_
    refine lv_iload_n hx hb d_Ma_runMethod_10 rfl (lv_at hl 1 rfl) ?_
    refine mcC_Ma_42 F hwd (ct_Co_isMethod _ _ _ hw) ⟨Nat.le_trans (by decide) hR.1, Nat.le_trans (by decide) hR.2⟩ hl.1 (Nat.le_of_ble_eq_true rfl) d_Ma_runMethod_11 (fun v2 g1 H locs hw hwd => ?_)
    refine lv_if_ne (tgt := 19) hx hb d_Ma_runMethod_14 (by decide) (fun hc => ?_) (fun hc => ?_)
    · have hw := hw.1 hc
      refine lv_iconst (v := 0) hx hb d_Ma_runMethod_19 (by decide) ?_
      refine lv_topi (fun v3 e_v3 => ?_)
      have hw := hw v3 e_v3
      refine lv_istore_n (lv' := [(3, .int v3), (0, .ref (ad 24)), (1, .int x1), (2, .int x2)]) hx hb d_Ma_runMethod_20 rfl hl (by decide) rfl (fun ls hl => ?_)
      refine lv_iconst (v := 0) hx hb d_Ma_runMethod_21 (by decide) ?_
      refine lv_topi (fun v4 e_v4 => ?_)
      have hw := hw v4 e_v4
      refine lv_istore (lv' := [(4, .int v4), (3, .int v3), (0, .ref (ad 24)), (1, .int x1), (2, .int x2)]) hx hb d_Ma_runMethod_22 hl (by decide) rfl (fun ls hl => ?_)
      refine lv_aload_n hx hb d_Ma_runMethod_24 rfl (lv_at hl 2 rfl) ?_
      refine gfC_Ma_9 F hwd d_Ma_runMethod_25 ?_
      refine gfC_Ma_46 F hwd d_Ma_runMethod_28 ?_
      refine lv_iload_n hx hb d_Ma_runMethod_31 rfl (lv_at hl 3 rfl) ?_
      obtain ⟨hi, hw⟩ := hw
      refine rdC_21 F hwd hi d_Ma_runMethod_32 ?_
      refine lv_topi (fun v5 e_v5 => ?_)
      have hw := hw v5 e_v5
      refine lv_istore (lv' := [(5, .int v5), (4, .int v4), (3, .int v3), (0, .ref (ad 24)), (1, .int x1), (2, .int x2)]) hx hb d_Ma_runMethod_33 hl (by decide) rfl (fun ls hl => ?_)
      refine lv_iconst (v := 0) hx hb d_Ma_runMethod_35 (by decide) ?_
      refine lv_topi (fun v6 e_v6 => ?_)
      have hw := hw v6 e_v6
      refine lv_istore (lv' := [(6, .int v6), (5, .int v5), (4, .int v4), (3, .int v3), (0, .ref (ad 24)), (1, .int x1), (2, .int x2)]) hx hb d_Ma_runMethod_36 hl (by decide) rfl (fun ls hl => ?_)
      exact wl_Ma_runMethod_38 F hret hrc hf0 hRr hw hwd (lv_sub hl [4, 5, 6, 3, 2, 1, 0] rfl)
    · have hw := hw.2 hc
      refine lv_iconst (v := 0) hx hb d_Ma_runMethod_17 (by decide) ?_
      exact hret _ _ _ _ hw hwd _ _ d_Ma_runMethod_18

theorem ct_Ma_runMethod {l : Launch} {D : va_G} {cI cZ : ClassId} {ad : Nat → Nat} : ∀ (d : Nat) (x1 : Int32) (x2 : Int32) (g : St) (K : Int32 → St → Prop), pc_Ma_runMethod d x1 x2 g K → ctCI l y_Ma_runMethod b_Ma_runMethod 8 (3 + d * 1) (73 + d * 27) D cI cZ ad [.ref (ad 24), .int x1, .int x2] g K := by
  intro d
  induction d with
  | zero => intro x1 x2 g K h; exact h.elim
  | succ d ih =>
    intro x1 x2 g K h
    refine enCI (by decide) (Nat.le_of_ble_eq_true rfl) (fun p e s m args below meth c A H0 ls Q F hwd hl hret => ?_)
    have F : fxC D cI cZ p { frames := 3 + (d + 1) * 1, cells := 0, slots := 0, locals := 73 + (d + 1) * 27 } s m args c b_Ma_runMethod 8 R_Ma 3 73 := ⟨F.1, F.2.1, F.2.2.1, F.2.2.2.1, F.2.2.2.2.1, F.2.2.2.2.2.1, F.2.2.2.2.2.2.1, by show 3 ≤ 3 + (d + 1) * 1; omega, by show 73 ≤ 73 + (d + 1) * 27; omega⟩
    exact wb_Ma_runMethod_0 F hret (f := 3 + d * 1) (lo := 73 + d * 27) ih ⟨by omega, by omega⟩ ⟨by show 3 + d * 1 + 1 ≤ 3 + (d + 1) * 1; omega, by show 73 + d * 27 + 27 ≤ 73 + (d + 1) * 27; omega⟩ h hwd hl

set_option maxHeartbeats 4000000 in
set_option maxRecDepth 100000 in
theorem wb_Ma_runTrees_14 {K : Int64 → St → Prop} {P14 : Int64 → Int32 → St → Prop} {x1 : Int64} {x3 : Int32} {g : St} (F : fxC D cI cZ p R s m args c b_Ma_runTrees 4 R_Ma 18 478)
    (hret : rtCJ D cI cZ ad p l e R s m args below meth c b_Ma_runTrees A H0 Q K) (hp14 : ∀ (x1 : Int64) (x3 : Int32) (g : St) (H : Heap) (locs : List Loc) (ls : Array Slot), P14 x1 x3 g → wdC D cI cZ ad A H0 g H locs → lv_has ls 4 [(0, .ref (ad 24)), (1, .long x1), (3, .int x3)] → W p l e R s m args below meth c H locs 0 0 Q (F0 m 14 ls []))
    (hw : pb_Ma_runTrees_14 K P14 x1 x3 g)
    (hwd : wdC D cI cZ ad A H0 g H locs) (hl : lv_has ls 4 [(0, .ref (ad 24)), (1, .long x1), (3, .int x3)]) : W p l e R s m args below meth c H locs 0 0 Q (F0 m 14 ls []) := by
  obtain ⟨hx, hb, hml, hown, hts, hK, hN, hR⟩ := F
  have F : fxC D cI cZ p R s m args c b_Ma_runTrees 4 R_Ma 18 478 := ⟨hx, hb, hml, hown, hts, hK, hN, hR⟩
  refine lv_iload_n hx hb d_Ma_runTrees_14 rfl (lv_at hl 2 rfl) ?_
  refine lv_aload_n hx hb d_Ma_runTrees_15 rfl (lv_at hl 0 rfl) ?_
  refine gfC_Ma_9 F hwd d_Ma_runTrees_16 ?_
  refine gfC_Ma_30 F hwd d_Ma_runTrees_19 ?_
  refine lv_icmp_ge (tgt := 49) hx hb d_Ma_runTrees_22 (by decide) (fun hc => ?_) (fun hc => ?_)
  · have hw := hw.1 hc
    refine lv_lload_n hx hb d_Ma_runTrees_49 rfl (lv_at hl 1 rfl) ?_
    exact hret _ _ _ _ hw hwd _ _ d_Ma_runTrees_50
  · have hw := hw.2 hc
    refine lv_lload_n hx hb d_Ma_runTrees_25 rfl (lv_at hl 1 rfl) ?_
    refine lv_aload_n hx hb d_Ma_runTrees_26 rfl (lv_at hl 0 rfl) ?_
    refine lv_aload_n hx hb d_Ma_runTrees_27 rfl (lv_at hl 0 rfl) ?_
    refine gfC_Ma_9 F hwd d_Ma_runTrees_28 ?_
    refine gfC_Ma_35 F hwd d_Ma_runTrees_31 ?_
    refine lv_iload_n hx hb d_Ma_runTrees_34 rfl (lv_at hl 2 rfl) ?_
    obtain ⟨hi, hw⟩ := hw
    refine rdC_23 F hwd hi d_Ma_runTrees_35 ?_
    refine lv_iconst (v := 0) hx hb d_Ma_runTrees_36 (by decide) ?_
    refine mcC_Ma_38 F hwd (ct_Ma_runMethod 14 _ _ _ _ hw) ⟨Nat.le_trans (by decide) hR.1, Nat.le_trans (by decide) hR.2⟩ hl.1 (Nat.le_of_ble_eq_true rfl) d_Ma_runTrees_37 (fun v2 g1 H locs hw hwd => ?_)
    refine lv_i2l hx hb d_Ma_runTrees_40 rfl ?_
    refine lv_ladd hx hb d_Ma_runTrees_41 ?_
    refine lv_topl (fun v3 e_v3 => ?_)
    have hw := hw v3 e_v3
    refine lv_lstore_n (lv' := [(1, .long v3), (0, .ref (ad 24)), (3, .int x3)]) hx hb d_Ma_runTrees_42 rfl hl (by decide) rfl (fun ls hl => ?_)
    obtain ⟨v4, e_v4⟩ : ∃ z, z = x3 + (1 : Int32) := ⟨_, rfl⟩
    have hw := hw v4 e_v4
    refine lv_iinc (k := 2) (lv' := [(3, .int v4), (1, .long v3), (0, .ref (ad 24))]) hx hb d_Ma_runTrees_43 hl rfl e_v4.symm (by decide) rfl (fun ls hl => ?_)
    refine lv_goto (tgt := 14) hx hb d_Ma_runTrees_46 (by decide) ?_
    exact hp14 _ _ _ H locs ls hw hwd (lv_sub hl [2, 1, 0] rfl)

set_option maxHeartbeats 4000000 in
theorem wl_Ma_runTrees_14 {K : Int64 → St → Prop} {x1 : Int64} {x3 : Int32} {g : St} (F : fxC D cI cZ p R s m args c b_Ma_runTrees 4 R_Ma 18 478)
    (hret : rtCJ D cI cZ ad p l e R s m args below meth c b_Ma_runTrees A H0 Q K)
    (hw : pl_Ma_runTrees_14 K x1 x3 g)
    (hwd : wdC D cI cZ ad A H0 g H locs) (hl : lv_has ls 4 [(0, .ref (ad 24)), (1, .long x1), (3, .int x3)]) : W p l e R s m args below meth c H locs 0 0 Q (F0 m 14 ls []) := by
  refine hw (fun x1 x3 g => ∀ (H : Heap) (locs : List Loc) (ls : Array Slot), wdC D cI cZ ad A H0 g H locs → lv_has ls 4 [(0, .ref (ad 24)), (1, .long x1), (3, .int x3)] → W p l e R s m args below meth c H locs 0 0 Q (F0 m 14 ls [])) ?_ H locs ls hwd hl
  intro x1 x3 g hw H locs ls hwd hl
  exact wb_Ma_runTrees_14 F hret (fun x1 x3 g H locs ls h hwd hl => h H locs ls hwd hl) hw hwd hl

set_option maxHeartbeats 4000000 in
set_option maxRecDepth 100000 in
theorem wb_Ma_runTrees_0 {K : Int64 → St → Prop} {g : St} (F : fxC D cI cZ p R s m args c b_Ma_runTrees 4 R_Ma 18 478)
    (hret : rtCJ D cI cZ ad p l e R s m args below meth c b_Ma_runTrees A H0 Q K)
    (hw : pb_Ma_runTrees_0 K g)
    (hwd : wdC D cI cZ ad A H0 g H locs) (hl : lv_has ls 4 [(0, .ref (ad 24))]) : W p l e R s m args below meth c H locs 0 0 Q (F0 m 0 ls []) := by
  obtain ⟨hx, hb, hml, hown, hts, hK, hN, hR⟩ := F
  have F : fxC D cI cZ p R s m args c b_Ma_runTrees 4 R_Ma 18 478 := ⟨hx, hb, hml, hown, hts, hK, hN, hR⟩
  refine lv_aload_n hx hb d_Ma_runTrees_0 rfl (lv_at hl 0 rfl) ?_
  refine lv_iconst (v := 0) hx hb d_Ma_runTrees_1 (by decide) ?_
  refine pfC_Ma_23 F hwd d_Ma_runTrees_2 (fun H locs hwd => ?_)
  obtain ⟨g1, e_g1⟩ : ∃ z : St, z = sc g 107 (0 : Int32) := ⟨_, rfl⟩
  have hwd : wdC D cI cZ ad A H0 g1 H locs := by rw [e_g1]; exact hwd
  have hw := hw g1 e_g1
  refine lv_aload_n hx hb d_Ma_runTrees_5 rfl (lv_at hl 0 rfl) ?_
  refine lv_iconst (v := 0) hx hb d_Ma_runTrees_6 (by decide) ?_
  refine pfC_Ma_27 F hwd d_Ma_runTrees_7 (fun H locs hwd => ?_)
  obtain ⟨g2, e_g2⟩ : ∃ z : St, z = sc g1 108 (0 : Int32) := ⟨_, rfl⟩
  have hwd : wdC D cI cZ ad A H0 g2 H locs := by rw [e_g2]; exact hwd
  have hw := hw g2 e_g2
  refine lv_lconst (v := 0) hx hb d_Ma_runTrees_10 (by decide) ?_
  refine lv_topl (fun v3 e_v3 => ?_)
  have hw := hw v3 e_v3
  refine lv_lstore_n (lv' := [(1, .long v3), (0, .ref (ad 24))]) hx hb d_Ma_runTrees_11 rfl hl (by decide) rfl (fun ls hl => ?_)
  refine lv_iconst (v := 0) hx hb d_Ma_runTrees_12 (by decide) ?_
  refine lv_topi (fun v4 e_v4 => ?_)
  have hw := hw v4 e_v4
  refine lv_istore_n (lv' := [(3, .int v4), (1, .long v3), (0, .ref (ad 24))]) hx hb d_Ma_runTrees_13 rfl hl (by decide) rfl (fun ls hl => ?_)
  exact wl_Ma_runTrees_14 F hret hw hwd (lv_sub hl [2, 1, 0] rfl)

theorem ct_Ma_runTrees {l : Launch} {D : va_G} {cI cZ : ClassId} {ad : Nat → Nat} (g : St) (K : Int64 → St → Prop) (h : pc_Ma_runTrees g K) : ctCJ l y_Ma_runTrees b_Ma_runTrees 4 18 478 D cI cZ ad [.ref (ad 24)] g K :=
  enCJ (by decide) (Nat.le_of_ble_eq_true rfl) (fun p e s m args below meth c A H0 ls Q F hwd hl hret => wb_Ma_runTrees_0 F hret h hwd hl)

set_option maxHeartbeats 4000000 in
set_option maxRecDepth 100000 in
theorem wb_BF_predict_0 {K : Int64 → St → Prop} {g : St} (F : fxC D cI cZ p R s m args c b_BF_predict 1 R_BF 19 501)
    (hret : rtCJ D cI cZ ad p l e R s m args below meth c b_BF_predict A H0 Q K)
    (hw : pb_BF_predict_0 K g)
    (hwd : wdC D cI cZ ad A H0 g H locs) (hl : lv_has ls 1 [(0, .ref (ad 0))]) : W p l e R s m args below meth c H locs 0 0 Q (F0 m 0 ls []) := by
  obtain ⟨hx, hb, hml, hown, hts, hK, hN, hR⟩ := F
  have F : fxC D cI cZ p R s m args c b_BF_predict 1 R_BF 19 501 := ⟨hx, hb, hml, hown, hts, hK, hN, hR⟩
  refine lv_aload_n hx hb d_BF_predict_0 rfl (lv_at hl 0 rfl) ?_
  refine gfC_BF_57 F hwd d_BF_predict_1 ?_
  refine mcC_BF_141 F hwd (ct_Ma_runTrees  _ _ hw) ⟨Nat.le_trans (by decide) hR.1, Nat.le_trans (by decide) hR.2⟩ hl.1 (Nat.le_of_ble_eq_true rfl) d_BF_predict_4 (fun v2 g1 H locs hw hwd => ?_)
  exact hret _ _ _ _ hw hwd _ _ d_BF_predict_7

theorem ct_BF_predict {l : Launch} {D : va_G} {cI cZ : ClassId} {ad : Nat → Nat} (g : St) (K : Int64 → St → Prop) (h : pc_BF_predict g K) : ctCJ l y_BF_predict b_BF_predict 1 19 501 D cI cZ ad [.ref (ad 0)] g K :=
  enCJ (by decide) (Nat.le_of_ble_eq_true rfl) (fun p e s m args below meth c A H0 ls Q F hwd hl hret => wb_BF_predict_0 F hret h hwd hl)

set_option maxHeartbeats 4000000 in
set_option maxRecDepth 100000 in
theorem wb_BF_steps_0 {K : Int32 → St → Prop} {g : St} (F : fxC D cI cZ p R s m args c b_BF_steps 1 R_BF 0 0)
    (hret : rtCI D cI cZ ad p l e R s m args below meth c b_BF_steps A H0 Q K)
    (hw : pb_BF_steps_0 K g)
    (hwd : wdC D cI cZ ad A H0 g H locs) (hl : lv_has ls 1 [(0, .ref (ad 0))]) : W p l e R s m args below meth c H locs 0 0 Q (F0 m 0 ls []) := by
  obtain ⟨hx, hb, hml, hown, hts, hK, hN, hR⟩ := F
  have F : fxC D cI cZ p R s m args c b_BF_steps 1 R_BF 0 0 := ⟨hx, hb, hml, hown, hts, hK, hN, hR⟩
  refine lv_aload_n hx hb d_BF_steps_0 rfl (lv_at hl 0 rfl) ?_
  refine gfC_BF_57 F hwd d_BF_steps_1 ?_
  refine gfC_BF_145 F hwd d_BF_steps_4 ?_
  exact hret _ _ _ _ hw hwd _ _ d_BF_steps_7

theorem ct_BF_steps {l : Launch} {D : va_G} {cI cZ : ClassId} {ad : Nat → Nat} (g : St) (K : Int32 → St → Prop) (h : pc_BF_steps g K) : ctCI l y_BF_steps b_BF_steps 1 0 0 D cI cZ ad [.ref (ad 0)] g K :=
  enCI (by decide) (Nat.le_of_ble_eq_true rfl) (fun p e s m args below meth c A H0 ls Q F hwd hl hret => wb_BF_steps_0 F hret h hwd hl)

set_option maxHeartbeats 4000000 in
set_option maxRecDepth 100000 in
theorem wb_BF_calls_0 {K : Int32 → St → Prop} {g : St} (F : fxC D cI cZ p R s m args c b_BF_calls 1 R_BF 0 0)
    (hret : rtCI D cI cZ ad p l e R s m args below meth c b_BF_calls A H0 Q K)
    (hw : pb_BF_calls_0 K g)
    (hwd : wdC D cI cZ ad A H0 g H locs) (hl : lv_has ls 1 [(0, .ref (ad 0))]) : W p l e R s m args below meth c H locs 0 0 Q (F0 m 0 ls []) := by
  obtain ⟨hx, hb, hml, hown, hts, hK, hN, hR⟩ := F
  have F : fxC D cI cZ p R s m args c b_BF_calls 1 R_BF 0 0 := ⟨hx, hb, hml, hown, hts, hK, hN, hR⟩
  refine lv_aload_n hx hb d_BF_calls_0 rfl (lv_at hl 0 rfl) ?_
  refine gfC_BF_57 F hwd d_BF_calls_1 ?_
  refine gfC_BF_148 F hwd d_BF_calls_4 ?_
  exact hret _ _ _ _ hw hwd _ _ d_BF_calls_7

theorem ct_BF_calls {l : Launch} {D : va_G} {cI cZ : ClassId} {ad : Nat → Nat} (g : St) (K : Int32 → St → Prop) (h : pc_BF_calls g K) : ctCI l y_BF_calls b_BF_calls 1 0 0 D cI cZ ad [.ref (ad 0)] g K :=
  enCI (by decide) (Nat.le_of_ble_eq_true rfl) (fun p e s m args below meth c A H0 ls Q F hwd hl hret => wb_BF_calls_0 F hret h hwd hl)

set_option maxHeartbeats 4000000 in
set_option maxRecDepth 100000 in
theorem wb_Fo_leafFor_65 {K : Int32 → St → Prop} {P5 : Int32 → Int32 → Int32 → St → Prop} {x1 : Int32} {x3 : Int32} {x4 : Int32} {x5 : Int32} {t0 : Int32} {g : St} (F : fxC D cI cZ p R s m args c b_Fo_leafFor 6 R_Fo 2 46)
    (hret : rtCI D cI cZ ad p l e R s m args below meth c b_Fo_leafFor A H0 Q K) (hp5 : ∀ (x1 : Int32) (x3 : Int32) (x4 : Int32) (g : St) (H : Heap) (locs : List Loc) (ls : Array Slot), P5 x1 x3 x4 g → wdC D cI cZ ad A H0 g H locs → lv_has ls 6 [(0, .ref (ad 2)), (1, .int x1), (2, .ref (ad 1)), (3, .int x3), (4, .int x4)] → W p l e R s m args below meth c H locs 0 0 Q (F0 m 5 ls []))
    (hw : pb_Fo_leafFor_65 K P5 x1 x3 x4 x5 t0 g)
    (hwd : wdC D cI cZ ad A H0 g H locs) (hl : lv_has ls 6 [(0, .ref (ad 2)), (1, .int x1), (2, .ref (ad 1)), (3, .int x3), (4, .int x4), (5, .int x5)]) : W p l e R s m args below meth c H locs 0 0 Q (F0 m 65 ls [.int t0]) := by
  obtain ⟨hx, hb, hml, hown, hts, hK, hN, hR⟩ := F
  have F : fxC D cI cZ p R s m args c b_Fo_leafFor 6 R_Fo 2 46 := ⟨hx, hb, hml, hown, hts, hK, hN, hR⟩
  refine lv_topi (fun v1 e_v1 => ?_)
  have hw := hw v1 e_v1
  refine lv_istore_n (lv' := [(3, .int v1), (0, .ref (ad 2)), (1, .int x1), (2, .ref (ad 1)), (4, .int x4), (5, .int x5)]) hx hb d_Fo_leafFor_65 rfl hl (by decide) rfl (fun ls hl => ?_)
  obtain ⟨v2, e_v2⟩ : ∃ z, z = x4 + (1 : Int32) := ⟨_, rfl⟩
  have hw := hw v2 e_v2
  refine lv_iinc (k := 4) (lv' := [(4, .int v2), (3, .int v1), (0, .ref (ad 2)), (1, .int x1), (2, .ref (ad 1)), (5, .int x5)]) hx hb d_Fo_leafFor_66 hl rfl e_v2.symm (by decide) rfl (fun ls hl => ?_)
  refine lv_goto (tgt := 5) hx hb d_Fo_leafFor_69 (by decide) ?_
  exact hp5 _ _ _ _ H locs ls hw hwd (lv_sub hl [2, 3, 4, 1, 0] rfl)

set_option maxHeartbeats 4000000 in
set_option maxRecDepth 100000 in
theorem wb_Fo_leafFor_5 {K : Int32 → St → Prop} {P5 : Int32 → Int32 → Int32 → St → Prop} {x1 : Int32} {x3 : Int32} {x4 : Int32} {g : St} (F : fxC D cI cZ p R s m args c b_Fo_leafFor 6 R_Fo 2 46)
    (hret : rtCI D cI cZ ad p l e R s m args below meth c b_Fo_leafFor A H0 Q K) (hp5 : ∀ (x1 : Int32) (x3 : Int32) (x4 : Int32) (g : St) (H : Heap) (locs : List Loc) (ls : Array Slot), P5 x1 x3 x4 g → wdC D cI cZ ad A H0 g H locs → lv_has ls 6 [(0, .ref (ad 2)), (1, .int x1), (2, .ref (ad 1)), (3, .int x3), (4, .int x4)] → W p l e R s m args below meth c H locs 0 0 Q (F0 m 5 ls []))
    (hw : pb_Fo_leafFor_5 K P5 x1 x3 x4 g)
    (hwd : wdC D cI cZ ad A H0 g H locs) (hl : lv_has ls 6 [(0, .ref (ad 2)), (1, .int x1), (2, .ref (ad 1)), (3, .int x3), (4, .int x4)]) : W p l e R s m args below meth c H locs 0 0 Q (F0 m 5 ls []) := by
  obtain ⟨hx, hb, hml, hown, hts, hK, hN, hR⟩ := F
  have F : fxC D cI cZ p R s m args c b_Fo_leafFor 6 R_Fo 2 46 := ⟨hx, hb, hml, hown, hts, hK, hN, hR⟩
  refine lv_iload hx hb d_Fo_leafFor_5 (lv_at hl 4 rfl) ?_
  refine lv_bipush (v := 12) hx hb d_Fo_leafFor_7 (by decide) ?_
  refine lv_icmp_gt (tgt := 72) hx hb d_Fo_leafFor_9 (by decide) (fun hc => ?_) (fun hc => ?_)
  · have hw := hw.1 hc
    refine lv_iload_n hx hb d_Fo_leafFor_72 rfl (lv_at hl 3 rfl) ?_
    exact hret _ _ _ _ hw hwd _ _ d_Fo_leafFor_73
  · have hw := hw.2 hc
    refine lv_aload_n hx hb d_Fo_leafFor_12 rfl (lv_at hl 0 rfl) ?_
    refine lv_iload_n hx hb d_Fo_leafFor_13 rfl (lv_at hl 3 rfl) ?_
    refine mcC_Fo_41 F hwd (ct_Fo_isLeaf _ _ _ hw) ⟨Nat.le_trans (by decide) hR.1, Nat.le_trans (by decide) hR.2⟩ hl.1 (Nat.le_of_ble_eq_true rfl) d_Fo_leafFor_14 (fun v2 g1 H locs hw hwd => ?_)
    refine lv_if_ne (tgt := 72) hx hb d_Fo_leafFor_17 (by decide) (fun hc => ?_) (fun hc => ?_)
    · have hw := hw.1 hc
      refine lv_iload_n hx hb d_Fo_leafFor_72 rfl (lv_at hl 3 rfl) ?_
      exact hret _ _ _ _ hw hwd _ _ d_Fo_leafFor_73
    · have hw := hw.2 hc
      refine lv_aload_n hx hb d_Fo_leafFor_20 rfl (lv_at hl 0 rfl) ?_
      refine gfC_Fo_9 F hwd d_Fo_leafFor_21 ?_
      refine lv_iload_n hx hb d_Fo_leafFor_24 rfl (lv_at hl 3 rfl) ?_
      obtain ⟨hi, hw⟩ := hw
      refine rdC_3 F hwd hi d_Fo_leafFor_25 ?_
      refine lv_aload_n hx hb d_Fo_leafFor_26 rfl (lv_at hl 2 rfl) ?_
      refine lv_aload_n hx hb d_Fo_leafFor_27 rfl (lv_at hl 0 rfl) ?_
      refine gfC_Fo_15 F hwd d_Fo_leafFor_28 ?_
      refine lv_iload_n hx hb d_Fo_leafFor_31 rfl (lv_at hl 3 rfl) ?_
      obtain ⟨hi, hw⟩ := hw
      refine rdC_4 F hwd hi d_Fo_leafFor_32 ?_
      obtain ⟨hi, hw⟩ := hw
      refine rdC_1 F hwd hi d_Fo_leafFor_33 ?_
      refine lv_aload_n hx hb d_Fo_leafFor_34 rfl (lv_at hl 0 rfl) ?_
      refine gfC_Fo_18 F hwd d_Fo_leafFor_35 ?_
      refine lv_iload_n hx hb d_Fo_leafFor_38 rfl (lv_at hl 3 rfl) ?_
      obtain ⟨hi, hw⟩ := hw
      refine rdC_5 F hwd hi d_Fo_leafFor_39 ?_
      refine mcC_Fo_49 F hwd (ct_Ru_goesToYes _ _ _ _ _ hw) ⟨Nat.le_trans (by decide) hR.1, Nat.le_trans (by decide) hR.2⟩ hl.1 (Nat.le_of_ble_eq_true rfl) d_Fo_leafFor_40 (fun v4 g3 H locs hw hwd => ?_)
      refine lv_topi (fun v5 e_v5 => ?_)
      have hw := hw v5 e_v5
      refine lv_istore (lv' := [(5, .int v5), (0, .ref (ad 2)), (1, .int x1), (2, .ref (ad 1)), (3, .int x3), (4, .int x4)]) hx hb d_Fo_leafFor_43 hl (by decide) rfl (fun ls hl => ?_)
      refine lv_iload hx hb d_Fo_leafFor_45 (lv_at hl 0 rfl) ?_
      refine lv_if_eq (tgt := 59) hx hb d_Fo_leafFor_47 (by decide) (fun hc => ?_) (fun hc => ?_)
      · have hw := hw.1 hc
        refine lv_aload_n hx hb d_Fo_leafFor_59 rfl (lv_at hl 1 rfl) ?_
        refine gfC_Fo_24 F hwd d_Fo_leafFor_60 ?_
        refine lv_iload_n hx hb d_Fo_leafFor_63 rfl (lv_at hl 4 rfl) ?_
        obtain ⟨hi, hw⟩ := hw
        refine rdC_7 F hwd hi d_Fo_leafFor_64 ?_
        exact wb_Fo_leafFor_65 F hret hp5 hw hwd (lv_sub hl [1, 2, 3, 4, 5, 0] rfl)
      · have hw := hw.2 hc
        refine lv_aload_n hx hb d_Fo_leafFor_50 rfl (lv_at hl 1 rfl) ?_
        refine gfC_Fo_21 F hwd d_Fo_leafFor_51 ?_
        refine lv_iload_n hx hb d_Fo_leafFor_54 rfl (lv_at hl 4 rfl) ?_
        obtain ⟨hi, hw⟩ := hw
        refine rdC_6 F hwd hi d_Fo_leafFor_55 ?_
        refine lv_goto (tgt := 65) hx hb d_Fo_leafFor_56 (by decide) ?_
        exact wb_Fo_leafFor_65 F hret hp5 hw hwd (lv_sub hl [1, 2, 3, 4, 5, 0] rfl)

set_option maxHeartbeats 4000000 in
theorem wl_Fo_leafFor_5 {K : Int32 → St → Prop} {x1 : Int32} {x3 : Int32} {x4 : Int32} {g : St} (F : fxC D cI cZ p R s m args c b_Fo_leafFor 6 R_Fo 2 46)
    (hret : rtCI D cI cZ ad p l e R s m args below meth c b_Fo_leafFor A H0 Q K)
    (hw : pl_Fo_leafFor_5 K x1 x3 x4 g)
    (hwd : wdC D cI cZ ad A H0 g H locs) (hl : lv_has ls 6 [(0, .ref (ad 2)), (1, .int x1), (2, .ref (ad 1)), (3, .int x3), (4, .int x4)]) : W p l e R s m args below meth c H locs 0 0 Q (F0 m 5 ls []) := by
  refine hw (fun x1 x3 x4 g => ∀ (H : Heap) (locs : List Loc) (ls : Array Slot), wdC D cI cZ ad A H0 g H locs → lv_has ls 6 [(0, .ref (ad 2)), (1, .int x1), (2, .ref (ad 1)), (3, .int x3), (4, .int x4)] → W p l e R s m args below meth c H locs 0 0 Q (F0 m 5 ls [])) ?_ H locs ls hwd hl
  intro x1 x3 x4 g hw H locs ls hwd hl
  exact wb_Fo_leafFor_5 F hret (fun x1 x3 x4 g H locs ls h hwd hl => h H locs ls hwd hl) hw hwd hl

set_option maxHeartbeats 4000000 in
set_option maxRecDepth 100000 in
theorem wb_Fo_leafFor_0 {K : Int32 → St → Prop} {x1 : Int32} {g : St} (F : fxC D cI cZ p R s m args c b_Fo_leafFor 6 R_Fo 2 46)
    (hret : rtCI D cI cZ ad p l e R s m args below meth c b_Fo_leafFor A H0 Q K)
    (hw : pb_Fo_leafFor_0 K x1 g)
    (hwd : wdC D cI cZ ad A H0 g H locs) (hl : lv_has ls 6 [(0, .ref (ad 2)), (1, .int x1), (2, .ref (ad 1))]) : W p l e R s m args below meth c H locs 0 0 Q (F0 m 0 ls []) := by
  obtain ⟨hx, hb, hml, hown, hts, hK, hN, hR⟩ := F
  have F : fxC D cI cZ p R s m args c b_Fo_leafFor 6 R_Fo 2 46 := ⟨hx, hb, hml, hown, hts, hK, hN, hR⟩
  refine lv_iload_n hx hb d_Fo_leafFor_0 rfl (lv_at hl 1 rfl) ?_
  refine lv_topi (fun v1 e_v1 => ?_)
  have hw := hw v1 e_v1
  refine lv_istore_n (lv' := [(3, .int v1), (0, .ref (ad 2)), (1, .int x1), (2, .ref (ad 1))]) hx hb d_Fo_leafFor_1 rfl hl (by decide) rfl (fun ls hl => ?_)
  refine lv_iconst (v := 0) hx hb d_Fo_leafFor_2 (by decide) ?_
  refine lv_topi (fun v2 e_v2 => ?_)
  have hw := hw v2 e_v2
  refine lv_istore (lv' := [(4, .int v2), (3, .int v1), (0, .ref (ad 2)), (1, .int x1), (2, .ref (ad 1))]) hx hb d_Fo_leafFor_3 hl (by decide) rfl (fun ls hl => ?_)
  exact wl_Fo_leafFor_5 F hret hw hwd (lv_sub hl [2, 3, 4, 1, 0] rfl)

theorem ct_Fo_leafFor {l : Launch} {D : va_G} {cI cZ : ClassId} {ad : Nat → Nat} (x1 : Int32) (g : St) (K : Int32 → St → Prop) (h : pc_Fo_leafFor x1 g K) : ctCI l y_Fo_leafFor b_Fo_leafFor 6 2 46 D cI cZ ad [.ref (ad 2), .int x1, .ref (ad 1)] g K :=
  enCI (by decide) (Nat.le_of_ble_eq_true rfl) (fun p e s m args below meth c A H0 ls Q F hwd hl hret => wb_Fo_leafFor_0 F hret h hwd hl)

set_option maxHeartbeats 4000000 in
set_option maxRecDepth 100000 in
theorem wb_BF_reach_0 {K : Int32 → St → Prop} {x1 : Int32} {g : St} (F : fxC D cI cZ p R s m args c b_BF_reach 2 R_BF 3 71)
    (hret : rtCI D cI cZ ad p l e R s m args below meth c b_BF_reach A H0 Q K)
    (hw : pb_BF_reach_0 K x1 g)
    (hwd : wdC D cI cZ ad A H0 g H locs) (hl : lv_has ls 2 [(0, .ref (ad 0)), (1, .int x1)]) : W p l e R s m args below meth c H locs 0 0 Q (F0 m 0 ls []) := by
  obtain ⟨hx, hb, hml, hown, hts, hK, hN, hR⟩ := F
  have F : fxC D cI cZ p R s m args c b_BF_reach 2 R_BF 3 71 := ⟨hx, hb, hml, hown, hts, hK, hN, hR⟩
  refine lv_iload_n hx hb d_BF_reach_0 rfl (lv_at hl 1 rfl) ?_
  refine lv_if_lt (tgt := 38) hx hb d_BF_reach_1 (by decide) (fun hc => ?_) (fun hc => ?_)
  · have hw := hw.1 hc
    refine lv_iconst (v := -1) hx hb d_BF_reach_38 (by decide) ?_
    exact hret _ _ _ _ hw hwd _ _ d_BF_reach_39
  · have hw := hw.2 hc
    refine lv_iload_n hx hb d_BF_reach_4 rfl (lv_at hl 1 rfl) ?_
    refine lv_aload_n hx hb d_BF_reach_5 rfl (lv_at hl 0 rfl) ?_
    refine gfC_BF_48 F hwd d_BF_reach_6 ?_
    refine gfC_BF_151 F hwd d_BF_reach_9 ?_
    refine lv_icmp_ge (tgt := 38) hx hb d_BF_reach_12 (by decide) (fun hc => ?_) (fun hc => ?_)
    · have hw := hw.1 hc
      refine lv_iconst (v := -1) hx hb d_BF_reach_38 (by decide) ?_
      exact hret _ _ _ _ hw hwd _ _ d_BF_reach_39
    · have hw := hw.2 hc
      refine lv_aload_n hx hb d_BF_reach_15 rfl (lv_at hl 0 rfl) ?_
      refine gfC_BF_16 F hwd d_BF_reach_16 ?_
      refine lv_aload_n hx hb d_BF_reach_19 rfl (lv_at hl 0 rfl) ?_
      refine gfC_BF_16 F hwd d_BF_reach_20 ?_
      refine gfC_BF_152 F hwd d_BF_reach_23 ?_
      refine lv_iload_n hx hb d_BF_reach_26 rfl (lv_at hl 1 rfl) ?_
      obtain ⟨hi, hw⟩ := hw
      refine rdC_8 F hwd hi d_BF_reach_27 ?_
      refine lv_aload_n hx hb d_BF_reach_28 rfl (lv_at hl 0 rfl) ?_
      refine gfC_BF_9 F hwd d_BF_reach_29 ?_
      refine mcC_BF_155 F hwd (ct_Fo_leafFor _ _ _ hw) ⟨Nat.le_trans (by decide) hR.1, Nat.le_trans (by decide) hR.2⟩ hl.1 (Nat.le_of_ble_eq_true rfl) d_BF_reach_32 (fun v2 g1 H locs hw hwd => ?_)
      refine lv_goto (tgt := 39) hx hb d_BF_reach_35 (by decide) ?_
      exact hret _ _ _ _ hw hwd _ _ d_BF_reach_39

theorem ct_BF_reach {l : Launch} {D : va_G} {cI cZ : ClassId} {ad : Nat → Nat} (x1 : Int32) (g : St) (K : Int32 → St → Prop) (h : pc_BF_reach x1 g K) : ctCI l y_BF_reach b_BF_reach 2 3 71 D cI cZ ad [.ref (ad 0), .int x1] g K :=
  enCI (by decide) (Nat.le_of_ble_eq_true rfl) (fun p e s m args below meth c A H0 ls Q F hwd hl hret => wb_BF_reach_0 F hret h hwd hl)
end WALKC3
