section WALKM1
variable {p : Program} {l : Launch} {e : Env} {R : Room} {s : State} {m : MethodId} {args : Array Value} {below : List Frame} {meth : Method} {c : Code} {H : Heap} {locs : List Loc} {Q : State → Prop}
variable {D : va_G} {cI cZ : ClassId} {ad : Nat → Nat} {A : Nat → Prop} {H0 : Heap} {ls : Array Slot}
set_option maxHeartbeats 4000000 in
set_option maxRecDepth 100000 in
theorem wb_Mo_measure_118 {K : St → Prop} {x1 : Int32} {x2 : Int32} {g : St} (F : fxM D cI cZ p R s m args c b_Mo_measure 4 R_Mo 3 64)
    (hret : rtMV D cI cZ ad p l e R s m args below meth c b_Mo_measure A H0 Q K)
    (hw : pb_Mo_measure_118 K x1 x2 g)
    (hwd : wdM D cI cZ ad A H0 g H locs) (hl : lv_has ls 4 [(0, .ref (ad 0)), (1, .int x1), (2, .int x2)]) : W p l e R s m args below meth c H locs 0 0 Q (F0 m 118 ls []) := by
  obtain ⟨hx, hb, hml, hown, hts, hK, hN, hR⟩ := F
  have F : fxM D cI cZ p R s m args c b_Mo_measure 4 R_Mo 3 64 := ⟨hx, hb, hml, hown, hts, hK, hN, hR⟩
  refine lv_aload_n hx hb d_Mo_measure_118 rfl (lv_at hl 0 rfl) ?_
  refine gfM_Mo_44 F hwd d_Mo_measure_119 ?_
  refine lv_iload_n hx hb d_Mo_measure_122 rfl (lv_at hl 1 rfl) ?_
  refine lv_aload_n hx hb d_Mo_measure_123 rfl (lv_at hl 0 rfl) ?_
  refine lv_iload_n hx hb d_Mo_measure_124 rfl (lv_at hl 1 rfl) ?_
  refine mcM_Mo_102 F hwd (ct_Mo_bytesOf _ _ _ hw) ⟨Nat.le_trans (by decide) hR.1, Nat.le_trans (by decide) hR.2⟩ hl.1 (Nat.le_of_ble_eq_true rfl) d_Mo_measure_125 (fun v2 g1 H locs hw hwd => ?_)
  obtain ⟨hi, hw⟩ := hw
  refine wrM_12 F hwd hi d_Mo_measure_128 (fun H locs hwd => ?_)
  obtain ⟨g3, e_g3⟩ : ∃ z : St, z = ar g1 12 x1 v2 := ⟨_, rfl⟩
  have hwd : wdM D cI cZ ad A H0 g3 H locs := by rw [e_g3]; exact hwd
  have hw := hw g3 e_g3
  exact hret _ _ _ hw hwd _ _ d_Mo_measure_129

set_option maxHeartbeats 4000000 in
set_option maxRecDepth 100000 in
theorem wb_Mo_measure_115 {K : St → Prop} {x1 : Int32} {x2 : Int32} {x3 : Int32} {t1 : Int32} {g : St} (F : fxM D cI cZ p R s m args c b_Mo_measure 4 R_Mo 3 64)
    (hret : rtMV D cI cZ ad p l e R s m args below meth c b_Mo_measure A H0 Q K)
    (hw : pb_Mo_measure_115 K x1 x2 x3 t1 g)
    (hwd : wdM D cI cZ ad A H0 g H locs) (hl : lv_has ls 4 [(0, .ref (ad 0)), (1, .int x1), (2, .int x2), (3, .int x3)]) : W p l e R s m args below meth c H locs 0 0 Q (F0 m 115 ls [.int t1, .ref (ad 0)]) := by
  obtain ⟨hx, hb, hml, hown, hts, hK, hN, hR⟩ := F
  have F : fxM D cI cZ p R s m args c b_Mo_measure 4 R_Mo 3 64 := ⟨hx, hb, hml, hown, hts, hK, hN, hR⟩
  refine mcM_Mo_105 F hwd (ct_Mo_cutOut _ _ _ hw) ⟨Nat.le_trans (by decide) hR.1, Nat.le_trans (by decide) hR.2⟩ hl.1 (Nat.le_of_ble_eq_true rfl) d_Mo_measure_115 (fun g1 H locs hw hwd => ?_)
  exact wb_Mo_measure_118 F hret hw hwd (lv_sub hl [0, 1, 2] rfl)

set_option maxHeartbeats 4000000 in
set_option maxRecDepth 100000 in
theorem wb_Mo_measure_83 {K : St → Prop} {x1 : Int32} {x2 : Int32} {x3 : Int32} {t1 : Int32} {g : St} (F : fxM D cI cZ p R s m args c b_Mo_measure 4 R_Mo 3 64)
    (hret : rtMV D cI cZ ad p l e R s m args below meth c b_Mo_measure A H0 Q K)
    (hw : pb_Mo_measure_83 K x1 x2 x3 t1 g)
    (hwd : wdM D cI cZ ad A H0 g H locs) (hl : lv_has ls 4 [(0, .ref (ad 0)), (1, .int x1), (2, .int x2), (3, .int x3)]) : W p l e R s m args below meth c H locs 0 0 Q (F0 m 83 ls [.int t1, .ref (ad 0)]) := by
  obtain ⟨hx, hb, hml, hown, hts, hK, hN, hR⟩ := F
  have F : fxM D cI cZ p R s m args c b_Mo_measure 4 R_Mo 3 64 := ⟨hx, hb, hml, hown, hts, hK, hN, hR⟩
  refine mcM_Mo_105 F hwd (ct_Mo_cutOut _ _ _ hw) ⟨Nat.le_trans (by decide) hR.1, Nat.le_trans (by decide) hR.2⟩ hl.1 (Nat.le_of_ble_eq_true rfl) d_Mo_measure_83 (fun g1 H locs hw hwd => ?_)
  refine lv_aload_n hx hb d_Mo_measure_86 rfl (lv_at hl 0 rfl) ?_
  refine lv_iload_n hx hb d_Mo_measure_87 rfl (lv_at hl 1 rfl) ?_
  refine mcM_Mo_102 F hwd (ct_Mo_bytesOf _ _ _ hw) ⟨Nat.le_trans (by decide) hR.1, Nat.le_trans (by decide) hR.2⟩ hl.1 (Nat.le_of_ble_eq_true rfl) d_Mo_measure_88 (fun v3 g2 H locs hw hwd => ?_)
  refine lv_iload_n hx hb d_Mo_measure_91 rfl (lv_at hl 2 rfl) ?_
  refine lv_icmp_le (tgt := 118) hx hb d_Mo_measure_92 (by decide) (fun hc => ?_) (fun hc => ?_)
  · have hw := hw.1 hc
    exact wb_Mo_measure_118 F hret hw hwd (lv_sub hl [0, 1, 2] rfl)
  · have hw := hw.2 hc
    refine lv_aload_n hx hb d_Mo_measure_95 rfl (lv_at hl 0 rfl) ?_
    refine lv_iload_n hx hb d_Mo_measure_96 rfl (lv_at hl 3 rfl) ?_
    refine lv_if_eq (tgt := 109) hx hb d_Mo_measure_97 (by decide) (fun hc => ?_) (fun hc => ?_)
    · have hw := hw.1 hc
      refine lv_aload_n hx hb d_Mo_measure_109 rfl (lv_at hl 0 rfl) ?_
      refine gfM_Mo_19 F hwd d_Mo_measure_110 ?_
      refine lv_iload_n hx hb d_Mo_measure_113 rfl (lv_at hl 1 rfl) ?_
      obtain ⟨hi, hw⟩ := hw
      refine rdM_4 F hwd hi d_Mo_measure_114 ?_
      exact wb_Mo_measure_115 F hret hw hwd (lv_sub hl [0, 1, 2, 3] rfl)
    · have hw := hw.2 hc
      refine lv_aload_n hx hb d_Mo_measure_100 rfl (lv_at hl 0 rfl) ?_
      refine gfM_Mo_22 F hwd d_Mo_measure_101 ?_
      refine lv_iload_n hx hb d_Mo_measure_104 rfl (lv_at hl 1 rfl) ?_
      obtain ⟨hi, hw⟩ := hw
      refine rdM_5 F hwd hi d_Mo_measure_105 ?_
      refine lv_goto (tgt := 115) hx hb d_Mo_measure_106 (by decide) ?_
      exact wb_Mo_measure_115 F hret hw hwd (lv_sub hl [0, 1, 2, 3] rfl)

set_option maxHeartbeats 4000000 in
set_option maxRecDepth 100000 in
theorem wb_Mo_measure_62 {K : St → Prop} {x1 : Int32} {x2 : Int32} {t0 : Int32} {g : St} (F : fxM D cI cZ p R s m args c b_Mo_measure 4 R_Mo 3 64)
    (hret : rtMV D cI cZ ad p l e R s m args below meth c b_Mo_measure A H0 Q K)
    (hw : pb_Mo_measure_62 K x1 x2 t0 g)
    (hwd : wdM D cI cZ ad A H0 g H locs) (hl : lv_has ls 4 [(0, .ref (ad 0)), (1, .int x1), (2, .int x2)]) : W p l e R s m args below meth c H locs 0 0 Q (F0 m 62 ls [.int t0]) := by
  obtain ⟨hx, hb, hml, hown, hts, hK, hN, hR⟩ := F
  have F : fxM D cI cZ p R s m args c b_Mo_measure 4 R_Mo 3 64 := ⟨hx, hb, hml, hown, hts, hK, hN, hR⟩
  refine lv_topi (fun v1 e_v1 => ?_)
  have hw := hw v1 e_v1
  refine lv_istore_n (lv' := [(3, .int v1), (0, .ref (ad 0)), (1, .int x1), (2, .int x2)]) hx hb d_Mo_measure_62 rfl hl (by decide) rfl (fun ls hl => ?_)
  refine lv_aload_n hx hb d_Mo_measure_63 rfl (lv_at hl 1 rfl) ?_
  refine lv_iload_n hx hb d_Mo_measure_64 rfl (lv_at hl 0 rfl) ?_
  refine lv_if_eq (tgt := 77) hx hb d_Mo_measure_65 (by decide) (fun hc => ?_) (fun hc => ?_)
  · have hw := hw.1 hc
    refine lv_aload_n hx hb d_Mo_measure_77 rfl (lv_at hl 1 rfl) ?_
    refine gfM_Mo_22 F hwd d_Mo_measure_78 ?_
    refine lv_iload_n hx hb d_Mo_measure_81 rfl (lv_at hl 2 rfl) ?_
    obtain ⟨hi, hw⟩ := hw
    refine rdM_5 F hwd hi d_Mo_measure_82 ?_
    exact wb_Mo_measure_83 F hret hw hwd (lv_sub hl [1, 2, 3, 0] rfl)
  · have hw := hw.2 hc
    refine lv_aload_n hx hb d_Mo_measure_68 rfl (lv_at hl 1 rfl) ?_
    refine gfM_Mo_19 F hwd d_Mo_measure_69 ?_
    refine lv_iload_n hx hb d_Mo_measure_72 rfl (lv_at hl 2 rfl) ?_
    obtain ⟨hi, hw⟩ := hw
    refine rdM_4 F hwd hi d_Mo_measure_73 ?_
    refine lv_goto (tgt := 83) hx hb d_Mo_measure_74 (by decide) ?_
    exact wb_Mo_measure_83 F hret hw hwd (lv_sub hl [1, 2, 3, 0] rfl)

set_option maxHeartbeats 4000000 in
set_option maxRecDepth 100000 in
theorem wb_Mo_measure_0 {K : St → Prop} {x1 : Int32} {x2 : Int32} {g : St} (F : fxM D cI cZ p R s m args c b_Mo_measure 4 R_Mo 3 64)
    (hret : rtMV D cI cZ ad p l e R s m args below meth c b_Mo_measure A H0 Q K)
    (hw : pb_Mo_measure_0 K x1 x2 g)
    (hwd : wdM D cI cZ ad A H0 g H locs) (hl : lv_has ls 4 [(0, .ref (ad 0)), (1, .int x1), (2, .int x2)]) : W p l e R s m args below meth c H locs 0 0 Q (F0 m 0 ls []) := by
  obtain ⟨hx, hb, hml, hown, hts, hK, hN, hR⟩ := F
  have F : fxM D cI cZ p R s m args c b_Mo_measure 4 R_Mo 3 64 := ⟨hx, hb, hml, hown, hts, hK, hN, hR⟩
  refine lv_aload_n hx hb d_Mo_measure_0 rfl (lv_at hl 0 rfl) ?_
  refine gfM_Mo_47 F hwd d_Mo_measure_1 ?_
  refine lv_iload_n hx hb d_Mo_measure_4 rfl (lv_at hl 1 rfl) ?_
  refine lv_iconst (v := -1) hx hb d_Mo_measure_5 (by decide) ?_
  obtain ⟨hi, hw⟩ := hw
  refine wrM_13 F hwd hi d_Mo_measure_6 (fun H locs hwd => ?_)
  obtain ⟨g1, e_g1⟩ : ∃ z : St, z = ar g 13 x1 (-1 : Int32) := ⟨_, rfl⟩
  have hwd : wdM D cI cZ ad A H0 g1 H locs := by rw [e_g1]; exact hwd
  have hw := hw g1 e_g1
  refine lv_aload_n hx hb d_Mo_measure_7 rfl (lv_at hl 0 rfl) ?_
  refine gfM_Mo_7 F hwd d_Mo_measure_8 ?_
  refine lv_iload_n hx hb d_Mo_measure_11 rfl (lv_at hl 1 rfl) ?_
  obtain ⟨hi, hw⟩ := hw
  refine rdM_1 F hwd hi d_Mo_measure_12 ?_
  refine lv_iconst (v := -1) hx hb d_Mo_measure_13 (by decide) ?_
  refine lv_icmp_ne (tgt := 25) hx hb d_Mo_measure_14 (by decide) (fun hc => ?_) (fun hc => ?_)
  · have hw := hw.1 hc
    refine lv_aload_n hx hb d_Mo_measure_25 rfl (lv_at hl 0 rfl) ?_
    refine lv_iload_n hx hb d_Mo_measure_26 rfl (lv_at hl 1 rfl) ?_
    refine mcM_Mo_102 F hwd (ct_Mo_bytesOf _ _ _ hw) ⟨Nat.le_trans (by decide) hR.1, Nat.le_trans (by decide) hR.2⟩ hl.1 (Nat.le_of_ble_eq_true rfl) d_Mo_measure_27 (fun v3 g2 H locs hw hwd => ?_)
    refine lv_iload_n hx hb d_Mo_measure_30 rfl (lv_at hl 2 rfl) ?_
    refine lv_icmp_le (tgt := 118) hx hb d_Mo_measure_31 (by decide) (fun hc => ?_) (fun hc => ?_)
    · have hw := hw.1 hc
      exact wb_Mo_measure_118 F hret hw hwd (lv_sub hl [0, 1, 2] rfl)
    · have hw := hw.2 hc
      refine lv_aload_n hx hb d_Mo_measure_34 rfl (lv_at hl 0 rfl) ?_
      refine lv_aload_n hx hb d_Mo_measure_35 rfl (lv_at hl 0 rfl) ?_
      refine gfM_Mo_19 F hwd d_Mo_measure_36 ?_
      refine lv_iload_n hx hb d_Mo_measure_39 rfl (lv_at hl 1 rfl) ?_
      obtain ⟨hi, hw⟩ := hw
      refine rdM_4 F hwd hi d_Mo_measure_40 ?_
      refine mcM_Mo_88 F hwd (ct_Mo_part _ _ _ hw) ⟨Nat.le_trans (by decide) hR.1, Nat.le_trans (by decide) hR.2⟩ hl.1 (Nat.le_of_ble_eq_true rfl) d_Mo_measure_41 (fun v5 g4 H locs hw hwd => ?_)
      refine lv_aload_n hx hb d_Mo_measure_44 rfl (lv_at hl 0 rfl) ?_
      refine lv_aload_n hx hb d_Mo_measure_45 rfl (lv_at hl 0 rfl) ?_
      refine gfM_Mo_22 F hwd d_Mo_measure_46 ?_
      refine lv_iload_n hx hb d_Mo_measure_49 rfl (lv_at hl 1 rfl) ?_
      obtain ⟨hi, hw⟩ := hw
      refine rdM_5 F hwd hi d_Mo_measure_50 ?_
      refine mcM_Mo_88 F hwd (ct_Mo_part _ _ _ hw) ⟨Nat.le_trans (by decide) hR.1, Nat.le_trans (by decide) hR.2⟩ hl.1 (Nat.le_of_ble_eq_true rfl) d_Mo_measure_51 (fun v7 g6 H locs hw hwd => ?_)
      refine lv_icmp_lt (tgt := 61) hx hb d_Mo_measure_54 (by decide) (fun hc => ?_) (fun hc => ?_)
      · have hw := hw.1 hc
        refine lv_iconst (v := 0) hx hb d_Mo_measure_61 (by decide) ?_
        exact wb_Mo_measure_62 F hret hw hwd (lv_sub hl [0, 1, 2] rfl)
      · have hw := hw.2 hc
        refine lv_iconst (v := 1) hx hb d_Mo_measure_57 (by decide) ?_
        refine lv_goto (tgt := 62) hx hb d_Mo_measure_58 (by decide) ?_
        exact wb_Mo_measure_62 F hret hw hwd (lv_sub hl [0, 1, 2] rfl)
  · have hw := hw.2 hc
    refine lv_aload_n hx hb d_Mo_measure_17 rfl (lv_at hl 0 rfl) ?_
    refine gfM_Mo_44 F hwd d_Mo_measure_18 ?_
    refine lv_iload_n hx hb d_Mo_measure_21 rfl (lv_at hl 1 rfl) ?_
    refine lv_iconst (v := 3) hx hb d_Mo_measure_22 (by decide) ?_
    obtain ⟨hi, hw⟩ := hw
    refine wrM_12 F hwd hi d_Mo_measure_23 (fun H locs hwd => ?_)
    obtain ⟨g8, e_g8⟩ : ∃ z : St, z = ar g1 12 x1 (3 : Int32) := ⟨_, rfl⟩
    have hwd : wdM D cI cZ ad A H0 g8 H locs := by rw [e_g8]; exact hwd
    have hw := hw g8 e_g8
    exact hret _ _ _ hw hwd _ _ d_Mo_measure_24

theorem ct_Mo_measure {l : Launch} {D : va_G} {cI cZ : ClassId} {ad : Nat → Nat} (x1 : Int32) (x2 : Int32) (g : St) (K : St → Prop) (h : pc_Mo_measure x1 x2 g K) : ctMV l y_Mo_measure b_Mo_measure 4 3 64 D cI cZ ad [.ref (ad 0), .int x1, .int x2] g K :=
  enMV (by decide) (Nat.le_of_ble_eq_true rfl) (fun p e s m args below meth c A H0 ls Q F hwd hl hret => wb_Mo_measure_0 F hret h hwd hl)

set_option maxHeartbeats 4000000 in
set_option maxRecDepth 100000 in
theorem wb_Mo_cutTree_84 {K : St → Prop} {P12 : Int32 → Int32 → Int32 → Int32 → St → Prop} {x1 : Int32} {x2 : Int32} {x3 : Int32} {x4 : Int32} {x5 : Int32} {g : St} (F : fxM D cI cZ p R s m args c b_Mo_cutTree 6 R_Mo 4 87)
    (hret : rtMV D cI cZ ad p l e R s m args below meth c b_Mo_cutTree A H0 Q K) (hp12 : ∀ (x1 : Int32) (x2 : Int32) (x3 : Int32) (x4 : Int32) (g : St) (H : Heap) (locs : List Loc) (ls : Array Slot), P12 x1 x2 x3 x4 g → wdM D cI cZ ad A H0 g H locs → lv_has ls 6 [(0, .ref (ad 0)), (1, .int x1), (2, .int x2), (3, .int x3), (4, .int x4)] → W p l e R s m args below meth c H locs 0 0 Q (F0 m 12 ls []))
    (hw : pb_Mo_cutTree_84 K P12 x1 x2 x3 x4 x5 g)
    (hwd : wdM D cI cZ ad A H0 g H locs) (hl : lv_has ls 6 [(0, .ref (ad 0)), (1, .int x1), (2, .int x2), (3, .int x3), (4, .int x4), (5, .int x5)]) : W p l e R s m args below meth c H locs 0 0 Q (F0 m 84 ls []) := by
  obtain ⟨hx, hb, hml, hown, hts, hK, hN, hR⟩ := F
  have F : fxM D cI cZ p R s m args c b_Mo_cutTree 6 R_Mo 4 87 := ⟨hx, hb, hml, hown, hts, hK, hN, hR⟩
  refine lv_goto (tgt := 12) hx hb d_Mo_cutTree_84 (by decide) ?_
  exact hp12 _ _ _ _ _ H locs ls hw hwd (lv_sub hl [0, 1, 2, 3, 4] rfl)

set_option maxHeartbeats 4000000 in
set_option maxRecDepth 100000 in
theorem wb_Mo_cutTree_92 {K : St → Prop} {P92 : Int32 → Int32 → Int32 → Int32 → Int32 → St → Prop} {x1 : Int32} {x2 : Int32} {x3 : Int32} {x4 : Int32} {x5 : Int32} {g : St} (F : fxM D cI cZ p R s m args c b_Mo_cutTree 6 R_Mo 4 87)
    (hret : rtMV D cI cZ ad p l e R s m args below meth c b_Mo_cutTree A H0 Q K) (hp92 : ∀ (x1 : Int32) (x2 : Int32) (x3 : Int32) (x4 : Int32) (x5 : Int32) (g : St) (H : Heap) (locs : List Loc) (ls : Array Slot), P92 x1 x2 x3 x4 x5 g → wdM D cI cZ ad A H0 g H locs → lv_has ls 6 [(0, .ref (ad 0)), (1, .int x1), (2, .int x2), (3, .int x3), (4, .int x4), (5, .int x5)] → W p l e R s m args below meth c H locs 0 0 Q (F0 m 92 ls []))
    (hw : pb_Mo_cutTree_92 K P92 x1 x2 x3 x4 x5 g)
    (hwd : wdM D cI cZ ad A H0 g H locs) (hl : lv_has ls 6 [(0, .ref (ad 0)), (1, .int x1), (2, .int x2), (3, .int x3), (4, .int x4), (5, .int x5)]) : W p l e R s m args below meth c H locs 0 0 Q (F0 m 92 ls []) := by
  obtain ⟨hx, hb, hml, hown, hts, hK, hN, hR⟩ := F
  have F : fxM D cI cZ p R s m args c b_Mo_cutTree 6 R_Mo 4 87 := ⟨hx, hb, hml, hown, hts, hK, hN, hR⟩
  refine lv_iload hx hb d_Mo_cutTree_92 (lv_at hl 5 rfl) ?_
  refine lv_if_lt (tgt := 115) hx hb d_Mo_cutTree_94 (by decide) (fun hc => ?_) (fun hc => ?_)
  · have hw := hw.1 hc
    refine lv_aload_n hx hb d_Mo_cutTree_115 rfl (lv_at hl 0 rfl) ?_
    refine lv_iload_n hx hb d_Mo_cutTree_116 rfl (lv_at hl 1 rfl) ?_
    refine mcM_Mo_98 F hwd (ct_Mo_newMethod _ _ _ hw) ⟨Nat.le_trans (by decide) hR.1, Nat.le_trans (by decide) hR.2⟩ hl.1 (Nat.le_of_ble_eq_true rfl) d_Mo_cutTree_117 (fun g1 H locs hw hwd => ?_)
    exact hret _ _ _ hw hwd _ _ d_Mo_cutTree_120
  · have hw := hw.2 hc
    refine lv_aload_n hx hb d_Mo_cutTree_97 rfl (lv_at hl 0 rfl) ?_
    refine lv_aload_n hx hb d_Mo_cutTree_98 rfl (lv_at hl 0 rfl) ?_
    refine gfM_Mo_41 F hwd d_Mo_cutTree_99 ?_
    refine lv_iload hx hb d_Mo_cutTree_102 (lv_at hl 5 rfl) ?_
    obtain ⟨hi, hw⟩ := hw
    refine rdM_11 F hwd hi d_Mo_cutTree_104 ?_
    refine lv_iload_n hx hb d_Mo_cutTree_105 rfl (lv_at hl 2 rfl) ?_
    refine mcM_Mo_108 F hwd (ct_Mo_measure _ _ _ _ hw) ⟨Nat.le_trans (by decide) hR.1, Nat.le_trans (by decide) hR.2⟩ hl.1 (Nat.le_of_ble_eq_true rfl) d_Mo_cutTree_106 (fun g2 H locs hw hwd => ?_)
    obtain ⟨v3, e_v3⟩ : ∃ z, z = x5 + (-1 : Int32) := ⟨_, rfl⟩
    have hw := hw v3 e_v3
    refine lv_iinc (k := 5) (lv' := [(5, .int v3), (0, .ref (ad 0)), (1, .int x1), (2, .int x2), (3, .int x3), (4, .int x4)]) hx hb d_Mo_cutTree_109 hl rfl e_v3.symm (by decide) rfl (fun ls hl => ?_)
    refine lv_goto (tgt := 92) hx hb d_Mo_cutTree_112 (by decide) ?_
    exact hp92 _ _ _ _ _ _ H locs ls hw hwd (lv_sub hl [1, 2, 3, 4, 5, 0] rfl)

set_option maxHeartbeats 4000000 in
theorem wl_Mo_cutTree_92 {K : St → Prop} {x1 : Int32} {x2 : Int32} {x3 : Int32} {x4 : Int32} {x5 : Int32} {g : St} (F : fxM D cI cZ p R s m args c b_Mo_cutTree 6 R_Mo 4 87)
    (hret : rtMV D cI cZ ad p l e R s m args below meth c b_Mo_cutTree A H0 Q K)
    (hw : pl_Mo_cutTree_92 K x1 x2 x3 x4 x5 g)
    (hwd : wdM D cI cZ ad A H0 g H locs) (hl : lv_has ls 6 [(0, .ref (ad 0)), (1, .int x1), (2, .int x2), (3, .int x3), (4, .int x4), (5, .int x5)]) : W p l e R s m args below meth c H locs 0 0 Q (F0 m 92 ls []) := by
  refine hw (fun x1 x2 x3 x4 x5 g => ∀ (H : Heap) (locs : List Loc) (ls : Array Slot), wdM D cI cZ ad A H0 g H locs → lv_has ls 6 [(0, .ref (ad 0)), (1, .int x1), (2, .int x2), (3, .int x3), (4, .int x4), (5, .int x5)] → W p l e R s m args below meth c H locs 0 0 Q (F0 m 92 ls [])) ?_ H locs ls hwd hl
  intro x1 x2 x3 x4 x5 g hw H locs ls hwd hl
  exact wb_Mo_cutTree_92 F hret (fun x1 x2 x3 x4 x5 g H locs ls h hwd hl => h H locs ls hwd hl) hw hwd hl

set_option maxHeartbeats 4000000 in
set_option maxRecDepth 100000 in
theorem wb_Mo_cutTree_12 {K : St → Prop} {P12 : Int32 → Int32 → Int32 → Int32 → St → Prop} {x1 : Int32} {x2 : Int32} {x3 : Int32} {x4 : Int32} {g : St} (F : fxM D cI cZ p R s m args c b_Mo_cutTree 6 R_Mo 4 87)
    (hret : rtMV D cI cZ ad p l e R s m args below meth c b_Mo_cutTree A H0 Q K) (hp12 : ∀ (x1 : Int32) (x2 : Int32) (x3 : Int32) (x4 : Int32) (g : St) (H : Heap) (locs : List Loc) (ls : Array Slot), P12 x1 x2 x3 x4 g → wdM D cI cZ ad A H0 g H locs → lv_has ls 6 [(0, .ref (ad 0)), (1, .int x1), (2, .int x2), (3, .int x3), (4, .int x4)] → W p l e R s m args below meth c H locs 0 0 Q (F0 m 12 ls []))
    (hw : pb_Mo_cutTree_12 K P12 x1 x2 x3 x4 g)
    (hwd : wdM D cI cZ ad A H0 g H locs) (hl : lv_has ls 6 [(0, .ref (ad 0)), (1, .int x1), (2, .int x2), (3, .int x3), (4, .int x4)]) : W p l e R s m args below meth c H locs 0 0 Q (F0 m 12 ls []) := by
  obtain ⟨hx, hb, hml, hown, hts, hK, hN, hR⟩ := F
  have F : fxM D cI cZ p R s m args c b_Mo_cutTree 6 R_Mo 4 87 := ⟨hx, hb, hml, hown, hts, hK, hN, hR⟩
  refine lv_iload hx hb d_Mo_cutTree_12 (lv_at hl 4 rfl) ?_
  refine lv_if_le (tgt := 87) hx hb d_Mo_cutTree_14 (by decide) (fun hc => ?_) (fun hc => ?_)
  · have hw := hw.1 hc
    refine lv_iload_n hx hb d_Mo_cutTree_87 rfl (lv_at hl 3 rfl) ?_
    refine lv_iconst (v := 1) hx hb d_Mo_cutTree_88 (by decide) ?_
    refine lv_isub hx hb d_Mo_cutTree_89 ?_
    refine lv_topi (fun v1 e_v1 => ?_)
    have hw := hw v1 e_v1
    refine lv_istore (lv' := [(5, .int v1), (0, .ref (ad 0)), (1, .int x1), (2, .int x2), (3, .int x3), (4, .int x4)]) hx hb d_Mo_cutTree_90 hl (by decide) rfl (fun ls hl => ?_)
    exact wl_Mo_cutTree_92 F hret hw hwd (lv_sub hl [1, 2, 3, 4, 5, 0] rfl)
  · have hw := hw.2 hc
    obtain ⟨v2, e_v2⟩ : ∃ z, z = x4 + (-1 : Int32) := ⟨_, rfl⟩
    have hw := hw v2 e_v2
    refine lv_iinc (k := 4) (lv' := [(4, .int v2), (0, .ref (ad 0)), (1, .int x1), (2, .int x2), (3, .int x3)]) hx hb d_Mo_cutTree_17 hl rfl e_v2.symm (by decide) rfl (fun ls hl => ?_)
    refine lv_aload_n hx hb d_Mo_cutTree_20 rfl (lv_at hl 1 rfl) ?_
    refine gfM_Mo_35 F hwd d_Mo_cutTree_21 ?_
    refine lv_iload hx hb d_Mo_cutTree_24 (lv_at hl 0 rfl) ?_
    obtain ⟨hi, hw⟩ := hw
    refine rdM_9 F hwd hi d_Mo_cutTree_26 ?_
    refine lv_topi (fun v3 e_v3 => ?_)
    have hw := hw v3 e_v3
    refine lv_istore (lv' := [(5, .int v3), (4, .int v2), (0, .ref (ad 0)), (1, .int x1), (2, .int x2), (3, .int x3)]) hx hb d_Mo_cutTree_27 hl (by decide) rfl (fun ls hl => ?_)
    refine lv_aload_n hx hb d_Mo_cutTree_29 rfl (lv_at hl 2 rfl) ?_
    refine gfM_Mo_41 F hwd d_Mo_cutTree_30 ?_
    refine lv_iload_n hx hb d_Mo_cutTree_33 rfl (lv_at hl 5 rfl) ?_
    refine lv_iload hx hb d_Mo_cutTree_34 (lv_at hl 0 rfl) ?_
    obtain ⟨hi, hw⟩ := hw
    refine wrM_11 F hwd hi d_Mo_cutTree_36 (fun H locs hwd => ?_)
    obtain ⟨g4, e_g4⟩ : ∃ z : St, z = ar g 11 x3 v3 := ⟨_, rfl⟩
    have hwd : wdM D cI cZ ad A H0 g4 H locs := by rw [e_g4]; exact hwd
    have hw := hw g4 e_g4
    obtain ⟨v5, e_v5⟩ : ∃ z, z = x3 + (1 : Int32) := ⟨_, rfl⟩
    have hw := hw v5 e_v5
    refine lv_iinc (k := 5) (lv' := [(3, .int v5), (5, .int v3), (4, .int v2), (0, .ref (ad 0)), (1, .int x1), (2, .int x2)]) hx hb d_Mo_cutTree_37 hl rfl e_v5.symm (by decide) rfl (fun ls hl => ?_)
    refine lv_aload_n hx hb d_Mo_cutTree_40 rfl (lv_at hl 3 rfl) ?_
    refine gfM_Mo_7 F hwd d_Mo_cutTree_41 ?_
    refine lv_iload hx hb d_Mo_cutTree_44 (lv_at hl 1 rfl) ?_
    obtain ⟨hi, hw⟩ := hw
    refine rdM_1 F hwd hi d_Mo_cutTree_46 ?_
    refine lv_iconst (v := -1) hx hb d_Mo_cutTree_47 (by decide) ?_
    refine lv_icmp_eq (tgt := 84) hx hb d_Mo_cutTree_48 (by decide) (fun hc => ?_) (fun hc => ?_)
    · have hw := hw.1 hc
      exact wb_Mo_cutTree_84 F hret hp12 hw hwd (lv_sub hl [3, 4, 5, 0, 2, 1] rfl)
    · have hw := hw.2 hc
      refine lv_aload_n hx hb d_Mo_cutTree_51 rfl (lv_at hl 3 rfl) ?_
      refine gfM_Mo_35 F hwd d_Mo_cutTree_52 ?_
      refine lv_iload hx hb d_Mo_cutTree_55 (lv_at hl 2 rfl) ?_
      refine lv_aload_n hx hb d_Mo_cutTree_57 rfl (lv_at hl 3 rfl) ?_
      refine gfM_Mo_19 F hwd d_Mo_cutTree_58 ?_
      refine lv_iload hx hb d_Mo_cutTree_61 (lv_at hl 1 rfl) ?_
      obtain ⟨hi, hw⟩ := hw
      refine rdM_4 F hwd hi d_Mo_cutTree_63 ?_
      obtain ⟨hi, hw⟩ := hw
      refine wrM_9 F hwd hi d_Mo_cutTree_64 (fun H locs hwd => ?_)
      obtain ⟨g6, e_g6⟩ : ∃ z : St, z = ar g4 9 v2 (g4 4 (v3).toNatClampNeg) := ⟨_, rfl⟩
      have hwd : wdM D cI cZ ad A H0 g6 H locs := by rw [e_g6]; exact hwd
      have hw := hw g6 e_g6
      refine lv_aload_n hx hb d_Mo_cutTree_65 rfl (lv_at hl 3 rfl) ?_
      refine gfM_Mo_35 F hwd d_Mo_cutTree_66 ?_
      refine lv_iload hx hb d_Mo_cutTree_69 (lv_at hl 2 rfl) ?_
      refine lv_iconst (v := 1) hx hb d_Mo_cutTree_71 (by decide) ?_
      refine lv_iadd hx hb d_Mo_cutTree_72 ?_
      refine lv_aload_n hx hb d_Mo_cutTree_73 rfl (lv_at hl 3 rfl) ?_
      refine gfM_Mo_22 F hwd d_Mo_cutTree_74 ?_
      refine lv_iload hx hb d_Mo_cutTree_77 (lv_at hl 1 rfl) ?_
      obtain ⟨hi, hw⟩ := hw
      refine rdM_5 F hwd hi d_Mo_cutTree_79 ?_
      obtain ⟨hi, hw⟩ := hw
      refine wrM_9 F hwd hi d_Mo_cutTree_80 (fun H locs hwd => ?_)
      obtain ⟨g7, e_g7⟩ : ∃ z : St, z = ar g6 9 (v2 + (1 : Int32)) (g6 5 (v3).toNatClampNeg) := ⟨_, rfl⟩
      have hwd : wdM D cI cZ ad A H0 g7 H locs := by rw [e_g7]; exact hwd
      have hw := hw g7 e_g7
      obtain ⟨v8, e_v8⟩ : ∃ z, z = v2 + (2 : Int32) := ⟨_, rfl⟩
      have hw := hw v8 e_v8
      refine lv_iinc (k := 2) (lv' := [(4, .int v8), (3, .int v5), (5, .int v3), (0, .ref (ad 0)), (1, .int x1), (2, .int x2)]) hx hb d_Mo_cutTree_81 hl rfl e_v8.symm (by decide) rfl (fun ls hl => ?_)
      exact wb_Mo_cutTree_84 F hret hp12 hw hwd (lv_sub hl [3, 4, 5, 1, 0, 2] rfl)

set_option maxHeartbeats 4000000 in
theorem wl_Mo_cutTree_12 {K : St → Prop} {x1 : Int32} {x2 : Int32} {x3 : Int32} {x4 : Int32} {g : St} (F : fxM D cI cZ p R s m args c b_Mo_cutTree 6 R_Mo 4 87)
    (hret : rtMV D cI cZ ad p l e R s m args below meth c b_Mo_cutTree A H0 Q K)
    (hw : pl_Mo_cutTree_12 K x1 x2 x3 x4 g)
    (hwd : wdM D cI cZ ad A H0 g H locs) (hl : lv_has ls 6 [(0, .ref (ad 0)), (1, .int x1), (2, .int x2), (3, .int x3), (4, .int x4)]) : W p l e R s m args below meth c H locs 0 0 Q (F0 m 12 ls []) := by
  refine hw (fun x1 x2 x3 x4 g => ∀ (H : Heap) (locs : List Loc) (ls : Array Slot), wdM D cI cZ ad A H0 g H locs → lv_has ls 6 [(0, .ref (ad 0)), (1, .int x1), (2, .int x2), (3, .int x3), (4, .int x4)] → W p l e R s m args below meth c H locs 0 0 Q (F0 m 12 ls [])) ?_ H locs ls hwd hl
  intro x1 x2 x3 x4 g hw H locs ls hwd hl
  exact wb_Mo_cutTree_12 F hret (fun x1 x2 x3 x4 g H locs ls h hwd hl => h H locs ls hwd hl) hw hwd hl

set_option maxHeartbeats 4000000 in
set_option maxRecDepth 100000 in
theorem wb_Mo_cutTree_0 {K : St → Prop} {x1 : Int32} {x2 : Int32} {g : St} (F : fxM D cI cZ p R s m args c b_Mo_cutTree 6 R_Mo 4 87)
    (hret : rtMV D cI cZ ad p l e R s m args below meth c b_Mo_cutTree A H0 Q K)
    (hw : pb_Mo_cutTree_0 K x1 x2 g)
    (hwd : wdM D cI cZ ad A H0 g H locs) (hl : lv_has ls 6 [(0, .ref (ad 0)), (1, .int x1), (2, .int x2)]) : W p l e R s m args below meth c H locs 0 0 Q (F0 m 0 ls []) := by
  obtain ⟨hx, hb, hml, hown, hts, hK, hN, hR⟩ := F
  have F : fxM D cI cZ p R s m args c b_Mo_cutTree 6 R_Mo 4 87 := ⟨hx, hb, hml, hown, hts, hK, hN, hR⟩
  refine lv_iconst (v := 0) hx hb d_Mo_cutTree_0 (by decide) ?_
  refine lv_topi (fun v1 e_v1 => ?_)
  have hw := hw v1 e_v1
  refine lv_istore_n (lv' := [(3, .int v1), (0, .ref (ad 0)), (1, .int x1), (2, .int x2)]) hx hb d_Mo_cutTree_1 rfl hl (by decide) rfl (fun ls hl => ?_)
  refine lv_iconst (v := 1) hx hb d_Mo_cutTree_2 (by decide) ?_
  refine lv_topi (fun v2 e_v2 => ?_)
  have hw := hw v2 e_v2
  refine lv_istore (lv' := [(4, .int v2), (3, .int v1), (0, .ref (ad 0)), (1, .int x1), (2, .int x2)]) hx hb d_Mo_cutTree_3 hl (by decide) rfl (fun ls hl => ?_)
  refine lv_aload_n hx hb d_Mo_cutTree_5 rfl (lv_at hl 2 rfl) ?_
  refine gfM_Mo_35 F hwd d_Mo_cutTree_6 ?_
  refine lv_iconst (v := 0) hx hb d_Mo_cutTree_9 (by decide) ?_
  refine lv_iload_n hx hb d_Mo_cutTree_10 rfl (lv_at hl 3 rfl) ?_
  obtain ⟨hi, hw⟩ := hw
  refine wrM_9 F hwd hi d_Mo_cutTree_11 (fun H locs hwd => ?_)
  obtain ⟨g3, e_g3⟩ : ∃ z : St, z = ar g 9 (0 : Int32) x1 := ⟨_, rfl⟩
  have hwd : wdM D cI cZ ad A H0 g3 H locs := by rw [e_g3]; exact hwd
  have hw := hw g3 e_g3
  exact wl_Mo_cutTree_12 F hret hw hwd (lv_sub hl [2, 3, 4, 1, 0] rfl)

theorem ct_Mo_cutTree {l : Launch} {D : va_G} {cI cZ : ClassId} {ad : Nat → Nat} (x1 : Int32) (x2 : Int32) (g : St) (K : St → Prop) (h : pc_Mo_cutTree x1 x2 g K) : ctMV l y_Mo_cutTree b_Mo_cutTree 6 4 87 D cI cZ ad [.ref (ad 0), .int x1, .int x2] g K :=
  enMV (by decide) (Nat.le_of_ble_eq_true rfl) (fun p e s m args below meth c A H0 ls Q F hwd hl hret => wb_Mo_cutTree_0 F hret h hwd hl)

set_option maxHeartbeats 4000000 in
set_option maxRecDepth 100000 in
theorem wb_Mo_put_0 {K : St → Prop} {x1 : Int32} {g : St} (F : fxM D cI cZ p R s m args c b_Mo_put 2 R_Mo 0 0)
    (hret : rtMV D cI cZ ad p l e R s m args below meth c b_Mo_put A H0 Q K)
    (hw : pb_Mo_put_0 K x1 g)
    (hwd : wdM D cI cZ ad A H0 g H locs) (hl : lv_has ls 2 [(0, .ref (ad 0)), (1, .int x1)]) : W p l e R s m args below meth c H locs 0 0 Q (F0 m 0 ls []) := by
  obtain ⟨hx, hb, hml, hown, hts, hK, hN, hR⟩ := F
  have F : fxM D cI cZ p R s m args c b_Mo_put 2 R_Mo 0 0 := ⟨hx, hb, hml, hown, hts, hK, hN, hR⟩
  refine lv_aload_n hx hb d_Mo_put_0 rfl (lv_at hl 0 rfl) ?_
  refine gfM_Mo_59 F hwd d_Mo_put_1 ?_
  refine lv_aload_n hx hb d_Mo_put_4 rfl (lv_at hl 0 rfl) ?_
  refine gfM_Mo_112 F hwd d_Mo_put_5 ?_
  refine lv_iload_n hx hb d_Mo_put_8 rfl (lv_at hl 1 rfl) ?_
  obtain ⟨hi, hw⟩ := hw
  refine wrM_17 F hwd hi d_Mo_put_9 (fun H locs hwd => ?_)
  obtain ⟨g1, e_g1⟩ : ∃ z : St, z = ar g 17 (g 104 0) x1 := ⟨_, rfl⟩
  have hwd : wdM D cI cZ ad A H0 g1 H locs := by rw [e_g1]; exact hwd
  have hw := hw g1 e_g1
  refine lv_aload_n hx hb d_Mo_put_10 rfl (lv_at hl 0 rfl) ?_
  refine lv_dup hx hb d_Mo_put_11 rfl ?_
  refine gfM_Mo_112 F hwd d_Mo_put_12 ?_
  refine lv_iconst (v := 1) hx hb d_Mo_put_15 (by decide) ?_
  refine lv_iadd hx hb d_Mo_put_16 ?_
  refine pfM_Mo_112 F hwd d_Mo_put_17 (fun H locs hwd => ?_)
  obtain ⟨g2, e_g2⟩ : ∃ z : St, z = sc g1 104 ((g1 104 0) + (1 : Int32)) := ⟨_, rfl⟩
  have hwd : wdM D cI cZ ad A H0 g2 H locs := by rw [e_g2]; exact hwd
  have hw := hw g2 e_g2
  exact hret _ _ _ hw hwd _ _ d_Mo_put_20

theorem ct_Mo_put {l : Launch} {D : va_G} {cI cZ : ClassId} {ad : Nat → Nat} (x1 : Int32) (g : St) (K : St → Prop) (h : pc_Mo_put x1 g K) : ctMV l y_Mo_put b_Mo_put 2 0 0 D cI cZ ad [.ref (ad 0), .int x1] g K :=
  enMV (by decide) (Nat.le_of_ble_eq_true rfl) (fun p e s m args below meth c A H0 ls Q F hwd hl hret => wb_Mo_put_0 F hret h hwd hl)

set_option maxHeartbeats 4000000 in
set_option maxRecDepth 100000 in
theorem wb_Mo_entryFor_75 {K : Int32 → St → Prop} {x1 : Int32} {x2 : Int32} {x3 : Int32} {x4 : Int32} {g : St} (F : fxM D cI cZ p R s m args c b_Mo_entryFor 5 R_Mo 0 0)
    (hret : rtMI D cI cZ ad p l e R s m args below meth c b_Mo_entryFor A H0 Q K)
    (hw : pb_Mo_entryFor_75 K x1 x2 x3 x4 g)
    (hwd : wdM D cI cZ ad A H0 g H locs) (hl : lv_has ls 5 [(0, .ref (ad 0)), (1, .int x1), (2, .int x2), (3, .int x3), (4, .int x4)]) : W p l e R s m args below meth c H locs 0 0 Q (F0 m 75 ls []) := by
  obtain ⟨hx, hb, hml, hown, hts, hK, hN, hR⟩ := F
  have F : fxM D cI cZ p R s m args c b_Mo_entryFor 5 R_Mo 0 0 := ⟨hx, hb, hml, hown, hts, hK, hN, hR⟩
  refine lv_iload hx hb d_Mo_entryFor_75 (lv_at hl 4 rfl) ?_
  refine lv_iload_n hx hb d_Mo_entryFor_77 rfl (lv_at hl 1 rfl) ?_
  refine lv_isub hx hb d_Mo_entryFor_78 ?_
  exact hret _ _ _ _ hw hwd _ _ d_Mo_entryFor_79

set_option maxHeartbeats 4000000 in
set_option maxRecDepth 100000 in
theorem wb_Mo_entryFor_40 {K : Int32 → St → Prop} {x1 : Int32} {x2 : Int32} {x3 : Int32} {x4 : Int32} {g : St} (F : fxM D cI cZ p R s m args c b_Mo_entryFor 5 R_Mo 0 0)
    (hret : rtMI D cI cZ ad p l e R s m args below meth c b_Mo_entryFor A H0 Q K)
    (hw : pb_Mo_entryFor_40 K x1 x2 x3 x4 g)
    (hwd : wdM D cI cZ ad A H0 g H locs) (hl : lv_has ls 5 [(0, .ref (ad 0)), (1, .int x1), (2, .int x2), (3, .int x3), (4, .int x4)]) : W p l e R s m args below meth c H locs 0 0 Q (F0 m 40 ls []) := by
  obtain ⟨hx, hb, hml, hown, hts, hK, hN, hR⟩ := F
  have F : fxM D cI cZ p R s m args c b_Mo_entryFor 5 R_Mo 0 0 := ⟨hx, hb, hml, hown, hts, hK, hN, hR⟩
  refine lv_iload hx hb d_Mo_entryFor_40 (lv_at hl 4 rfl) ?_
  refine lv_aload_n hx hb d_Mo_entryFor_42 rfl (lv_at hl 0 rfl) ?_
  refine gfM_Mo_115 F hwd d_Mo_entryFor_43 ?_
  refine lv_icmp_ne (tgt := 75) hx hb d_Mo_entryFor_46 (by decide) (fun hc => ?_) (fun hc => ?_)
  · have hw := hw.1 hc
    exact wb_Mo_entryFor_75 F hret hw hwd (lv_sub hl [0, 1, 2, 3, 4] rfl)
  · have hw := hw.2 hc
    refine lv_aload_n hx hb d_Mo_entryFor_49 rfl (lv_at hl 0 rfl) ?_
    refine gfM_Mo_65 F hwd d_Mo_entryFor_50 ?_
    refine lv_iload hx hb d_Mo_entryFor_53 (lv_at hl 4 rfl) ?_
    refine lv_iload_n hx hb d_Mo_entryFor_55 rfl (lv_at hl 2 rfl) ?_
    obtain ⟨hi, hw⟩ := hw
    refine wrM_19 F hwd hi d_Mo_entryFor_56 (fun H locs hwd => ?_)
    obtain ⟨g1, e_g1⟩ : ∃ z : St, z = ar g 19 x4 x2 := ⟨_, rfl⟩
    have hwd : wdM D cI cZ ad A H0 g1 H locs := by rw [e_g1]; exact hwd
    have hw := hw g1 e_g1
    refine lv_aload_n hx hb d_Mo_entryFor_57 rfl (lv_at hl 0 rfl) ?_
    refine gfM_Mo_68 F hwd d_Mo_entryFor_58 ?_
    refine lv_iload hx hb d_Mo_entryFor_61 (lv_at hl 4 rfl) ?_
    refine lv_iload_n hx hb d_Mo_entryFor_63 rfl (lv_at hl 3 rfl) ?_
    obtain ⟨hi, hw⟩ := hw
    refine wrM_20 F hwd hi d_Mo_entryFor_64 (fun H locs hwd => ?_)
    obtain ⟨g2, e_g2⟩ : ∃ z : St, z = ar g1 20 x4 x3 := ⟨_, rfl⟩
    have hwd : wdM D cI cZ ad A H0 g2 H locs := by rw [e_g2]; exact hwd
    have hw := hw g2 e_g2
    refine lv_aload_n hx hb d_Mo_entryFor_65 rfl (lv_at hl 0 rfl) ?_
    refine lv_dup hx hb d_Mo_entryFor_66 rfl ?_
    refine gfM_Mo_115 F hwd d_Mo_entryFor_67 ?_
    refine lv_iconst (v := 1) hx hb d_Mo_entryFor_70 (by decide) ?_
    refine lv_iadd hx hb d_Mo_entryFor_71 ?_
    refine pfM_Mo_115 F hwd d_Mo_entryFor_72 (fun H locs hwd => ?_)
    obtain ⟨g3, e_g3⟩ : ∃ z : St, z = sc g2 106 ((g2 106 0) + (1 : Int32)) := ⟨_, rfl⟩
    have hwd : wdM D cI cZ ad A H0 g3 H locs := by rw [e_g3]; exact hwd
    have hw := hw g3 e_g3
    exact wb_Mo_entryFor_75 F hret hw hwd (lv_sub hl [0, 1, 2, 3, 4] rfl)

set_option maxHeartbeats 4000000 in
set_option maxRecDepth 100000 in
theorem wb_Mo_entryFor_34 {K : Int32 → St → Prop} {P3 : Int32 → Int32 → Int32 → Int32 → St → Prop} {x1 : Int32} {x2 : Int32} {x3 : Int32} {x4 : Int32} {g : St} (F : fxM D cI cZ p R s m args c b_Mo_entryFor 5 R_Mo 0 0)
    (hret : rtMI D cI cZ ad p l e R s m args below meth c b_Mo_entryFor A H0 Q K) (hp3 : ∀ (x1 : Int32) (x2 : Int32) (x3 : Int32) (x4 : Int32) (g : St) (H : Heap) (locs : List Loc) (ls : Array Slot), P3 x1 x2 x3 x4 g → wdM D cI cZ ad A H0 g H locs → lv_has ls 5 [(0, .ref (ad 0)), (1, .int x1), (2, .int x2), (3, .int x3), (4, .int x4)] → W p l e R s m args below meth c H locs 0 0 Q (F0 m 3 ls []))
    (hw : pb_Mo_entryFor_34 K P3 x1 x2 x3 x4 g)
    (hwd : wdM D cI cZ ad A H0 g H locs) (hl : lv_has ls 5 [(0, .ref (ad 0)), (1, .int x1), (2, .int x2), (3, .int x3), (4, .int x4)]) : W p l e R s m args below meth c H locs 0 0 Q (F0 m 34 ls []) := by
  obtain ⟨hx, hb, hml, hown, hts, hK, hN, hR⟩ := F
  have F : fxM D cI cZ p R s m args c b_Mo_entryFor 5 R_Mo 0 0 := ⟨hx, hb, hml, hown, hts, hK, hN, hR⟩
  obtain ⟨v1, e_v1⟩ : ∃ z, z = x4 + (1 : Int32) := ⟨_, rfl⟩
  have hw := hw v1 e_v1
  refine lv_iinc (k := 4) (lv' := [(4, .int v1), (0, .ref (ad 0)), (1, .int x1), (2, .int x2), (3, .int x3)]) hx hb d_Mo_entryFor_34 hl rfl e_v1.symm (by decide) rfl (fun ls hl => ?_)
  refine lv_goto (tgt := 3) hx hb d_Mo_entryFor_37 (by decide) ?_
  exact hp3 _ _ _ _ _ H locs ls hw hwd (lv_sub hl [1, 2, 3, 4, 0] rfl)

set_option maxHeartbeats 4000000 in
set_option maxRecDepth 100000 in
theorem wb_Mo_entryFor_3 {K : Int32 → St → Prop} {P3 : Int32 → Int32 → Int32 → Int32 → St → Prop} {x1 : Int32} {x2 : Int32} {x3 : Int32} {x4 : Int32} {g : St} (F : fxM D cI cZ p R s m args c b_Mo_entryFor 5 R_Mo 0 0)
    (hret : rtMI D cI cZ ad p l e R s m args below meth c b_Mo_entryFor A H0 Q K) (hp3 : ∀ (x1 : Int32) (x2 : Int32) (x3 : Int32) (x4 : Int32) (g : St) (H : Heap) (locs : List Loc) (ls : Array Slot), P3 x1 x2 x3 x4 g → wdM D cI cZ ad A H0 g H locs → lv_has ls 5 [(0, .ref (ad 0)), (1, .int x1), (2, .int x2), (3, .int x3), (4, .int x4)] → W p l e R s m args below meth c H locs 0 0 Q (F0 m 3 ls []))
    (hw : pb_Mo_entryFor_3 K P3 x1 x2 x3 x4 g)
    (hwd : wdM D cI cZ ad A H0 g H locs) (hl : lv_has ls 5 [(0, .ref (ad 0)), (1, .int x1), (2, .int x2), (3, .int x3), (4, .int x4)]) : W p l e R s m args below meth c H locs 0 0 Q (F0 m 3 ls []) := by
  obtain ⟨hx, hb, hml, hown, hts, hK, hN, hR⟩ := F
  have F : fxM D cI cZ p R s m args c b_Mo_entryFor 5 R_Mo 0 0 := ⟨hx, hb, hml, hown, hts, hK, hN, hR⟩
  refine lv_iload hx hb d_Mo_entryFor_3 (lv_at hl 4 rfl) ?_
  refine lv_aload_n hx hb d_Mo_entryFor_5 rfl (lv_at hl 0 rfl) ?_
  refine gfM_Mo_115 F hwd d_Mo_entryFor_6 ?_
  refine lv_icmp_ge (tgt := 40) hx hb d_Mo_entryFor_9 (by decide) (fun hc => ?_) (fun hc => ?_)
  · have hw := hw.1 hc
    exact wb_Mo_entryFor_40 F hret hw hwd (lv_sub hl [0, 1, 2, 3, 4] rfl)
  · have hw := hw.2 hc
    refine lv_aload_n hx hb d_Mo_entryFor_12 rfl (lv_at hl 0 rfl) ?_
    refine gfM_Mo_65 F hwd d_Mo_entryFor_13 ?_
    refine lv_iload hx hb d_Mo_entryFor_16 (lv_at hl 4 rfl) ?_
    obtain ⟨hi, hw⟩ := hw
    refine rdM_19 F hwd hi d_Mo_entryFor_18 ?_
    refine lv_iload_n hx hb d_Mo_entryFor_19 rfl (lv_at hl 2 rfl) ?_
    refine lv_icmp_ne (tgt := 34) hx hb d_Mo_entryFor_20 (by decide) (fun hc => ?_) (fun hc => ?_)
    · have hw := hw.1 hc
      exact wb_Mo_entryFor_34 F hret hp3 hw hwd (lv_sub hl [0, 1, 2, 3, 4] rfl)
    · have hw := hw.2 hc
      refine lv_aload_n hx hb d_Mo_entryFor_23 rfl (lv_at hl 0 rfl) ?_
      refine gfM_Mo_68 F hwd d_Mo_entryFor_24 ?_
      refine lv_iload hx hb d_Mo_entryFor_27 (lv_at hl 4 rfl) ?_
      obtain ⟨hi, hw⟩ := hw
      refine rdM_20 F hwd hi d_Mo_entryFor_29 ?_
      refine lv_iload_n hx hb d_Mo_entryFor_30 rfl (lv_at hl 3 rfl) ?_
      refine lv_icmp_eq (tgt := 40) hx hb d_Mo_entryFor_31 (by decide) (fun hc => ?_) (fun hc => ?_)
      · have hw := hw.1 hc
        exact wb_Mo_entryFor_40 F hret hw hwd (lv_sub hl [0, 1, 2, 3, 4] rfl)
      · have hw := hw.2 hc
        exact wb_Mo_entryFor_34 F hret hp3 hw hwd (lv_sub hl [0, 1, 2, 3, 4] rfl)

set_option maxHeartbeats 4000000 in
theorem wl_Mo_entryFor_3 {K : Int32 → St → Prop} {x1 : Int32} {x2 : Int32} {x3 : Int32} {x4 : Int32} {g : St} (F : fxM D cI cZ p R s m args c b_Mo_entryFor 5 R_Mo 0 0)
    (hret : rtMI D cI cZ ad p l e R s m args below meth c b_Mo_entryFor A H0 Q K)
    (hw : pl_Mo_entryFor_3 K x1 x2 x3 x4 g)
    (hwd : wdM D cI cZ ad A H0 g H locs) (hl : lv_has ls 5 [(0, .ref (ad 0)), (1, .int x1), (2, .int x2), (3, .int x3), (4, .int x4)]) : W p l e R s m args below meth c H locs 0 0 Q (F0 m 3 ls []) := by
  refine hw (fun x1 x2 x3 x4 g => ∀ (H : Heap) (locs : List Loc) (ls : Array Slot), wdM D cI cZ ad A H0 g H locs → lv_has ls 5 [(0, .ref (ad 0)), (1, .int x1), (2, .int x2), (3, .int x3), (4, .int x4)] → W p l e R s m args below meth c H locs 0 0 Q (F0 m 3 ls [])) ?_ H locs ls hwd hl
  intro x1 x2 x3 x4 g hw H locs ls hwd hl
  exact wb_Mo_entryFor_3 F hret (fun x1 x2 x3 x4 g H locs ls h hwd hl => h H locs ls hwd hl) hw hwd hl

set_option maxHeartbeats 4000000 in
set_option maxRecDepth 100000 in
theorem wb_Mo_entryFor_0 {K : Int32 → St → Prop} {x1 : Int32} {x2 : Int32} {x3 : Int32} {g : St} (F : fxM D cI cZ p R s m args c b_Mo_entryFor 5 R_Mo 0 0)
    (hret : rtMI D cI cZ ad p l e R s m args below meth c b_Mo_entryFor A H0 Q K)
    (hw : pb_Mo_entryFor_0 K x1 x2 x3 g)
    (hwd : wdM D cI cZ ad A H0 g H locs) (hl : lv_has ls 5 [(0, .ref (ad 0)), (1, .int x1), (2, .int x2), (3, .int x3)]) : W p l e R s m args below meth c H locs 0 0 Q (F0 m 0 ls []) := by
  obtain ⟨hx, hb, hml, hown, hts, hK, hN, hR⟩ := F
  have F : fxM D cI cZ p R s m args c b_Mo_entryFor 5 R_Mo 0 0 := ⟨hx, hb, hml, hown, hts, hK, hN, hR⟩
  refine lv_iload_n hx hb d_Mo_entryFor_0 rfl (lv_at hl 1 rfl) ?_
  refine lv_topi (fun v1 e_v1 => ?_)
  have hw := hw v1 e_v1
  refine lv_istore (lv' := [(4, .int v1), (0, .ref (ad 0)), (1, .int x1), (2, .int x2), (3, .int x3)]) hx hb d_Mo_entryFor_1 hl (by decide) rfl (fun ls hl => ?_)
  exact wl_Mo_entryFor_3 F hret hw hwd (lv_sub hl [1, 2, 3, 4, 0] rfl)

theorem ct_Mo_entryFor {l : Launch} {D : va_G} {cI cZ : ClassId} {ad : Nat → Nat} (x1 : Int32) (x2 : Int32) (x3 : Int32) (g : St) (K : Int32 → St → Prop) (h : pc_Mo_entryFor x1 x2 x3 g K) : ctMI l y_Mo_entryFor b_Mo_entryFor 5 0 0 D cI cZ ad [.ref (ad 0), .int x1, .int x2, .int x3] g K :=
  enMI (by decide) (Nat.le_of_ble_eq_true rfl) (fun p e s m args below meth c A H0 ls Q F hwd hl hret => wb_Mo_entryFor_0 F hret h hwd hl)

set_option maxHeartbeats 4000000 in
set_option maxRecDepth 100000 in
theorem wb_Mo_with_0 {K : St → Prop} {x1 : Int32} {x2 : Int32} {x3 : Int32} {x4 : Int32} {g : St} (F : fxM D cI cZ p R s m args c b_Mo_with 6 R_Mo 1 24)
    (hret : rtMV D cI cZ ad p l e R s m args below meth c b_Mo_with A H0 Q K)
    (hw : pb_Mo_with_0 K x1 x2 x3 x4 g)
    (hwd : wdM D cI cZ ad A H0 g H locs) (hl : lv_has ls 6 [(0, .ref (ad 0)), (1, .int x1), (2, .int x2), (3, .int x3), (4, .int x4)]) : W p l e R s m args below meth c H locs 0 0 Q (F0 m 0 ls []) := by
  obtain ⟨hx, hb, hml, hown, hts, hK, hN, hR⟩ := F
  have F : fxM D cI cZ p R s m args c b_Mo_with 6 R_Mo 1 24 := ⟨hx, hb, hml, hown, hts, hK, hN, hR⟩
  refine lv_aload_n hx hb d_Mo_with_0 rfl (lv_at hl 0 rfl) ?_
  refine lv_iload_n hx hb d_Mo_with_1 rfl (lv_at hl 1 rfl) ?_
  refine mcM_Mo_118 F hwd (ct_Mo_put _ _ _ hw) ⟨Nat.le_trans (by decide) hR.1, Nat.le_trans (by decide) hR.2⟩ hl.1 (Nat.le_of_ble_eq_true rfl) d_Mo_with_2 (fun g1 H locs hw hwd => ?_)
  refine lv_aload_n hx hb d_Mo_with_5 rfl (lv_at hl 0 rfl) ?_
  refine lv_iload_n hx hb d_Mo_with_6 rfl (lv_at hl 2 rfl) ?_
  refine lv_iload_n hx hb d_Mo_with_7 rfl (lv_at hl 3 rfl) ?_
  refine lv_iload hx hb d_Mo_with_8 (lv_at hl 4 rfl) ?_
  refine mcM_Mo_121 F hwd (ct_Mo_entryFor _ _ _ _ _ hw) ⟨Nat.le_trans (by decide) hR.1, Nat.le_trans (by decide) hR.2⟩ hl.1 (Nat.le_of_ble_eq_true rfl) d_Mo_with_10 (fun v3 g2 H locs hw hwd => ?_)
  refine lv_topi (fun v4 e_v4 => ?_)
  have hw := hw v4 e_v4
  refine lv_istore (lv' := [(5, .int v4), (0, .ref (ad 0)), (1, .int x1), (2, .int x2), (3, .int x3), (4, .int x4)]) hx hb d_Mo_with_13 hl (by decide) rfl (fun ls hl => ?_)
  refine lv_aload_n hx hb d_Mo_with_15 rfl (lv_at hl 1 rfl) ?_
  refine lv_iload hx hb d_Mo_with_16 (lv_at hl 0 rfl) ?_
  refine mcM_Mo_118 F hwd (ct_Mo_put _ _ _ hw) ⟨Nat.le_trans (by decide) hR.1, Nat.le_trans (by decide) hR.2⟩ hl.1 (Nat.le_of_ble_eq_true rfl) d_Mo_with_18 (fun g5 H locs hw hwd => ?_)
  exact hret _ _ _ hw hwd _ _ d_Mo_with_21

theorem ct_Mo_with {l : Launch} {D : va_G} {cI cZ : ClassId} {ad : Nat → Nat} (x1 : Int32) (x2 : Int32) (x3 : Int32) (x4 : Int32) (g : St) (K : St → Prop) (h : pc_Mo_with x1 x2 x3 x4 g K) : ctMV l y_Mo_with b_Mo_with 6 1 24 D cI cZ ad [.ref (ad 0), .int x1, .int x2, .int x3, .int x4] g K :=
  enMV (by decide) (Nat.le_of_ble_eq_true rfl) (fun p e s m args below meth c A H0 ls Q F hwd hl hret => wb_Mo_with_0 F hret h hwd hl)

set_option maxHeartbeats 4000000 in
set_option maxRecDepth 100000 in
theorem wb_Mo_write_263 {K : St → Prop} {P14 : Int32 → Int32 → Int32 → St → Prop} {x1 : Int32} {x2 : Int32} {x3 : Int32} {x4 : Int32} {g : St} (F : fxM D cI cZ p R s m args c b_Mo_write 7 R_Mo 2 49)
    (hret : rtMV D cI cZ ad p l e R s m args below meth c b_Mo_write A H0 Q K) (hp14 : ∀ (x1 : Int32) (x2 : Int32) (x3 : Int32) (g : St) (H : Heap) (locs : List Loc) (ls : Array Slot), P14 x1 x2 x3 g → wdM D cI cZ ad A H0 g H locs → lv_has ls 7 [(0, .ref (ad 0)), (1, .int x1), (2, .int x2), (3, .int x3)] → W p l e R s m args below meth c H locs 0 0 Q (F0 m 14 ls []))
    (hw : pb_Mo_write_263 K P14 x1 x2 x3 x4 g)
    (hwd : wdM D cI cZ ad A H0 g H locs) (hl : lv_has ls 7 [(0, .ref (ad 0)), (1, .int x1), (2, .int x2), (3, .int x3), (4, .int x4)]) : W p l e R s m args below meth c H locs 0 0 Q (F0 m 263 ls []) := by
  obtain ⟨hx, hb, hml, hown, hts, hK, hN, hR⟩ := F
  have F : fxM D cI cZ p R s m args c b_Mo_write 7 R_Mo 2 49 := ⟨hx, hb, hml, hown, hts, hK, hN, hR⟩
  refine lv_goto (tgt := 14) hx hb d_Mo_write_263 (by decide) ?_
  exact hp14 _ _ _ _ H locs ls hw hwd (lv_sub hl [0, 1, 2, 3] rfl)

set_option maxHeartbeats 4000000 in
set_option maxRecDepth 100000 in
theorem wb_Mo_write_222 {K : St → Prop} {P14 : Int32 → Int32 → Int32 → St → Prop} {x1 : Int32} {x2 : Int32} {x3 : Int32} {x4 : Int32} {x5 : Int32} {x6 : Int32} {g : St} (F : fxM D cI cZ p R s m args c b_Mo_write 7 R_Mo 2 49)
    (hret : rtMV D cI cZ ad p l e R s m args below meth c b_Mo_write A H0 Q K) (hp14 : ∀ (x1 : Int32) (x2 : Int32) (x3 : Int32) (g : St) (H : Heap) (locs : List Loc) (ls : Array Slot), P14 x1 x2 x3 g → wdM D cI cZ ad A H0 g H locs → lv_has ls 7 [(0, .ref (ad 0)), (1, .int x1), (2, .int x2), (3, .int x3)] → W p l e R s m args below meth c H locs 0 0 Q (F0 m 14 ls []))
    (hw : pb_Mo_write_222 K P14 x1 x2 x3 x4 x5 x6 g)
    (hwd : wdM D cI cZ ad A H0 g H locs) (hl : lv_has ls 7 [(0, .ref (ad 0)), (1, .int x1), (2, .int x2), (3, .int x3), (4, .int x4), (5, .int x5), (6, .int x6)]) : W p l e R s m args below meth c H locs 0 0 Q (F0 m 222 ls []) := by
  obtain ⟨hx, hb, hml, hown, hts, hK, hN, hR⟩ := F
  have F : fxM D cI cZ p R s m args c b_Mo_write 7 R_Mo 2 49 := ⟨hx, hb, hml, hown, hts, hK, hN, hR⟩
  refine lv_aload_n hx hb d_Mo_write_222 rfl (lv_at hl 0 rfl) ?_
  refine lv_iload hx hb d_Mo_write_223 (lv_at hl 5 rfl) ?_
  refine lv_sipush (v := 256) hx hb d_Mo_write_225 (by decide) ?_
  obtain ⟨hne, hw⟩ := hw
  refine lv_irem hx hb d_Mo_write_228 hne ?_
  refine mcM_Mo_118 F hwd (ct_Mo_put _ _ _ hw) ⟨Nat.le_trans (by decide) hR.1, Nat.le_trans (by decide) hR.2⟩ hl.1 (Nat.le_of_ble_eq_true rfl) d_Mo_write_229 (fun g1 H locs hw hwd => ?_)
  refine lv_aload_n hx hb d_Mo_write_232 rfl (lv_at hl 0 rfl) ?_
  refine gfM_Mo_35 F hwd d_Mo_write_233 ?_
  refine lv_iload_n hx hb d_Mo_write_236 rfl (lv_at hl 3 rfl) ?_
  refine lv_aload_n hx hb d_Mo_write_237 rfl (lv_at hl 0 rfl) ?_
  refine gfM_Mo_22 F hwd d_Mo_write_238 ?_
  refine lv_iload hx hb d_Mo_write_241 (lv_at hl 4 rfl) ?_
  obtain ⟨hi, hw⟩ := hw
  refine rdM_5 F hwd hi d_Mo_write_243 ?_
  obtain ⟨hi, hw⟩ := hw
  refine wrM_9 F hwd hi d_Mo_write_244 (fun H locs hwd => ?_)
  obtain ⟨g2, e_g2⟩ : ∃ z : St, z = ar g1 9 x3 (g1 5 (x4).toNatClampNeg) := ⟨_, rfl⟩
  have hwd : wdM D cI cZ ad A H0 g2 H locs := by rw [e_g2]; exact hwd
  have hw := hw g2 e_g2
  refine lv_aload_n hx hb d_Mo_write_245 rfl (lv_at hl 0 rfl) ?_
  refine gfM_Mo_35 F hwd d_Mo_write_246 ?_
  refine lv_iload_n hx hb d_Mo_write_249 rfl (lv_at hl 3 rfl) ?_
  refine lv_iconst (v := 1) hx hb d_Mo_write_250 (by decide) ?_
  refine lv_iadd hx hb d_Mo_write_251 ?_
  refine lv_aload_n hx hb d_Mo_write_252 rfl (lv_at hl 0 rfl) ?_
  refine gfM_Mo_19 F hwd d_Mo_write_253 ?_
  refine lv_iload hx hb d_Mo_write_256 (lv_at hl 4 rfl) ?_
  obtain ⟨hi, hw⟩ := hw
  refine rdM_4 F hwd hi d_Mo_write_258 ?_
  obtain ⟨hi, hw⟩ := hw
  refine wrM_9 F hwd hi d_Mo_write_259 (fun H locs hwd => ?_)
  obtain ⟨g3, e_g3⟩ : ∃ z : St, z = ar g2 9 (x3 + (1 : Int32)) (g2 4 (x4).toNatClampNeg) := ⟨_, rfl⟩
  have hwd : wdM D cI cZ ad A H0 g3 H locs := by rw [e_g3]; exact hwd
  have hw := hw g3 e_g3
  obtain ⟨v4, e_v4⟩ : ∃ z, z = x3 + (2 : Int32) := ⟨_, rfl⟩
  have hw := hw v4 e_v4
  refine lv_iinc (k := 3) (lv' := [(3, .int v4), (0, .ref (ad 0)), (1, .int x1), (2, .int x2), (4, .int x4), (5, .int x5), (6, .int x6)]) hx hb d_Mo_write_260 hl rfl e_v4.symm (by decide) rfl (fun ls hl => ?_)
  exact wb_Mo_write_263 F hret hp14 hw hwd (lv_sub hl [1, 2, 3, 0, 4] rfl)

set_option maxHeartbeats 4000000 in
set_option maxRecDepth 100000 in
theorem wb_Mo_write_196 {K : St → Prop} {P14 : Int32 → Int32 → Int32 → St → Prop} {x1 : Int32} {x2 : Int32} {x3 : Int32} {x4 : Int32} {x5 : Int32} {x6 : Int32} {t1 : Int32} {g : St} (F : fxM D cI cZ p R s m args c b_Mo_write 7 R_Mo 2 49)
    (hret : rtMV D cI cZ ad p l e R s m args below meth c b_Mo_write A H0 Q K) (hp14 : ∀ (x1 : Int32) (x2 : Int32) (x3 : Int32) (g : St) (H : Heap) (locs : List Loc) (ls : Array Slot), P14 x1 x2 x3 g → wdM D cI cZ ad A H0 g H locs → lv_has ls 7 [(0, .ref (ad 0)), (1, .int x1), (2, .int x2), (3, .int x3)] → W p l e R s m args below meth c H locs 0 0 Q (F0 m 14 ls []))
    (hw : pb_Mo_write_196 K P14 x1 x2 x3 x4 x5 x6 t1 g)
    (hwd : wdM D cI cZ ad A H0 g H locs) (hl : lv_has ls 7 [(0, .ref (ad 0)), (1, .int x1), (2, .int x2), (3, .int x3), (4, .int x4), (5, .int x5), (6, .int x6)]) : W p l e R s m args below meth c H locs 0 0 Q (F0 m 196 ls [.int t1, .ref (ad 0)]) := by
  obtain ⟨hx, hb, hml, hown, hts, hK, hN, hR⟩ := F
  have F : fxM D cI cZ p R s m args c b_Mo_write 7 R_Mo 2 49 := ⟨hx, hb, hml, hown, hts, hK, hN, hR⟩
  refine lv_aload_n hx hb d_Mo_write_196 rfl (lv_at hl 0 rfl) ?_
  refine gfM_Mo_7 F hwd d_Mo_write_197 ?_
  refine lv_iload hx hb d_Mo_write_200 (lv_at hl 4 rfl) ?_
  obtain ⟨hi, hw⟩ := hw
  refine rdM_1 F hwd hi d_Mo_write_202 ?_
  refine lv_iadd hx hb d_Mo_write_203 ?_
  refine mcM_Mo_118 F hwd (ct_Mo_put _ _ _ hw) ⟨Nat.le_trans (by decide) hR.1, Nat.le_trans (by decide) hR.2⟩ hl.1 (Nat.le_of_ble_eq_true rfl) d_Mo_write_204 (fun g1 H locs hw hwd => ?_)
  refine lv_iload hx hb d_Mo_write_207 (lv_at hl 6 rfl) ?_
  refine lv_if_ne (tgt := 222) hx hb d_Mo_write_209 (by decide) (fun hc => ?_) (fun hc => ?_)
  · have hw := hw.1 hc
    exact wb_Mo_write_222 F hret hp14 hw hwd (lv_sub hl [0, 1, 2, 3, 4, 5, 6] rfl)
  · have hw := hw.2 hc
    refine lv_aload_n hx hb d_Mo_write_212 rfl (lv_at hl 0 rfl) ?_
    refine lv_iload hx hb d_Mo_write_213 (lv_at hl 5 rfl) ?_
    refine lv_sipush (v := 256) hx hb d_Mo_write_215 (by decide) ?_
    obtain ⟨hne, hw⟩ := hw
    refine lv_idiv hx hb d_Mo_write_218 hne ?_
    refine mcM_Mo_118 F hwd (ct_Mo_put _ _ _ hw) ⟨Nat.le_trans (by decide) hR.1, Nat.le_trans (by decide) hR.2⟩ hl.1 (Nat.le_of_ble_eq_true rfl) d_Mo_write_219 (fun g2 H locs hw hwd => ?_)
    exact wb_Mo_write_222 F hret hp14 hw hwd (lv_sub hl [0, 1, 2, 3, 4, 5, 6] rfl)

set_option maxHeartbeats 4000000 in
set_option maxRecDepth 100000 in
theorem wb_Mo_write_181 {K : St → Prop} {P14 : Int32 → Int32 → Int32 → St → Prop} {x1 : Int32} {x2 : Int32} {x3 : Int32} {x4 : Int32} {x5 : Int32} {t0 : Int32} {g : St} (F : fxM D cI cZ p R s m args c b_Mo_write 7 R_Mo 2 49)
    (hret : rtMV D cI cZ ad p l e R s m args below meth c b_Mo_write A H0 Q K) (hp14 : ∀ (x1 : Int32) (x2 : Int32) (x3 : Int32) (g : St) (H : Heap) (locs : List Loc) (ls : Array Slot), P14 x1 x2 x3 g → wdM D cI cZ ad A H0 g H locs → lv_has ls 7 [(0, .ref (ad 0)), (1, .int x1), (2, .int x2), (3, .int x3)] → W p l e R s m args below meth c H locs 0 0 Q (F0 m 14 ls []))
    (hw : pb_Mo_write_181 K P14 x1 x2 x3 x4 x5 t0 g)
    (hwd : wdM D cI cZ ad A H0 g H locs) (hl : lv_has ls 7 [(0, .ref (ad 0)), (1, .int x1), (2, .int x2), (3, .int x3), (4, .int x4), (5, .int x5)]) : W p l e R s m args below meth c H locs 0 0 Q (F0 m 181 ls [.int t0]) := by
  obtain ⟨hx, hb, hml, hown, hts, hK, hN, hR⟩ := F
  have F : fxM D cI cZ p R s m args c b_Mo_write 7 R_Mo 2 49 := ⟨hx, hb, hml, hown, hts, hK, hN, hR⟩
  refine lv_topi (fun v1 e_v1 => ?_)
  have hw := hw v1 e_v1
  refine lv_istore (lv' := [(6, .int v1), (0, .ref (ad 0)), (1, .int x1), (2, .int x2), (3, .int x3), (4, .int x4), (5, .int x5)]) hx hb d_Mo_write_181 hl (by decide) rfl (fun ls hl => ?_)
  refine lv_aload_n hx hb d_Mo_write_183 rfl (lv_at hl 1 rfl) ?_
  refine lv_iload hx hb d_Mo_write_184 (lv_at hl 0 rfl) ?_
  refine lv_if_eq (tgt := 194) hx hb d_Mo_write_186 (by decide) (fun hc => ?_) (fun hc => ?_)
  · have hw := hw.1 hc
    refine lv_bipush (v := 20) hx hb d_Mo_write_194 (by decide) ?_
    exact wb_Mo_write_196 F hret hp14 hw hwd (lv_sub hl [1, 2, 3, 4, 5, 6, 0] rfl)
  · have hw := hw.2 hc
    refine lv_bipush (v := 10) hx hb d_Mo_write_189 (by decide) ?_
    refine lv_goto (tgt := 196) hx hb d_Mo_write_191 (by decide) ?_
    exact wb_Mo_write_196 F hret hp14 hw hwd (lv_sub hl [1, 2, 3, 4, 5, 6, 0] rfl)

set_option maxHeartbeats 4000000 in
set_option maxRecDepth 100000 in
theorem wb_Mo_write_140 {K : St → Prop} {P14 : Int32 → Int32 → Int32 → St → Prop} {x1 : Int32} {x2 : Int32} {x3 : Int32} {x4 : Int32} {t1 : Int32} {t2 : Int32} {t3 : Int32} {g : St} (F : fxM D cI cZ p R s m args c b_Mo_write 7 R_Mo 2 49)
    (hret : rtMV D cI cZ ad p l e R s m args below meth c b_Mo_write A H0 Q K) (hp14 : ∀ (x1 : Int32) (x2 : Int32) (x3 : Int32) (g : St) (H : Heap) (locs : List Loc) (ls : Array Slot), P14 x1 x2 x3 g → wdM D cI cZ ad A H0 g H locs → lv_has ls 7 [(0, .ref (ad 0)), (1, .int x1), (2, .int x2), (3, .int x3)] → W p l e R s m args below meth c H locs 0 0 Q (F0 m 14 ls []))
    (hw : pb_Mo_write_140 K P14 x1 x2 x3 x4 t1 t2 t3 g)
    (hwd : wdM D cI cZ ad A H0 g H locs) (hl : lv_has ls 7 [(0, .ref (ad 0)), (1, .int x1), (2, .int x2), (3, .int x3), (4, .int x4)]) : W p l e R s m args below meth c H locs 0 0 Q (F0 m 140 ls [.int t3, .int t2, .int t1, .ref (ad 0)]) := by
  obtain ⟨hx, hb, hml, hown, hts, hK, hN, hR⟩ := F
  have F : fxM D cI cZ p R s m args c b_Mo_write 7 R_Mo 2 49 := ⟨hx, hb, hml, hown, hts, hK, hN, hR⟩
  refine lv_aload_n hx hb d_Mo_write_140 rfl (lv_at hl 0 rfl) ?_
  refine gfM_Mo_16 F hwd d_Mo_write_141 ?_
  refine lv_iload hx hb d_Mo_write_144 (lv_at hl 4 rfl) ?_
  obtain ⟨hi, hw⟩ := hw
  refine rdM_3 F hwd hi d_Mo_write_146 ?_
  refine mcM_Mo_125 F hwd (ct_Mo_with _ _ _ _ _ _ hw) ⟨Nat.le_trans (by decide) hR.1, Nat.le_trans (by decide) hR.2⟩ hl.1 (Nat.le_of_ble_eq_true rfl) d_Mo_write_147 (fun g1 H locs hw hwd => ?_)
  refine lv_aload_n hx hb d_Mo_write_150 rfl (lv_at hl 0 rfl) ?_
  refine lv_iload hx hb d_Mo_write_151 (lv_at hl 4 rfl) ?_
  refine mcM_Mo_92 F hwd (ct_Mo_far _ _ _ hw) ⟨Nat.le_trans (by decide) hR.1, Nat.le_trans (by decide) hR.2⟩ hl.1 (Nat.le_of_ble_eq_true rfl) d_Mo_write_153 (fun v3 g2 H locs hw hwd => ?_)
  refine lv_topi (fun v4 e_v4 => ?_)
  have hw := hw v4 e_v4
  refine lv_istore (lv' := [(5, .int v4), (0, .ref (ad 0)), (1, .int x1), (2, .int x2), (3, .int x3), (4, .int x4)]) hx hb d_Mo_write_156 hl (by decide) rfl (fun ls hl => ?_)
  refine lv_iload hx hb d_Mo_write_158 (lv_at hl 0 rfl) ?_
  refine lv_iconst (v := 2) hx hb d_Mo_write_160 (by decide) ?_
  refine lv_aload_n hx hb d_Mo_write_161 rfl (lv_at hl 1 rfl) ?_
  refine lv_aload_n hx hb d_Mo_write_162 rfl (lv_at hl 1 rfl) ?_
  refine gfM_Mo_19 F hwd d_Mo_write_163 ?_
  refine lv_iload hx hb d_Mo_write_166 (lv_at hl 5 rfl) ?_
  obtain ⟨hi, hw⟩ := hw
  refine rdM_4 F hwd hi d_Mo_write_168 ?_
  refine mcM_Mo_88 F hwd (ct_Mo_part _ _ _ hw) ⟨Nat.le_trans (by decide) hR.1, Nat.le_trans (by decide) hR.2⟩ hl.1 (Nat.le_of_ble_eq_true rfl) d_Mo_write_169 (fun v6 g5 H locs hw hwd => ?_)
  refine lv_iadd hx hb d_Mo_write_172 ?_
  refine lv_icmp_ne (tgt := 180) hx hb d_Mo_write_173 (by decide) (fun hc => ?_) (fun hc => ?_)
  · have hw := hw.1 hc
    refine lv_iconst (v := 0) hx hb d_Mo_write_180 (by decide) ?_
    exact wb_Mo_write_181 F hret hp14 hw hwd (lv_sub hl [1, 2, 3, 4, 5, 0] rfl)
  · have hw := hw.2 hc
    refine lv_iconst (v := 1) hx hb d_Mo_write_176 (by decide) ?_
    refine lv_goto (tgt := 181) hx hb d_Mo_write_177 (by decide) ?_
    exact wb_Mo_write_181 F hret hp14 hw hwd (lv_sub hl [1, 2, 3, 4, 5, 0] rfl)

set_option maxHeartbeats 4000000 in
set_option maxRecDepth 100000 in
theorem wb_Mo_write_72 {K : St → Prop} {P14 : Int32 → Int32 → Int32 → St → Prop} {x1 : Int32} {x2 : Int32} {x3 : Int32} {x4 : Int32} {g : St} (F : fxM D cI cZ p R s m args c b_Mo_write 7 R_Mo 2 49)
    (hret : rtMV D cI cZ ad p l e R s m args below meth c b_Mo_write A H0 Q K) (hp14 : ∀ (x1 : Int32) (x2 : Int32) (x3 : Int32) (g : St) (H : Heap) (locs : List Loc) (ls : Array Slot), P14 x1 x2 x3 g → wdM D cI cZ ad A H0 g H locs → lv_has ls 7 [(0, .ref (ad 0)), (1, .int x1), (2, .int x2), (3, .int x3)] → W p l e R s m args below meth c H locs 0 0 Q (F0 m 14 ls []))
    (hw : pb_Mo_write_72 K P14 x1 x2 x3 x4 g)
    (hwd : wdM D cI cZ ad A H0 g H locs) (hl : lv_has ls 7 [(0, .ref (ad 0)), (1, .int x1), (2, .int x2), (3, .int x3), (4, .int x4)]) : W p l e R s m args below meth c H locs 0 0 Q (F0 m 72 ls []) := by
  obtain ⟨hx, hb, hml, hown, hts, hK, hN, hR⟩ := F
  have F : fxM D cI cZ p R s m args c b_Mo_write 7 R_Mo 2 49 := ⟨hx, hb, hml, hown, hts, hK, hN, hR⟩
  refine lv_aload_n hx hb d_Mo_write_72 rfl (lv_at hl 0 rfl) ?_
  refine gfM_Mo_7 F hwd d_Mo_write_73 ?_
  refine lv_iload hx hb d_Mo_write_76 (lv_at hl 4 rfl) ?_
  obtain ⟨hi, hw⟩ := hw
  refine rdM_1 F hwd hi d_Mo_write_78 ?_
  refine lv_iconst (v := -1) hx hb d_Mo_write_79 (by decide) ?_
  refine lv_icmp_ne (tgt := 105) hx hb d_Mo_write_80 (by decide) (fun hc => ?_) (fun hc => ?_)
  · have hw := hw.1 hc
    refine lv_aload_n hx hb d_Mo_write_105 rfl (lv_at hl 0 rfl) ?_
    refine lv_iconst (v := 1) hx hb d_Mo_write_106 (by decide) ?_
    refine mcM_Mo_118 F hwd (ct_Mo_put _ _ _ hw) ⟨Nat.le_trans (by decide) hR.1, Nat.le_trans (by decide) hR.2⟩ hl.1 (Nat.le_of_ble_eq_true rfl) d_Mo_write_107 (fun g1 H locs hw hwd => ?_)
    refine lv_aload_n hx hb d_Mo_write_110 rfl (lv_at hl 0 rfl) ?_
    refine lv_aload_n hx hb d_Mo_write_111 rfl (lv_at hl 0 rfl) ?_
    refine gfM_Mo_13 F hwd d_Mo_write_112 ?_
    refine lv_iload hx hb d_Mo_write_115 (lv_at hl 4 rfl) ?_
    obtain ⟨hi, hw⟩ := hw
    refine rdM_2 F hwd hi d_Mo_write_117 ?_
    refine mcM_Mo_118 F hwd (ct_Mo_put _ _ _ hw) ⟨Nat.le_trans (by decide) hR.1, Nat.le_trans (by decide) hR.2⟩ hl.1 (Nat.le_of_ble_eq_true rfl) d_Mo_write_118 (fun g2 H locs hw hwd => ?_)
    refine lv_aload_n hx hb d_Mo_write_121 rfl (lv_at hl 0 rfl) ?_
    refine lv_iconst (v := 2) hx hb d_Mo_write_122 (by decide) ?_
    refine lv_iload_n hx hb d_Mo_write_123 rfl (lv_at hl 2 rfl) ?_
    refine lv_aload_n hx hb d_Mo_write_124 rfl (lv_at hl 0 rfl) ?_
    refine gfM_Mo_7 F hwd d_Mo_write_125 ?_
    refine lv_iload hx hb d_Mo_write_128 (lv_at hl 4 rfl) ?_
    obtain ⟨hi, hw⟩ := hw
    refine rdM_1 F hwd hi d_Mo_write_130 ?_
    refine lv_iconst (v := 4) hx hb d_Mo_write_131 (by decide) ?_
    refine lv_icmp_ge (tgt := 139) hx hb d_Mo_write_132 (by decide) (fun hc => ?_) (fun hc => ?_)
    · have hw := hw.1 hc
      refine lv_iconst (v := 3) hx hb d_Mo_write_139 (by decide) ?_
      exact wb_Mo_write_140 F hret hp14 hw hwd (lv_sub hl [0, 1, 2, 3, 4] rfl)
    · have hw := hw.2 hc
      refine lv_iconst (v := 1) hx hb d_Mo_write_135 (by decide) ?_
      refine lv_goto (tgt := 140) hx hb d_Mo_write_136 (by decide) ?_
      exact wb_Mo_write_140 F hret hp14 hw hwd (lv_sub hl [0, 1, 2, 3, 4] rfl)
  · have hw := hw.2 hc
    refine lv_aload_n hx hb d_Mo_write_83 rfl (lv_at hl 0 rfl) ?_
    refine lv_iconst (v := 2) hx hb d_Mo_write_84 (by decide) ?_
    refine lv_iload_n hx hb d_Mo_write_85 rfl (lv_at hl 2 rfl) ?_
    refine lv_iconst (v := 2) hx hb d_Mo_write_86 (by decide) ?_
    refine lv_aload_n hx hb d_Mo_write_87 rfl (lv_at hl 0 rfl) ?_
    refine gfM_Mo_16 F hwd d_Mo_write_88 ?_
    refine lv_iload hx hb d_Mo_write_91 (lv_at hl 4 rfl) ?_
    obtain ⟨hi, hw⟩ := hw
    refine rdM_3 F hwd hi d_Mo_write_93 ?_
    refine mcM_Mo_125 F hwd (ct_Mo_with _ _ _ _ _ _ hw) ⟨Nat.le_trans (by decide) hR.1, Nat.le_trans (by decide) hR.2⟩ hl.1 (Nat.le_of_ble_eq_true rfl) d_Mo_write_94 (fun g3 H locs hw hwd => ?_)
    refine lv_aload_n hx hb d_Mo_write_97 rfl (lv_at hl 0 rfl) ?_
    refine lv_iconst (v := 3) hx hb d_Mo_write_98 (by decide) ?_
    refine mcM_Mo_118 F hwd (ct_Mo_put _ _ _ hw) ⟨Nat.le_trans (by decide) hR.1, Nat.le_trans (by decide) hR.2⟩ hl.1 (Nat.le_of_ble_eq_true rfl) d_Mo_write_99 (fun g4 H locs hw hwd => ?_)
    refine lv_goto (tgt := 263) hx hb d_Mo_write_102 (by decide) ?_
    exact wb_Mo_write_263 F hret hp14 hw hwd (lv_sub hl [0, 1, 2, 3, 4] rfl)

set_option maxHeartbeats 4000000 in
set_option maxRecDepth 100000 in
theorem wb_Mo_write_14 {K : St → Prop} {P14 : Int32 → Int32 → Int32 → St → Prop} {x1 : Int32} {x2 : Int32} {x3 : Int32} {g : St} (F : fxM D cI cZ p R s m args c b_Mo_write 7 R_Mo 2 49)
    (hret : rtMV D cI cZ ad p l e R s m args below meth c b_Mo_write A H0 Q K) (hp14 : ∀ (x1 : Int32) (x2 : Int32) (x3 : Int32) (g : St) (H : Heap) (locs : List Loc) (ls : Array Slot), P14 x1 x2 x3 g → wdM D cI cZ ad A H0 g H locs → lv_has ls 7 [(0, .ref (ad 0)), (1, .int x1), (2, .int x2), (3, .int x3)] → W p l e R s m args below meth c H locs 0 0 Q (F0 m 14 ls []))
    (hw : pb_Mo_write_14 K P14 x1 x2 x3 g)
    (hwd : wdM D cI cZ ad A H0 g H locs) (hl : lv_has ls 7 [(0, .ref (ad 0)), (1, .int x1), (2, .int x2), (3, .int x3)]) : W p l e R s m args below meth c H locs 0 0 Q (F0 m 14 ls []) := by
  obtain ⟨hx, hb, hml, hown, hts, hK, hN, hR⟩ := F
  have F : fxM D cI cZ p R s m args c b_Mo_write 7 R_Mo 2 49 := ⟨hx, hb, hml, hown, hts, hK, hN, hR⟩
  refine lv_iload_n hx hb d_Mo_write_14 rfl (lv_at hl 3 rfl) ?_
  refine lv_if_le (tgt := 266) hx hb d_Mo_write_15 (by decide) (fun hc => ?_) (fun hc => ?_)
  · have hw := hw.1 hc
    exact hret _ _ _ hw hwd _ _ d_Mo_write_266
  · have hw := hw.2 hc
    obtain ⟨v1, e_v1⟩ : ∃ z, z = x3 + (-1 : Int32) := ⟨_, rfl⟩
    have hw := hw v1 e_v1
    refine lv_iinc (k := 3) (lv' := [(3, .int v1), (0, .ref (ad 0)), (1, .int x1), (2, .int x2)]) hx hb d_Mo_write_18 hl rfl e_v1.symm (by decide) rfl (fun ls hl => ?_)
    refine lv_aload_n hx hb d_Mo_write_21 rfl (lv_at hl 1 rfl) ?_
    refine gfM_Mo_35 F hwd d_Mo_write_22 ?_
    refine lv_iload_n hx hb d_Mo_write_25 rfl (lv_at hl 0 rfl) ?_
    obtain ⟨hi, hw⟩ := hw
    refine rdM_9 F hwd hi d_Mo_write_26 ?_
    refine lv_topi (fun v2 e_v2 => ?_)
    have hw := hw v2 e_v2
    refine lv_istore (lv' := [(4, .int v2), (3, .int v1), (0, .ref (ad 0)), (1, .int x1), (2, .int x2)]) hx hb d_Mo_write_27 hl (by decide) rfl (fun ls hl => ?_)
    refine lv_aload_n hx hb d_Mo_write_29 rfl (lv_at hl 2 rfl) ?_
    refine gfM_Mo_47 F hwd d_Mo_write_30 ?_
    refine lv_iload hx hb d_Mo_write_33 (lv_at hl 0 rfl) ?_
    obtain ⟨hi, hw⟩ := hw
    refine rdM_13 F hwd hi d_Mo_write_35 ?_
    refine lv_if_lt (tgt := 72) hx hb d_Mo_write_36 (by decide) (fun hc => ?_) (fun hc => ?_)
    · have hw := hw.1 hc
      exact wb_Mo_write_72 F hret hp14 hw hwd (lv_sub hl [2, 3, 4, 1, 0] rfl)
    · have hw := hw.2 hc
      refine lv_iload hx hb d_Mo_write_39 (lv_at hl 0 rfl) ?_
      refine lv_aload_n hx hb d_Mo_write_41 rfl (lv_at hl 2 rfl) ?_
      refine gfM_Mo_56 F hwd d_Mo_write_42 ?_
      refine lv_iload_n hx hb d_Mo_write_45 rfl (lv_at hl 3 rfl) ?_
      obtain ⟨hi, hw⟩ := hw
      refine rdM_16 F hwd hi d_Mo_write_46 ?_
      refine lv_icmp_eq (tgt := 72) hx hb d_Mo_write_47 (by decide) (fun hc => ?_) (fun hc => ?_)
      · have hw := hw.1 hc
        exact wb_Mo_write_72 F hret hp14 hw hwd (lv_sub hl [2, 3, 4, 1, 0] rfl)
      · have hw := hw.2 hc
        refine lv_aload_n hx hb d_Mo_write_50 rfl (lv_at hl 2 rfl) ?_
        refine lv_iconst (v := 4) hx hb d_Mo_write_51 (by decide) ?_
        refine lv_iload_n hx hb d_Mo_write_52 rfl (lv_at hl 4 rfl) ?_
        refine lv_iconst (v := 4) hx hb d_Mo_write_53 (by decide) ?_
        refine lv_aload_n hx hb d_Mo_write_54 rfl (lv_at hl 2 rfl) ?_
        refine gfM_Mo_47 F hwd d_Mo_write_55 ?_
        refine lv_iload hx hb d_Mo_write_58 (lv_at hl 0 rfl) ?_
        obtain ⟨hi, hw⟩ := hw
        refine rdM_13 F hwd hi d_Mo_write_60 ?_
        refine mcM_Mo_125 F hwd (ct_Mo_with _ _ _ _ _ _ hw) ⟨Nat.le_trans (by decide) hR.1, Nat.le_trans (by decide) hR.2⟩ hl.1 (Nat.le_of_ble_eq_true rfl) d_Mo_write_61 (fun g3 H locs hw hwd => ?_)
        refine lv_aload_n hx hb d_Mo_write_64 rfl (lv_at hl 2 rfl) ?_
        refine lv_iconst (v := 3) hx hb d_Mo_write_65 (by decide) ?_
        refine mcM_Mo_118 F hwd (ct_Mo_put _ _ _ hw) ⟨Nat.le_trans (by decide) hR.1, Nat.le_trans (by decide) hR.2⟩ hl.1 (Nat.le_of_ble_eq_true rfl) d_Mo_write_66 (fun g4 H locs hw hwd => ?_)
        refine lv_goto (tgt := 263) hx hb d_Mo_write_69 (by decide) ?_
        exact wb_Mo_write_263 F hret hp14 hw hwd (lv_sub hl [2, 3, 4, 1, 0] rfl)

set_option maxHeartbeats 4000000 in
theorem wl_Mo_write_14 {K : St → Prop} {x1 : Int32} {x2 : Int32} {x3 : Int32} {g : St} (F : fxM D cI cZ p R s m args c b_Mo_write 7 R_Mo 2 49)
    (hret : rtMV D cI cZ ad p l e R s m args below meth c b_Mo_write A H0 Q K)
    (hw : pl_Mo_write_14 K x1 x2 x3 g)
    (hwd : wdM D cI cZ ad A H0 g H locs) (hl : lv_has ls 7 [(0, .ref (ad 0)), (1, .int x1), (2, .int x2), (3, .int x3)]) : W p l e R s m args below meth c H locs 0 0 Q (F0 m 14 ls []) := by
  refine hw (fun x1 x2 x3 g => ∀ (H : Heap) (locs : List Loc) (ls : Array Slot), wdM D cI cZ ad A H0 g H locs → lv_has ls 7 [(0, .ref (ad 0)), (1, .int x1), (2, .int x2), (3, .int x3)] → W p l e R s m args below meth c H locs 0 0 Q (F0 m 14 ls [])) ?_ H locs ls hwd hl
  intro x1 x2 x3 g hw H locs ls hwd hl
  exact wb_Mo_write_14 F hret (fun x1 x2 x3 g H locs ls h hwd hl => h H locs ls hwd hl) hw hwd hl

set_option maxHeartbeats 4000000 in
set_option maxRecDepth 100000 in
theorem wb_Mo_write_0 {K : St → Prop} {x1 : Int32} {x2 : Int32} {g : St} (F : fxM D cI cZ p R s m args c b_Mo_write 7 R_Mo 2 49)
    (hret : rtMV D cI cZ ad p l e R s m args below meth c b_Mo_write A H0 Q K)
    (hw : pb_Mo_write_0 K x1 x2 g)
    (hwd : wdM D cI cZ ad A H0 g H locs) (hl : lv_has ls 7 [(0, .ref (ad 0)), (1, .int x1), (2, .int x2)]) : W p l e R s m args below meth c H locs 0 0 Q (F0 m 0 ls []) := by
  obtain ⟨hx, hb, hml, hown, hts, hK, hN, hR⟩ := F
  have F : fxM D cI cZ p R s m args c b_Mo_write 7 R_Mo 2 49 := ⟨hx, hb, hml, hown, hts, hK, hN, hR⟩
  refine lv_iconst (v := 1) hx hb d_Mo_write_0 (by decide) ?_
  refine lv_topi (fun v1 e_v1 => ?_)
  have hw := hw v1 e_v1
  refine lv_istore_n (lv' := [(3, .int v1), (0, .ref (ad 0)), (1, .int x1), (2, .int x2)]) hx hb d_Mo_write_1 rfl hl (by decide) rfl (fun ls hl => ?_)
  refine lv_aload_n hx hb d_Mo_write_2 rfl (lv_at hl 1 rfl) ?_
  refine gfM_Mo_35 F hwd d_Mo_write_3 ?_
  refine lv_iconst (v := 0) hx hb d_Mo_write_6 (by decide) ?_
  refine lv_aload_n hx hb d_Mo_write_7 rfl (lv_at hl 1 rfl) ?_
  refine gfM_Mo_56 F hwd d_Mo_write_8 ?_
  refine lv_iload_n hx hb d_Mo_write_11 rfl (lv_at hl 2 rfl) ?_
  obtain ⟨hi, hw⟩ := hw
  refine rdM_16 F hwd hi d_Mo_write_12 ?_
  obtain ⟨hi, hw⟩ := hw
  refine wrM_9 F hwd hi d_Mo_write_13 (fun H locs hwd => ?_)
  obtain ⟨g2, e_g2⟩ : ∃ z : St, z = ar g 9 (0 : Int32) (g 16 (x1).toNatClampNeg) := ⟨_, rfl⟩
  have hwd : wdM D cI cZ ad A H0 g2 H locs := by rw [e_g2]; exact hwd
  have hw := hw g2 e_g2
  exact wl_Mo_write_14 F hret hw hwd (lv_sub hl [1, 2, 3, 0] rfl)

theorem ct_Mo_write {l : Launch} {D : va_G} {cI cZ : ClassId} {ad : Nat → Nat} (x1 : Int32) (x2 : Int32) (g : St) (K : St → Prop) (h : pc_Mo_write x1 x2 g K) : ctMV l y_Mo_write b_Mo_write 7 2 49 D cI cZ ad [.ref (ad 0), .int x1, .int x2] g K :=
  enMV (by decide) (Nat.le_of_ble_eq_true rfl) (fun p e s m args below meth c A H0 ls Q F hwd hl hret => wb_Mo_write_0 F hret h hwd hl)
end WALKM1
