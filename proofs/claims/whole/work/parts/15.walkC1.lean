section WALKC1
variable {p : Program} {l : Launch} {e : Env} {R : Room} {s : State} {m : MethodId} {args : Array Value} {below : List Frame} {meth : Method} {c : Code} {H : Heap} {locs : List Loc} {Q : State → Prop}
variable {D : va_G} {cI cZ : ClassId} {ad : Nat → Nat} {A : Nat → Prop} {H0 : Heap} {ls : Array Slot}
set_option maxHeartbeats 4000000 in
set_option maxRecDepth 100000 in
theorem wb_Cu_cutChildren_88 {K : St → Prop} {x1 : Int32} {x2 : Int32} {x3 : Int32} {x4 : Int32} {x5 : Int32} {t1 : Int32} {g : St} (F : fxC D cI cZ p R s m args c b_Cu_cutChildren 6 R_Cu 2 43)
    (hret : rtCV D cI cZ ad p l e R s m args below meth c b_Cu_cutChildren A H0 Q K)
    (hw : pb_Cu_cutChildren_88 K x1 x2 x3 x4 x5 t1 g)
    (hwd : wdC D cI cZ ad A H0 g H locs) (hl : lv_has ls 6 [(0, .ref (ad 11)), (1, .int x1), (2, .int x2), (3, .int x3), (4, .int x4), (5, .int x5)]) : W p l e R s m args below meth c H locs 0 0 Q (F0 m 88 ls [.int t1, .ref (ad 11)]) := by
  obtain ⟨hx, hb, hml, hown, hts, hK, hN, hR⟩ := F
  have F : fxC D cI cZ p R s m args c b_Cu_cutChildren 6 R_Cu 2 43 := ⟨hx, hb, hml, hown, hts, hK, hN, hR⟩
  refine mcC_Cu_41 F hwd (ct_Cu_cutOut _ _ _ hw) ⟨Nat.le_trans (by decide) hR.1, Nat.le_trans (by decide) hR.2⟩ hl.1 (Nat.le_of_ble_eq_true rfl) d_Cu_cutChildren_88 (fun g1 H locs hw hwd => ?_)
  exact hret _ _ _ hw hwd _ _ d_Cu_cutChildren_91

set_option maxHeartbeats 4000000 in
set_option maxRecDepth 100000 in
theorem wb_Cu_cutChildren_64 {K : St → Prop} {x1 : Int32} {x2 : Int32} {x3 : Int32} {x4 : Int32} {x5 : Int32} {t1 : Int32} {g : St} (F : fxC D cI cZ p R s m args c b_Cu_cutChildren 6 R_Cu 2 43)
    (hret : rtCV D cI cZ ad p l e R s m args below meth c b_Cu_cutChildren A H0 Q K)
    (hw : pb_Cu_cutChildren_64 K x1 x2 x3 x4 x5 t1 g)
    (hwd : wdC D cI cZ ad A H0 g H locs) (hl : lv_has ls 6 [(0, .ref (ad 11)), (1, .int x1), (2, .int x2), (3, .int x3), (4, .int x4), (5, .int x5)]) : W p l e R s m args below meth c H locs 0 0 Q (F0 m 64 ls [.int t1, .ref (ad 11)]) := by
  obtain ⟨hx, hb, hml, hown, hts, hK, hN, hR⟩ := F
  have F : fxC D cI cZ p R s m args c b_Cu_cutChildren 6 R_Cu 2 43 := ⟨hx, hb, hml, hown, hts, hK, hN, hR⟩
  refine mcC_Cu_41 F hwd (ct_Cu_cutOut _ _ _ hw) ⟨Nat.le_trans (by decide) hR.1, Nat.le_trans (by decide) hR.2⟩ hl.1 (Nat.le_of_ble_eq_true rfl) d_Cu_cutChildren_64 (fun g1 H locs hw hwd => ?_)
  refine lv_aload_n hx hb d_Cu_cutChildren_67 rfl (lv_at hl 0 rfl) ?_
  refine lv_iload_n hx hb d_Cu_cutChildren_68 rfl (lv_at hl 1 rfl) ?_
  refine mcC_Cu_59 F hwd (ct_Cu_splitLength _ _ _ hw) ⟨Nat.le_trans (by decide) hR.1, Nat.le_trans (by decide) hR.2⟩ hl.1 (Nat.le_of_ble_eq_true rfl) d_Cu_cutChildren_69 (fun v3 g2 H locs hw hwd => ?_)
  refine lv_iload_n hx hb d_Cu_cutChildren_72 rfl (lv_at hl 2 rfl) ?_
  refine lv_icmp_le (tgt := 91) hx hb d_Cu_cutChildren_73 (by decide) (fun hc => ?_) (fun hc => ?_)
  · have hw := hw.1 hc
    exact hret _ _ _ hw hwd _ _ d_Cu_cutChildren_91
  · have hw := hw.2 hc
    refine lv_aload_n hx hb d_Cu_cutChildren_76 rfl (lv_at hl 0 rfl) ?_
    refine lv_iload hx hb d_Cu_cutChildren_77 (lv_at hl 5 rfl) ?_
    refine lv_if_eq (tgt := 87) hx hb d_Cu_cutChildren_79 (by decide) (fun hc => ?_) (fun hc => ?_)
    · have hw := hw.1 hc
      refine lv_iload_n hx hb d_Cu_cutChildren_87 rfl (lv_at hl 3 rfl) ?_
      exact wb_Cu_cutChildren_88 F hret hw hwd (lv_sub hl [0, 1, 2, 3, 4, 5] rfl)
    · have hw := hw.2 hc
      refine lv_iload hx hb d_Cu_cutChildren_82 (lv_at hl 4 rfl) ?_
      refine lv_goto (tgt := 88) hx hb d_Cu_cutChildren_84 (by decide) ?_
      exact wb_Cu_cutChildren_88 F hret hw hwd (lv_sub hl [0, 1, 2, 3, 4, 5] rfl)

set_option maxHeartbeats 4000000 in
set_option maxRecDepth 100000 in
theorem wb_Cu_cutChildren_50 {K : St → Prop} {x1 : Int32} {x2 : Int32} {x3 : Int32} {x4 : Int32} {t0 : Int32} {g : St} (F : fxC D cI cZ p R s m args c b_Cu_cutChildren 6 R_Cu 2 43)
    (hret : rtCV D cI cZ ad p l e R s m args below meth c b_Cu_cutChildren A H0 Q K)
    (hw : pb_Cu_cutChildren_50 K x1 x2 x3 x4 t0 g)
    (hwd : wdC D cI cZ ad A H0 g H locs) (hl : lv_has ls 6 [(0, .ref (ad 11)), (1, .int x1), (2, .int x2), (3, .int x3), (4, .int x4)]) : W p l e R s m args below meth c H locs 0 0 Q (F0 m 50 ls [.int t0]) := by
  obtain ⟨hx, hb, hml, hown, hts, hK, hN, hR⟩ := F
  have F : fxC D cI cZ p R s m args c b_Cu_cutChildren 6 R_Cu 2 43 := ⟨hx, hb, hml, hown, hts, hK, hN, hR⟩
  refine lv_topi (fun v1 e_v1 => ?_)
  have hw := hw v1 e_v1
  refine lv_istore (lv' := [(5, .int v1), (0, .ref (ad 11)), (1, .int x1), (2, .int x2), (3, .int x3), (4, .int x4)]) hx hb d_Cu_cutChildren_50 hl (by decide) rfl (fun ls hl => ?_)
  refine lv_aload_n hx hb d_Cu_cutChildren_52 rfl (lv_at hl 1 rfl) ?_
  refine lv_iload hx hb d_Cu_cutChildren_53 (lv_at hl 0 rfl) ?_
  refine lv_if_eq (tgt := 62) hx hb d_Cu_cutChildren_55 (by decide) (fun hc => ?_) (fun hc => ?_)
  · have hw := hw.1 hc
    refine lv_iload hx hb d_Cu_cutChildren_62 (lv_at hl 5 rfl) ?_
    exact wb_Cu_cutChildren_64 F hret hw hwd (lv_sub hl [1, 2, 3, 4, 5, 0] rfl)
  · have hw := hw.2 hc
    refine lv_iload_n hx hb d_Cu_cutChildren_58 rfl (lv_at hl 4 rfl) ?_
    refine lv_goto (tgt := 64) hx hb d_Cu_cutChildren_59 (by decide) ?_
    exact wb_Cu_cutChildren_64 F hret hw hwd (lv_sub hl [1, 2, 3, 4, 5, 0] rfl)

set_option maxHeartbeats 4000000 in
set_option maxRecDepth 100000 in
theorem wb_Cu_cutChildren_0 {K : St → Prop} {x1 : Int32} {x2 : Int32} {g : St} (F : fxC D cI cZ p R s m args c b_Cu_cutChildren 6 R_Cu 2 43)
    (hret : rtCV D cI cZ ad p l e R s m args below meth c b_Cu_cutChildren A H0 Q K)
    (hw : pb_Cu_cutChildren_0 K x1 x2 g)
    (hwd : wdC D cI cZ ad A H0 g H locs) (hl : lv_has ls 6 [(0, .ref (ad 11)), (1, .int x1), (2, .int x2)]) : W p l e R s m args below meth c H locs 0 0 Q (F0 m 0 ls []) := by
  obtain ⟨hx, hb, hml, hown, hts, hK, hN, hR⟩ := F
  have F : fxC D cI cZ p R s m args c b_Cu_cutChildren 6 R_Cu 2 43 := ⟨hx, hb, hml, hown, hts, hK, hN, hR⟩
  refine lv_aload_n hx hb d_Cu_cutChildren_0 rfl (lv_at hl 0 rfl) ?_
  refine gfC_Cu_21 F hwd d_Cu_cutChildren_1 ?_
  refine gfC_Cu_49 F hwd d_Cu_cutChildren_4 ?_
  refine lv_iload_n hx hb d_Cu_cutChildren_7 rfl (lv_at hl 1 rfl) ?_
  obtain ⟨hi, hw⟩ := hw
  refine rdC_6 F hwd hi d_Cu_cutChildren_8 ?_
  refine lv_topi (fun v1 e_v1 => ?_)
  have hw := hw v1 e_v1
  refine lv_istore_n (lv' := [(3, .int v1), (0, .ref (ad 11)), (1, .int x1), (2, .int x2)]) hx hb d_Cu_cutChildren_9 rfl hl (by decide) rfl (fun ls hl => ?_)
  refine lv_aload_n hx hb d_Cu_cutChildren_10 rfl (lv_at hl 1 rfl) ?_
  refine gfC_Cu_21 F hwd d_Cu_cutChildren_11 ?_
  refine gfC_Cu_52 F hwd d_Cu_cutChildren_14 ?_
  refine lv_iload_n hx hb d_Cu_cutChildren_17 rfl (lv_at hl 2 rfl) ?_
  obtain ⟨hi, hw⟩ := hw
  refine rdC_7 F hwd hi d_Cu_cutChildren_18 ?_
  refine lv_topi (fun v2 e_v2 => ?_)
  have hw := hw v2 e_v2
  refine lv_istore (lv' := [(4, .int v2), (3, .int v1), (0, .ref (ad 11)), (1, .int x1), (2, .int x2)]) hx hb d_Cu_cutChildren_19 hl (by decide) rfl (fun ls hl => ?_)
  refine lv_aload_n hx hb d_Cu_cutChildren_21 rfl (lv_at hl 2 rfl) ?_
  refine lv_iload_n hx hb d_Cu_cutChildren_22 rfl (lv_at hl 3 rfl) ?_
  refine mcC_Cu_59 F hwd (ct_Cu_splitLength _ _ _ hw) ⟨Nat.le_trans (by decide) hR.1, Nat.le_trans (by decide) hR.2⟩ hl.1 (Nat.le_of_ble_eq_true rfl) d_Cu_cutChildren_23 (fun v4 g3 H locs hw hwd => ?_)
  refine lv_iload_n hx hb d_Cu_cutChildren_26 rfl (lv_at hl 4 rfl) ?_
  refine lv_icmp_gt (tgt := 31) hx hb d_Cu_cutChildren_27 (by decide) (fun hc => ?_) (fun hc => ?_)
  · have hw := hw.1 hc
    refine lv_aload_n hx hb d_Cu_cutChildren_31 rfl (lv_at hl 2 rfl) ?_
    refine lv_iload_n hx hb d_Cu_cutChildren_32 rfl (lv_at hl 1 rfl) ?_
    refine mcC_Cu_63 F hwd (ct_Cu_partLength _ _ _ hw) ⟨Nat.le_trans (by decide) hR.1, Nat.le_trans (by decide) hR.2⟩ hl.1 (Nat.le_of_ble_eq_true rfl) d_Cu_cutChildren_33 (fun v6 g5 H locs hw hwd => ?_)
    refine lv_aload_n hx hb d_Cu_cutChildren_36 rfl (lv_at hl 2 rfl) ?_
    refine lv_iload hx hb d_Cu_cutChildren_37 (lv_at hl 0 rfl) ?_
    refine mcC_Cu_63 F hwd (ct_Cu_partLength _ _ _ hw) ⟨Nat.le_trans (by decide) hR.1, Nat.le_trans (by decide) hR.2⟩ hl.1 (Nat.le_of_ble_eq_true rfl) d_Cu_cutChildren_39 (fun v8 g7 H locs hw hwd => ?_)
    refine lv_icmp_lt (tgt := 49) hx hb d_Cu_cutChildren_42 (by decide) (fun hc => ?_) (fun hc => ?_)
    · have hw := hw.1 hc
      refine lv_iconst (v := 0) hx hb d_Cu_cutChildren_49 (by decide) ?_
      exact wb_Cu_cutChildren_50 F hret hw hwd (lv_sub hl [2, 3, 4, 1, 0] rfl)
    · have hw := hw.2 hc
      refine lv_iconst (v := 1) hx hb d_Cu_cutChildren_45 (by decide) ?_
      refine lv_goto (tgt := 50) hx hb d_Cu_cutChildren_46 (by decide) ?_
      exact wb_Cu_cutChildren_50 F hret hw hwd (lv_sub hl [2, 3, 4, 1, 0] rfl)
  · have hw := hw.2 hc
    exact hret _ _ _ hw hwd _ _ d_Cu_cutChildren_30

theorem ct_Cu_cutChildren {l : Launch} {D : va_G} {cI cZ : ClassId} {ad : Nat → Nat} (x1 : Int32) (x2 : Int32) (g : St) (K : St → Prop) (h : pc_Cu_cutChildren x1 x2 g K) : ctCV l y_Cu_cutChildren b_Cu_cutChildren 6 2 43 D cI cZ ad [.ref (ad 11), .int x1, .int x2] g K :=
  enCV (by decide) (Nat.le_of_ble_eq_true rfl) (fun p e s m args below meth c A H0 ls Q F hwd hl hret => wb_Cu_cutChildren_0 F hret h hwd hl)

set_option maxHeartbeats 4000000 in
set_option maxRecDepth 100000 in
theorem wb_Cu_cutFrom_17 {rc : Int32 → Int32 → Int32 → St → (St → Prop) → Prop} {K : St → Prop} {x1 : Int32} {x2 : Int32} {x3 : Int32} {g : St} (F : fxC D cI cZ p R s m args c b_Cu_cutFrom 4 R_Cu 3 68)
    (hret : rtCV D cI cZ ad p l e R s m args below meth c b_Cu_cutFrom A H0 Q K) {f lo : Nat} (hrc : ∀ (y1 y2 y3 : Int32) (g : St) (K : St → Prop), rc y1 y2 y3 g K → ctCV l y_Cu_cutFrom b_Cu_cutFrom 4 f lo D cI cZ ad [.ref (ad 11), .int y1, .int y2, .int y3] g K) (hf0 : 3 ≤ f ∧ 68 ≤ lo) (hRr : f + 1 ≤ R.frames ∧ lo + 23 ≤ R.locals)
    (hw : pb_Cu_cutFrom_17 rc K x1 x2 x3 g)
    (hwd : wdC D cI cZ ad A H0 g H locs) (hl : lv_has ls 4 [(0, .ref (ad 11)), (1, .int x1), (2, .int x2), (3, .int x3)]) : W p l e R s m args below meth c H locs 0 0 Q (F0 m 17 ls []) := by
  obtain ⟨hx, hb, hml, hown, hts, hK, hN, hR⟩ := F
  have F : fxC D cI cZ p R s m args c b_Cu_cutFrom 4 R_Cu 3 68 := ⟨hx, hb, hml, hown, hts, hK, hN, hR⟩
  refine lv_aload_n hx hb d_Cu_cutFrom_17 rfl (lv_at hl 0 rfl) ?_
  refine gfC_Cu_9 F hwd d_Cu_cutFrom_18 ?_
  refine lv_iload_n hx hb d_Cu_cutFrom_21 rfl (lv_at hl 1 rfl) ?_
  refine lv_iconst (v := 3) hx hb d_Cu_cutFrom_22 (by decide) ?_
  obtain ⟨hi, hw⟩ := hw
  refine wrC_12 F hwd hi d_Cu_cutFrom_23 (fun H locs hwd => ?_)
  obtain ⟨g1, e_g1⟩ : ∃ z : St, z = ar g 12 x1 (3 : Int32) := ⟨_, rfl⟩
  have hwd : wdC D cI cZ ad A H0 g1 H locs := by rw [e_g1]; exact hwd
  have hw := hw g1 e_g1
  exact hret _ _ _ hw hwd _ _ d_Cu_cutFrom_24

set_option maxHeartbeats 4000000 in
set_option maxRecDepth 100000 in
theorem wb_Cu_cutFrom_0 {rc : Int32 → Int32 → Int32 → St → (St → Prop) → Prop} {K : St → Prop} {x1 : Int32} {x2 : Int32} {x3 : Int32} {g : St} (F : fxC D cI cZ p R s m args c b_Cu_cutFrom 4 R_Cu 3 68)
    (hret : rtCV D cI cZ ad p l e R s m args below meth c b_Cu_cutFrom A H0 Q K) {f lo : Nat} (hrc : ∀ (y1 y2 y3 : Int32) (g : St) (K : St → Prop), rc y1 y2 y3 g K → ctCV l y_Cu_cutFrom b_Cu_cutFrom 4 f lo D cI cZ ad [.ref (ad 11), .int y1, .int y2, .int y3] g K) (hf0 : 3 ≤ f ∧ 68 ≤ lo) (hRr : f + 1 ≤ R.frames ∧ lo + 23 ≤ R.locals)
    (hw : pb_Cu_cutFrom_0 rc K x1 x2 x3 g)
    (hwd : wdC D cI cZ ad A H0 g H locs) (hl : lv_has ls 4 [(0, .ref (ad 11)), (1, .int x1), (2, .int x2), (3, .int x3)]) : W p l e R s m args below meth c H locs 0 0 Q (F0 m 0 ls []) := by
  obtain ⟨hx, hb, hml, hown, hts, hK, hN, hR⟩ := F
  have F : fxC D cI cZ p R s m args c b_Cu_cutFrom 4 R_Cu 3 68 := ⟨hx, hb, hml, hown, hts, hK, hN, hR⟩
  refine lv_aload_n hx hb d_Cu_cutFrom_0 rfl (lv_at hl 0 rfl) ?_
  refine gfC_Cu_21 F hwd d_Cu_cutFrom_1 ?_
  refine lv_iload_n hx hb d_Cu_cutFrom_4 rfl (lv_at hl 1 rfl) ?_
  refine mcC_Cu_45 F hwd (ct_Fo_isLeaf _ _ _ hw) ⟨Nat.le_trans (by decide) hR.1, Nat.le_trans (by decide) hR.2⟩ hl.1 (Nat.le_of_ble_eq_true rfl) d_Cu_cutFrom_5 (fun v2 g1 H locs hw hwd => ?_)
  refine lv_if_ne (tgt := 17) hx hb d_Cu_cutFrom_8 (by decide) (fun hc => ?_) (fun hc => ?_)
  · have hw := hw.1 hc
    exact wb_Cu_cutFrom_17 F hret hrc hf0 hRr hw hwd (lv_sub hl [0, 1, 2, 3] rfl)
  · have hw := hw.2 hc
    refine lv_iload_n hx hb d_Cu_cutFrom_11 rfl (lv_at hl 3 rfl) ?_
    refine lv_bipush (v := 12) hx hb d_Cu_cutFrom_12 (by decide) ?_
    refine lv_icmp_le (tgt := 25) hx hb d_Cu_cutFrom_14 (by decide) (fun hc => ?_) (fun hc => ?_)
    · have hw := hw.1 hc
      refine lv_aload_n hx hb d_Cu_cutFrom_25 rfl (lv_at hl 0 rfl) ?_
      refine lv_aload_n hx hb d_Cu_cutFrom_26 rfl (lv_at hl 0 rfl) ?_
      refine gfC_Cu_21 F hwd d_Cu_cutFrom_27 ?_
      refine gfC_Cu_49 F hwd d_Cu_cutFrom_30 ?_
      refine lv_iload_n hx hb d_Cu_cutFrom_33 rfl (lv_at hl 1 rfl) ?_
      obtain ⟨hi, hw⟩ := hw
      refine rdC_6 F hwd hi d_Cu_cutFrom_34 ?_
      refine lv_iload_n hx hb d_Cu_cutFrom_35 rfl (lv_at hl 2 rfl) ?_
      refine lv_iload_n hx hb d_Cu_cutFrom_36 rfl (lv_at hl 3 rfl) ?_
      refine lv_iconst (v := 1) hx hb d_Cu_cutFrom_37 (by decide) ?_
      refine lv_iadd hx hb d_Cu_cutFrom_38 ?_
      refine mcC_Cu_37 F hwd (hrc _ _ _ _ _ hw) ⟨by have := hRr.1; omega, by have := hRr.2; omega⟩ hl.1 (Nat.le_of_ble_eq_true rfl) d_Cu_cutFrom_39 (fun g3 H locs hw hwd => ?_)
      refine lv_aload_n hx hb d_Cu_cutFrom_42 rfl (lv_at hl 0 rfl) ?_
      refine lv_aload_n hx hb d_Cu_cutFrom_43 rfl (lv_at hl 0 rfl) ?_
      refine gfC_Cu_21 F hwd d_Cu_cutFrom_44 ?_
      refine gfC_Cu_52 F hwd d_Cu_cutFrom_47 ?_
      refine lv_iload_n hx hb d_Cu_cutFrom_50 rfl (lv_at hl 1 rfl) ?_
      obtain ⟨hi, hw⟩ := hw
      refine rdC_7 F hwd hi d_Cu_cutFrom_51 ?_
      refine lv_iload_n hx hb d_Cu_cutFrom_52 rfl (lv_at hl 2 rfl) ?_
      refine lv_iload_n hx hb d_Cu_cutFrom_53 rfl (lv_at hl 3 rfl) ?_
      refine lv_iconst (v := 1) hx hb d_Cu_cutFrom_54 (by decide) ?_
      refine lv_iadd hx hb d_Cu_cutFrom_55 ?_
      refine mcC_Cu_37 F hwd (hrc _ _ _ _ _ hw) ⟨by have := hRr.1; omega, by have := hRr.2; omega⟩ hl.1 (Nat.le_of_ble_eq_true rfl) d_Cu_cutFrom_56 (fun g4 H locs hw hwd => ?_)
      refine lv_aload_n hx hb d_Cu_cutFrom_59 rfl (lv_at hl 0 rfl) ?_
      refine lv_iload_n hx hb d_Cu_cutFrom_60 rfl (lv_at hl 1 rfl) ?_
      refine lv_iload_n hx hb d_Cu_cutFrom_61 rfl (lv_at hl 2 rfl) ?_
      refine mcC_Cu_55 F hwd (ct_Cu_cutChildren _ _ _ _ hw) ⟨Nat.le_trans (by decide) hR.1, Nat.le_trans (by decide) hR.2⟩ hl.1 (Nat.le_of_ble_eq_true rfl) d_Cu_cutFrom_62 (fun g5 H locs hw hwd => ?_)
      refine lv_aload_n hx hb d_Cu_cutFrom_65 rfl (lv_at hl 0 rfl) ?_
      refine gfC_Cu_9 F hwd d_Cu_cutFrom_66 ?_
      refine lv_iload_n hx hb d_Cu_cutFrom_69 rfl (lv_at hl 1 rfl) ?_
      refine lv_aload_n hx hb d_Cu_cutFrom_70 rfl (lv_at hl 0 rfl) ?_
      refine lv_iload_n hx hb d_Cu_cutFrom_71 rfl (lv_at hl 1 rfl) ?_
      refine mcC_Cu_59 F hwd (ct_Cu_splitLength _ _ _ hw) ⟨Nat.le_trans (by decide) hR.1, Nat.le_trans (by decide) hR.2⟩ hl.1 (Nat.le_of_ble_eq_true rfl) d_Cu_cutFrom_72 (fun v7 g6 H locs hw hwd => ?_)
      obtain ⟨hi, hw⟩ := hw
      refine wrC_12 F hwd hi d_Cu_cutFrom_75 (fun H locs hwd => ?_)
      obtain ⟨g8, e_g8⟩ : ∃ z : St, z = ar g6 12 x1 v7 := ⟨_, rfl⟩
      have hwd : wdC D cI cZ ad A H0 g8 H locs := by rw [e_g8]; exact hwd
      have hw := hw g8 e_g8
      exact hret _ _ _ hw hwd _ _ d_Cu_cutFrom_76
    · have hw := hw.2 hc
      exact wb_Cu_cutFrom_17 F hret hrc hf0 hRr hw hwd (lv_sub hl [0, 1, 2, 3] rfl)

theorem ct_Cu_cutFrom {l : Launch} {D : va_G} {cI cZ : ClassId} {ad : Nat → Nat} : ∀ (d : Nat) (x1 : Int32) (x2 : Int32) (x3 : Int32) (g : St) (K : St → Prop), pc_Cu_cutFrom d x1 x2 x3 g K → ctCV l y_Cu_cutFrom b_Cu_cutFrom 4 (3 + d * 1) (68 + d * 23) D cI cZ ad [.ref (ad 11), .int x1, .int x2, .int x3] g K := by
  intro d
  induction d with
  | zero => intro x1 x2 x3 g K h; exact h.elim
  | succ d ih =>
    intro x1 x2 x3 g K h
    refine enCV (by decide) (Nat.le_of_ble_eq_true rfl) (fun p e s m args below meth c A H0 ls Q F hwd hl hret => ?_)
    have F : fxC D cI cZ p { frames := 3 + (d + 1) * 1, cells := 0, slots := 0, locals := 68 + (d + 1) * 23 } s m args c b_Cu_cutFrom 4 R_Cu 3 68 := ⟨F.1, F.2.1, F.2.2.1, F.2.2.2.1, F.2.2.2.2.1, F.2.2.2.2.2.1, F.2.2.2.2.2.2.1, by show 3 ≤ 3 + (d + 1) * 1; omega, by show 68 ≤ 68 + (d + 1) * 23; omega⟩
    exact wb_Cu_cutFrom_0 F hret (f := 3 + d * 1) (lo := 68 + d * 23) ih ⟨by omega, by omega⟩ ⟨by show 3 + d * 1 + 1 ≤ 3 + (d + 1) * 1; omega, by show 68 + d * 23 + 23 ≤ 68 + (d + 1) * 23; omega⟩ h hwd hl

set_option maxHeartbeats 4000000 in
set_option maxRecDepth 100000 in
theorem wb_Cu_cutTrees_28 {K : St → Prop} {P28 : Int32 → Int32 → St → Prop} {x1 : Int32} {x2 : Int32} {g : St} (F : fxC D cI cZ p R s m args c b_Cu_cutTrees 3 R_Cu 18 413)
    (hret : rtCV D cI cZ ad p l e R s m args below meth c b_Cu_cutTrees A H0 Q K) (hp28 : ∀ (x1 : Int32) (x2 : Int32) (g : St) (H : Heap) (locs : List Loc) (ls : Array Slot), P28 x1 x2 g → wdC D cI cZ ad A H0 g H locs → lv_has ls 3 [(0, .ref (ad 11)), (1, .int x1), (2, .int x2)] → W p l e R s m args below meth c H locs 0 0 Q (F0 m 28 ls []))
    (hw : pb_Cu_cutTrees_28 K P28 x1 x2 g)
    (hwd : wdC D cI cZ ad A H0 g H locs) (hl : lv_has ls 3 [(0, .ref (ad 11)), (1, .int x1), (2, .int x2)]) : W p l e R s m args below meth c H locs 0 0 Q (F0 m 28 ls []) := by
  obtain ⟨hx, hb, hml, hown, hts, hK, hN, hR⟩ := F
  have F : fxC D cI cZ p R s m args c b_Cu_cutTrees 3 R_Cu 18 413 := ⟨hx, hb, hml, hown, hts, hK, hN, hR⟩
  refine lv_iload_n hx hb d_Cu_cutTrees_28 rfl (lv_at hl 2 rfl) ?_
  refine lv_aload_n hx hb d_Cu_cutTrees_29 rfl (lv_at hl 0 rfl) ?_
  refine gfC_Cu_21 F hwd d_Cu_cutTrees_30 ?_
  refine gfC_Cu_29 F hwd d_Cu_cutTrees_33 ?_
  refine lv_icmp_ge (tgt := 73) hx hb d_Cu_cutTrees_36 (by decide) (fun hc => ?_) (fun hc => ?_)
  · have hw := hw.1 hc
    exact hret _ _ _ hw hwd _ _ d_Cu_cutTrees_73
  · have hw := hw.2 hc
    refine lv_aload_n hx hb d_Cu_cutTrees_39 rfl (lv_at hl 0 rfl) ?_
    refine lv_aload_n hx hb d_Cu_cutTrees_40 rfl (lv_at hl 0 rfl) ?_
    refine gfC_Cu_21 F hwd d_Cu_cutTrees_41 ?_
    refine gfC_Cu_34 F hwd d_Cu_cutTrees_44 ?_
    refine lv_iload_n hx hb d_Cu_cutTrees_47 rfl (lv_at hl 2 rfl) ?_
    obtain ⟨hi, hw⟩ := hw
    refine rdC_8 F hwd hi d_Cu_cutTrees_48 ?_
    refine lv_iload_n hx hb d_Cu_cutTrees_49 rfl (lv_at hl 1 rfl) ?_
    refine lv_iconst (v := 0) hx hb d_Cu_cutTrees_50 (by decide) ?_
    refine mcC_Cu_37 F hwd (ct_Cu_cutFrom 14 _ _ _ _ _ hw) ⟨Nat.le_trans (by decide) hR.1, Nat.le_trans (by decide) hR.2⟩ hl.1 (Nat.le_of_ble_eq_true rfl) d_Cu_cutTrees_51 (fun g1 H locs hw hwd => ?_)
    refine lv_aload_n hx hb d_Cu_cutTrees_54 rfl (lv_at hl 0 rfl) ?_
    refine lv_aload_n hx hb d_Cu_cutTrees_55 rfl (lv_at hl 0 rfl) ?_
    refine gfC_Cu_21 F hwd d_Cu_cutTrees_56 ?_
    refine gfC_Cu_34 F hwd d_Cu_cutTrees_59 ?_
    refine lv_iload_n hx hb d_Cu_cutTrees_62 rfl (lv_at hl 2 rfl) ?_
    obtain ⟨hi, hw⟩ := hw
    refine rdC_8 F hwd hi d_Cu_cutTrees_63 ?_
    refine mcC_Cu_41 F hwd (ct_Cu_cutOut _ _ _ hw) ⟨Nat.le_trans (by decide) hR.1, Nat.le_trans (by decide) hR.2⟩ hl.1 (Nat.le_of_ble_eq_true rfl) d_Cu_cutTrees_64 (fun g2 H locs hw hwd => ?_)
    obtain ⟨v3, e_v3⟩ : ∃ z, z = x2 + (1 : Int32) := ⟨_, rfl⟩
    have hw := hw v3 e_v3
    refine lv_iinc (k := 2) (lv' := [(2, .int v3), (0, .ref (ad 11)), (1, .int x1)]) hx hb d_Cu_cutTrees_67 hl rfl e_v3.symm (by decide) rfl (fun ls hl => ?_)
    refine lv_goto (tgt := 28) hx hb d_Cu_cutTrees_70 (by decide) ?_
    exact hp28 _ _ _ H locs ls hw hwd (lv_sub hl [1, 2, 0] rfl)

set_option maxHeartbeats 4000000 in
theorem wl_Cu_cutTrees_28 {K : St → Prop} {x1 : Int32} {x2 : Int32} {g : St} (F : fxC D cI cZ p R s m args c b_Cu_cutTrees 3 R_Cu 18 413)
    (hret : rtCV D cI cZ ad p l e R s m args below meth c b_Cu_cutTrees A H0 Q K)
    (hw : pl_Cu_cutTrees_28 K x1 x2 g)
    (hwd : wdC D cI cZ ad A H0 g H locs) (hl : lv_has ls 3 [(0, .ref (ad 11)), (1, .int x1), (2, .int x2)]) : W p l e R s m args below meth c H locs 0 0 Q (F0 m 28 ls []) := by
  refine hw (fun x1 x2 g => ∀ (H : Heap) (locs : List Loc) (ls : Array Slot), wdC D cI cZ ad A H0 g H locs → lv_has ls 3 [(0, .ref (ad 11)), (1, .int x1), (2, .int x2)] → W p l e R s m args below meth c H locs 0 0 Q (F0 m 28 ls [])) ?_ H locs ls hwd hl
  intro x1 x2 g hw H locs ls hwd hl
  exact wb_Cu_cutTrees_28 F hret (fun x1 x2 g H locs ls h hwd hl => h H locs ls hwd hl) hw hwd hl

set_option maxHeartbeats 4000000 in
set_option maxRecDepth 100000 in
theorem wb_Cu_cutTrees_7 {K : St → Prop} {P7 : Int32 → Int32 → St → Prop} {x1 : Int32} {x2 : Int32} {g : St} (F : fxC D cI cZ p R s m args c b_Cu_cutTrees 3 R_Cu 18 413)
    (hret : rtCV D cI cZ ad p l e R s m args below meth c b_Cu_cutTrees A H0 Q K) (hp7 : ∀ (x1 : Int32) (x2 : Int32) (g : St) (H : Heap) (locs : List Loc) (ls : Array Slot), P7 x1 x2 g → wdC D cI cZ ad A H0 g H locs → lv_has ls 3 [(0, .ref (ad 11)), (1, .int x1), (2, .int x2)] → W p l e R s m args below meth c H locs 0 0 Q (F0 m 7 ls []))
    (hw : pb_Cu_cutTrees_7 K P7 x1 x2 g)
    (hwd : wdC D cI cZ ad A H0 g H locs) (hl : lv_has ls 3 [(0, .ref (ad 11)), (1, .int x1), (2, .int x2)]) : W p l e R s m args below meth c H locs 0 0 Q (F0 m 7 ls []) := by
  obtain ⟨hx, hb, hml, hown, hts, hK, hN, hR⟩ := F
  have F : fxC D cI cZ p R s m args c b_Cu_cutTrees 3 R_Cu 18 413 := ⟨hx, hb, hml, hown, hts, hK, hN, hR⟩
  refine lv_iload_n hx hb d_Cu_cutTrees_7 rfl (lv_at hl 2 rfl) ?_
  refine lv_bipush (v := 60) hx hb d_Cu_cutTrees_8 (by decide) ?_
  refine lv_icmp_ge (tgt := 26) hx hb d_Cu_cutTrees_10 (by decide) (fun hc => ?_) (fun hc => ?_)
  · have hw := hw.1 hc
    refine lv_iconst (v := 0) hx hb d_Cu_cutTrees_26 (by decide) ?_
    refine lv_topi (fun v1 e_v1 => ?_)
    have hw := hw v1 e_v1
    refine lv_istore_n (lv' := [(2, .int v1), (0, .ref (ad 11)), (1, .int x1)]) hx hb d_Cu_cutTrees_27 rfl hl (by decide) rfl (fun ls hl => ?_)
    exact wl_Cu_cutTrees_28 F hret hw hwd (lv_sub hl [1, 2, 0] rfl)
  · have hw := hw.2 hc
    refine lv_aload_n hx hb d_Cu_cutTrees_13 rfl (lv_at hl 0 rfl) ?_
    refine gfC_Cu_15 F hwd d_Cu_cutTrees_14 ?_
    refine lv_iload_n hx hb d_Cu_cutTrees_17 rfl (lv_at hl 2 rfl) ?_
    refine lv_iconst (v := -1) hx hb d_Cu_cutTrees_18 (by decide) ?_
    obtain ⟨hi, hw⟩ := hw
    refine wrC_13 F hwd hi d_Cu_cutTrees_19 (fun H locs hwd => ?_)
    obtain ⟨g2, e_g2⟩ : ∃ z : St, z = ar g 13 x2 (-1 : Int32) := ⟨_, rfl⟩
    have hwd : wdC D cI cZ ad A H0 g2 H locs := by rw [e_g2]; exact hwd
    have hw := hw g2 e_g2
    obtain ⟨v3, e_v3⟩ : ∃ z, z = x2 + (1 : Int32) := ⟨_, rfl⟩
    have hw := hw v3 e_v3
    refine lv_iinc (k := 2) (lv' := [(2, .int v3), (0, .ref (ad 11)), (1, .int x1)]) hx hb d_Cu_cutTrees_20 hl rfl e_v3.symm (by decide) rfl (fun ls hl => ?_)
    refine lv_goto (tgt := 7) hx hb d_Cu_cutTrees_23 (by decide) ?_
    exact hp7 _ _ _ H locs ls hw hwd (lv_sub hl [1, 2, 0] rfl)

set_option maxHeartbeats 4000000 in
theorem wl_Cu_cutTrees_7 {K : St → Prop} {x1 : Int32} {x2 : Int32} {g : St} (F : fxC D cI cZ p R s m args c b_Cu_cutTrees 3 R_Cu 18 413)
    (hret : rtCV D cI cZ ad p l e R s m args below meth c b_Cu_cutTrees A H0 Q K)
    (hw : pl_Cu_cutTrees_7 K x1 x2 g)
    (hwd : wdC D cI cZ ad A H0 g H locs) (hl : lv_has ls 3 [(0, .ref (ad 11)), (1, .int x1), (2, .int x2)]) : W p l e R s m args below meth c H locs 0 0 Q (F0 m 7 ls []) := by
  refine hw (fun x1 x2 g => ∀ (H : Heap) (locs : List Loc) (ls : Array Slot), wdC D cI cZ ad A H0 g H locs → lv_has ls 3 [(0, .ref (ad 11)), (1, .int x1), (2, .int x2)] → W p l e R s m args below meth c H locs 0 0 Q (F0 m 7 ls [])) ?_ H locs ls hwd hl
  intro x1 x2 g hw H locs ls hwd hl
  exact wb_Cu_cutTrees_7 F hret (fun x1 x2 g H locs ls h hwd hl => h H locs ls hwd hl) hw hwd hl

set_option maxHeartbeats 4000000 in
set_option maxRecDepth 100000 in
theorem wb_Cu_cutTrees_0 {K : St → Prop} {x1 : Int32} {g : St} (F : fxC D cI cZ p R s m args c b_Cu_cutTrees 3 R_Cu 18 413)
    (hret : rtCV D cI cZ ad p l e R s m args below meth c b_Cu_cutTrees A H0 Q K)
    (hw : pb_Cu_cutTrees_0 K x1 g)
    (hwd : wdC D cI cZ ad A H0 g H locs) (hl : lv_has ls 3 [(0, .ref (ad 11)), (1, .int x1)]) : W p l e R s m args below meth c H locs 0 0 Q (F0 m 0 ls []) := by
  obtain ⟨hx, hb, hml, hown, hts, hK, hN, hR⟩ := F
  have F : fxC D cI cZ p R s m args c b_Cu_cutTrees 3 R_Cu 18 413 := ⟨hx, hb, hml, hown, hts, hK, hN, hR⟩
  refine lv_aload_n hx hb d_Cu_cutTrees_0 rfl (lv_at hl 0 rfl) ?_
  refine lv_iconst (v := 0) hx hb d_Cu_cutTrees_1 (by decide) ?_
  refine pfC_Cu_25 F hwd d_Cu_cutTrees_2 (fun H locs hwd => ?_)
  obtain ⟨g1, e_g1⟩ : ∃ z : St, z = sc g 102 (0 : Int32) := ⟨_, rfl⟩
  have hwd : wdC D cI cZ ad A H0 g1 H locs := by rw [e_g1]; exact hwd
  have hw := hw g1 e_g1
  refine lv_iconst (v := 0) hx hb d_Cu_cutTrees_5 (by decide) ?_
  refine lv_topi (fun v2 e_v2 => ?_)
  have hw := hw v2 e_v2
  refine lv_istore_n (lv' := [(2, .int v2), (0, .ref (ad 11)), (1, .int x1)]) hx hb d_Cu_cutTrees_6 rfl hl (by decide) rfl (fun ls hl => ?_)
  exact wl_Cu_cutTrees_7 F hret hw hwd (lv_sub hl [1, 2, 0] rfl)

theorem ct_Cu_cutTrees {l : Launch} {D : va_G} {cI cZ : ClassId} {ad : Nat → Nat} (x1 : Int32) (g : St) (K : St → Prop) (h : pc_Cu_cutTrees x1 g K) : ctCV l y_Cu_cutTrees b_Cu_cutTrees 3 18 413 D cI cZ ad [.ref (ad 11), .int x1] g K :=
  enCV (by decide) (Nat.le_of_ble_eq_true rfl) (fun p e s m args below meth c A H0 ls Q F hwd hl hret => wb_Cu_cutTrees_0 F hret h hwd hl)

set_option maxHeartbeats 4000000 in
set_option maxRecDepth 100000 in
theorem wb_Ta_forgetAll_0 {K : St → Prop} {g : St} (F : fxC D cI cZ p R s m args c b_Ta_forgetAll 1 R_Ta 0 0)
    (hret : rtCV D cI cZ ad p l e R s m args below meth c b_Ta_forgetAll A H0 Q K)
    (hw : pb_Ta_forgetAll_0 K g)
    (hwd : wdC D cI cZ ad A H0 g H locs) (hl : lv_has ls 1 [(0, .ref (ad 15))]) : W p l e R s m args below meth c H locs 0 0 Q (F0 m 0 ls []) := by
  obtain ⟨hx, hb, hml, hown, hts, hK, hN, hR⟩ := F
  have F : fxC D cI cZ p R s m args c b_Ta_forgetAll 1 R_Ta 0 0 := ⟨hx, hb, hml, hown, hts, hK, hN, hR⟩
  refine lv_aload_n hx hb d_Ta_forgetAll_0 rfl (lv_at hl 0 rfl) ?_
  refine lv_iconst (v := 0) hx hb d_Ta_forgetAll_1 (by decide) ?_
  refine pfC_Ta_21 F hwd d_Ta_forgetAll_2 (fun H locs hwd => ?_)
  obtain ⟨g1, e_g1⟩ : ∃ z : St, z = sc g 103 (0 : Int32) := ⟨_, rfl⟩
  have hwd : wdC D cI cZ ad A H0 g1 H locs := by rw [e_g1]; exact hwd
  have hw := hw g1 e_g1
  refine lv_aload_n hx hb d_Ta_forgetAll_5 rfl (lv_at hl 0 rfl) ?_
  refine gfC_Ta_18 F hwd d_Ta_forgetAll_6 ?_
  refine lv_iconst (v := 0) hx hb d_Ta_forgetAll_9 (by decide) ?_
  refine lv_iconst (v := 0) hx hb d_Ta_forgetAll_10 (by decide) ?_
  obtain ⟨hi, hw⟩ := hw
  refine wrC_18 F hwd hi d_Ta_forgetAll_11 (fun H locs hwd => ?_)
  obtain ⟨g2, e_g2⟩ : ∃ z : St, z = ar g1 18 (0 : Int32) (0 : Int32) := ⟨_, rfl⟩
  have hwd : wdC D cI cZ ad A H0 g2 H locs := by rw [e_g2]; exact hwd
  have hw := hw g2 e_g2
  exact hret _ _ _ hw hwd _ _ d_Ta_forgetAll_12

theorem ct_Ta_forgetAll {l : Launch} {D : va_G} {cI cZ : ClassId} {ad : Nat → Nat} (g : St) (K : St → Prop) (h : pc_Ta_forgetAll g K) : ctCV l y_Ta_forgetAll b_Ta_forgetAll 1 0 0 D cI cZ ad [.ref (ad 15)] g K :=
  enCV (by decide) (Nat.le_of_ble_eq_true rfl) (fun p e s m args below meth c A H0 ls Q F hwd hl hret => wb_Ta_forgetAll_0 F hret h hwd hl)

set_option maxHeartbeats 4000000 in
set_option maxRecDepth 100000 in
theorem wb_Ta_openClass_0 {K : St → Prop} {g : St} (F : fxC D cI cZ p R s m args c b_Ta_openClass 1 R_Ta 0 0)
    (hret : rtCV D cI cZ ad p l e R s m args below meth c b_Ta_openClass A H0 Q K)
    (hw : pb_Ta_openClass_0 K g)
    (hwd : wdC D cI cZ ad A H0 g H locs) (hl : lv_has ls 1 [(0, .ref (ad 15))]) : W p l e R s m args below meth c H locs 0 0 Q (F0 m 0 ls []) := by
  obtain ⟨hx, hb, hml, hown, hts, hK, hN, hR⟩ := F
  have F : fxC D cI cZ p R s m args c b_Ta_openClass 1 R_Ta 0 0 := ⟨hx, hb, hml, hown, hts, hK, hN, hR⟩
  refine lv_aload_n hx hb d_Ta_openClass_0 rfl (lv_at hl 0 rfl) ?_
  refine gfC_Ta_21 F hwd d_Ta_openClass_1 ?_
  refine lv_bipush (v := 60) hx hb d_Ta_openClass_4 (by decide) ?_
  refine lv_icmp_ge (tgt := 39) hx hb d_Ta_openClass_6 (by decide) (fun hc => ?_) (fun hc => ?_)
  · have hw := hw.1 hc
    exact hret _ _ _ hw hwd _ _ d_Ta_openClass_39
  · have hw := hw.2 hc
    refine lv_aload_n hx hb d_Ta_openClass_9 rfl (lv_at hl 0 rfl) ?_
    refine gfC_Ta_18 F hwd d_Ta_openClass_10 ?_
    refine lv_aload_n hx hb d_Ta_openClass_13 rfl (lv_at hl 0 rfl) ?_
    refine gfC_Ta_21 F hwd d_Ta_openClass_14 ?_
    refine lv_iconst (v := 1) hx hb d_Ta_openClass_17 (by decide) ?_
    refine lv_iadd hx hb d_Ta_openClass_18 ?_
    refine lv_aload_n hx hb d_Ta_openClass_19 rfl (lv_at hl 0 rfl) ?_
    refine gfC_Ta_18 F hwd d_Ta_openClass_20 ?_
    refine lv_aload_n hx hb d_Ta_openClass_23 rfl (lv_at hl 0 rfl) ?_
    refine gfC_Ta_21 F hwd d_Ta_openClass_24 ?_
    obtain ⟨hi, hw⟩ := hw
    refine rdC_18 F hwd hi d_Ta_openClass_27 ?_
    obtain ⟨hi, hw⟩ := hw
    refine wrC_18 F hwd hi d_Ta_openClass_28 (fun H locs hwd => ?_)
    obtain ⟨g1, e_g1⟩ : ∃ z : St, z = ar g 18 ((g 103 0) + (1 : Int32)) (g 18 ((g 103 0)).toNatClampNeg) := ⟨_, rfl⟩
    have hwd : wdC D cI cZ ad A H0 g1 H locs := by rw [e_g1]; exact hwd
    have hw := hw g1 e_g1
    refine lv_aload_n hx hb d_Ta_openClass_29 rfl (lv_at hl 0 rfl) ?_
    refine lv_dup hx hb d_Ta_openClass_30 rfl ?_
    refine gfC_Ta_21 F hwd d_Ta_openClass_31 ?_
    refine lv_iconst (v := 1) hx hb d_Ta_openClass_34 (by decide) ?_
    refine lv_iadd hx hb d_Ta_openClass_35 ?_
    refine pfC_Ta_21 F hwd d_Ta_openClass_36 (fun H locs hwd => ?_)
    obtain ⟨g2, e_g2⟩ : ∃ z : St, z = sc g1 103 ((g1 103 0) + (1 : Int32)) := ⟨_, rfl⟩
    have hwd : wdC D cI cZ ad A H0 g2 H locs := by rw [e_g2]; exact hwd
    have hw := hw g2 e_g2
    exact hret _ _ _ hw hwd _ _ d_Ta_openClass_39

theorem ct_Ta_openClass {l : Launch} {D : va_G} {cI cZ : ClassId} {ad : Nat → Nat} (g : St) (K : St → Prop) (h : pc_Ta_openClass g K) : ctCV l y_Ta_openClass b_Ta_openClass 1 0 0 D cI cZ ad [.ref (ad 15)] g K :=
  enCV (by decide) (Nat.le_of_ble_eq_true rfl) (fun p e s m args below meth c A H0 ls Q F hwd hl hret => wb_Ta_openClass_0 F hret h hwd hl)

set_option maxHeartbeats 4000000 in
set_option maxRecDepth 100000 in
theorem wb_Ta_sizeOf_0 {K : Int32 → St → Prop} {x1 : Int32} {g : St} (F : fxC D cI cZ p R s m args c b_Ta_sizeOf 2 R_Ta 0 0)
    (hret : rtCI D cI cZ ad p l e R s m args below meth c b_Ta_sizeOf A H0 Q K)
    (hw : pb_Ta_sizeOf_0 K x1 g)
    (hwd : wdC D cI cZ ad A H0 g H locs) (hl : lv_has ls 2 [(0, .ref (ad 15)), (1, .int x1)]) : W p l e R s m args below meth c H locs 0 0 Q (F0 m 0 ls []) := by
  obtain ⟨hx, hb, hml, hown, hts, hK, hN, hR⟩ := F
  have F : fxC D cI cZ p R s m args c b_Ta_sizeOf 2 R_Ta 0 0 := ⟨hx, hb, hml, hown, hts, hK, hN, hR⟩
  refine lv_aload_n hx hb d_Ta_sizeOf_0 rfl (lv_at hl 0 rfl) ?_
  refine gfC_Ta_18 F hwd d_Ta_sizeOf_1 ?_
  refine lv_iload_n hx hb d_Ta_sizeOf_4 rfl (lv_at hl 1 rfl) ?_
  refine lv_iconst (v := 1) hx hb d_Ta_sizeOf_5 (by decide) ?_
  refine lv_iadd hx hb d_Ta_sizeOf_6 ?_
  obtain ⟨hi, hw⟩ := hw
  refine rdC_18 F hwd hi d_Ta_sizeOf_7 ?_
  refine lv_aload_n hx hb d_Ta_sizeOf_8 rfl (lv_at hl 0 rfl) ?_
  refine gfC_Ta_18 F hwd d_Ta_sizeOf_9 ?_
  refine lv_iload_n hx hb d_Ta_sizeOf_12 rfl (lv_at hl 1 rfl) ?_
  obtain ⟨hi, hw⟩ := hw
  refine rdC_18 F hwd hi d_Ta_sizeOf_13 ?_
  refine lv_isub hx hb d_Ta_sizeOf_14 ?_
  exact hret _ _ _ _ hw hwd _ _ d_Ta_sizeOf_15

theorem ct_Ta_sizeOf {l : Launch} {D : va_G} {cI cZ : ClassId} {ad : Nat → Nat} (x1 : Int32) (g : St) (K : Int32 → St → Prop) (h : pc_Ta_sizeOf x1 g K) : ctCI l y_Ta_sizeOf b_Ta_sizeOf 2 0 0 D cI cZ ad [.ref (ad 15), .int x1] g K :=
  enCI (by decide) (Nat.le_of_ble_eq_true rfl) (fun p e s m args below meth c A H0 ls Q F hwd hl hret => wb_Ta_sizeOf_0 F hret h hwd hl)

set_option maxHeartbeats 4000000 in
set_option maxRecDepth 100000 in
theorem wb_Ta_latestSize_0 {K : Int32 → St → Prop} {g : St} (F : fxC D cI cZ p R s m args c b_Ta_latestSize 1 R_Ta 1 21)
    (hret : rtCI D cI cZ ad p l e R s m args below meth c b_Ta_latestSize A H0 Q K)
    (hw : pb_Ta_latestSize_0 K g)
    (hwd : wdC D cI cZ ad A H0 g H locs) (hl : lv_has ls 1 [(0, .ref (ad 15))]) : W p l e R s m args below meth c H locs 0 0 Q (F0 m 0 ls []) := by
  obtain ⟨hx, hb, hml, hown, hts, hK, hN, hR⟩ := F
  have F : fxC D cI cZ p R s m args c b_Ta_latestSize 1 R_Ta 1 21 := ⟨hx, hb, hml, hown, hts, hK, hN, hR⟩
  refine lv_aload_n hx hb d_Ta_latestSize_0 rfl (lv_at hl 0 rfl) ?_
  refine gfC_Ta_21 F hwd d_Ta_latestSize_1 ?_
  refine lv_if_le (tgt := 20) hx hb d_Ta_latestSize_4 (by decide) (fun hc => ?_) (fun hc => ?_)
  · have hw := hw.1 hc
    refine lv_iconst (v := 0) hx hb d_Ta_latestSize_20 (by decide) ?_
    exact hret _ _ _ _ hw hwd _ _ d_Ta_latestSize_21
  · have hw := hw.2 hc
    refine lv_aload_n hx hb d_Ta_latestSize_7 rfl (lv_at hl 0 rfl) ?_
    refine lv_aload_n hx hb d_Ta_latestSize_8 rfl (lv_at hl 0 rfl) ?_
    refine gfC_Ta_21 F hwd d_Ta_latestSize_9 ?_
    refine lv_iconst (v := 1) hx hb d_Ta_latestSize_12 (by decide) ?_
    refine lv_isub hx hb d_Ta_latestSize_13 ?_
    refine mcC_Ta_29 F hwd (ct_Ta_sizeOf _ _ _ hw) ⟨Nat.le_trans (by decide) hR.1, Nat.le_trans (by decide) hR.2⟩ hl.1 (Nat.le_of_ble_eq_true rfl) d_Ta_latestSize_14 (fun v2 g1 H locs hw hwd => ?_)
    refine lv_goto (tgt := 21) hx hb d_Ta_latestSize_17 (by decide) ?_
    exact hret _ _ _ _ hw hwd _ _ d_Ta_latestSize_21

theorem ct_Ta_latestSize {l : Launch} {D : va_G} {cI cZ : ClassId} {ad : Nat → Nat} (g : St) (K : Int32 → St → Prop) (h : pc_Ta_latestSize g K) : ctCI l y_Ta_latestSize b_Ta_latestSize 1 1 21 D cI cZ ad [.ref (ad 15)] g K :=
  enCI (by decide) (Nat.le_of_ble_eq_true rfl) (fun p e s m args below meth c A H0 ls Q F hwd hl hret => wb_Ta_latestSize_0 F hret h hwd hl)

set_option maxHeartbeats 4000000 in
set_option maxRecDepth 100000 in
theorem wb_Co_writeByte_0 {K : St → Prop} {x1 : Int32} {g : St} (F : fxC D cI cZ p R s m args c b_Co_writeByte 2 R_Co 0 0)
    (hret : rtCV D cI cZ ad p l e R s m args below meth c b_Co_writeByte A H0 Q K)
    (hw : pb_Co_writeByte_0 K x1 g)
    (hwd : wdC D cI cZ ad A H0 g H locs) (hl : lv_has ls 2 [(0, .ref (ad 19)), (1, .int x1)]) : W p l e R s m args below meth c H locs 0 0 Q (F0 m 0 ls []) := by
  obtain ⟨hx, hb, hml, hown, hts, hK, hN, hR⟩ := F
  have F : fxC D cI cZ p R s m args c b_Co_writeByte 2 R_Co 0 0 := ⟨hx, hb, hml, hown, hts, hK, hN, hR⟩
  refine lv_aload_n hx hb d_Co_writeByte_0 rfl (lv_at hl 0 rfl) ?_
  refine gfC_Co_40 F hwd d_Co_writeByte_1 ?_
  refine lv_sipush (v := 600) hx hb d_Co_writeByte_4 (by decide) ?_
  refine lv_icmp_ge (tgt := 30) hx hb d_Co_writeByte_7 (by decide) (fun hc => ?_) (fun hc => ?_)
  · have hw := hw.1 hc
    exact hret _ _ _ hw hwd _ _ d_Co_writeByte_30
  · have hw := hw.2 hc
    refine lv_aload_n hx hb d_Co_writeByte_10 rfl (lv_at hl 0 rfl) ?_
    refine gfC_Co_9 F hwd d_Co_writeByte_11 ?_
    refine lv_aload_n hx hb d_Co_writeByte_14 rfl (lv_at hl 0 rfl) ?_
    refine gfC_Co_40 F hwd d_Co_writeByte_15 ?_
    refine lv_iload_n hx hb d_Co_writeByte_18 rfl (lv_at hl 1 rfl) ?_
    obtain ⟨hi, hw⟩ := hw
    refine wrC_20 F hwd hi d_Co_writeByte_19 (fun H locs hwd => ?_)
    obtain ⟨g1, e_g1⟩ : ∃ z : St, z = ar g 20 (g 104 0) x1 := ⟨_, rfl⟩
    have hwd : wdC D cI cZ ad A H0 g1 H locs := by rw [e_g1]; exact hwd
    have hw := hw g1 e_g1
    refine lv_aload_n hx hb d_Co_writeByte_20 rfl (lv_at hl 0 rfl) ?_
    refine lv_dup hx hb d_Co_writeByte_21 rfl ?_
    refine gfC_Co_40 F hwd d_Co_writeByte_22 ?_
    refine lv_iconst (v := 1) hx hb d_Co_writeByte_25 (by decide) ?_
    refine lv_iadd hx hb d_Co_writeByte_26 ?_
    refine pfC_Co_40 F hwd d_Co_writeByte_27 (fun H locs hwd => ?_)
    obtain ⟨g2, e_g2⟩ : ∃ z : St, z = sc g1 104 ((g1 104 0) + (1 : Int32)) := ⟨_, rfl⟩
    have hwd : wdC D cI cZ ad A H0 g2 H locs := by rw [e_g2]; exact hwd
    have hw := hw g2 e_g2
    exact hret _ _ _ hw hwd _ _ d_Co_writeByte_30

theorem ct_Co_writeByte {l : Launch} {D : va_G} {cI cZ : ClassId} {ad : Nat → Nat} (x1 : Int32) (g : St) (K : St → Prop) (h : pc_Co_writeByte x1 g K) : ctCV l y_Co_writeByte b_Co_writeByte 2 0 0 D cI cZ ad [.ref (ad 19), .int x1] g K :=
  enCV (by decide) (Nat.le_of_ble_eq_true rfl) (fun p e s m args below meth c A H0 ls Q F hwd hl hret => wb_Co_writeByte_0 F hret h hwd hl)

set_option maxHeartbeats 4000000 in
set_option maxRecDepth 100000 in
theorem wb_Co_writePair_0 {K : St → Prop} {x1 : Int32} {x2 : Int32} {g : St} (F : fxC D cI cZ p R s m args c b_Co_writePair 3 R_Co 1 21)
    (hret : rtCV D cI cZ ad p l e R s m args below meth c b_Co_writePair A H0 Q K)
    (hw : pb_Co_writePair_0 K x1 x2 g)
    (hwd : wdC D cI cZ ad A H0 g H locs) (hl : lv_has ls 3 [(0, .ref (ad 19)), (1, .int x1), (2, .int x2)]) : W p l e R s m args below meth c H locs 0 0 Q (F0 m 0 ls []) := by
  obtain ⟨hx, hb, hml, hown, hts, hK, hN, hR⟩ := F
  have F : fxC D cI cZ p R s m args c b_Co_writePair 3 R_Co 1 21 := ⟨hx, hb, hml, hown, hts, hK, hN, hR⟩
  refine lv_aload_n hx hb d_Co_writePair_0 rfl (lv_at hl 0 rfl) ?_
  refine lv_iload_n hx hb d_Co_writePair_1 rfl (lv_at hl 1 rfl) ?_
  refine mcC_Co_108 F hwd (ct_Co_writeByte _ _ _ hw) ⟨Nat.le_trans (by decide) hR.1, Nat.le_trans (by decide) hR.2⟩ hl.1 (Nat.le_of_ble_eq_true rfl) d_Co_writePair_2 (fun g1 H locs hw hwd => ?_)
  refine lv_aload_n hx hb d_Co_writePair_5 rfl (lv_at hl 0 rfl) ?_
  refine lv_iload_n hx hb d_Co_writePair_6 rfl (lv_at hl 2 rfl) ?_
  refine mcC_Co_108 F hwd (ct_Co_writeByte _ _ _ hw) ⟨Nat.le_trans (by decide) hR.1, Nat.le_trans (by decide) hR.2⟩ hl.1 (Nat.le_of_ble_eq_true rfl) d_Co_writePair_7 (fun g2 H locs hw hwd => ?_)
  exact hret _ _ _ hw hwd _ _ d_Co_writePair_10

theorem ct_Co_writePair {l : Launch} {D : va_G} {cI cZ : ClassId} {ad : Nat → Nat} (x1 : Int32) (x2 : Int32) (g : St) (K : St → Prop) (h : pc_Co_writePair x1 x2 g K) : ctCV l y_Co_writePair b_Co_writePair 3 1 21 D cI cZ ad [.ref (ad 19), .int x1, .int x2] g K :=
  enCV (by decide) (Nat.le_of_ble_eq_true rfl) (fun p e s m args below meth c A H0 ls Q F hwd hl hret => wb_Co_writePair_0 F hret h hwd hl)

set_option maxHeartbeats 4000000 in
set_option maxRecDepth 100000 in
theorem wb_Fo_kindOfEntry_0 {K : Int32 → St → Prop} {x1 : Int32} {g : St} (F : fxC D cI cZ p R s m args c b_Fo_kindOfEntry 2 R_Fo 1 21)
    (hret : rtCI D cI cZ ad p l e R s m args below meth c b_Fo_kindOfEntry A H0 Q K)
    (hw : pb_Fo_kindOfEntry_0 K x1 g)
    (hwd : wdC D cI cZ ad A H0 g H locs) (hl : lv_has ls 2 [(0, .ref (ad 2)), (1, .int x1)]) : W p l e R s m args below meth c H locs 0 0 Q (F0 m 0 ls []) := by
  obtain ⟨hx, hb, hml, hown, hts, hK, hN, hR⟩ := F
  have F : fxC D cI cZ p R s m args c b_Fo_kindOfEntry 2 R_Fo 1 21 := ⟨hx, hb, hml, hown, hts, hK, hN, hR⟩
  refine lv_aload_n hx hb d_Fo_kindOfEntry_0 rfl (lv_at hl 0 rfl) ?_
  refine lv_iload_n hx hb d_Fo_kindOfEntry_1 rfl (lv_at hl 1 rfl) ?_
  refine mcC_Fo_41 F hwd (ct_Fo_isLeaf _ _ _ hw) ⟨Nat.le_trans (by decide) hR.1, Nat.le_trans (by decide) hR.2⟩ hl.1 (Nat.le_of_ble_eq_true rfl) d_Fo_kindOfEntry_2 (fun v2 g1 H locs hw hwd => ?_)
  refine lv_if_eq (tgt := 10) hx hb d_Fo_kindOfEntry_5 (by decide) (fun hc => ?_) (fun hc => ?_)
  · have hw := hw.1 hc
    refine lv_aload_n hx hb d_Fo_kindOfEntry_10 rfl (lv_at hl 0 rfl) ?_
    refine gfC_Fo_9 F hwd d_Fo_kindOfEntry_11 ?_
    refine lv_iload_n hx hb d_Fo_kindOfEntry_14 rfl (lv_at hl 1 rfl) ?_
    obtain ⟨hi, hw⟩ := hw
    refine rdC_3 F hwd hi d_Fo_kindOfEntry_15 ?_
    refine mcC_Fo_44 F hwd (ct_Ru_isBitRule _ _ _ hw) ⟨Nat.le_trans (by decide) hR.1, Nat.le_trans (by decide) hR.2⟩ hl.1 (Nat.le_of_ble_eq_true rfl) d_Fo_kindOfEntry_16 (fun v4 g3 H locs hw hwd => ?_)
    refine lv_if_eq (tgt := 26) hx hb d_Fo_kindOfEntry_19 (by decide) (fun hc => ?_) (fun hc => ?_)
    · have hw := hw.1 hc
      refine lv_iconst (v := 1) hx hb d_Fo_kindOfEntry_26 (by decide) ?_
      exact hret _ _ _ _ hw hwd _ _ d_Fo_kindOfEntry_27
    · have hw := hw.2 hc
      refine lv_iconst (v := 3) hx hb d_Fo_kindOfEntry_22 (by decide) ?_
      refine lv_goto (tgt := 27) hx hb d_Fo_kindOfEntry_23 (by decide) ?_
      exact hret _ _ _ _ hw hwd _ _ d_Fo_kindOfEntry_27
  · have hw := hw.2 hc
    refine lv_iconst (v := 2) hx hb d_Fo_kindOfEntry_8 (by decide) ?_
    exact hret _ _ _ _ hw hwd _ _ d_Fo_kindOfEntry_9

theorem ct_Fo_kindOfEntry {l : Launch} {D : va_G} {cI cZ : ClassId} {ad : Nat → Nat} (x1 : Int32) (g : St) (K : Int32 → St → Prop) (h : pc_Fo_kindOfEntry x1 g K) : ctCI l y_Fo_kindOfEntry b_Fo_kindOfEntry 2 1 21 D cI cZ ad [.ref (ad 2), .int x1] g K :=
  enCI (by decide) (Nat.le_of_ble_eq_true rfl) (fun p e s m args below meth c A H0 ls Q F hwd hl hret => wb_Fo_kindOfEntry_0 F hret h hwd hl)

set_option maxHeartbeats 4000000 in
set_option maxRecDepth 100000 in
theorem wb_Ta_numberFor_71 {K : Int32 → St → Prop} {P37 : Int32 → Int32 → Int32 → Int32 → Int32 → St → Prop} {x1 : Int32} {x2 : Int32} {x3 : Int32} {x4 : Int32} {x5 : Int32} {g : St} (F : fxC D cI cZ p R s m args c b_Ta_numberFor 6 R_Ta 0 0)
    (hret : rtCI D cI cZ ad p l e R s m args below meth c b_Ta_numberFor A H0 Q K) (hp37 : ∀ (x1 : Int32) (x2 : Int32) (x3 : Int32) (x4 : Int32) (x5 : Int32) (g : St) (H : Heap) (locs : List Loc) (ls : Array Slot), P37 x1 x2 x3 x4 x5 g → wdC D cI cZ ad A H0 g H locs → lv_has ls 6 [(0, .ref (ad 15)), (1, .int x1), (2, .int x2), (3, .int x3), (4, .int x4), (5, .int x5)] → W p l e R s m args below meth c H locs 0 0 Q (F0 m 37 ls []))
    (hw : pb_Ta_numberFor_71 K P37 x1 x2 x3 x4 x5 g)
    (hwd : wdC D cI cZ ad A H0 g H locs) (hl : lv_has ls 6 [(0, .ref (ad 15)), (1, .int x1), (2, .int x2), (3, .int x3), (4, .int x4), (5, .int x5)]) : W p l e R s m args below meth c H locs 0 0 Q (F0 m 71 ls []) := by
  obtain ⟨hx, hb, hml, hown, hts, hK, hN, hR⟩ := F
  have F : fxC D cI cZ p R s m args c b_Ta_numberFor 6 R_Ta 0 0 := ⟨hx, hb, hml, hown, hts, hK, hN, hR⟩
  obtain ⟨v1, e_v1⟩ : ∃ z, z = x5 + (1 : Int32) := ⟨_, rfl⟩
  have hw := hw v1 e_v1
  refine lv_iinc (k := 5) (lv' := [(5, .int v1), (0, .ref (ad 15)), (1, .int x1), (2, .int x2), (3, .int x3), (4, .int x4)]) hx hb d_Ta_numberFor_71 hl rfl e_v1.symm (by decide) rfl (fun ls hl => ?_)
  refine lv_goto (tgt := 37) hx hb d_Ta_numberFor_74 (by decide) ?_
  exact hp37 _ _ _ _ _ _ H locs ls hw hwd (lv_sub hl [1, 2, 3, 4, 5, 0] rfl)

set_option maxHeartbeats 4000000 in
set_option maxRecDepth 100000 in
theorem wb_Ta_numberFor_113 {K : Int32 → St → Prop} {x1 : Int32} {x2 : Int32} {x3 : Int32} {x4 : Int32} {x5 : Int32} {g : St} (F : fxC D cI cZ p R s m args c b_Ta_numberFor 6 R_Ta 0 0)
    (hret : rtCI D cI cZ ad p l e R s m args below meth c b_Ta_numberFor A H0 Q K)
    (hw : pb_Ta_numberFor_113 K x1 x2 x3 x4 x5 g)
    (hwd : wdC D cI cZ ad A H0 g H locs) (hl : lv_has ls 6 [(0, .ref (ad 15)), (1, .int x1), (2, .int x2), (3, .int x3), (4, .int x4), (5, .int x5)]) : W p l e R s m args below meth c H locs 0 0 Q (F0 m 113 ls []) := by
  obtain ⟨hx, hb, hml, hown, hts, hK, hN, hR⟩ := F
  have F : fxC D cI cZ p R s m args c b_Ta_numberFor 6 R_Ta 0 0 := ⟨hx, hb, hml, hown, hts, hK, hN, hR⟩
  refine lv_iload hx hb d_Ta_numberFor_113 (lv_at hl 4 rfl) ?_
  refine lv_iload_n hx hb d_Ta_numberFor_115 rfl (lv_at hl 3 rfl) ?_
  refine lv_isub hx hb d_Ta_numberFor_116 ?_
  exact hret _ _ _ _ hw hwd _ _ d_Ta_numberFor_117

set_option maxHeartbeats 4000000 in
set_option maxRecDepth 100000 in
theorem wb_Ta_numberFor_37 {K : Int32 → St → Prop} {P37 : Int32 → Int32 → Int32 → Int32 → Int32 → St → Prop} {x1 : Int32} {x2 : Int32} {x3 : Int32} {x4 : Int32} {x5 : Int32} {g : St} (F : fxC D cI cZ p R s m args c b_Ta_numberFor 6 R_Ta 0 0)
    (hret : rtCI D cI cZ ad p l e R s m args below meth c b_Ta_numberFor A H0 Q K) (hp37 : ∀ (x1 : Int32) (x2 : Int32) (x3 : Int32) (x4 : Int32) (x5 : Int32) (g : St) (H : Heap) (locs : List Loc) (ls : Array Slot), P37 x1 x2 x3 x4 x5 g → wdC D cI cZ ad A H0 g H locs → lv_has ls 6 [(0, .ref (ad 15)), (1, .int x1), (2, .int x2), (3, .int x3), (4, .int x4), (5, .int x5)] → W p l e R s m args below meth c H locs 0 0 Q (F0 m 37 ls []))
    (hw : pb_Ta_numberFor_37 K P37 x1 x2 x3 x4 x5 g)
    (hwd : wdC D cI cZ ad A H0 g H locs) (hl : lv_has ls 6 [(0, .ref (ad 15)), (1, .int x1), (2, .int x2), (3, .int x3), (4, .int x4), (5, .int x5)]) : W p l e R s m args below meth c H locs 0 0 Q (F0 m 37 ls []) := by
  obtain ⟨hx, hb, hml, hown, hts, hK, hN, hR⟩ := F
  have F : fxC D cI cZ p R s m args c b_Ta_numberFor 6 R_Ta 0 0 := ⟨hx, hb, hml, hown, hts, hK, hN, hR⟩
  refine lv_iload hx hb d_Ta_numberFor_37 (lv_at hl 5 rfl) ?_
  refine lv_iload hx hb d_Ta_numberFor_39 (lv_at hl 4 rfl) ?_
  refine lv_icmp_ge (tgt := 77) hx hb d_Ta_numberFor_41 (by decide) (fun hc => ?_) (fun hc => ?_)
  · have hw := hw.1 hc
    refine lv_iload hx hb d_Ta_numberFor_77 (lv_at hl 4 rfl) ?_
    refine lv_bipush (v := 120) hx hb d_Ta_numberFor_79 (by decide) ?_
    refine lv_icmp_ge (tgt := 113) hx hb d_Ta_numberFor_81 (by decide) (fun hc => ?_) (fun hc => ?_)
    · have hw := hw.1 hc
      exact wb_Ta_numberFor_113 F hret hw hwd (lv_sub hl [0, 1, 2, 3, 4, 5] rfl)
    · have hw := hw.2 hc
      refine lv_aload_n hx hb d_Ta_numberFor_84 rfl (lv_at hl 0 rfl) ?_
      refine gfC_Ta_9 F hwd d_Ta_numberFor_85 ?_
      refine lv_iload hx hb d_Ta_numberFor_88 (lv_at hl 4 rfl) ?_
      refine lv_iload_n hx hb d_Ta_numberFor_90 rfl (lv_at hl 1 rfl) ?_
      obtain ⟨hi, hw⟩ := hw
      refine wrC_16 F hwd hi d_Ta_numberFor_91 (fun H locs hwd => ?_)
      obtain ⟨g1, e_g1⟩ : ∃ z : St, z = ar g 16 x4 x1 := ⟨_, rfl⟩
      have hwd : wdC D cI cZ ad A H0 g1 H locs := by rw [e_g1]; exact hwd
      have hw := hw g1 e_g1
      refine lv_aload_n hx hb d_Ta_numberFor_92 rfl (lv_at hl 0 rfl) ?_
      refine gfC_Ta_15 F hwd d_Ta_numberFor_93 ?_
      refine lv_iload hx hb d_Ta_numberFor_96 (lv_at hl 4 rfl) ?_
      refine lv_iload_n hx hb d_Ta_numberFor_98 rfl (lv_at hl 2 rfl) ?_
      obtain ⟨hi, hw⟩ := hw
      refine wrC_17 F hwd hi d_Ta_numberFor_99 (fun H locs hwd => ?_)
      obtain ⟨g2, e_g2⟩ : ∃ z : St, z = ar g1 17 x4 x2 := ⟨_, rfl⟩
      have hwd : wdC D cI cZ ad A H0 g2 H locs := by rw [e_g2]; exact hwd
      have hw := hw g2 e_g2
      refine lv_aload_n hx hb d_Ta_numberFor_100 rfl (lv_at hl 0 rfl) ?_
      refine gfC_Ta_18 F hwd d_Ta_numberFor_101 ?_
      refine lv_aload_n hx hb d_Ta_numberFor_104 rfl (lv_at hl 0 rfl) ?_
      refine gfC_Ta_21 F hwd d_Ta_numberFor_105 ?_
      refine lv_iload hx hb d_Ta_numberFor_108 (lv_at hl 4 rfl) ?_
      refine lv_iconst (v := 1) hx hb d_Ta_numberFor_110 (by decide) ?_
      refine lv_iadd hx hb d_Ta_numberFor_111 ?_
      obtain ⟨hi, hw⟩ := hw
      refine wrC_18 F hwd hi d_Ta_numberFor_112 (fun H locs hwd => ?_)
      obtain ⟨g3, e_g3⟩ : ∃ z : St, z = ar g2 18 (g2 103 0) (x4 + (1 : Int32)) := ⟨_, rfl⟩
      have hwd : wdC D cI cZ ad A H0 g3 H locs := by rw [e_g3]; exact hwd
      have hw := hw g3 e_g3
      exact wb_Ta_numberFor_113 F hret hw hwd (lv_sub hl [0, 1, 2, 3, 4, 5] rfl)
  · have hw := hw.2 hc
    refine lv_aload_n hx hb d_Ta_numberFor_44 rfl (lv_at hl 0 rfl) ?_
    refine gfC_Ta_9 F hwd d_Ta_numberFor_45 ?_
    refine lv_iload hx hb d_Ta_numberFor_48 (lv_at hl 5 rfl) ?_
    obtain ⟨hi, hw⟩ := hw
    refine rdC_16 F hwd hi d_Ta_numberFor_50 ?_
    refine lv_iload_n hx hb d_Ta_numberFor_51 rfl (lv_at hl 1 rfl) ?_
    refine lv_icmp_ne (tgt := 71) hx hb d_Ta_numberFor_52 (by decide) (fun hc => ?_) (fun hc => ?_)
    · have hw := hw.1 hc
      exact wb_Ta_numberFor_71 F hret hp37 hw hwd (lv_sub hl [0, 1, 2, 3, 4, 5] rfl)
    · have hw := hw.2 hc
      refine lv_aload_n hx hb d_Ta_numberFor_55 rfl (lv_at hl 0 rfl) ?_
      refine gfC_Ta_15 F hwd d_Ta_numberFor_56 ?_
      refine lv_iload hx hb d_Ta_numberFor_59 (lv_at hl 5 rfl) ?_
      obtain ⟨hi, hw⟩ := hw
      refine rdC_17 F hwd hi d_Ta_numberFor_61 ?_
      refine lv_iload_n hx hb d_Ta_numberFor_62 rfl (lv_at hl 2 rfl) ?_
      refine lv_icmp_ne (tgt := 71) hx hb d_Ta_numberFor_63 (by decide) (fun hc => ?_) (fun hc => ?_)
      · have hw := hw.1 hc
        exact wb_Ta_numberFor_71 F hret hp37 hw hwd (lv_sub hl [0, 1, 2, 3, 4, 5] rfl)
      · have hw := hw.2 hc
        refine lv_iload hx hb d_Ta_numberFor_66 (lv_at hl 5 rfl) ?_
        refine lv_iload_n hx hb d_Ta_numberFor_68 rfl (lv_at hl 3 rfl) ?_
        refine lv_isub hx hb d_Ta_numberFor_69 ?_
        exact hret _ _ _ _ hw hwd _ _ d_Ta_numberFor_70

set_option maxHeartbeats 4000000 in
theorem wl_Ta_numberFor_37 {K : Int32 → St → Prop} {x1 : Int32} {x2 : Int32} {x3 : Int32} {x4 : Int32} {x5 : Int32} {g : St} (F : fxC D cI cZ p R s m args c b_Ta_numberFor 6 R_Ta 0 0)
    (hret : rtCI D cI cZ ad p l e R s m args below meth c b_Ta_numberFor A H0 Q K)
    (hw : pl_Ta_numberFor_37 K x1 x2 x3 x4 x5 g)
    (hwd : wdC D cI cZ ad A H0 g H locs) (hl : lv_has ls 6 [(0, .ref (ad 15)), (1, .int x1), (2, .int x2), (3, .int x3), (4, .int x4), (5, .int x5)]) : W p l e R s m args below meth c H locs 0 0 Q (F0 m 37 ls []) := by
  refine hw (fun x1 x2 x3 x4 x5 g => ∀ (H : Heap) (locs : List Loc) (ls : Array Slot), wdC D cI cZ ad A H0 g H locs → lv_has ls 6 [(0, .ref (ad 15)), (1, .int x1), (2, .int x2), (3, .int x3), (4, .int x4), (5, .int x5)] → W p l e R s m args below meth c H locs 0 0 Q (F0 m 37 ls [])) ?_ H locs ls hwd hl
  intro x1 x2 x3 x4 x5 g hw H locs ls hwd hl
  exact wb_Ta_numberFor_37 F hret (fun x1 x2 x3 x4 x5 g H locs ls h hwd hl => h H locs ls hwd hl) hw hwd hl

set_option maxHeartbeats 4000000 in
set_option maxRecDepth 100000 in
theorem wb_Ta_numberFor_22 {K : Int32 → St → Prop} {x1 : Int32} {x2 : Int32} {t0 : Int32} {g : St} (F : fxC D cI cZ p R s m args c b_Ta_numberFor 6 R_Ta 0 0)
    (hret : rtCI D cI cZ ad p l e R s m args below meth c b_Ta_numberFor A H0 Q K)
    (hw : pb_Ta_numberFor_22 K x1 x2 t0 g)
    (hwd : wdC D cI cZ ad A H0 g H locs) (hl : lv_has ls 6 [(0, .ref (ad 15)), (1, .int x1), (2, .int x2)]) : W p l e R s m args below meth c H locs 0 0 Q (F0 m 22 ls [.int t0]) := by
  obtain ⟨hx, hb, hml, hown, hts, hK, hN, hR⟩ := F
  have F : fxC D cI cZ p R s m args c b_Ta_numberFor 6 R_Ta 0 0 := ⟨hx, hb, hml, hown, hts, hK, hN, hR⟩
  refine lv_topi (fun v1 e_v1 => ?_)
  have hw := hw v1 e_v1
  refine lv_istore_n (lv' := [(3, .int v1), (0, .ref (ad 15)), (1, .int x1), (2, .int x2)]) hx hb d_Ta_numberFor_22 rfl hl (by decide) rfl (fun ls hl => ?_)
  refine lv_aload_n hx hb d_Ta_numberFor_23 rfl (lv_at hl 1 rfl) ?_
  refine gfC_Ta_18 F hwd d_Ta_numberFor_24 ?_
  refine lv_aload_n hx hb d_Ta_numberFor_27 rfl (lv_at hl 1 rfl) ?_
  refine gfC_Ta_21 F hwd d_Ta_numberFor_28 ?_
  obtain ⟨hi, hw⟩ := hw
  refine rdC_18 F hwd hi d_Ta_numberFor_31 ?_
  refine lv_topi (fun v2 e_v2 => ?_)
  have hw := hw v2 e_v2
  refine lv_istore (lv' := [(4, .int v2), (3, .int v1), (0, .ref (ad 15)), (1, .int x1), (2, .int x2)]) hx hb d_Ta_numberFor_32 hl (by decide) rfl (fun ls hl => ?_)
  refine lv_iload_n hx hb d_Ta_numberFor_34 rfl (lv_at hl 1 rfl) ?_
  refine lv_topi (fun v3 e_v3 => ?_)
  have hw := hw v3 e_v3
  refine lv_istore (lv' := [(5, .int v3), (4, .int v2), (3, .int v1), (0, .ref (ad 15)), (1, .int x1), (2, .int x2)]) hx hb d_Ta_numberFor_35 hl (by decide) rfl (fun ls hl => ?_)
  exact wl_Ta_numberFor_37 F hret hw hwd (lv_sub hl [3, 4, 5, 2, 1, 0] rfl)

set_option maxHeartbeats 4000000 in
set_option maxRecDepth 100000 in
theorem wb_Ta_numberFor_0 {K : Int32 → St → Prop} {x1 : Int32} {x2 : Int32} {g : St} (F : fxC D cI cZ p R s m args c b_Ta_numberFor 6 R_Ta 0 0)
    (hret : rtCI D cI cZ ad p l e R s m args below meth c b_Ta_numberFor A H0 Q K)
    (hw : pb_Ta_numberFor_0 K x1 x2 g)
    (hwd : wdC D cI cZ ad A H0 g H locs) (hl : lv_has ls 6 [(0, .ref (ad 15)), (1, .int x1), (2, .int x2)]) : W p l e R s m args below meth c H locs 0 0 Q (F0 m 0 ls []) := by
  obtain ⟨hx, hb, hml, hown, hts, hK, hN, hR⟩ := F
  have F : fxC D cI cZ p R s m args c b_Ta_numberFor 6 R_Ta 0 0 := ⟨hx, hb, hml, hown, hts, hK, hN, hR⟩
  refine lv_aload_n hx hb d_Ta_numberFor_0 rfl (lv_at hl 0 rfl) ?_
  refine gfC_Ta_21 F hwd d_Ta_numberFor_1 ?_
  refine lv_if_le (tgt := 21) hx hb d_Ta_numberFor_4 (by decide) (fun hc => ?_) (fun hc => ?_)
  · have hw := hw.1 hc
    refine lv_iconst (v := 0) hx hb d_Ta_numberFor_21 (by decide) ?_
    exact wb_Ta_numberFor_22 F hret hw hwd (lv_sub hl [0, 1, 2] rfl)
  · have hw := hw.2 hc
    refine lv_aload_n hx hb d_Ta_numberFor_7 rfl (lv_at hl 0 rfl) ?_
    refine gfC_Ta_18 F hwd d_Ta_numberFor_8 ?_
    refine lv_aload_n hx hb d_Ta_numberFor_11 rfl (lv_at hl 0 rfl) ?_
    refine gfC_Ta_21 F hwd d_Ta_numberFor_12 ?_
    refine lv_iconst (v := 1) hx hb d_Ta_numberFor_15 (by decide) ?_
    refine lv_isub hx hb d_Ta_numberFor_16 ?_
    obtain ⟨hi, hw⟩ := hw
    refine rdC_18 F hwd hi d_Ta_numberFor_17 ?_
    refine lv_goto (tgt := 22) hx hb d_Ta_numberFor_18 (by decide) ?_
    exact wb_Ta_numberFor_22 F hret hw hwd (lv_sub hl [0, 1, 2] rfl)

theorem ct_Ta_numberFor {l : Launch} {D : va_G} {cI cZ : ClassId} {ad : Nat → Nat} (x1 : Int32) (x2 : Int32) (g : St) (K : Int32 → St → Prop) (h : pc_Ta_numberFor x1 x2 g K) : ctCI l y_Ta_numberFor b_Ta_numberFor 6 0 0 D cI cZ ad [.ref (ad 15), .int x1, .int x2] g K :=
  enCI (by decide) (Nat.le_of_ble_eq_true rfl) (fun p e s m args below meth c A H0 ls Q F hwd hl hret => wb_Ta_numberFor_0 F hret h hwd hl)

set_option maxHeartbeats 4000000 in
set_option maxRecDepth 100000 in
theorem wb_Co_writeTest_0 {K : St → Prop} {x1 : Int32} {x2 : Int32} {g : St} (F : fxC D cI cZ p R s m args c b_Co_writeTest 5 R_Co 2 43)
    (hret : rtCV D cI cZ ad p l e R s m args below meth c b_Co_writeTest A H0 Q K)
    (hw : pb_Co_writeTest_0 K x1 x2 g)
    (hwd : wdC D cI cZ ad A H0 g H locs) (hl : lv_has ls 5 [(0, .ref (ad 19)), (1, .int x1), (2, .int x2)]) : W p l e R s m args below meth c H locs 0 0 Q (F0 m 0 ls []) := by
  obtain ⟨hx, hb, hml, hown, hts, hK, hN, hR⟩ := F
  have F : fxC D cI cZ p R s m args c b_Co_writeTest 5 R_Co 2 43 := ⟨hx, hb, hml, hown, hts, hK, hN, hR⟩
  refine lv_iload_n hx hb d_Co_writeTest_0 rfl (lv_at hl 2 rfl) ?_
  refine mcC_Co_129 F hwd (ct_Cu_testLength _ _ _ hw) ⟨Nat.le_trans (by decide) hR.1, Nat.le_trans (by decide) hR.2⟩ hl.1 (Nat.le_of_ble_eq_true rfl) d_Co_writeTest_1 (fun v2 g1 H locs hw hwd => ?_)
  refine lv_topi (fun v3 e_v3 => ?_)
  have hw := hw v3 e_v3
  refine lv_istore_n (lv' := [(3, .int v3), (0, .ref (ad 19)), (1, .int x1), (2, .int x2)]) hx hb d_Co_writeTest_4 rfl hl (by decide) rfl (fun ls hl => ?_)
  refine lv_iload_n hx hb d_Co_writeTest_5 rfl (lv_at hl 0 rfl) ?_
  refine lv_iload_n hx hb d_Co_writeTest_6 rfl (lv_at hl 3 rfl) ?_
  refine lv_iadd hx hb d_Co_writeTest_7 ?_
  refine lv_topi (fun v4 e_v4 => ?_)
  have hw := hw v4 e_v4
  refine lv_istore (lv' := [(4, .int v4), (3, .int v3), (0, .ref (ad 19)), (1, .int x1), (2, .int x2)]) hx hb d_Co_writeTest_8 hl (by decide) rfl (fun ls hl => ?_)
  refine lv_iload_n hx hb d_Co_writeTest_10 rfl (lv_at hl 1 rfl) ?_
  refine lv_iconst (v := 2) hx hb d_Co_writeTest_11 (by decide) ?_
  refine lv_icmp_ne (tgt := 26) hx hb d_Co_writeTest_12 (by decide) (fun hc => ?_) (fun hc => ?_)
  · have hw := hw.1 hc
    refine lv_aload_n hx hb d_Co_writeTest_26 rfl (lv_at hl 2 rfl) ?_
    refine lv_bipush (v := 20) hx hb d_Co_writeTest_27 (by decide) ?_
    refine lv_iload_n hx hb d_Co_writeTest_29 rfl (lv_at hl 3 rfl) ?_
    refine lv_iadd hx hb d_Co_writeTest_30 ?_
    refine lv_iload hx hb d_Co_writeTest_31 (lv_at hl 0 rfl) ?_
    refine lv_bipush (v := 8) hx hb d_Co_writeTest_33 (by decide) ?_
    refine lv_ishr hx hb d_Co_writeTest_35 ?_
    refine mcC_Co_94 F hwd (ct_Co_writePair _ _ _ _ hw) ⟨Nat.le_trans (by decide) hR.1, Nat.le_trans (by decide) hR.2⟩ hl.1 (Nat.le_of_ble_eq_true rfl) d_Co_writeTest_36 (fun g5 H locs hw hwd => ?_)
    refine lv_aload_n hx hb d_Co_writeTest_39 rfl (lv_at hl 2 rfl) ?_
    refine lv_iload hx hb d_Co_writeTest_40 (lv_at hl 0 rfl) ?_
    refine lv_sipush (v := 255) hx hb d_Co_writeTest_42 (by decide) ?_
    refine lv_iand hx hb d_Co_writeTest_45 ?_
    refine mcC_Co_108 F hwd (ct_Co_writeByte _ _ _ hw) ⟨Nat.le_trans (by decide) hR.1, Nat.le_trans (by decide) hR.2⟩ hl.1 (Nat.le_of_ble_eq_true rfl) d_Co_writeTest_46 (fun g6 H locs hw hwd => ?_)
    exact hret _ _ _ hw hwd _ _ d_Co_writeTest_49
  · have hw := hw.2 hc
    refine lv_aload_n hx hb d_Co_writeTest_15 rfl (lv_at hl 2 rfl) ?_
    refine lv_bipush (v := 10) hx hb d_Co_writeTest_16 (by decide) ?_
    refine lv_iload_n hx hb d_Co_writeTest_18 rfl (lv_at hl 3 rfl) ?_
    refine lv_iadd hx hb d_Co_writeTest_19 ?_
    refine lv_iload hx hb d_Co_writeTest_20 (lv_at hl 0 rfl) ?_
    refine mcC_Co_94 F hwd (ct_Co_writePair _ _ _ _ hw) ⟨Nat.le_trans (by decide) hR.1, Nat.le_trans (by decide) hR.2⟩ hl.1 (Nat.le_of_ble_eq_true rfl) d_Co_writeTest_22 (fun g7 H locs hw hwd => ?_)
    exact hret _ _ _ hw hwd _ _ d_Co_writeTest_25

theorem ct_Co_writeTest {l : Launch} {D : va_G} {cI cZ : ClassId} {ad : Nat → Nat} (x1 : Int32) (x2 : Int32) (g : St) (K : St → Prop) (h : pc_Co_writeTest x1 x2 g K) : ctCV l y_Co_writeTest b_Co_writeTest 5 2 43 D cI cZ ad [.ref (ad 19), .int x1, .int x2] g K :=
  enCV (by decide) (Nat.le_of_ble_eq_true rfl) (fun p e s m args below meth c A H0 ls Q F hwd hl hret => wb_Co_writeTest_0 F hret h hwd hl)

set_option maxHeartbeats 4000000 in
set_option maxRecDepth 100000 in
theorem wb_Co_writePart_0 {rc : Int32 → Int32 → St → (St → Prop) → Prop} {K : St → Prop} {x1 : Int32} {x2 : Int32} {g : St} (F : fxC D cI cZ p R s m args c b_Co_writePart 4 R_Co 2 43)
    (hret : rtCV D cI cZ ad p l e R s m args below meth c b_Co_writePart A H0 Q K) {f lo : Nat} (hrc : ∀ (y1 y2 : Int32) (g : St) (K : St → Prop), rc y1 y2 g K → ctCV l y_Co_writeCode b_Co_writeCode 4 f lo D cI cZ ad [.ref (ad 19), .int y1, .int y2] g K) (hf0 : 3 ≤ f ∧ 67 ≤ lo) (hRr : f + 1 ≤ R.frames ∧ lo + 23 ≤ R.locals)
    (hw : pb_Co_writePart_0 rc K x1 x2 g)
    (hwd : wdC D cI cZ ad A H0 g H locs) (hl : lv_has ls 4 [(0, .ref (ad 19)), (1, .int x1), (2, .int x2)]) : W p l e R s m args below meth c H locs 0 0 Q (F0 m 0 ls []) := by
  obtain ⟨hx, hb, hml, hown, hts, hK, hN, hR⟩ := F
  have F : fxC D cI cZ p R s m args c b_Co_writePart 4 R_Co 2 43 := ⟨hx, hb, hml, hown, hts, hK, hN, hR⟩
  refine lv_aload_n hx hb d_Co_writePart_0 rfl (lv_at hl 0 rfl) ?_
  refine gfC_Co_28 F hwd d_Co_writePart_1 ?_
  refine gfC_Co_64 F hwd d_Co_writePart_4 ?_
  refine lv_iload_n hx hb d_Co_writePart_7 rfl (lv_at hl 1 rfl) ?_
  obtain ⟨hi, hw⟩ := hw
  refine rdC_13 F hwd hi d_Co_writePart_8 ?_
  refine lv_topi (fun v1 e_v1 => ?_)
  have hw := hw v1 e_v1
  refine lv_istore_n (lv' := [(3, .int v1), (0, .ref (ad 19)), (1, .int x1), (2, .int x2)]) hx hb d_Co_writePart_9 rfl hl (by decide) rfl (fun ls hl => ?_)
  refine lv_iload_n hx hb d_Co_writePart_10 rfl (lv_at hl 0 rfl) ?_
  refine lv_iconst (v := -1) hx hb d_Co_writePart_11 (by decide) ?_
  refine lv_icmp_ne (tgt := 22) hx hb d_Co_writePart_12 (by decide) (fun hc => ?_) (fun hc => ?_)
  · have hw := hw.1 hc
    refine lv_aload_n hx hb d_Co_writePart_22 rfl (lv_at hl 1 rfl) ?_
    refine lv_iconst (v := 4) hx hb d_Co_writePart_23 (by decide) ?_
    refine lv_aload_n hx hb d_Co_writePart_24 rfl (lv_at hl 1 rfl) ?_
    refine gfC_Co_32 F hwd d_Co_writePart_25 ?_
    refine lv_iconst (v := 4) hx hb d_Co_writePart_28 (by decide) ?_
    refine lv_iload_n hx hb d_Co_writePart_29 rfl (lv_at hl 0 rfl) ?_
    refine mcC_Co_104 F hwd (ct_Ta_numberFor _ _ _ _ hw) ⟨Nat.le_trans (by decide) hR.1, Nat.le_trans (by decide) hR.2⟩ hl.1 (Nat.le_of_ble_eq_true rfl) d_Co_writePart_30 (fun v3 g2 H locs hw hwd => ?_)
    refine mcC_Co_94 F hwd (ct_Co_writePair _ _ _ _ hw) ⟨Nat.le_trans (by decide) hR.1, Nat.le_trans (by decide) hR.2⟩ hl.1 (Nat.le_of_ble_eq_true rfl) d_Co_writePart_33 (fun g4 H locs hw hwd => ?_)
    refine lv_aload_n hx hb d_Co_writePart_36 rfl (lv_at hl 1 rfl) ?_
    refine lv_iconst (v := 3) hx hb d_Co_writePart_37 (by decide) ?_
    refine mcC_Co_108 F hwd (ct_Co_writeByte _ _ _ hw) ⟨Nat.le_trans (by decide) hR.1, Nat.le_trans (by decide) hR.2⟩ hl.1 (Nat.le_of_ble_eq_true rfl) d_Co_writePart_38 (fun g5 H locs hw hwd => ?_)
    exact hret _ _ _ hw hwd _ _ d_Co_writePart_41
  · have hw := hw.2 hc
    refine lv_aload_n hx hb d_Co_writePart_15 rfl (lv_at hl 1 rfl) ?_
    refine lv_iload_n hx hb d_Co_writePart_16 rfl (lv_at hl 2 rfl) ?_
    refine lv_iload_n hx hb d_Co_writePart_17 rfl (lv_at hl 3 rfl) ?_
    refine mcC_Co_77 F hwd (hrc _ _ _ _ hw) ⟨by have := hRr.1; omega, by have := hRr.2; omega⟩ hl.1 (Nat.le_of_ble_eq_true rfl) d_Co_writePart_18 (fun g6 H locs hw hwd => ?_)
    exact hret _ _ _ hw hwd _ _ d_Co_writePart_21

theorem ct_Co_writePart {l : Launch} {D : va_G} {cI cZ : ClassId} {ad : Nat → Nat} {rc : Int32 → Int32 → St → (St → Prop) → Prop} {f lo : Nat} (hrc : ∀ (y1 y2 : Int32) (g : St) (K : St → Prop), rc y1 y2 g K → ctCV l y_Co_writeCode b_Co_writeCode 4 f lo D cI cZ ad [.ref (ad 19), .int y1, .int y2] g K) (hf0 : 3 ≤ f ∧ 67 ≤ lo) (x1 : Int32) (x2 : Int32) (g : St) (K : St → Prop) (h : pc_Co_writePart rc x1 x2 g K) : ctCV l y_Co_writePart b_Co_writePart 4 (f + 1) (lo + 23) D cI cZ ad [.ref (ad 19), .int x1, .int x2] g K := by
  refine enCV (by decide) (Nat.le_of_ble_eq_true rfl) (fun p e s m args below meth c A H0 ls Q F hwd hl hret => ?_)
  have F : fxC D cI cZ p { frames := f + 1, cells := 0, slots := 0, locals := lo + 23 } s m args c b_Co_writePart 4 R_Co 2 43 := ⟨F.1, F.2.1, F.2.2.1, F.2.2.2.1, F.2.2.2.2.1, F.2.2.2.2.2.1, F.2.2.2.2.2.2.1, by show 2 ≤ f + 1; omega, by show 43 ≤ lo + 23; omega⟩
  exact wb_Co_writePart_0 F hret hrc hf0 ⟨Nat.le_refl _, Nat.le_refl _⟩ h hwd hl
end WALKC1
