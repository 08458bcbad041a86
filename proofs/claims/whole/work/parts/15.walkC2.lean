section WALKC2
variable {p : Program} {l : Launch} {e : Env} {R : Room} {s : State} {m : MethodId} {args : Array Value} {below : List Frame} {meth : Method} {c : Code} {H : Heap} {locs : List Loc} {Q : State → Prop}
variable {D : va_G} {cI cZ : ClassId} {ad : Nat → Nat} {A : Nat → Prop} {H0 : Heap} {ls : Array Slot}
set_option maxHeartbeats 4000000 in
set_option maxRecDepth 100000 in
theorem wb_Co_writeCode_34 {rc : Int32 → Int32 → St → (St → Prop) → Prop} {K : St → Prop} {x1 : Int32} {x2 : Int32} {x3 : Int32} {g : St} (F : fxC D cI cZ p R s m args c b_Co_writeCode 4 R_Co 3 67)
    (hret : rtCV D cI cZ ad p l e R s m args below meth c b_Co_writeCode A H0 Q K) {f lo : Nat} (hrc : ∀ (y1 y2 : Int32) (g : St) (K : St → Prop), rc y1 y2 g K → ctCV l y_Co_writeCode b_Co_writeCode 4 f lo D cI cZ ad [.ref (ad 19), .int y1, .int y2] g K) (hf0 : 3 ≤ f ∧ 67 ≤ lo) (hRr : f + 2 ≤ R.frames ∧ lo + 46 ≤ R.locals)
    (hw : pb_Co_writeCode_34 rc K x1 x2 x3 g)
    (hwd : wdC D cI cZ ad A H0 g H locs) (hl : lv_has ls 4 [(0, .ref (ad 19)), (1, .int x1), (2, .int x2), (3, .int x3)]) : W p l e R s m args below meth c H locs 0 0 Q (F0 m 34 ls []) := by
  obtain ⟨hx, hb, hml, hown, hts, hK, hN, hR⟩ := F
  have F : fxC D cI cZ p R s m args c b_Co_writeCode 4 R_Co 3 67 := ⟨hx, hb, hml, hown, hts, hK, hN, hR⟩
  refine lv_aload_n hx hb d_Co_writeCode_34 rfl (lv_at hl 0 rfl) ?_
  refine lv_iconst (v := 2) hx hb d_Co_writeCode_35 (by decide) ?_
  refine lv_aload_n hx hb d_Co_writeCode_36 rfl (lv_at hl 0 rfl) ?_
  refine gfC_Co_32 F hwd d_Co_writeCode_37 ?_
  refine lv_aload_n hx hb d_Co_writeCode_40 rfl (lv_at hl 0 rfl) ?_
  refine gfC_Co_24 F hwd d_Co_writeCode_41 ?_
  refine lv_iload_n hx hb d_Co_writeCode_44 rfl (lv_at hl 1 rfl) ?_
  refine mcC_Co_97 F hwd (ct_Fo_kindOfEntry _ _ _ hw) ⟨Nat.le_trans (by decide) hR.1, Nat.le_trans (by decide) hR.2⟩ hl.1 (Nat.le_of_ble_eq_true rfl) d_Co_writeCode_45 (fun v2 g1 H locs hw hwd => ?_)
  refine lv_aload_n hx hb d_Co_writeCode_48 rfl (lv_at hl 0 rfl) ?_
  refine gfC_Co_24 F hwd d_Co_writeCode_49 ?_
  refine gfC_Co_101 F hwd d_Co_writeCode_52 ?_
  refine lv_iload_n hx hb d_Co_writeCode_55 rfl (lv_at hl 1 rfl) ?_
  obtain ⟨hi, hw⟩ := hw
  refine rdC_5 F hwd hi d_Co_writeCode_56 ?_
  refine mcC_Co_104 F hwd (ct_Ta_numberFor _ _ _ _ hw) ⟨Nat.le_trans (by decide) hR.1, Nat.le_trans (by decide) hR.2⟩ hl.1 (Nat.le_of_ble_eq_true rfl) d_Co_writeCode_57 (fun v4 g3 H locs hw hwd => ?_)
  refine mcC_Co_94 F hwd (ct_Co_writePair _ _ _ _ hw) ⟨Nat.le_trans (by decide) hR.1, Nat.le_trans (by decide) hR.2⟩ hl.1 (Nat.le_of_ble_eq_true rfl) d_Co_writeCode_60 (fun g5 H locs hw hwd => ?_)
  refine lv_iload_n hx hb d_Co_writeCode_63 rfl (lv_at hl 3 rfl) ?_
  refine lv_if_eq (tgt := 73) hx hb d_Co_writeCode_64 (by decide) (fun hc => ?_) (fun hc => ?_)
  · have hw := hw.1 hc
    refine lv_aload_n hx hb d_Co_writeCode_73 rfl (lv_at hl 0 rfl) ?_
    refine lv_aload_n hx hb d_Co_writeCode_74 rfl (lv_at hl 0 rfl) ?_
    refine gfC_Co_24 F hwd d_Co_writeCode_75 ?_
    refine gfC_Co_111 F hwd d_Co_writeCode_78 ?_
    refine lv_iload_n hx hb d_Co_writeCode_81 rfl (lv_at hl 1 rfl) ?_
    obtain ⟨hi, hw⟩ := hw
    refine rdC_3 F hwd hi d_Co_writeCode_82 ?_
    refine lv_aload_n hx hb d_Co_writeCode_83 rfl (lv_at hl 0 rfl) ?_
    refine gfC_Co_28 F hwd d_Co_writeCode_84 ?_
    refine lv_aload_n hx hb d_Co_writeCode_87 rfl (lv_at hl 0 rfl) ?_
    refine gfC_Co_24 F hwd d_Co_writeCode_88 ?_
    refine gfC_Co_114 F hwd d_Co_writeCode_91 ?_
    refine lv_iload_n hx hb d_Co_writeCode_94 rfl (lv_at hl 1 rfl) ?_
    obtain ⟨hi, hw⟩ := hw
    refine rdC_6 F hwd hi d_Co_writeCode_95 ?_
    refine mcC_Co_117 F hwd (ct_Cu_partLength _ _ _ hw) ⟨Nat.le_trans (by decide) hR.1, Nat.le_trans (by decide) hR.2⟩ hl.1 (Nat.le_of_ble_eq_true rfl) d_Co_writeCode_96 (fun v7 g6 H locs hw hwd => ?_)
    refine mcC_Co_120 F hwd (ct_Co_writeTest _ _ _ _ hw) ⟨Nat.le_trans (by decide) hR.1, Nat.le_trans (by decide) hR.2⟩ hl.1 (Nat.le_of_ble_eq_true rfl) d_Co_writeCode_99 (fun g8 H locs hw hwd => ?_)
    refine lv_aload_n hx hb d_Co_writeCode_102 rfl (lv_at hl 0 rfl) ?_
    refine lv_aload_n hx hb d_Co_writeCode_103 rfl (lv_at hl 0 rfl) ?_
    refine gfC_Co_24 F hwd d_Co_writeCode_104 ?_
    refine gfC_Co_114 F hwd d_Co_writeCode_107 ?_
    refine lv_iload_n hx hb d_Co_writeCode_110 rfl (lv_at hl 1 rfl) ?_
    obtain ⟨hi, hw⟩ := hw
    refine rdC_6 F hwd hi d_Co_writeCode_111 ?_
    refine lv_iload_n hx hb d_Co_writeCode_112 rfl (lv_at hl 2 rfl) ?_
    refine lv_iconst (v := 1) hx hb d_Co_writeCode_113 (by decide) ?_
    refine lv_iadd hx hb d_Co_writeCode_114 ?_
    refine mcC_Co_123 F hwd (ct_Co_writePart hrc hf0 _ _ _ _ hw) ⟨by have := hRr.1; omega, by have := hRr.2; omega⟩ hl.1 (Nat.le_of_ble_eq_true rfl) d_Co_writeCode_115 (fun g9 H locs hw hwd => ?_)
    refine lv_aload_n hx hb d_Co_writeCode_118 rfl (lv_at hl 0 rfl) ?_
    refine lv_aload_n hx hb d_Co_writeCode_119 rfl (lv_at hl 0 rfl) ?_
    refine gfC_Co_24 F hwd d_Co_writeCode_120 ?_
    refine gfC_Co_126 F hwd d_Co_writeCode_123 ?_
    refine lv_iload_n hx hb d_Co_writeCode_126 rfl (lv_at hl 1 rfl) ?_
    obtain ⟨hi, hw⟩ := hw
    refine rdC_7 F hwd hi d_Co_writeCode_127 ?_
    refine lv_iload_n hx hb d_Co_writeCode_128 rfl (lv_at hl 2 rfl) ?_
    refine lv_iconst (v := 1) hx hb d_Co_writeCode_129 (by decide) ?_
    refine lv_iadd hx hb d_Co_writeCode_130 ?_
    refine mcC_Co_123 F hwd (ct_Co_writePart hrc hf0 _ _ _ _ hw) ⟨by have := hRr.1; omega, by have := hRr.2; omega⟩ hl.1 (Nat.le_of_ble_eq_true rfl) d_Co_writeCode_131 (fun g10 H locs hw hwd => ?_)
    exact hret _ _ _ hw hwd _ _ d_Co_writeCode_134
  · have hw := hw.2 hc
    refine lv_aload_n hx hb d_Co_writeCode_67 rfl (lv_at hl 0 rfl) ?_
    refine lv_iconst (v := 3) hx hb d_Co_writeCode_68 (by decide) ?_
    refine mcC_Co_108 F hwd (ct_Co_writeByte _ _ _ hw) ⟨Nat.le_trans (by decide) hR.1, Nat.le_trans (by decide) hR.2⟩ hl.1 (Nat.le_of_ble_eq_true rfl) d_Co_writeCode_69 (fun g11 H locs hw hwd => ?_)
    exact hret _ _ _ hw hwd _ _ d_Co_writeCode_72

set_option maxHeartbeats 4000000 in
set_option maxRecDepth 100000 in
theorem wb_Co_writeCode_0 {rc : Int32 → Int32 → St → (St → Prop) → Prop} {K : St → Prop} {x1 : Int32} {x2 : Int32} {g : St} (F : fxC D cI cZ p R s m args c b_Co_writeCode 4 R_Co 3 67)
    (hret : rtCV D cI cZ ad p l e R s m args below meth c b_Co_writeCode A H0 Q K) {f lo : Nat} (hrc : ∀ (y1 y2 : Int32) (g : St) (K : St → Prop), rc y1 y2 g K → ctCV l y_Co_writeCode b_Co_writeCode 4 f lo D cI cZ ad [.ref (ad 19), .int y1, .int y2] g K) (hf0 : 3 ≤ f ∧ 67 ≤ lo) (hRr : f + 2 ≤ R.frames ∧ lo + 46 ≤ R.locals)
    (hw : pb_Co_writeCode_0 rc K x1 x2 g)
    (hwd : wdC D cI cZ ad A H0 g H locs) (hl : lv_has ls 4 [(0, .ref (ad 19)), (1, .int x1), (2, .int x2)]) : W p l e R s m args below meth c H locs 0 0 Q (F0 m 0 ls []) := by
  obtain ⟨hx, hb, hml, hown, hts, hK, hN, hR⟩ := F
  have F : fxC D cI cZ p R s m args c b_Co_writeCode 4 R_Co 3 67 := ⟨hx, hb, hml, hown, hts, hK, hN, hR⟩
  refine lv_iload_n hx hb d_Co_writeCode_0 rfl (lv_at hl 2 rfl) ?_
  refine lv_bipush (v := 12) hx hb d_Co_writeCode_1 (by decide) ?_
  refine lv_icmp_le (tgt := 7) hx hb d_Co_writeCode_3 (by decide) (fun hc => ?_) (fun hc => ?_)
  · have hw := hw.1 hc
    refine lv_aload_n hx hb d_Co_writeCode_7 rfl (lv_at hl 0 rfl) ?_
    refine gfC_Co_24 F hwd d_Co_writeCode_8 ?_
    refine lv_iload_n hx hb d_Co_writeCode_11 rfl (lv_at hl 1 rfl) ?_
    refine mcC_Co_87 F hwd (ct_Fo_isLeaf _ _ _ hw) ⟨Nat.le_trans (by decide) hR.1, Nat.le_trans (by decide) hR.2⟩ hl.1 (Nat.le_of_ble_eq_true rfl) d_Co_writeCode_12 (fun v2 g1 H locs hw hwd => ?_)
    refine lv_topi (fun v3 e_v3 => ?_)
    have hw := hw v3 e_v3
    refine lv_istore_n (lv' := [(3, .int v3), (0, .ref (ad 19)), (1, .int x1), (2, .int x2)]) hx hb d_Co_writeCode_15 rfl hl (by decide) rfl (fun ls hl => ?_)
    refine lv_iload_n hx hb d_Co_writeCode_16 rfl (lv_at hl 0 rfl) ?_
    refine lv_if_ne (tgt := 34) hx hb d_Co_writeCode_17 (by decide) (fun hc => ?_) (fun hc => ?_)
    · have hw := hw.1 hc
      exact wb_Co_writeCode_34 F hret hrc hf0 hRr hw hwd (lv_sub hl [1, 2, 3, 0] rfl)
    · have hw := hw.2 hc
      refine lv_aload_n hx hb d_Co_writeCode_20 rfl (lv_at hl 1 rfl) ?_
      refine lv_iconst (v := 1) hx hb d_Co_writeCode_21 (by decide) ?_
      refine lv_aload_n hx hb d_Co_writeCode_22 rfl (lv_at hl 1 rfl) ?_
      refine gfC_Co_24 F hwd d_Co_writeCode_23 ?_
      refine gfC_Co_91 F hwd d_Co_writeCode_26 ?_
      refine lv_iload_n hx hb d_Co_writeCode_29 rfl (lv_at hl 2 rfl) ?_
      obtain ⟨hi, hw⟩ := hw
      refine rdC_4 F hwd hi d_Co_writeCode_30 ?_
      refine mcC_Co_94 F hwd (ct_Co_writePair _ _ _ _ hw) ⟨Nat.le_trans (by decide) hR.1, Nat.le_trans (by decide) hR.2⟩ hl.1 (Nat.le_of_ble_eq_true rfl) d_Co_writeCode_31 (fun g4 H locs hw hwd => ?_)
      exact wb_Co_writeCode_34 F hret hrc hf0 hRr hw hwd (lv_sub hl [1, 2, 3, 0] rfl)
  · have hw := hw.2 hc
    exact hret _ _ _ hw hwd _ _ d_Co_writeCode_6

theorem ct_Co_writeCode {l : Launch} {D : va_G} {cI cZ : ClassId} {ad : Nat → Nat} : ∀ (d : Nat) (x1 : Int32) (x2 : Int32) (g : St) (K : St → Prop), pc_Co_writeCode d x1 x2 g K → ctCV l y_Co_writeCode b_Co_writeCode 4 (3 + d * 2) (67 + d * 46) D cI cZ ad [.ref (ad 19), .int x1, .int x2] g K := by
  intro d
  induction d with
  | zero => intro x1 x2 g K h; exact h.elim
  | succ d ih =>
    intro x1 x2 g K h
    refine enCV (by decide) (Nat.le_of_ble_eq_true rfl) (fun p e s m args below meth c A H0 ls Q F hwd hl hret => ?_)
    have F : fxC D cI cZ p { frames := 3 + (d + 1) * 2, cells := 0, slots := 0, locals := 67 + (d + 1) * 46 } s m args c b_Co_writeCode 4 R_Co 3 67 := ⟨F.1, F.2.1, F.2.2.1, F.2.2.2.1, F.2.2.2.2.1, F.2.2.2.2.2.1, F.2.2.2.2.2.2.1, by show 3 ≤ 3 + (d + 1) * 2; omega, by show 67 ≤ 67 + (d + 1) * 46; omega⟩
    exact wb_Co_writeCode_0 F hret (f := 3 + d * 2) (lo := 67 + d * 46) ih ⟨by omega, by omega⟩ ⟨by show 3 + d * 2 + 2 ≤ 3 + (d + 1) * 2; omega, by show 67 + d * 46 + 46 ≤ 67 + (d + 1) * 46; omega⟩ h hwd hl

set_option maxHeartbeats 4000000 in
set_option maxRecDepth 100000 in
theorem wb_Ta_shrinkLatest_0 {K : St → Prop} {x1 : Int32} {g : St} (F : fxC D cI cZ p R s m args c b_Ta_shrinkLatest 2 R_Ta 0 0)
    (hret : rtCV D cI cZ ad p l e R s m args below meth c b_Ta_shrinkLatest A H0 Q K)
    (hw : pb_Ta_shrinkLatest_0 K x1 g)
    (hwd : wdC D cI cZ ad A H0 g H locs) (hl : lv_has ls 2 [(0, .ref (ad 15)), (1, .int x1)]) : W p l e R s m args below meth c H locs 0 0 Q (F0 m 0 ls []) := by
  obtain ⟨hx, hb, hml, hown, hts, hK, hN, hR⟩ := F
  have F : fxC D cI cZ p R s m args c b_Ta_shrinkLatest 2 R_Ta 0 0 := ⟨hx, hb, hml, hown, hts, hK, hN, hR⟩
  refine lv_aload_n hx hb d_Ta_shrinkLatest_0 rfl (lv_at hl 0 rfl) ?_
  refine gfC_Ta_21 F hwd d_Ta_shrinkLatest_1 ?_
  refine lv_if_le (tgt := 29) hx hb d_Ta_shrinkLatest_4 (by decide) (fun hc => ?_) (fun hc => ?_)
  · have hw := hw.1 hc
    exact hret _ _ _ hw hwd _ _ d_Ta_shrinkLatest_29
  · have hw := hw.2 hc
    refine lv_aload_n hx hb d_Ta_shrinkLatest_7 rfl (lv_at hl 0 rfl) ?_
    refine gfC_Ta_18 F hwd d_Ta_shrinkLatest_8 ?_
    refine lv_aload_n hx hb d_Ta_shrinkLatest_11 rfl (lv_at hl 0 rfl) ?_
    refine gfC_Ta_21 F hwd d_Ta_shrinkLatest_12 ?_
    refine lv_aload_n hx hb d_Ta_shrinkLatest_15 rfl (lv_at hl 0 rfl) ?_
    refine gfC_Ta_18 F hwd d_Ta_shrinkLatest_16 ?_
    refine lv_aload_n hx hb d_Ta_shrinkLatest_19 rfl (lv_at hl 0 rfl) ?_
    refine gfC_Ta_21 F hwd d_Ta_shrinkLatest_20 ?_
    refine lv_iconst (v := 1) hx hb d_Ta_shrinkLatest_23 (by decide) ?_
    refine lv_isub hx hb d_Ta_shrinkLatest_24 ?_
    obtain ⟨hi, hw⟩ := hw
    refine rdC_18 F hwd hi d_Ta_shrinkLatest_25 ?_
    refine lv_iload_n hx hb d_Ta_shrinkLatest_26 rfl (lv_at hl 1 rfl) ?_
    refine lv_iadd hx hb d_Ta_shrinkLatest_27 ?_
    obtain ⟨hi, hw⟩ := hw
    refine wrC_18 F hwd hi d_Ta_shrinkLatest_28 (fun H locs hwd => ?_)
    obtain ⟨g1, e_g1⟩ : ∃ z : St, z = ar g 18 (g 103 0) ((g 18 (((g 103 0) - (1 : Int32))).toNatClampNeg) + x1) := ⟨_, rfl⟩
    have hwd : wdC D cI cZ ad A H0 g1 H locs := by rw [e_g1]; exact hwd
    have hw := hw g1 e_g1
    exact hret _ _ _ hw hwd _ _ d_Ta_shrinkLatest_29

theorem ct_Ta_shrinkLatest {l : Launch} {D : va_G} {cI cZ : ClassId} {ad : Nat → Nat} (x1 : Int32) (g : St) (K : St → Prop) (h : pc_Ta_shrinkLatest x1 g K) : ctCV l y_Ta_shrinkLatest b_Ta_shrinkLatest 2 0 0 D cI cZ ad [.ref (ad 15), .int x1] g K :=
  enCV (by decide) (Nat.le_of_ble_eq_true rfl) (fun p e s m args below meth c A H0 ls Q F hwd hl hret => wb_Ta_shrinkLatest_0 F hret h hwd hl)

set_option maxHeartbeats 4000000 in
set_option maxRecDepth 100000 in
theorem wb_Co_writeMethod_82 {K : St → Prop} {x1 : Int32} {x2 : Int32} {x3 : Int32} {g : St} (F : fxC D cI cZ p R s m args c b_Co_writeMethod 4 R_Co 32 734)
    (hret : rtCV D cI cZ ad p l e R s m args below meth c b_Co_writeMethod A H0 Q K)
    (hw : pb_Co_writeMethod_82 K x1 x2 x3 g)
    (hwd : wdC D cI cZ ad A H0 g H locs) (hl : lv_has ls 4 [(0, .ref (ad 19)), (1, .int x1), (2, .int x2), (3, .int x3)]) : W p l e R s m args below meth c H locs 0 0 Q (F0 m 82 ls []) := by
  obtain ⟨hx, hb, hml, hown, hts, hK, hN, hR⟩ := F
  have F : fxC D cI cZ p R s m args c b_Co_writeMethod 4 R_Co 32 734 := ⟨hx, hb, hml, hown, hts, hK, hN, hR⟩
  refine lv_aload_n hx hb d_Co_writeMethod_82 rfl (lv_at hl 0 rfl) ?_
  refine gfC_Co_15 F hwd d_Co_writeMethod_83 ?_
  refine lv_iload_n hx hb d_Co_writeMethod_86 rfl (lv_at hl 1 rfl) ?_
  refine lv_iconst (v := 1) hx hb d_Co_writeMethod_87 (by decide) ?_
  refine lv_iadd hx hb d_Co_writeMethod_88 ?_
  refine lv_aload_n hx hb d_Co_writeMethod_89 rfl (lv_at hl 0 rfl) ?_
  refine gfC_Co_40 F hwd d_Co_writeMethod_90 ?_
  obtain ⟨hi, hw⟩ := hw
  refine wrC_21 F hwd hi d_Co_writeMethod_93 (fun H locs hwd => ?_)
  obtain ⟨g1, e_g1⟩ : ∃ z : St, z = ar g 21 (x1 + (1 : Int32)) (g 104 0) := ⟨_, rfl⟩
  have hwd : wdC D cI cZ ad A H0 g1 H locs := by rw [e_g1]; exact hwd
  have hw := hw g1 e_g1
  refine lv_aload_n hx hb d_Co_writeMethod_94 rfl (lv_at hl 0 rfl) ?_
  refine gfC_Co_18 F hwd d_Co_writeMethod_95 ?_
  refine lv_iload_n hx hb d_Co_writeMethod_98 rfl (lv_at hl 1 rfl) ?_
  refine lv_aload_n hx hb d_Co_writeMethod_99 rfl (lv_at hl 0 rfl) ?_
  refine gfC_Co_32 F hwd d_Co_writeMethod_100 ?_
  refine gfC_Co_84 F hwd d_Co_writeMethod_103 ?_
  refine lv_iconst (v := 1) hx hb d_Co_writeMethod_106 (by decide) ?_
  refine lv_isub hx hb d_Co_writeMethod_107 ?_
  obtain ⟨hi, hw⟩ := hw
  refine wrC_22 F hwd hi d_Co_writeMethod_108 (fun H locs hwd => ?_)
  obtain ⟨g2, e_g2⟩ : ∃ z : St, z = ar g1 22 x1 ((g1 103 0) - (1 : Int32)) := ⟨_, rfl⟩
  have hwd : wdC D cI cZ ad A H0 g2 H locs := by rw [e_g2]; exact hwd
  have hw := hw g2 e_g2
  exact hret _ _ _ hw hwd _ _ d_Co_writeMethod_109

set_option maxHeartbeats 4000000 in
set_option maxRecDepth 100000 in
theorem wb_Co_writeMethod_0 {K : St → Prop} {x1 : Int32} {x2 : Int32} {g : St} (F : fxC D cI cZ p R s m args c b_Co_writeMethod 4 R_Co 32 734)
    (hret : rtCV D cI cZ ad p l e R s m args below meth c b_Co_writeMethod A H0 Q K)
    (hw : pb_Co_writeMethod_0 K x1 x2 g)
    (hwd : wdC D cI cZ ad A H0 g H locs) (hl : lv_has ls 4 [(0, .ref (ad 19)), (1, .int x1), (2, .int x2)]) : W p l e R s m args below meth c H locs 0 0 Q (F0 m 0 ls []) := by
  obtain ⟨hx, hb, hml, hown, hts, hK, hN, hR⟩ := F
  have F : fxC D cI cZ p R s m args c b_Co_writeMethod 4 R_Co 32 734 := ⟨hx, hb, hml, hown, hts, hK, hN, hR⟩
  refine lv_aload_n hx hb d_Co_writeMethod_0 rfl (lv_at hl 0 rfl) ?_
  refine gfC_Co_32 F hwd d_Co_writeMethod_1 ?_
  refine mcC_Co_70 F hwd (ct_Ta_latestSize  _ _ hw) ⟨Nat.le_trans (by decide) hR.1, Nat.le_trans (by decide) hR.2⟩ hl.1 (Nat.le_of_ble_eq_true rfl) d_Co_writeMethod_4 (fun v2 g1 H locs hw hwd => ?_)
  refine lv_topi (fun v3 e_v3 => ?_)
  have hw := hw v3 e_v3
  refine lv_istore_n (lv' := [(3, .int v3), (0, .ref (ad 19)), (1, .int x1), (2, .int x2)]) hx hb d_Co_writeMethod_7 rfl hl (by decide) rfl (fun ls hl => ?_)
  refine lv_aload_n hx hb d_Co_writeMethod_8 rfl (lv_at hl 1 rfl) ?_
  refine gfC_Co_15 F hwd d_Co_writeMethod_9 ?_
  refine lv_iload_n hx hb d_Co_writeMethod_12 rfl (lv_at hl 2 rfl) ?_
  refine lv_aload_n hx hb d_Co_writeMethod_13 rfl (lv_at hl 1 rfl) ?_
  refine gfC_Co_40 F hwd d_Co_writeMethod_14 ?_
  obtain ⟨hi, hw⟩ := hw
  refine wrC_21 F hwd hi d_Co_writeMethod_17 (fun H locs hwd => ?_)
  obtain ⟨g4, e_g4⟩ : ∃ z : St, z = ar g1 21 x1 (g1 104 0) := ⟨_, rfl⟩
  have hwd : wdC D cI cZ ad A H0 g4 H locs := by rw [e_g4]; exact hwd
  have hw := hw g4 e_g4
  refine lv_aload_n hx hb d_Co_writeMethod_18 rfl (lv_at hl 1 rfl) ?_
  refine lv_aload_n hx hb d_Co_writeMethod_19 rfl (lv_at hl 1 rfl) ?_
  refine gfC_Co_28 F hwd d_Co_writeMethod_20 ?_
  refine gfC_Co_74 F hwd d_Co_writeMethod_23 ?_
  refine lv_iload_n hx hb d_Co_writeMethod_26 rfl (lv_at hl 2 rfl) ?_
  obtain ⟨hi, hw⟩ := hw
  refine rdC_14 F hwd hi d_Co_writeMethod_27 ?_
  refine lv_iconst (v := 0) hx hb d_Co_writeMethod_28 (by decide) ?_
  refine mcC_Co_77 F hwd (ct_Co_writeCode 14 _ _ _ _ hw) ⟨Nat.le_trans (by decide) hR.1, Nat.le_trans (by decide) hR.2⟩ hl.1 (Nat.le_of_ble_eq_true rfl) d_Co_writeMethod_29 (fun g5 H locs hw hwd => ?_)
  refine lv_aload_n hx hb d_Co_writeMethod_32 rfl (lv_at hl 1 rfl) ?_
  refine gfC_Co_32 F hwd d_Co_writeMethod_33 ?_
  refine mcC_Co_70 F hwd (ct_Ta_latestSize  _ _ hw) ⟨Nat.le_trans (by decide) hR.1, Nat.le_trans (by decide) hR.2⟩ hl.1 (Nat.le_of_ble_eq_true rfl) d_Co_writeMethod_36 (fun v7 g6 H locs hw hwd => ?_)
  refine lv_iload_n hx hb d_Co_writeMethod_39 rfl (lv_at hl 3 rfl) ?_
  refine lv_icmp_le (tgt := 82) hx hb d_Co_writeMethod_40 (by decide) (fun hc => ?_) (fun hc => ?_)
  · have hw := hw.1 hc
    exact wb_Co_writeMethod_82 F hret hw hwd (lv_sub hl [1, 2, 3, 0] rfl)
  · have hw := hw.2 hc
    refine lv_aload_n hx hb d_Co_writeMethod_43 rfl (lv_at hl 1 rfl) ?_
    refine gfC_Co_32 F hwd d_Co_writeMethod_44 ?_
    refine lv_iload_n hx hb d_Co_writeMethod_47 rfl (lv_at hl 0 rfl) ?_
    refine mcC_Co_80 F hwd (ct_Ta_shrinkLatest _ _ _ hw) ⟨Nat.le_trans (by decide) hR.1, Nat.le_trans (by decide) hR.2⟩ hl.1 (Nat.le_of_ble_eq_true rfl) d_Co_writeMethod_48 (fun g8 H locs hw hwd => ?_)
    refine lv_aload_n hx hb d_Co_writeMethod_51 rfl (lv_at hl 1 rfl) ?_
    refine gfC_Co_32 F hwd d_Co_writeMethod_52 ?_
    refine mcC_Co_48 F hwd (ct_Ta_openClass  _ _ hw) ⟨Nat.le_trans (by decide) hR.1, Nat.le_trans (by decide) hR.2⟩ hl.1 (Nat.le_of_ble_eq_true rfl) d_Co_writeMethod_55 (fun g9 H locs hw hwd => ?_)
    refine lv_aload_n hx hb d_Co_writeMethod_58 rfl (lv_at hl 1 rfl) ?_
    refine lv_aload_n hx hb d_Co_writeMethod_59 rfl (lv_at hl 1 rfl) ?_
    refine gfC_Co_15 F hwd d_Co_writeMethod_60 ?_
    refine lv_iload_n hx hb d_Co_writeMethod_63 rfl (lv_at hl 2 rfl) ?_
    obtain ⟨hi, hw⟩ := hw
    refine rdC_21 F hwd hi d_Co_writeMethod_64 ?_
    refine pfC_Co_40 F hwd d_Co_writeMethod_65 (fun H locs hwd => ?_)
    obtain ⟨g10, e_g10⟩ : ∃ z : St, z = sc g9 104 (g9 21 (x1).toNatClampNeg) := ⟨_, rfl⟩
    have hwd : wdC D cI cZ ad A H0 g10 H locs := by rw [e_g10]; exact hwd
    have hw := hw g10 e_g10
    refine lv_aload_n hx hb d_Co_writeMethod_68 rfl (lv_at hl 1 rfl) ?_
    refine lv_aload_n hx hb d_Co_writeMethod_69 rfl (lv_at hl 1 rfl) ?_
    refine gfC_Co_28 F hwd d_Co_writeMethod_70 ?_
    refine gfC_Co_74 F hwd d_Co_writeMethod_73 ?_
    refine lv_iload_n hx hb d_Co_writeMethod_76 rfl (lv_at hl 2 rfl) ?_
    obtain ⟨hi, hw⟩ := hw
    refine rdC_14 F hwd hi d_Co_writeMethod_77 ?_
    refine lv_iconst (v := 0) hx hb d_Co_writeMethod_78 (by decide) ?_
    refine mcC_Co_77 F hwd (ct_Co_writeCode 14 _ _ _ _ hw) ⟨Nat.le_trans (by decide) hR.1, Nat.le_trans (by decide) hR.2⟩ hl.1 (Nat.le_of_ble_eq_true rfl) d_Co_writeMethod_79 (fun g11 H locs hw hwd => ?_)
    exact wb_Co_writeMethod_82 F hret hw hwd (lv_sub hl [1, 2, 3, 0] rfl)

theorem ct_Co_writeMethod {l : Launch} {D : va_G} {cI cZ : ClassId} {ad : Nat → Nat} (x1 : Int32) (x2 : Int32) (g : St) (K : St → Prop) (h : pc_Co_writeMethod x1 x2 g K) : ctCV l y_Co_writeMethod b_Co_writeMethod 4 32 734 D cI cZ ad [.ref (ad 19), .int x1, .int x2] g K :=
  enCV (by decide) (Nat.le_of_ble_eq_true rfl) (fun p e s m args below meth c A H0 ls Q F hwd hl hret => wb_Co_writeMethod_0 F hret h hwd hl)

set_option maxHeartbeats 4000000 in
set_option maxRecDepth 100000 in
theorem wb_Co_writeMethods_65 {K : St → Prop} {P65 : Int32 → Int32 → St → Prop} {x1 : Int32} {x2 : Int32} {g : St} (F : fxC D cI cZ p R s m args c b_Co_writeMethods 3 R_Co 33 757)
    (hret : rtCV D cI cZ ad p l e R s m args below meth c b_Co_writeMethods A H0 Q K) (hp65 : ∀ (x1 : Int32) (x2 : Int32) (g : St) (H : Heap) (locs : List Loc) (ls : Array Slot), P65 x1 x2 g → wdC D cI cZ ad A H0 g H locs → lv_has ls 3 [(0, .ref (ad 19)), (1, .int x1), (2, .int x2)] → W p l e R s m args below meth c H locs 0 0 Q (F0 m 65 ls []))
    (hw : pb_Co_writeMethods_65 K P65 x1 x2 g)
    (hwd : wdC D cI cZ ad A H0 g H locs) (hl : lv_has ls 3 [(0, .ref (ad 19)), (1, .int x1), (2, .int x2)]) : W p l e R s m args below meth c H locs 0 0 Q (F0 m 65 ls []) := by
  obtain ⟨hx, hb, hml, hown, hts, hK, hN, hR⟩ := F
  have F : fxC D cI cZ p R s m args c b_Co_writeMethods 3 R_Co 33 757 := ⟨hx, hb, hml, hown, hts, hK, hN, hR⟩
  refine lv_iload_n hx hb d_Co_writeMethods_65 rfl (lv_at hl 2 rfl) ?_
  refine lv_aload_n hx hb d_Co_writeMethods_66 rfl (lv_at hl 0 rfl) ?_
  refine gfC_Co_63 F hwd d_Co_writeMethods_67 ?_
  refine lv_icmp_ge (tgt := 102) hx hb d_Co_writeMethods_70 (by decide) (fun hc => ?_) (fun hc => ?_)
  · have hw := hw.1 hc
    exact hret _ _ _ hw hwd _ _ d_Co_writeMethods_102
  · have hw := hw.2 hc
    refine lv_aload_n hx hb d_Co_writeMethods_73 rfl (lv_at hl 0 rfl) ?_
    refine gfC_Co_21 F hwd d_Co_writeMethods_74 ?_
    refine lv_iload_n hx hb d_Co_writeMethods_77 rfl (lv_at hl 2 rfl) ?_
    refine lv_aload_n hx hb d_Co_writeMethods_78 rfl (lv_at hl 0 rfl) ?_
    refine gfC_Co_28 F hwd d_Co_writeMethods_79 ?_
    refine gfC_Co_64 F hwd d_Co_writeMethods_82 ?_
    refine lv_aload_n hx hb d_Co_writeMethods_85 rfl (lv_at hl 0 rfl) ?_
    refine gfC_Co_24 F hwd d_Co_writeMethods_86 ?_
    refine gfC_Co_67 F hwd d_Co_writeMethods_89 ?_
    refine lv_iload_n hx hb d_Co_writeMethods_92 rfl (lv_at hl 2 rfl) ?_
    obtain ⟨hi, hw⟩ := hw
    refine rdC_8 F hwd hi d_Co_writeMethods_93 ?_
    obtain ⟨hi, hw⟩ := hw
    refine rdC_13 F hwd hi d_Co_writeMethods_94 ?_
    obtain ⟨hi, hw⟩ := hw
    refine wrC_23 F hwd hi d_Co_writeMethods_95 (fun H locs hwd => ?_)
    obtain ⟨g1, e_g1⟩ : ∃ z : St, z = ar g 23 x2 (g 13 ((g 8 (x2).toNatClampNeg)).toNatClampNeg) := ⟨_, rfl⟩
    have hwd : wdC D cI cZ ad A H0 g1 H locs := by rw [e_g1]; exact hwd
    have hw := hw g1 e_g1
    obtain ⟨v2, e_v2⟩ : ∃ z, z = x2 + (1 : Int32) := ⟨_, rfl⟩
    have hw := hw v2 e_v2
    refine lv_iinc (k := 2) (lv' := [(2, .int v2), (0, .ref (ad 19)), (1, .int x1)]) hx hb d_Co_writeMethods_96 hl rfl e_v2.symm (by decide) rfl (fun ls hl => ?_)
    refine lv_goto (tgt := 65) hx hb d_Co_writeMethods_99 (by decide) ?_
    exact hp65 _ _ _ H locs ls hw hwd (lv_sub hl [1, 2, 0] rfl)

set_option maxHeartbeats 4000000 in
theorem wl_Co_writeMethods_65 {K : St → Prop} {x1 : Int32} {x2 : Int32} {g : St} (F : fxC D cI cZ p R s m args c b_Co_writeMethods 3 R_Co 33 757)
    (hret : rtCV D cI cZ ad p l e R s m args below meth c b_Co_writeMethods A H0 Q K)
    (hw : pl_Co_writeMethods_65 K x1 x2 g)
    (hwd : wdC D cI cZ ad A H0 g H locs) (hl : lv_has ls 3 [(0, .ref (ad 19)), (1, .int x1), (2, .int x2)]) : W p l e R s m args below meth c H locs 0 0 Q (F0 m 65 ls []) := by
  refine hw (fun x1 x2 g => ∀ (H : Heap) (locs : List Loc) (ls : Array Slot), wdC D cI cZ ad A H0 g H locs → lv_has ls 3 [(0, .ref (ad 19)), (1, .int x1), (2, .int x2)] → W p l e R s m args below meth c H locs 0 0 Q (F0 m 65 ls [])) ?_ H locs ls hwd hl
  intro x1 x2 g hw H locs ls hwd hl
  exact wb_Co_writeMethods_65 F hret (fun x1 x2 g H locs ls h hwd hl => h H locs ls hwd hl) hw hwd hl

set_option maxHeartbeats 4000000 in
set_option maxRecDepth 100000 in
theorem wb_Co_writeMethods_32 {K : St → Prop} {P32 : Int32 → Int32 → St → Prop} {x1 : Int32} {x2 : Int32} {g : St} (F : fxC D cI cZ p R s m args c b_Co_writeMethods 3 R_Co 33 757)
    (hret : rtCV D cI cZ ad p l e R s m args below meth c b_Co_writeMethods A H0 Q K) (hp32 : ∀ (x1 : Int32) (x2 : Int32) (g : St) (H : Heap) (locs : List Loc) (ls : Array Slot), P32 x1 x2 g → wdC D cI cZ ad A H0 g H locs → lv_has ls 3 [(0, .ref (ad 19)), (1, .int x1), (2, .int x2)] → W p l e R s m args below meth c H locs 0 0 Q (F0 m 32 ls []))
    (hw : pb_Co_writeMethods_32 K P32 x1 x2 g)
    (hwd : wdC D cI cZ ad A H0 g H locs) (hl : lv_has ls 3 [(0, .ref (ad 19)), (1, .int x1), (2, .int x2)]) : W p l e R s m args below meth c H locs 0 0 Q (F0 m 32 ls []) := by
  obtain ⟨hx, hb, hml, hown, hts, hK, hN, hR⟩ := F
  have F : fxC D cI cZ p R s m args c b_Co_writeMethods 3 R_Co 33 757 := ⟨hx, hb, hml, hown, hts, hK, hN, hR⟩
  refine lv_iload_n hx hb d_Co_writeMethods_32 rfl (lv_at hl 2 rfl) ?_
  refine lv_aload_n hx hb d_Co_writeMethods_33 rfl (lv_at hl 0 rfl) ?_
  refine gfC_Co_36 F hwd d_Co_writeMethods_34 ?_
  refine lv_icmp_ge (tgt := 52) hx hb d_Co_writeMethods_37 (by decide) (fun hc => ?_) (fun hc => ?_)
  · have hw := hw.1 hc
    refine lv_aload_n hx hb d_Co_writeMethods_52 rfl (lv_at hl 0 rfl) ?_
    refine lv_aload_n hx hb d_Co_writeMethods_53 rfl (lv_at hl 0 rfl) ?_
    refine gfC_Co_24 F hwd d_Co_writeMethods_54 ?_
    refine gfC_Co_58 F hwd d_Co_writeMethods_57 ?_
    refine pfC_Co_63 F hwd d_Co_writeMethods_60 (fun H locs hwd => ?_)
    obtain ⟨g1, e_g1⟩ : ∃ z : St, z = sc g 106 (g 101 0) := ⟨_, rfl⟩
    have hwd : wdC D cI cZ ad A H0 g1 H locs := by rw [e_g1]; exact hwd
    have hw := hw g1 e_g1
    refine lv_iconst (v := 0) hx hb d_Co_writeMethods_63 (by decide) ?_
    refine lv_topi (fun v2 e_v2 => ?_)
    have hw := hw v2 e_v2
    refine lv_istore_n (lv' := [(2, .int v2), (0, .ref (ad 19)), (1, .int x1)]) hx hb d_Co_writeMethods_64 rfl hl (by decide) rfl (fun ls hl => ?_)
    exact wl_Co_writeMethods_65 F hret hw hwd (lv_sub hl [1, 2, 0] rfl)
  · have hw := hw.2 hc
    refine lv_aload_n hx hb d_Co_writeMethods_40 rfl (lv_at hl 0 rfl) ?_
    refine lv_iload_n hx hb d_Co_writeMethods_41 rfl (lv_at hl 2 rfl) ?_
    refine lv_iload_n hx hb d_Co_writeMethods_42 rfl (lv_at hl 1 rfl) ?_
    refine mcC_Co_54 F hwd (ct_Co_writeMethod _ _ _ _ hw) ⟨Nat.le_trans (by decide) hR.1, Nat.le_trans (by decide) hR.2⟩ hl.1 (Nat.le_of_ble_eq_true rfl) d_Co_writeMethods_43 (fun g3 H locs hw hwd => ?_)
    obtain ⟨v4, e_v4⟩ : ∃ z, z = x2 + (1 : Int32) := ⟨_, rfl⟩
    have hw := hw v4 e_v4
    refine lv_iinc (k := 2) (lv' := [(2, .int v4), (0, .ref (ad 19)), (1, .int x1)]) hx hb d_Co_writeMethods_46 hl rfl e_v4.symm (by decide) rfl (fun ls hl => ?_)
    refine lv_goto (tgt := 32) hx hb d_Co_writeMethods_49 (by decide) ?_
    exact hp32 _ _ _ H locs ls hw hwd (lv_sub hl [1, 2, 0] rfl)

set_option maxHeartbeats 4000000 in
theorem wl_Co_writeMethods_32 {K : St → Prop} {x1 : Int32} {x2 : Int32} {g : St} (F : fxC D cI cZ p R s m args c b_Co_writeMethods 3 R_Co 33 757)
    (hret : rtCV D cI cZ ad p l e R s m args below meth c b_Co_writeMethods A H0 Q K)
    (hw : pl_Co_writeMethods_32 K x1 x2 g)
    (hwd : wdC D cI cZ ad A H0 g H locs) (hl : lv_has ls 3 [(0, .ref (ad 19)), (1, .int x1), (2, .int x2)]) : W p l e R s m args below meth c H locs 0 0 Q (F0 m 32 ls []) := by
  refine hw (fun x1 x2 g => ∀ (H : Heap) (locs : List Loc) (ls : Array Slot), wdC D cI cZ ad A H0 g H locs → lv_has ls 3 [(0, .ref (ad 19)), (1, .int x1), (2, .int x2)] → W p l e R s m args below meth c H locs 0 0 Q (F0 m 32 ls [])) ?_ H locs ls hwd hl
  intro x1 x2 g hw H locs ls hwd hl
  exact wb_Co_writeMethods_32 F hret (fun x1 x2 g H locs ls h hwd hl => h H locs ls hwd hl) hw hwd hl

set_option maxHeartbeats 4000000 in
set_option maxRecDepth 100000 in
theorem wb_Co_writeMethods_0 {K : St → Prop} {x1 : Int32} {g : St} (F : fxC D cI cZ p R s m args c b_Co_writeMethods 3 R_Co 33 757)
    (hret : rtCV D cI cZ ad p l e R s m args below meth c b_Co_writeMethods A H0 Q K)
    (hw : pb_Co_writeMethods_0 K x1 g)
    (hwd : wdC D cI cZ ad A H0 g H locs) (hl : lv_has ls 3 [(0, .ref (ad 19)), (1, .int x1)]) : W p l e R s m args below meth c H locs 0 0 Q (F0 m 0 ls []) := by
  obtain ⟨hx, hb, hml, hown, hts, hK, hN, hR⟩ := F
  have F : fxC D cI cZ p R s m args c b_Co_writeMethods 3 R_Co 33 757 := ⟨hx, hb, hml, hown, hts, hK, hN, hR⟩
  refine lv_aload_n hx hb d_Co_writeMethods_0 rfl (lv_at hl 0 rfl) ?_
  refine lv_iconst (v := 0) hx hb d_Co_writeMethods_1 (by decide) ?_
  refine pfC_Co_40 F hwd d_Co_writeMethods_2 (fun H locs hwd => ?_)
  obtain ⟨g1, e_g1⟩ : ∃ z : St, z = sc g 104 (0 : Int32) := ⟨_, rfl⟩
  have hwd : wdC D cI cZ ad A H0 g1 H locs := by rw [e_g1]; exact hwd
  have hw := hw g1 e_g1
  refine lv_aload_n hx hb d_Co_writeMethods_5 rfl (lv_at hl 0 rfl) ?_
  refine gfC_Co_32 F hwd d_Co_writeMethods_6 ?_
  refine mcC_Co_43 F hwd (ct_Ta_forgetAll  _ _ hw) ⟨Nat.le_trans (by decide) hR.1, Nat.le_trans (by decide) hR.2⟩ hl.1 (Nat.le_of_ble_eq_true rfl) d_Co_writeMethods_9 (fun g2 H locs hw hwd => ?_)
  refine lv_aload_n hx hb d_Co_writeMethods_12 rfl (lv_at hl 0 rfl) ?_
  refine gfC_Co_32 F hwd d_Co_writeMethods_13 ?_
  refine mcC_Co_48 F hwd (ct_Ta_openClass  _ _ hw) ⟨Nat.le_trans (by decide) hR.1, Nat.le_trans (by decide) hR.2⟩ hl.1 (Nat.le_of_ble_eq_true rfl) d_Co_writeMethods_16 (fun g3 H locs hw hwd => ?_)
  refine lv_aload_n hx hb d_Co_writeMethods_19 rfl (lv_at hl 0 rfl) ?_
  refine lv_aload_n hx hb d_Co_writeMethods_20 rfl (lv_at hl 0 rfl) ?_
  refine gfC_Co_28 F hwd d_Co_writeMethods_21 ?_
  refine gfC_Co_51 F hwd d_Co_writeMethods_24 ?_
  refine pfC_Co_36 F hwd d_Co_writeMethods_27 (fun H locs hwd => ?_)
  obtain ⟨g4, e_g4⟩ : ∃ z : St, z = sc g3 105 (g3 102 0) := ⟨_, rfl⟩
  have hwd : wdC D cI cZ ad A H0 g4 H locs := by rw [e_g4]; exact hwd
  have hw := hw g4 e_g4
  refine lv_iconst (v := 0) hx hb d_Co_writeMethods_30 (by decide) ?_
  refine lv_topi (fun v5 e_v5 => ?_)
  have hw := hw v5 e_v5
  refine lv_istore_n (lv' := [(2, .int v5), (0, .ref (ad 19)), (1, .int x1)]) hx hb d_Co_writeMethods_31 rfl hl (by decide) rfl (fun ls hl => ?_)
  exact wl_Co_writeMethods_32 F hret hw hwd (lv_sub hl [1, 2, 0] rfl)

theorem ct_Co_writeMethods {l : Launch} {D : va_G} {cI cZ : ClassId} {ad : Nat → Nat} (x1 : Int32) (g : St) (K : St → Prop) (h : pc_Co_writeMethods x1 g K) : ctCV l y_Co_writeMethods b_Co_writeMethods 3 33 757 D cI cZ ad [.ref (ad 19), .int x1] g K :=
  enCV (by decide) (Nat.le_of_ble_eq_true rfl) (fun p e s m args below meth c A H0 ls Q F hwd hl hret => wb_Co_writeMethods_0 F hret h hwd hl)

set_option maxHeartbeats 4000000 in
set_option maxRecDepth 100000 in
theorem wb_BF_compile_0 {K : Int32 → St → Prop} {x1 : Int32} {x2 : Int32} {g : St} (F : fxC D cI cZ p R s m args c b_BF_compile 4 R_BF 34 779)
    (hret : rtCI D cI cZ ad p l e R s m args below meth c b_BF_compile A H0 Q K)
    (hw : pb_BF_compile_0 K x1 x2 g)
    (hwd : wdC D cI cZ ad A H0 g H locs) (hl : lv_has ls 4 [(0, .ref (ad 0)), (1, .int x1), (2, .int x2)]) : W p l e R s m args below meth c H locs 0 0 Q (F0 m 0 ls []) := by
  obtain ⟨hx, hb, hml, hown, hts, hK, hN, hR⟩ := F
  have F : fxC D cI cZ p R s m args c b_BF_compile 4 R_BF 34 779 := ⟨hx, hb, hml, hown, hts, hK, hN, hR⟩
  refine lv_iload_n hx hb d_BF_compile_0 rfl (lv_at hl 1 rfl) ?_
  refine lv_bipush (v := 20) hx hb d_BF_compile_1 (by decide) ?_
  refine lv_icmp_lt (tgt := 31) hx hb d_BF_compile_3 (by decide) (fun hc => ?_) (fun hc => ?_)
  · have hw := hw.1 hc
    refine lv_iconst (v := -1) hx hb d_BF_compile_31 (by decide) ?_
    exact hret _ _ _ _ hw hwd _ _ d_BF_compile_32
  · have hw := hw.2 hc
    refine lv_iload_n hx hb d_BF_compile_6 rfl (lv_at hl 1 rfl) ?_
    refine lv_sipush (v := 400) hx hb d_BF_compile_7 (by decide) ?_
    refine lv_icmp_gt (tgt := 31) hx hb d_BF_compile_10 (by decide) (fun hc => ?_) (fun hc => ?_)
    · have hw := hw.1 hc
      refine lv_iconst (v := -1) hx hb d_BF_compile_31 (by decide) ?_
      exact hret _ _ _ _ hw hwd _ _ d_BF_compile_32
    · have hw := hw.2 hc
      refine lv_iload_n hx hb d_BF_compile_13 rfl (lv_at hl 2 rfl) ?_
      refine lv_iload_n hx hb d_BF_compile_14 rfl (lv_at hl 1 rfl) ?_
      refine mcC_BF_82 F hwd (ct_BF_isTableSize _ _ _ _ hw) ⟨Nat.le_trans (by decide) hR.1, Nat.le_trans (by decide) hR.2⟩ hl.1 (Nat.le_of_ble_eq_true rfl) d_BF_compile_15 (fun v2 g1 H locs hw hwd => ?_)
      refine lv_if_eq (tgt := 31) hx hb d_BF_compile_18 (by decide) (fun hc => ?_) (fun hc => ?_)
      · have hw := hw.1 hc
        refine lv_iconst (v := -1) hx hb d_BF_compile_31 (by decide) ?_
        exact hret _ _ _ _ hw hwd _ _ d_BF_compile_32
      · have hw := hw.2 hc
        refine lv_aload_n hx hb d_BF_compile_21 rfl (lv_at hl 0 rfl) ?_
        refine gfC_BF_16 F hwd d_BF_compile_22 ?_
        refine gfC_BF_85 F hwd d_BF_compile_25 ?_
        refine lv_if_ne (tgt := 33) hx hb d_BF_compile_28 (by decide) (fun hc => ?_) (fun hc => ?_)
        · have hw := hw.1 hc
          refine lv_aload_n hx hb d_BF_compile_33 rfl (lv_at hl 0 rfl) ?_
          refine gfC_BF_25 F hwd d_BF_compile_34 ?_
          refine mcC_BF_89 F hwd (ct_Ch_firstFault  _ _ hw) ⟨Nat.le_trans (by decide) hR.1, Nat.le_trans (by decide) hR.2⟩ hl.1 (Nat.le_of_ble_eq_true rfl) d_BF_compile_37 (fun v4 g3 H locs hw hwd => ?_)
          refine lv_topi (fun v5 e_v5 => ?_)
          have hw := hw v5 e_v5
          refine lv_istore_n (lv' := [(3, .int v5), (0, .ref (ad 0)), (1, .int x1), (2, .int x2)]) hx hb d_BF_compile_40 rfl hl (by decide) rfl (fun ls hl => ?_)
          refine lv_iload_n hx hb d_BF_compile_41 rfl (lv_at hl 0 rfl) ?_
          refine lv_if_eq (tgt := 48) hx hb d_BF_compile_42 (by decide) (fun hc => ?_) (fun hc => ?_)
          · have hw := hw.1 hc
            refine lv_aload_n hx hb d_BF_compile_48 rfl (lv_at hl 1 rfl) ?_
            refine gfC_BF_32 F hwd d_BF_compile_49 ?_
            refine lv_iload_n hx hb d_BF_compile_52 rfl (lv_at hl 2 rfl) ?_
            refine mcC_BF_93 F hwd (ct_Cu_cutTrees _ _ _ hw) ⟨Nat.le_trans (by decide) hR.1, Nat.le_trans (by decide) hR.2⟩ hl.1 (Nat.le_of_ble_eq_true rfl) d_BF_compile_53 (fun g6 H locs hw hwd => ?_)
            refine lv_aload_n hx hb d_BF_compile_56 rfl (lv_at hl 1 rfl) ?_
            refine gfC_BF_48 F hwd d_BF_compile_57 ?_
            refine lv_iload_n hx hb d_BF_compile_60 rfl (lv_at hl 3 rfl) ?_
            refine mcC_BF_97 F hwd (ct_Co_writeMethods _ _ _ hw) ⟨Nat.le_trans (by decide) hR.1, Nat.le_trans (by decide) hR.2⟩ hl.1 (Nat.le_of_ble_eq_true rfl) d_BF_compile_61 (fun g7 H locs hw hwd => ?_)
            refine lv_aload_n hx hb d_BF_compile_64 rfl (lv_at hl 1 rfl) ?_
            refine gfC_BF_48 F hwd d_BF_compile_65 ?_
            refine gfC_BF_100 F hwd d_BF_compile_68 ?_
            exact hret _ _ _ _ hw hwd _ _ d_BF_compile_71
          · have hw := hw.2 hc
            refine lv_iload_n hx hb d_BF_compile_45 rfl (lv_at hl 0 rfl) ?_
            refine lv_ineg hx hb d_BF_compile_46 ?_
            exact hret _ _ _ _ hw hwd _ _ d_BF_compile_47
        · have hw := hw.2 hc
          refine lv_iconst (v := -1) hx hb d_BF_compile_31 (by decide) ?_
          exact hret _ _ _ _ hw hwd _ _ d_BF_compile_32

theorem ct_BF_compile {l : Launch} {D : va_G} {cI cZ : ClassId} {ad : Nat → Nat} (x1 : Int32) (x2 : Int32) (g : St) (K : Int32 → St → Prop) (h : pc_BF_compile x1 x2 g K) : ctCI l y_BF_compile b_BF_compile 4 34 779 D cI cZ ad [.ref (ad 0), .int x1, .int x2] g K :=
  enCI (by decide) (Nat.le_of_ble_eq_true rfl) (fun p e s m args below meth c A H0 ls Q F hwd hl hret => wb_BF_compile_0 F hret h hwd hl)

set_option maxHeartbeats 4000000 in
set_option maxRecDepth 100000 in
theorem wb_BF_methods_0 {K : Int32 → St → Prop} {g : St} (F : fxC D cI cZ p R s m args c b_BF_methods 1 R_BF 0 0)
    (hret : rtCI D cI cZ ad p l e R s m args below meth c b_BF_methods A H0 Q K)
    (hw : pb_BF_methods_0 K g)
    (hwd : wdC D cI cZ ad A H0 g H locs) (hl : lv_has ls 1 [(0, .ref (ad 0))]) : W p l e R s m args below meth c H locs 0 0 Q (F0 m 0 ls []) := by
  obtain ⟨hx, hb, hml, hown, hts, hK, hN, hR⟩ := F
  have F : fxC D cI cZ p R s m args c b_BF_methods 1 R_BF 0 0 := ⟨hx, hb, hml, hown, hts, hK, hN, hR⟩
  refine lv_aload_n hx hb d_BF_methods_0 rfl (lv_at hl 0 rfl) ?_
  refine gfC_BF_48 F hwd d_BF_methods_1 ?_
  refine gfC_BF_100 F hwd d_BF_methods_4 ?_
  exact hret _ _ _ _ hw hwd _ _ d_BF_methods_7

theorem ct_BF_methods {l : Launch} {D : va_G} {cI cZ : ClassId} {ad : Nat → Nat} (g : St) (K : Int32 → St → Prop) (h : pc_BF_methods g K) : ctCI l y_BF_methods b_BF_methods 1 0 0 D cI cZ ad [.ref (ad 0)] g K :=
  enCI (by decide) (Nat.le_of_ble_eq_true rfl) (fun p e s m args below meth c A H0 ls Q F hwd hl hret => wb_BF_methods_0 F hret h hwd hl)

set_option maxHeartbeats 4000000 in
set_option maxRecDepth 100000 in
theorem wb_Co_isMethod_0 {K : Int32 → St → Prop} {x1 : Int32} {g : St} (F : fxC D cI cZ p R s m args c b_Co_isMethod 2 R_Co 0 0)
    (hret : rtCZ D cI cZ ad p l e R s m args below meth c b_Co_isMethod A H0 Q K)
    (hw : pb_Co_isMethod_0 K x1 g)
    (hwd : wdC D cI cZ ad A H0 g H locs) (hl : lv_has ls 2 [(0, .ref (ad 19)), (1, .int x1)]) : W p l e R s m args below meth c H locs 0 0 Q (F0 m 0 ls []) := by
  obtain ⟨hx, hb, hml, hown, hts, hK, hN, hR⟩ := F
  have F : fxC D cI cZ p R s m args c b_Co_isMethod 2 R_Co 0 0 := ⟨hx, hb, hml, hown, hts, hK, hN, hR⟩
  refine lv_iload_n hx hb d_Co_isMethod_0 rfl (lv_at hl 1 rfl) ?_
  refine lv_if_lt (tgt := 16) hx hb d_Co_isMethod_1 (by decide) (fun hc => ?_) (fun hc => ?_)
  · have hw := hw.1 hc
    refine lv_iconst (v := 0) hx hb d_Co_isMethod_16 (by decide) ?_
    exact hret _ _ _ _ hw (by decide) hwd _ _ d_Co_isMethod_17
  · have hw := hw.2 hc
    refine lv_iload_n hx hb d_Co_isMethod_4 rfl (lv_at hl 1 rfl) ?_
    refine lv_aload_n hx hb d_Co_isMethod_5 rfl (lv_at hl 0 rfl) ?_
    refine gfC_Co_36 F hwd d_Co_isMethod_6 ?_
    refine lv_icmp_ge (tgt := 16) hx hb d_Co_isMethod_9 (by decide) (fun hc => ?_) (fun hc => ?_)
    · have hw := hw.1 hc
      refine lv_iconst (v := 0) hx hb d_Co_isMethod_16 (by decide) ?_
      exact hret _ _ _ _ hw (by decide) hwd _ _ d_Co_isMethod_17
    · have hw := hw.2 hc
      refine lv_iconst (v := 1) hx hb d_Co_isMethod_12 (by decide) ?_
      refine lv_goto (tgt := 17) hx hb d_Co_isMethod_13 (by decide) ?_
      exact hret _ _ _ _ hw (by decide) hwd _ _ d_Co_isMethod_17

theorem ct_Co_isMethod {l : Launch} {D : va_G} {cI cZ : ClassId} {ad : Nat → Nat} (x1 : Int32) (g : St) (K : Int32 → St → Prop) (h : pc_Co_isMethod x1 g K) : ctCZ l y_Co_isMethod b_Co_isMethod 2 0 0 D cI cZ ad [.ref (ad 19), .int x1] g K :=
  enCZ (by decide) (Nat.le_of_ble_eq_true rfl) (fun p e s m args below meth c A H0 ls Q F hwd hl hret => wb_Co_isMethod_0 F hret h hwd hl)

set_option maxHeartbeats 4000000 in
set_option maxRecDepth 100000 in
theorem wb_BF_length_0 {K : Int32 → St → Prop} {x1 : Int32} {g : St} (F : fxC D cI cZ p R s m args c b_BF_length 2 R_BF 1 21)
    (hret : rtCI D cI cZ ad p l e R s m args below meth c b_BF_length A H0 Q K)
    (hw : pb_BF_length_0 K x1 g)
    (hwd : wdC D cI cZ ad A H0 g H locs) (hl : lv_has ls 2 [(0, .ref (ad 0)), (1, .int x1)]) : W p l e R s m args below meth c H locs 0 0 Q (F0 m 0 ls []) := by
  obtain ⟨hx, hb, hml, hown, hts, hK, hN, hR⟩ := F
  have F : fxC D cI cZ p R s m args c b_BF_length 2 R_BF 1 21 := ⟨hx, hb, hml, hown, hts, hK, hN, hR⟩
  refine lv_aload_n hx hb d_BF_length_0 rfl (lv_at hl 0 rfl) ?_
  refine gfC_BF_48 F hwd d_BF_length_1 ?_
  refine lv_iload_n hx hb d_BF_length_4 rfl (lv_at hl 1 rfl) ?_
  refine mcC_BF_103 F hwd (ct_Co_isMethod _ _ _ hw) ⟨Nat.le_trans (by decide) hR.1, Nat.le_trans (by decide) hR.2⟩ hl.1 (Nat.le_of_ble_eq_true rfl) d_BF_length_5 (fun v2 g1 H locs hw hwd => ?_)
  refine lv_if_eq (tgt := 35) hx hb d_BF_length_8 (by decide) (fun hc => ?_) (fun hc => ?_)
  · have hw := hw.1 hc
    refine lv_iconst (v := -1) hx hb d_BF_length_35 (by decide) ?_
    exact hret _ _ _ _ hw hwd _ _ d_BF_length_36
  · have hw := hw.2 hc
    refine lv_aload_n hx hb d_BF_length_11 rfl (lv_at hl 0 rfl) ?_
    refine gfC_BF_48 F hwd d_BF_length_12 ?_
    refine gfC_BF_106 F hwd d_BF_length_15 ?_
    refine lv_iload_n hx hb d_BF_length_18 rfl (lv_at hl 1 rfl) ?_
    refine lv_iconst (v := 1) hx hb d_BF_length_19 (by decide) ?_
    refine lv_iadd hx hb d_BF_length_20 ?_
    obtain ⟨hi, hw⟩ := hw
    refine rdC_21 F hwd hi d_BF_length_21 ?_
    refine lv_aload_n hx hb d_BF_length_22 rfl (lv_at hl 0 rfl) ?_
    refine gfC_BF_48 F hwd d_BF_length_23 ?_
    refine gfC_BF_106 F hwd d_BF_length_26 ?_
    refine lv_iload_n hx hb d_BF_length_29 rfl (lv_at hl 1 rfl) ?_
    obtain ⟨hi, hw⟩ := hw
    refine rdC_21 F hwd hi d_BF_length_30 ?_
    refine lv_isub hx hb d_BF_length_31 ?_
    refine lv_goto (tgt := 36) hx hb d_BF_length_32 (by decide) ?_
    exact hret _ _ _ _ hw hwd _ _ d_BF_length_36

theorem ct_BF_length {l : Launch} {D : va_G} {cI cZ : ClassId} {ad : Nat → Nat} (x1 : Int32) (g : St) (K : Int32 → St → Prop) (h : pc_BF_length x1 g K) : ctCI l y_BF_length b_BF_length 2 1 21 D cI cZ ad [.ref (ad 0), .int x1] g K :=
  enCI (by decide) (Nat.le_of_ble_eq_true rfl) (fun p e s m args below meth c A H0 ls Q F hwd hl hret => wb_BF_length_0 F hret h hwd hl)

set_option maxHeartbeats 4000000 in
set_option maxRecDepth 100000 in
theorem wb_BF_byteAt_0 {K : Int32 → St → Prop} {x1 : Int32} {x2 : Int32} {g : St} (F : fxC D cI cZ p R s m args c b_BF_byteAt 3 R_BF 2 42)
    (hret : rtCI D cI cZ ad p l e R s m args below meth c b_BF_byteAt A H0 Q K)
    (hw : pb_BF_byteAt_0 K x1 x2 g)
    (hwd : wdC D cI cZ ad A H0 g H locs) (hl : lv_has ls 3 [(0, .ref (ad 0)), (1, .int x1), (2, .int x2)]) : W p l e R s m args below meth c H locs 0 0 Q (F0 m 0 ls []) := by
  obtain ⟨hx, hb, hml, hown, hts, hK, hN, hR⟩ := F
  have F : fxC D cI cZ p R s m args c b_BF_byteAt 3 R_BF 2 42 := ⟨hx, hb, hml, hown, hts, hK, hN, hR⟩
  refine lv_iload_n hx hb d_BF_byteAt_0 rfl (lv_at hl 2 rfl) ?_
  refine lv_if_lt (tgt := 35) hx hb d_BF_byteAt_1 (by decide) (fun hc => ?_) (fun hc => ?_)
  · have hw := hw.1 hc
    refine lv_iconst (v := -1) hx hb d_BF_byteAt_35 (by decide) ?_
    exact hret _ _ _ _ hw hwd _ _ d_BF_byteAt_36
  · have hw := hw.2 hc
    refine lv_iload_n hx hb d_BF_byteAt_4 rfl (lv_at hl 2 rfl) ?_
    refine lv_aload_n hx hb d_BF_byteAt_5 rfl (lv_at hl 0 rfl) ?_
    refine lv_iload_n hx hb d_BF_byteAt_6 rfl (lv_at hl 1 rfl) ?_
    refine mcC_BF_109 F hwd (ct_BF_length _ _ _ hw) ⟨Nat.le_trans (by decide) hR.1, Nat.le_trans (by decide) hR.2⟩ hl.1 (Nat.le_of_ble_eq_true rfl) d_BF_byteAt_7 (fun v2 g1 H locs hw hwd => ?_)
    refine lv_icmp_ge (tgt := 35) hx hb d_BF_byteAt_10 (by decide) (fun hc => ?_) (fun hc => ?_)
    · have hw := hw.1 hc
      refine lv_iconst (v := -1) hx hb d_BF_byteAt_35 (by decide) ?_
      exact hret _ _ _ _ hw hwd _ _ d_BF_byteAt_36
    · have hw := hw.2 hc
      refine lv_aload_n hx hb d_BF_byteAt_13 rfl (lv_at hl 0 rfl) ?_
      refine gfC_BF_48 F hwd d_BF_byteAt_14 ?_
      refine gfC_BF_112 F hwd d_BF_byteAt_17 ?_
      refine lv_aload_n hx hb d_BF_byteAt_20 rfl (lv_at hl 0 rfl) ?_
      refine gfC_BF_48 F hwd d_BF_byteAt_21 ?_
      refine gfC_BF_106 F hwd d_BF_byteAt_24 ?_
      refine lv_iload_n hx hb d_BF_byteAt_27 rfl (lv_at hl 1 rfl) ?_
      obtain ⟨hi, hw⟩ := hw
      refine rdC_21 F hwd hi d_BF_byteAt_28 ?_
      refine lv_iload_n hx hb d_BF_byteAt_29 rfl (lv_at hl 2 rfl) ?_
      refine lv_iadd hx hb d_BF_byteAt_30 ?_
      obtain ⟨hi, hw⟩ := hw
      refine rdC_20 F hwd hi d_BF_byteAt_31 ?_
      refine lv_goto (tgt := 36) hx hb d_BF_byteAt_32 (by decide) ?_
      exact hret _ _ _ _ hw hwd _ _ d_BF_byteAt_36

theorem ct_BF_byteAt {l : Launch} {D : va_G} {cI cZ : ClassId} {ad : Nat → Nat} (x1 : Int32) (x2 : Int32) (g : St) (K : Int32 → St → Prop) (h : pc_BF_byteAt x1 x2 g K) : ctCI l y_BF_byteAt b_BF_byteAt 3 2 42 D cI cZ ad [.ref (ad 0), .int x1, .int x2] g K :=
  enCI (by decide) (Nat.le_of_ble_eq_true rfl) (fun p e s m args below meth c A H0 ls Q F hwd hl hret => wb_BF_byteAt_0 F hret h hwd hl)

set_option maxHeartbeats 4000000 in
set_option maxRecDepth 100000 in
theorem wb_BF_classOf_0 {K : Int32 → St → Prop} {x1 : Int32} {g : St} (F : fxC D cI cZ p R s m args c b_BF_classOf 2 R_BF 1 21)
    (hret : rtCI D cI cZ ad p l e R s m args below meth c b_BF_classOf A H0 Q K)
    (hw : pb_BF_classOf_0 K x1 g)
    (hwd : wdC D cI cZ ad A H0 g H locs) (hl : lv_has ls 2 [(0, .ref (ad 0)), (1, .int x1)]) : W p l e R s m args below meth c H locs 0 0 Q (F0 m 0 ls []) := by
  obtain ⟨hx, hb, hml, hown, hts, hK, hN, hR⟩ := F
  have F : fxC D cI cZ p R s m args c b_BF_classOf 2 R_BF 1 21 := ⟨hx, hb, hml, hown, hts, hK, hN, hR⟩
  refine lv_aload_n hx hb d_BF_classOf_0 rfl (lv_at hl 0 rfl) ?_
  refine gfC_BF_48 F hwd d_BF_classOf_1 ?_
  refine lv_iload_n hx hb d_BF_classOf_4 rfl (lv_at hl 1 rfl) ?_
  refine mcC_BF_103 F hwd (ct_Co_isMethod _ _ _ hw) ⟨Nat.le_trans (by decide) hR.1, Nat.le_trans (by decide) hR.2⟩ hl.1 (Nat.le_of_ble_eq_true rfl) d_BF_classOf_5 (fun v2 g1 H locs hw hwd => ?_)
  refine lv_if_eq (tgt := 23) hx hb d_BF_classOf_8 (by decide) (fun hc => ?_) (fun hc => ?_)
  · have hw := hw.1 hc
    refine lv_iconst (v := -1) hx hb d_BF_classOf_23 (by decide) ?_
    exact hret _ _ _ _ hw hwd _ _ d_BF_classOf_24
  · have hw := hw.2 hc
    refine lv_aload_n hx hb d_BF_classOf_11 rfl (lv_at hl 0 rfl) ?_
    refine gfC_BF_48 F hwd d_BF_classOf_12 ?_
    refine gfC_BF_115 F hwd d_BF_classOf_15 ?_
    refine lv_iload_n hx hb d_BF_classOf_18 rfl (lv_at hl 1 rfl) ?_
    obtain ⟨hi, hw⟩ := hw
    refine rdC_22 F hwd hi d_BF_classOf_19 ?_
    refine lv_goto (tgt := 24) hx hb d_BF_classOf_20 (by decide) ?_
    exact hret _ _ _ _ hw hwd _ _ d_BF_classOf_24

theorem ct_BF_classOf {l : Launch} {D : va_G} {cI cZ : ClassId} {ad : Nat → Nat} (x1 : Int32) (g : St) (K : Int32 → St → Prop) (h : pc_BF_classOf x1 g K) : ctCI l y_BF_classOf b_BF_classOf 2 1 21 D cI cZ ad [.ref (ad 0), .int x1] g K :=
  enCI (by decide) (Nat.le_of_ble_eq_true rfl) (fun p e s m args below meth c A H0 ls Q F hwd hl hret => wb_BF_classOf_0 F hret h hwd hl)

set_option maxHeartbeats 4000000 in
set_option maxRecDepth 100000 in
theorem wb_BF_classes_0 {K : Int32 → St → Prop} {g : St} (F : fxC D cI cZ p R s m args c b_BF_classes 1 R_BF 0 0)
    (hret : rtCI D cI cZ ad p l e R s m args below meth c b_BF_classes A H0 Q K)
    (hw : pb_BF_classes_0 K g)
    (hwd : wdC D cI cZ ad A H0 g H locs) (hl : lv_has ls 1 [(0, .ref (ad 0))]) : W p l e R s m args below meth c H locs 0 0 Q (F0 m 0 ls []) := by
  obtain ⟨hx, hb, hml, hown, hts, hK, hN, hR⟩ := F
  have F : fxC D cI cZ p R s m args c b_BF_classes 1 R_BF 0 0 := ⟨hx, hb, hml, hown, hts, hK, hN, hR⟩
  refine lv_aload_n hx hb d_BF_classes_0 rfl (lv_at hl 0 rfl) ?_
  refine gfC_BF_39 F hwd d_BF_classes_1 ?_
  refine gfC_BF_118 F hwd d_BF_classes_4 ?_
  exact hret _ _ _ _ hw hwd _ _ d_BF_classes_7

theorem ct_BF_classes {l : Launch} {D : va_G} {cI cZ : ClassId} {ad : Nat → Nat} (g : St) (K : Int32 → St → Prop) (h : pc_BF_classes g K) : ctCI l y_BF_classes b_BF_classes 1 0 0 D cI cZ ad [.ref (ad 0)] g K :=
  enCI (by decide) (Nat.le_of_ble_eq_true rfl) (fun p e s m args below meth c A H0 ls Q F hwd hl hret => wb_BF_classes_0 F hret h hwd hl)

set_option maxHeartbeats 4000000 in
set_option maxRecDepth 100000 in
theorem wb_Ta_isClass_0 {K : Int32 → St → Prop} {x1 : Int32} {g : St} (F : fxC D cI cZ p R s m args c b_Ta_isClass 2 R_Ta 0 0)
    (hret : rtCZ D cI cZ ad p l e R s m args below meth c b_Ta_isClass A H0 Q K)
    (hw : pb_Ta_isClass_0 K x1 g)
    (hwd : wdC D cI cZ ad A H0 g H locs) (hl : lv_has ls 2 [(0, .ref (ad 15)), (1, .int x1)]) : W p l e R s m args below meth c H locs 0 0 Q (F0 m 0 ls []) := by
  obtain ⟨hx, hb, hml, hown, hts, hK, hN, hR⟩ := F
  have F : fxC D cI cZ p R s m args c b_Ta_isClass 2 R_Ta 0 0 := ⟨hx, hb, hml, hown, hts, hK, hN, hR⟩
  refine lv_iload_n hx hb d_Ta_isClass_0 rfl (lv_at hl 1 rfl) ?_
  refine lv_if_lt (tgt := 16) hx hb d_Ta_isClass_1 (by decide) (fun hc => ?_) (fun hc => ?_)
  · have hw := hw.1 hc
    refine lv_iconst (v := 0) hx hb d_Ta_isClass_16 (by decide) ?_
    exact hret _ _ _ _ hw (by decide) hwd _ _ d_Ta_isClass_17
  · have hw := hw.2 hc
    refine lv_iload_n hx hb d_Ta_isClass_4 rfl (lv_at hl 1 rfl) ?_
    refine lv_aload_n hx hb d_Ta_isClass_5 rfl (lv_at hl 0 rfl) ?_
    refine gfC_Ta_21 F hwd d_Ta_isClass_6 ?_
    refine lv_icmp_ge (tgt := 16) hx hb d_Ta_isClass_9 (by decide) (fun hc => ?_) (fun hc => ?_)
    · have hw := hw.1 hc
      refine lv_iconst (v := 0) hx hb d_Ta_isClass_16 (by decide) ?_
      exact hret _ _ _ _ hw (by decide) hwd _ _ d_Ta_isClass_17
    · have hw := hw.2 hc
      refine lv_iconst (v := 1) hx hb d_Ta_isClass_12 (by decide) ?_
      refine lv_goto (tgt := 17) hx hb d_Ta_isClass_13 (by decide) ?_
      exact hret _ _ _ _ hw (by decide) hwd _ _ d_Ta_isClass_17

theorem ct_Ta_isClass {l : Launch} {D : va_G} {cI cZ : ClassId} {ad : Nat → Nat} (x1 : Int32) (g : St) (K : Int32 → St → Prop) (h : pc_Ta_isClass x1 g K) : ctCZ l y_Ta_isClass b_Ta_isClass 2 0 0 D cI cZ ad [.ref (ad 15), .int x1] g K :=
  enCZ (by decide) (Nat.le_of_ble_eq_true rfl) (fun p e s m args below meth c A H0 ls Q F hwd hl hret => wb_Ta_isClass_0 F hret h hwd hl)

set_option maxHeartbeats 4000000 in
set_option maxRecDepth 100000 in
theorem wb_BF_entries_0 {K : Int32 → St → Prop} {x1 : Int32} {g : St} (F : fxC D cI cZ p R s m args c b_BF_entries 2 R_BF 1 21)
    (hret : rtCI D cI cZ ad p l e R s m args below meth c b_BF_entries A H0 Q K)
    (hw : pb_BF_entries_0 K x1 g)
    (hwd : wdC D cI cZ ad A H0 g H locs) (hl : lv_has ls 2 [(0, .ref (ad 0)), (1, .int x1)]) : W p l e R s m args below meth c H locs 0 0 Q (F0 m 0 ls []) := by
  obtain ⟨hx, hb, hml, hown, hts, hK, hN, hR⟩ := F
  have F : fxC D cI cZ p R s m args c b_BF_entries 2 R_BF 1 21 := ⟨hx, hb, hml, hown, hts, hK, hN, hR⟩
  refine lv_aload_n hx hb d_BF_entries_0 rfl (lv_at hl 0 rfl) ?_
  refine gfC_BF_39 F hwd d_BF_entries_1 ?_
  refine lv_iload_n hx hb d_BF_entries_4 rfl (lv_at hl 1 rfl) ?_
  refine mcC_BF_121 F hwd (ct_Ta_isClass _ _ _ hw) ⟨Nat.le_trans (by decide) hR.1, Nat.le_trans (by decide) hR.2⟩ hl.1 (Nat.le_of_ble_eq_true rfl) d_BF_entries_5 (fun v2 g1 H locs hw hwd => ?_)
  refine lv_if_eq (tgt := 22) hx hb d_BF_entries_8 (by decide) (fun hc => ?_) (fun hc => ?_)
  · have hw := hw.1 hc
    refine lv_iconst (v := -1) hx hb d_BF_entries_22 (by decide) ?_
    exact hret _ _ _ _ hw hwd _ _ d_BF_entries_23
  · have hw := hw.2 hc
    refine lv_aload_n hx hb d_BF_entries_11 rfl (lv_at hl 0 rfl) ?_
    refine gfC_BF_39 F hwd d_BF_entries_12 ?_
    refine lv_iload_n hx hb d_BF_entries_15 rfl (lv_at hl 1 rfl) ?_
    refine mcC_BF_124 F hwd (ct_Ta_sizeOf _ _ _ hw) ⟨Nat.le_trans (by decide) hR.1, Nat.le_trans (by decide) hR.2⟩ hl.1 (Nat.le_of_ble_eq_true rfl) d_BF_entries_16 (fun v4 g3 H locs hw hwd => ?_)
    refine lv_goto (tgt := 23) hx hb d_BF_entries_19 (by decide) ?_
    exact hret _ _ _ _ hw hwd _ _ d_BF_entries_23

theorem ct_BF_entries {l : Launch} {D : va_G} {cI cZ : ClassId} {ad : Nat → Nat} (x1 : Int32) (g : St) (K : Int32 → St → Prop) (h : pc_BF_entries x1 g K) : ctCI l y_BF_entries b_BF_entries 2 1 21 D cI cZ ad [.ref (ad 0), .int x1] g K :=
  enCI (by decide) (Nat.le_of_ble_eq_true rfl) (fun p e s m args below meth c A H0 ls Q F hwd hl hret => wb_BF_entries_0 F hret h hwd hl)

set_option maxHeartbeats 4000000 in
set_option maxRecDepth 100000 in
theorem wb_Ta_holds_0 {K : Int32 → St → Prop} {x1 : Int32} {x2 : Int32} {g : St} (F : fxC D cI cZ p R s m args c b_Ta_holds 3 R_Ta 1 21)
    (hret : rtCZ D cI cZ ad p l e R s m args below meth c b_Ta_holds A H0 Q K)
    (hw : pb_Ta_holds_0 K x1 x2 g)
    (hwd : wdC D cI cZ ad A H0 g H locs) (hl : lv_has ls 3 [(0, .ref (ad 15)), (1, .int x1), (2, .int x2)]) : W p l e R s m args below meth c H locs 0 0 Q (F0 m 0 ls []) := by
  obtain ⟨hx, hb, hml, hown, hts, hK, hN, hR⟩ := F
  have F : fxC D cI cZ p R s m args c b_Ta_holds 3 R_Ta 1 21 := ⟨hx, hb, hml, hown, hts, hK, hN, hR⟩
  refine lv_aload_n hx hb d_Ta_holds_0 rfl (lv_at hl 0 rfl) ?_
  refine lv_iload_n hx hb d_Ta_holds_1 rfl (lv_at hl 1 rfl) ?_
  refine mcC_Ta_25 F hwd (ct_Ta_isClass _ _ _ hw) ⟨Nat.le_trans (by decide) hR.1, Nat.le_trans (by decide) hR.2⟩ hl.1 (Nat.le_of_ble_eq_true rfl) d_Ta_holds_2 (fun v2 g1 H locs hw hwd => ?_)
  refine lv_if_eq (tgt := 25) hx hb d_Ta_holds_5 (by decide) (fun hc => ?_) (fun hc => ?_)
  · have hw := hw.1 hc
    refine lv_iconst (v := 0) hx hb d_Ta_holds_25 (by decide) ?_
    exact hret _ _ _ _ hw (by decide) hwd _ _ d_Ta_holds_26
  · have hw := hw.2 hc
    refine lv_iload_n hx hb d_Ta_holds_8 rfl (lv_at hl 2 rfl) ?_
    refine lv_if_lt (tgt := 25) hx hb d_Ta_holds_9 (by decide) (fun hc => ?_) (fun hc => ?_)
    · have hw := hw.1 hc
      refine lv_iconst (v := 0) hx hb d_Ta_holds_25 (by decide) ?_
      exact hret _ _ _ _ hw (by decide) hwd _ _ d_Ta_holds_26
    · have hw := hw.2 hc
      refine lv_iload_n hx hb d_Ta_holds_12 rfl (lv_at hl 2 rfl) ?_
      refine lv_aload_n hx hb d_Ta_holds_13 rfl (lv_at hl 0 rfl) ?_
      refine lv_iload_n hx hb d_Ta_holds_14 rfl (lv_at hl 1 rfl) ?_
      refine mcC_Ta_29 F hwd (ct_Ta_sizeOf _ _ _ hw) ⟨Nat.le_trans (by decide) hR.1, Nat.le_trans (by decide) hR.2⟩ hl.1 (Nat.le_of_ble_eq_true rfl) d_Ta_holds_15 (fun v4 g3 H locs hw hwd => ?_)
      refine lv_icmp_ge (tgt := 25) hx hb d_Ta_holds_18 (by decide) (fun hc => ?_) (fun hc => ?_)
      · have hw := hw.1 hc
        refine lv_iconst (v := 0) hx hb d_Ta_holds_25 (by decide) ?_
        exact hret _ _ _ _ hw (by decide) hwd _ _ d_Ta_holds_26
      · have hw := hw.2 hc
        refine lv_iconst (v := 1) hx hb d_Ta_holds_21 (by decide) ?_
        refine lv_goto (tgt := 26) hx hb d_Ta_holds_22 (by decide) ?_
        exact hret _ _ _ _ hw (by decide) hwd _ _ d_Ta_holds_26

theorem ct_Ta_holds {l : Launch} {D : va_G} {cI cZ : ClassId} {ad : Nat → Nat} (x1 : Int32) (x2 : Int32) (g : St) (K : Int32 → St → Prop) (h : pc_Ta_holds x1 x2 g K) : ctCZ l y_Ta_holds b_Ta_holds 3 1 21 D cI cZ ad [.ref (ad 15), .int x1, .int x2] g K :=
  enCZ (by decide) (Nat.le_of_ble_eq_true rfl) (fun p e s m args below meth c A H0 ls Q F hwd hl hret => wb_Ta_holds_0 F hret h hwd hl)

set_option maxHeartbeats 4000000 in
set_option maxRecDepth 100000 in
theorem wb_BF_entry_0 {K : Int64 → St → Prop} {x1 : Int32} {x2 : Int32} {g : St} (F : fxC D cI cZ p R s m args c b_BF_entry 4 R_BF 2 43)
    (hret : rtCJ D cI cZ ad p l e R s m args below meth c b_BF_entry A H0 Q K)
    (hw : pb_BF_entry_0 K x1 x2 g)
    (hwd : wdC D cI cZ ad A H0 g H locs) (hl : lv_has ls 4 [(0, .ref (ad 0)), (1, .int x1), (2, .int x2)]) : W p l e R s m args below meth c H locs 0 0 Q (F0 m 0 ls []) := by
  obtain ⟨hx, hb, hml, hown, hts, hK, hN, hR⟩ := F
  have F : fxC D cI cZ p R s m args c b_BF_entry 4 R_BF 2 43 := ⟨hx, hb, hml, hown, hts, hK, hN, hR⟩
  refine lv_aload_n hx hb d_BF_entry_0 rfl (lv_at hl 0 rfl) ?_
  refine gfC_BF_39 F hwd d_BF_entry_1 ?_
  refine lv_iload_n hx hb d_BF_entry_4 rfl (lv_at hl 1 rfl) ?_
  refine lv_iload_n hx hb d_BF_entry_5 rfl (lv_at hl 2 rfl) ?_
  refine mcC_BF_127 F hwd (ct_Ta_holds _ _ _ _ hw) ⟨Nat.le_trans (by decide) hR.1, Nat.le_trans (by decide) hR.2⟩ hl.1 (Nat.le_of_ble_eq_true rfl) d_BF_entry_6 (fun v2 g1 H locs hw hwd => ?_)
  refine lv_if_ne (tgt := 16) hx hb d_BF_entry_9 (by decide) (fun hc => ?_) (fun hc => ?_)
  · have hw := hw.1 hc
    refine lv_aload_n hx hb d_BF_entry_16 rfl (lv_at hl 0 rfl) ?_
    refine gfC_BF_39 F hwd d_BF_entry_17 ?_
    refine gfC_BF_132 F hwd d_BF_entry_20 ?_
    refine lv_iload_n hx hb d_BF_entry_23 rfl (lv_at hl 1 rfl) ?_
    obtain ⟨hi, hw⟩ := hw
    refine rdC_18 F hwd hi d_BF_entry_24 ?_
    refine lv_iload_n hx hb d_BF_entry_25 rfl (lv_at hl 2 rfl) ?_
    refine lv_iadd hx hb d_BF_entry_26 ?_
    refine lv_topi (fun v3 e_v3 => ?_)
    have hw := hw v3 e_v3
    refine lv_istore_n (lv' := [(3, .int v3), (0, .ref (ad 0)), (1, .int x1), (2, .int x2)]) hx hb d_BF_entry_27 rfl hl (by decide) rfl (fun ls hl => ?_)
    refine lv_aload_n hx hb d_BF_entry_28 rfl (lv_at hl 1 rfl) ?_
    refine gfC_BF_39 F hwd d_BF_entry_29 ?_
    refine gfC_BF_133 F hwd d_BF_entry_32 ?_
    refine lv_iload_n hx hb d_BF_entry_35 rfl (lv_at hl 0 rfl) ?_
    obtain ⟨hi, hw⟩ := hw
    refine rdC_16 F hwd hi d_BF_entry_36 ?_
    refine lv_i2l hx hb d_BF_entry_37 rfl ?_
    refine lv_bipush (v := 32) hx hb d_BF_entry_38 (by decide) ?_
    refine lv_lshl hx hb d_BF_entry_40 rfl ?_
    refine lv_aload_n hx hb d_BF_entry_41 rfl (lv_at hl 1 rfl) ?_
    refine gfC_BF_39 F hwd d_BF_entry_42 ?_
    refine gfC_BF_136 F hwd d_BF_entry_45 ?_
    refine lv_iload_n hx hb d_BF_entry_48 rfl (lv_at hl 0 rfl) ?_
    obtain ⟨hi, hw⟩ := hw
    refine rdC_17 F hwd hi d_BF_entry_49 ?_
    refine lv_i2l hx hb d_BF_entry_50 rfl ?_
    refine lv_ldc2 (v := 4294967295) hx hb hown (hts _ kC_2) d_BF_entry_51 ?_
    refine lv_land hx hb d_BF_entry_54 ?_
    refine lv_ladd hx hb d_BF_entry_55 ?_
    exact hret _ _ _ _ hw hwd _ _ d_BF_entry_56
  · have hw := hw.2 hc
    refine lv_ldc2 (v := -1) hx hb hown (hts _ kC_3) d_BF_entry_12 ?_
    exact hret _ _ _ _ hw hwd _ _ d_BF_entry_15

theorem ct_BF_entry {l : Launch} {D : va_G} {cI cZ : ClassId} {ad : Nat → Nat} (x1 : Int32) (x2 : Int32) (g : St) (K : Int64 → St → Prop) (h : pc_BF_entry x1 x2 g K) : ctCJ l y_BF_entry b_BF_entry 4 2 43 D cI cZ ad [.ref (ad 0), .int x1, .int x2] g K :=
  enCJ (by decide) (Nat.le_of_ble_eq_true rfl) (fun p e s m args below meth c A H0 ls Q F hwd hl hret => wb_BF_entry_0 F hret h hwd hl)

set_option maxHeartbeats 4000000 in
set_option maxRecDepth 100000 in
theorem wb_BF_set_0 {K : Int32 → St → Prop} {x1 : Int32} {x2 : Int32} {g : St} (F : fxC D cI cZ p R s m args c b_BF_set 3 R_BF 1 20)
    (hret : rtCZ D cI cZ ad p l e R s m args below meth c b_BF_set A H0 Q K)
    (hw : pb_BF_set_0 K x1 x2 g)
    (hwd : wdC D cI cZ ad A H0 g H locs) (hl : lv_has ls 3 [(0, .ref (ad 0)), (1, .int x1), (2, .int x2)]) : W p l e R s m args below meth c H locs 0 0 Q (F0 m 0 ls []) := by
  obtain ⟨hx, hb, hml, hown, hts, hK, hN, hR⟩ := F
  have F : fxC D cI cZ p R s m args c b_BF_set 3 R_BF 1 20 := ⟨hx, hb, hml, hown, hts, hK, hN, hR⟩
  refine lv_iload_n hx hb d_BF_set_0 rfl (lv_at hl 1 rfl) ?_
  refine mcC_BF_65 F hwd (ct_BF_isFeature _ _ _ hw) ⟨Nat.le_trans (by decide) hR.1, Nat.le_trans (by decide) hR.2⟩ hl.1 (Nat.le_of_ble_eq_true rfl) d_BF_set_1 (fun v2 g1 H locs hw hwd => ?_)
  refine lv_if_ne (tgt := 9) hx hb d_BF_set_4 (by decide) (fun hc => ?_) (fun hc => ?_)
  · have hw := hw.1 hc
    refine lv_aload_n hx hb d_BF_set_9 rfl (lv_at hl 0 rfl) ?_
    refine gfC_BF_9 F hwd d_BF_set_10 ?_
    refine lv_iload_n hx hb d_BF_set_13 rfl (lv_at hl 1 rfl) ?_
    refine lv_iload_n hx hb d_BF_set_14 rfl (lv_at hl 2 rfl) ?_
    obtain ⟨hi, hw⟩ := hw
    refine wrC_1 F hwd hi d_BF_set_15 (fun H locs hwd => ?_)
    obtain ⟨g3, e_g3⟩ : ∃ z : St, z = ar g1 1 x1 x2 := ⟨_, rfl⟩
    have hwd : wdC D cI cZ ad A H0 g3 H locs := by rw [e_g3]; exact hwd
    have hw := hw g3 e_g3
    refine lv_iconst (v := 1) hx hb d_BF_set_16 (by decide) ?_
    exact hret _ _ _ _ hw (by decide) hwd _ _ d_BF_set_17
  · have hw := hw.2 hc
    refine lv_iconst (v := 0) hx hb d_BF_set_7 (by decide) ?_
    exact hret _ _ _ _ hw (by decide) hwd _ _ d_BF_set_8

theorem ct_BF_set {l : Launch} {D : va_G} {cI cZ : ClassId} {ad : Nat → Nat} (x1 : Int32) (x2 : Int32) (g : St) (K : Int32 → St → Prop) (h : pc_BF_set x1 x2 g K) : ctCZ l y_BF_set b_BF_set 3 1 20 D cI cZ ad [.ref (ad 0), .int x1, .int x2] g K :=
  enCZ (by decide) (Nat.le_of_ble_eq_true rfl) (fun p e s m args below meth c A H0 ls Q F hwd hl hret => wb_BF_set_0 F hret h hwd hl)

set_option maxHeartbeats 4000000 in
set_option maxRecDepth 100000 in
theorem wb_Co_byteOfAll_21 {K : Int32 → St → Prop} {x1 : Int32} {g : St} (F : fxC D cI cZ p R s m args c b_Co_byteOfAll 2 R_Co 0 0)
    (hret : rtCI D cI cZ ad p l e R s m args below meth c b_Co_byteOfAll A H0 Q K)
    (hw : pb_Co_byteOfAll_21 K x1 g)
    (hwd : wdC D cI cZ ad A H0 g H locs) (hl : lv_has ls 2 [(0, .ref (ad 19)), (1, .int x1)]) : W p l e R s m args below meth c H locs 0 0 Q (F0 m 21 ls []) := by
  obtain ⟨hx, hb, hml, hown, hts, hK, hN, hR⟩ := F
  have F : fxC D cI cZ p R s m args c b_Co_byteOfAll 2 R_Co 0 0 := ⟨hx, hb, hml, hown, hts, hK, hN, hR⟩
  refine lv_iconst (v := 3) hx hb d_Co_byteOfAll_21 (by decide) ?_
  exact hret _ _ _ _ hw hwd _ _ d_Co_byteOfAll_22

set_option maxHeartbeats 4000000 in
set_option maxRecDepth 100000 in
theorem wb_Co_byteOfAll_0 {K : Int32 → St → Prop} {x1 : Int32} {g : St} (F : fxC D cI cZ p R s m args c b_Co_byteOfAll 2 R_Co 0 0)
    (hret : rtCI D cI cZ ad p l e R s m args below meth c b_Co_byteOfAll A H0 Q K)
    (hw : pb_Co_byteOfAll_0 K x1 g)
    (hwd : wdC D cI cZ ad A H0 g H locs) (hl : lv_has ls 2 [(0, .ref (ad 19)), (1, .int x1)]) : W p l e R s m args below meth c H locs 0 0 Q (F0 m 0 ls []) := by
  obtain ⟨hx, hb, hml, hown, hts, hK, hN, hR⟩ := F
  have F : fxC D cI cZ p R s m args c b_Co_byteOfAll 2 R_Co 0 0 := ⟨hx, hb, hml, hown, hts, hK, hN, hR⟩
  refine lv_iload_n hx hb d_Co_byteOfAll_0 rfl (lv_at hl 1 rfl) ?_
  refine lv_if_lt (tgt := 21) hx hb d_Co_byteOfAll_1 (by decide) (fun hc => ?_) (fun hc => ?_)
  · have hw := hw.1 hc
    exact wb_Co_byteOfAll_21 F hret hw hwd (lv_sub hl [0, 1] rfl)
  · have hw := hw.2 hc
    refine lv_iload_n hx hb d_Co_byteOfAll_4 rfl (lv_at hl 1 rfl) ?_
    refine lv_aload_n hx hb d_Co_byteOfAll_5 rfl (lv_at hl 0 rfl) ?_
    refine gfC_Co_40 F hwd d_Co_byteOfAll_6 ?_
    refine lv_icmp_ge (tgt := 21) hx hb d_Co_byteOfAll_9 (by decide) (fun hc => ?_) (fun hc => ?_)
    · have hw := hw.1 hc
      exact wb_Co_byteOfAll_21 F hret hw hwd (lv_sub hl [0, 1] rfl)
    · have hw := hw.2 hc
      refine lv_aload_n hx hb d_Co_byteOfAll_12 rfl (lv_at hl 0 rfl) ?_
      refine gfC_Co_9 F hwd d_Co_byteOfAll_13 ?_
      refine lv_iload_n hx hb d_Co_byteOfAll_16 rfl (lv_at hl 1 rfl) ?_
      obtain ⟨hi, hw⟩ := hw
      refine rdC_20 F hwd hi d_Co_byteOfAll_17 ?_
      refine lv_goto (tgt := 22) hx hb d_Co_byteOfAll_18 (by decide) ?_
      exact hret _ _ _ _ hw hwd _ _ d_Co_byteOfAll_22

theorem ct_Co_byteOfAll {l : Launch} {D : va_G} {cI cZ : ClassId} {ad : Nat → Nat} (x1 : Int32) (g : St) (K : Int32 → St → Prop) (h : pc_Co_byteOfAll x1 g K) : ctCI l y_Co_byteOfAll b_Co_byteOfAll 2 0 0 D cI cZ ad [.ref (ad 19), .int x1] g K :=
  enCI (by decide) (Nat.le_of_ble_eq_true rfl) (fun p e s m args below meth c A H0 ls Q F hwd hl hret => wb_Co_byteOfAll_0 F hret h hwd hl)
end WALKC2
