section WALKM2
variable {p : Program} {l : Launch} {e : Env} {R : Room} {s : State} {m : MethodId} {args : Array Value} {below : List Frame} {meth : Method} {c : Code} {H : Heap} {locs : List Loc} {Q : State → Prop}
variable {D : va_G} {cI cZ : ClassId} {ad : Nat → Nat} {A : Nat → Prop} {H0 : Heap} {ls : Array Slot}
set_option maxHeartbeats 4000000 in
set_option maxRecDepth 100000 in
theorem wb_Mo_writeAll_148 {K : St → Prop} {P17 : Int32 → Int32 → St → Prop} {x1 : Int32} {x2 : Int32} {x3 : Int32} {x4 : Int32} {g : St} (F : fxM D cI cZ p R s m args c b_Mo_writeAll 5 R_Mo 3 75)
    (hret : rtMV D cI cZ ad p l e R s m args below meth c b_Mo_writeAll A H0 Q K) (hp17 : ∀ (x1 : Int32) (x2 : Int32) (g : St) (H : Heap) (locs : List Loc) (ls : Array Slot), P17 x1 x2 g → wdM D cI cZ ad A H0 g H locs → lv_has ls 5 [(0, .ref (ad 0)), (1, .int x1), (2, .int x2)] → W p l e R s m args below meth c H locs 0 0 Q (F0 m 17 ls []))
    (hw : pb_Mo_writeAll_148 K P17 x1 x2 x3 x4 g)
    (hwd : wdM D cI cZ ad A H0 g H locs) (hl : lv_has ls 5 [(0, .ref (ad 0)), (1, .int x1), (2, .int x2), (3, .int x3), (4, .int x4)]) : W p l e R s m args below meth c H locs 0 0 Q (F0 m 148 ls []) := by
  obtain ⟨hx, hb, hml, hown, hts, hK, hN, hR⟩ := F
  have F : fxM D cI cZ p R s m args c b_Mo_writeAll 5 R_Mo 3 75 := ⟨hx, hb, hml, hown, hts, hK, hN, hR⟩
  refine lv_aload_n hx hb d_Mo_writeAll_148 rfl (lv_at hl 0 rfl) ?_
  refine gfM_Mo_53 F hwd d_Mo_writeAll_149 ?_
  refine lv_iload_n hx hb d_Mo_writeAll_152 rfl (lv_at hl 2 rfl) ?_
  refine lv_aload_n hx hb d_Mo_writeAll_153 rfl (lv_at hl 0 rfl) ?_
  refine gfM_Mo_129 F hwd d_Mo_writeAll_154 ?_
  refine lv_iconst (v := 1) hx hb d_Mo_writeAll_157 (by decide) ?_
  refine lv_isub hx hb d_Mo_writeAll_158 ?_
  obtain ⟨hi, hw⟩ := hw
  refine wrM_15 F hwd hi d_Mo_writeAll_159 (fun H locs hwd => ?_)
  obtain ⟨g1, e_g1⟩ : ∃ z : St, z = ar g 15 x2 ((g 105 0) - (1 : Int32)) := ⟨_, rfl⟩
  have hwd : wdM D cI cZ ad A H0 g1 H locs := by rw [e_g1]; exact hwd
  have hw := hw g1 e_g1
  obtain ⟨v2, e_v2⟩ : ∃ z, z = x2 + (1 : Int32) := ⟨_, rfl⟩
  have hw := hw v2 e_v2
  refine lv_iinc (k := 2) (lv' := [(2, .int v2), (0, .ref (ad 0)), (1, .int x1), (3, .int x3), (4, .int x4)]) hx hb d_Mo_writeAll_160 hl rfl e_v2.symm (by decide) rfl (fun ls hl => ?_)
  refine lv_goto (tgt := 17) hx hb d_Mo_writeAll_163 (by decide) ?_
  exact hp17 _ _ _ H locs ls hw hwd (lv_sub hl [1, 2, 0] rfl)

set_option maxHeartbeats 4000000 in
set_option maxRecDepth 100000 in
theorem wb_Mo_writeAll_102 {K : St → Prop} {P17 : Int32 → Int32 → St → Prop} {x1 : Int32} {x2 : Int32} {x3 : Int32} {x4 : Int32} {g : St} (F : fxM D cI cZ p R s m args c b_Mo_writeAll 5 R_Mo 3 75)
    (hret : rtMV D cI cZ ad p l e R s m args below meth c b_Mo_writeAll A H0 Q K) (hp17 : ∀ (x1 : Int32) (x2 : Int32) (g : St) (H : Heap) (locs : List Loc) (ls : Array Slot), P17 x1 x2 g → wdM D cI cZ ad A H0 g H locs → lv_has ls 5 [(0, .ref (ad 0)), (1, .int x1), (2, .int x2)] → W p l e R s m args below meth c H locs 0 0 Q (F0 m 17 ls []))
    (hw : pb_Mo_writeAll_102 K P17 x1 x2 x3 x4 g)
    (hwd : wdM D cI cZ ad A H0 g H locs) (hl : lv_has ls 5 [(0, .ref (ad 0)), (1, .int x1), (2, .int x2), (3, .int x3), (4, .int x4)]) : W p l e R s m args below meth c H locs 0 0 Q (F0 m 102 ls []) := by
  obtain ⟨hx, hb, hml, hown, hts, hK, hN, hR⟩ := F
  have F : fxM D cI cZ p R s m args c b_Mo_writeAll 5 R_Mo 3 75 := ⟨hx, hb, hml, hown, hts, hK, hN, hR⟩
  refine lv_iload hx hb d_Mo_writeAll_102 (lv_at hl 4 rfl) ?_
  refine lv_if_ne (tgt := 148) hx hb d_Mo_writeAll_104 (by decide) (fun hc => ?_) (fun hc => ?_)
  · have hw := hw.1 hc
    exact wb_Mo_writeAll_148 F hret hp17 hw hwd (lv_sub hl [0, 1, 2, 3, 4] rfl)
  · have hw := hw.2 hc
    refine lv_aload_n hx hb d_Mo_writeAll_107 rfl (lv_at hl 0 rfl) ?_
    refine lv_aload_n hx hb d_Mo_writeAll_108 rfl (lv_at hl 0 rfl) ?_
    refine gfM_Mo_50 F hwd d_Mo_writeAll_109 ?_
    refine lv_iload_n hx hb d_Mo_writeAll_112 rfl (lv_at hl 2 rfl) ?_
    obtain ⟨hi, hw⟩ := hw
    refine rdM_14 F hwd hi d_Mo_writeAll_113 ?_
    refine pfM_Mo_112 F hwd d_Mo_writeAll_114 (fun H locs hwd => ?_)
    obtain ⟨g1, e_g1⟩ : ∃ z : St, z = sc g 104 (g 14 (x2).toNatClampNeg) := ⟨_, rfl⟩
    have hwd : wdM D cI cZ ad A H0 g1 H locs := by rw [e_g1]; exact hwd
    have hw := hw g1 e_g1
    refine lv_aload_n hx hb d_Mo_writeAll_117 rfl (lv_at hl 0 rfl) ?_
    refine lv_iload_n hx hb d_Mo_writeAll_118 rfl (lv_at hl 3 rfl) ?_
    refine pfM_Mo_115 F hwd d_Mo_writeAll_119 (fun H locs hwd => ?_)
    obtain ⟨g2, e_g2⟩ : ∃ z : St, z = sc g1 106 x3 := ⟨_, rfl⟩
    have hwd : wdM D cI cZ ad A H0 g2 H locs := by rw [e_g2]; exact hwd
    have hw := hw g2 e_g2
    refine lv_aload_n hx hb d_Mo_writeAll_122 rfl (lv_at hl 0 rfl) ?_
    refine gfM_Mo_62 F hwd d_Mo_writeAll_123 ?_
    refine lv_aload_n hx hb d_Mo_writeAll_126 rfl (lv_at hl 0 rfl) ?_
    refine gfM_Mo_129 F hwd d_Mo_writeAll_127 ?_
    refine lv_iload_n hx hb d_Mo_writeAll_130 rfl (lv_at hl 3 rfl) ?_
    obtain ⟨hi, hw⟩ := hw
    refine wrM_18 F hwd hi d_Mo_writeAll_131 (fun H locs hwd => ?_)
    obtain ⟨g3, e_g3⟩ : ∃ z : St, z = ar g2 18 (g2 105 0) x3 := ⟨_, rfl⟩
    have hwd : wdM D cI cZ ad A H0 g3 H locs := by rw [e_g3]; exact hwd
    have hw := hw g3 e_g3
    refine lv_aload_n hx hb d_Mo_writeAll_132 rfl (lv_at hl 0 rfl) ?_
    refine lv_dup hx hb d_Mo_writeAll_133 rfl ?_
    refine gfM_Mo_129 F hwd d_Mo_writeAll_134 ?_
    refine lv_iconst (v := 1) hx hb d_Mo_writeAll_137 (by decide) ?_
    refine lv_iadd hx hb d_Mo_writeAll_138 ?_
    refine pfM_Mo_129 F hwd d_Mo_writeAll_139 (fun H locs hwd => ?_)
    obtain ⟨g4, e_g4⟩ : ∃ z : St, z = sc g3 105 ((g3 105 0) + (1 : Int32)) := ⟨_, rfl⟩
    have hwd : wdM D cI cZ ad A H0 g4 H locs := by rw [e_g4]; exact hwd
    have hw := hw g4 e_g4
    refine lv_aload_n hx hb d_Mo_writeAll_142 rfl (lv_at hl 0 rfl) ?_
    refine lv_iload_n hx hb d_Mo_writeAll_143 rfl (lv_at hl 2 rfl) ?_
    refine lv_iload_n hx hb d_Mo_writeAll_144 rfl (lv_at hl 3 rfl) ?_
    refine mcM_Mo_132 F hwd (ct_Mo_write _ _ _ _ hw) ⟨Nat.le_trans (by decide) hR.1, Nat.le_trans (by decide) hR.2⟩ hl.1 (Nat.le_of_ble_eq_true rfl) d_Mo_writeAll_145 (fun g5 H locs hw hwd => ?_)
    exact wb_Mo_writeAll_148 F hret hp17 hw hwd (lv_sub hl [0, 1, 2, 3, 4] rfl)

set_option maxHeartbeats 4000000 in
set_option maxRecDepth 100000 in
theorem wb_Mo_writeAll_100 {K : St → Prop} {P17 : Int32 → Int32 → St → Prop} {x1 : Int32} {x2 : Int32} {x3 : Int32} {x4 : Int32} {t0 : Int32} {g : St} (F : fxM D cI cZ p R s m args c b_Mo_writeAll 5 R_Mo 3 75)
    (hret : rtMV D cI cZ ad p l e R s m args below meth c b_Mo_writeAll A H0 Q K) (hp17 : ∀ (x1 : Int32) (x2 : Int32) (g : St) (H : Heap) (locs : List Loc) (ls : Array Slot), P17 x1 x2 g → wdM D cI cZ ad A H0 g H locs → lv_has ls 5 [(0, .ref (ad 0)), (1, .int x1), (2, .int x2)] → W p l e R s m args below meth c H locs 0 0 Q (F0 m 17 ls []))
    (hw : pb_Mo_writeAll_100 K P17 x1 x2 x3 x4 t0 g)
    (hwd : wdM D cI cZ ad A H0 g H locs) (hl : lv_has ls 5 [(0, .ref (ad 0)), (1, .int x1), (2, .int x2), (3, .int x3), (4, .int x4)]) : W p l e R s m args below meth c H locs 0 0 Q (F0 m 100 ls [.int t0]) := by
  obtain ⟨hx, hb, hml, hown, hts, hK, hN, hR⟩ := F
  have F : fxM D cI cZ p R s m args c b_Mo_writeAll 5 R_Mo 3 75 := ⟨hx, hb, hml, hown, hts, hK, hN, hR⟩
  refine lv_topi (fun v1 e_v1 => ?_)
  have hw := hw v1 e_v1
  refine lv_istore (lv' := [(4, .int v1), (0, .ref (ad 0)), (1, .int x1), (2, .int x2), (3, .int x3)]) hx hb d_Mo_writeAll_100 hl (by decide) rfl (fun ls hl => ?_)
  exact wb_Mo_writeAll_102 F hret hp17 hw hwd (lv_sub hl [1, 2, 3, 4, 0] rfl)

set_option maxHeartbeats 4000000 in
set_option maxRecDepth 100000 in
theorem wb_Mo_writeAll_52 {K : St → Prop} {P17 : Int32 → Int32 → St → Prop} {x1 : Int32} {x2 : Int32} {x3 : Int32} {t0 : Int32} {g : St} (F : fxM D cI cZ p R s m args c b_Mo_writeAll 5 R_Mo 3 75)
    (hret : rtMV D cI cZ ad p l e R s m args below meth c b_Mo_writeAll A H0 Q K) (hp17 : ∀ (x1 : Int32) (x2 : Int32) (g : St) (H : Heap) (locs : List Loc) (ls : Array Slot), P17 x1 x2 g → wdM D cI cZ ad A H0 g H locs → lv_has ls 5 [(0, .ref (ad 0)), (1, .int x1), (2, .int x2)] → W p l e R s m args below meth c H locs 0 0 Q (F0 m 17 ls []))
    (hw : pb_Mo_writeAll_52 K P17 x1 x2 x3 t0 g)
    (hwd : wdM D cI cZ ad A H0 g H locs) (hl : lv_has ls 5 [(0, .ref (ad 0)), (1, .int x1), (2, .int x2), (3, .int x3)]) : W p l e R s m args below meth c H locs 0 0 Q (F0 m 52 ls [.int t0]) := by
  obtain ⟨hx, hb, hml, hown, hts, hK, hN, hR⟩ := F
  have F : fxM D cI cZ p R s m args c b_Mo_writeAll 5 R_Mo 3 75 := ⟨hx, hb, hml, hown, hts, hK, hN, hR⟩
  refine lv_topi (fun v1 e_v1 => ?_)
  have hw := hw v1 e_v1
  refine lv_istore (lv' := [(4, .int v1), (0, .ref (ad 0)), (1, .int x1), (2, .int x2), (3, .int x3)]) hx hb d_Mo_writeAll_52 hl (by decide) rfl (fun ls hl => ?_)
  refine lv_iload hx hb d_Mo_writeAll_54 (lv_at hl 0 rfl) ?_
  refine lv_if_eq (tgt := 102) hx hb d_Mo_writeAll_56 (by decide) (fun hc => ?_) (fun hc => ?_)
  · have hw := hw.1 hc
    exact wb_Mo_writeAll_102 F hret hp17 hw hwd (lv_sub hl [1, 2, 3, 4, 0] rfl)
  · have hw := hw.2 hc
    refine lv_aload_n hx hb d_Mo_writeAll_59 rfl (lv_at hl 1 rfl) ?_
    refine lv_iload_n hx hb d_Mo_writeAll_60 rfl (lv_at hl 3 rfl) ?_
    refine lv_aload_n hx hb d_Mo_writeAll_61 rfl (lv_at hl 1 rfl) ?_
    refine gfM_Mo_62 F hwd d_Mo_writeAll_62 ?_
    refine lv_aload_n hx hb d_Mo_writeAll_65 rfl (lv_at hl 1 rfl) ?_
    refine gfM_Mo_129 F hwd d_Mo_writeAll_66 ?_
    refine lv_iconst (v := 1) hx hb d_Mo_writeAll_69 (by decide) ?_
    refine lv_isub hx hb d_Mo_writeAll_70 ?_
    obtain ⟨hi, hw⟩ := hw
    refine rdM_18 F hwd hi d_Mo_writeAll_71 ?_
    refine mcM_Mo_132 F hwd (ct_Mo_write _ _ _ _ hw) ⟨Nat.le_trans (by decide) hR.1, Nat.le_trans (by decide) hR.2⟩ hl.1 (Nat.le_of_ble_eq_true rfl) d_Mo_writeAll_72 (fun g2 H locs hw hwd => ?_)
    refine lv_aload_n hx hb d_Mo_writeAll_75 rfl (lv_at hl 1 rfl) ?_
    refine gfM_Mo_115 F hwd d_Mo_writeAll_76 ?_
    refine lv_aload_n hx hb d_Mo_writeAll_79 rfl (lv_at hl 1 rfl) ?_
    refine gfM_Mo_62 F hwd d_Mo_writeAll_80 ?_
    refine lv_aload_n hx hb d_Mo_writeAll_83 rfl (lv_at hl 1 rfl) ?_
    refine gfM_Mo_129 F hwd d_Mo_writeAll_84 ?_
    refine lv_iconst (v := 1) hx hb d_Mo_writeAll_87 (by decide) ?_
    refine lv_isub hx hb d_Mo_writeAll_88 ?_
    obtain ⟨hi, hw⟩ := hw
    refine rdM_18 F hwd hi d_Mo_writeAll_89 ?_
    refine lv_isub hx hb d_Mo_writeAll_90 ?_
    refine lv_iload_n hx hb d_Mo_writeAll_91 rfl (lv_at hl 2 rfl) ?_
    refine lv_icmp_gt (tgt := 99) hx hb d_Mo_writeAll_92 (by decide) (fun hc => ?_) (fun hc => ?_)
    · have hw := hw.1 hc
      refine lv_iconst (v := 0) hx hb d_Mo_writeAll_99 (by decide) ?_
      exact wb_Mo_writeAll_100 F hret hp17 hw hwd (lv_sub hl [1, 2, 3, 4, 0] rfl)
    · have hw := hw.2 hc
      refine lv_iconst (v := 1) hx hb d_Mo_writeAll_95 (by decide) ?_
      refine lv_goto (tgt := 100) hx hb d_Mo_writeAll_96 (by decide) ?_
      exact wb_Mo_writeAll_100 F hret hp17 hw hwd (lv_sub hl [1, 2, 3, 4, 0] rfl)

set_option maxHeartbeats 4000000 in
set_option maxRecDepth 100000 in
theorem wb_Mo_writeAll_17 {K : St → Prop} {P17 : Int32 → Int32 → St → Prop} {x1 : Int32} {x2 : Int32} {g : St} (F : fxM D cI cZ p R s m args c b_Mo_writeAll 5 R_Mo 3 75)
    (hret : rtMV D cI cZ ad p l e R s m args below meth c b_Mo_writeAll A H0 Q K) (hp17 : ∀ (x1 : Int32) (x2 : Int32) (g : St) (H : Heap) (locs : List Loc) (ls : Array Slot), P17 x1 x2 g → wdM D cI cZ ad A H0 g H locs → lv_has ls 5 [(0, .ref (ad 0)), (1, .int x1), (2, .int x2)] → W p l e R s m args below meth c H locs 0 0 Q (F0 m 17 ls []))
    (hw : pb_Mo_writeAll_17 K P17 x1 x2 g)
    (hwd : wdM D cI cZ ad A H0 g H locs) (hl : lv_has ls 5 [(0, .ref (ad 0)), (1, .int x1), (2, .int x2)]) : W p l e R s m args below meth c H locs 0 0 Q (F0 m 17 ls []) := by
  obtain ⟨hx, hb, hml, hown, hts, hK, hN, hR⟩ := F
  have F : fxM D cI cZ p R s m args c b_Mo_writeAll 5 R_Mo 3 75 := ⟨hx, hb, hml, hown, hts, hK, hN, hR⟩
  refine lv_iload_n hx hb d_Mo_writeAll_17 rfl (lv_at hl 2 rfl) ?_
  refine lv_aload_n hx hb d_Mo_writeAll_18 rfl (lv_at hl 0 rfl) ?_
  refine gfM_Mo_95 F hwd d_Mo_writeAll_19 ?_
  refine lv_icmp_ge (tgt := 166) hx hb d_Mo_writeAll_22 (by decide) (fun hc => ?_) (fun hc => ?_)
  · have hw := hw.1 hc
    refine lv_aload_n hx hb d_Mo_writeAll_166 rfl (lv_at hl 0 rfl) ?_
    refine gfM_Mo_50 F hwd d_Mo_writeAll_167 ?_
    refine lv_aload_n hx hb d_Mo_writeAll_170 rfl (lv_at hl 0 rfl) ?_
    refine gfM_Mo_95 F hwd d_Mo_writeAll_171 ?_
    refine lv_aload_n hx hb d_Mo_writeAll_174 rfl (lv_at hl 0 rfl) ?_
    refine gfM_Mo_112 F hwd d_Mo_writeAll_175 ?_
    obtain ⟨hi, hw⟩ := hw
    refine wrM_14 F hwd hi d_Mo_writeAll_178 (fun H locs hwd => ?_)
    obtain ⟨g1, e_g1⟩ : ∃ z : St, z = ar g 14 (g 103 0) (g 104 0) := ⟨_, rfl⟩
    have hwd : wdM D cI cZ ad A H0 g1 H locs := by rw [e_g1]; exact hwd
    have hw := hw g1 e_g1
    refine lv_aload_n hx hb d_Mo_writeAll_179 rfl (lv_at hl 0 rfl) ?_
    refine gfM_Mo_62 F hwd d_Mo_writeAll_180 ?_
    refine lv_aload_n hx hb d_Mo_writeAll_183 rfl (lv_at hl 0 rfl) ?_
    refine gfM_Mo_129 F hwd d_Mo_writeAll_184 ?_
    refine lv_aload_n hx hb d_Mo_writeAll_187 rfl (lv_at hl 0 rfl) ?_
    refine gfM_Mo_115 F hwd d_Mo_writeAll_188 ?_
    obtain ⟨hi, hw⟩ := hw
    refine wrM_18 F hwd hi d_Mo_writeAll_191 (fun H locs hwd => ?_)
    obtain ⟨g2, e_g2⟩ : ∃ z : St, z = ar g1 18 (g1 105 0) (g1 106 0) := ⟨_, rfl⟩
    have hwd : wdM D cI cZ ad A H0 g2 H locs := by rw [e_g2]; exact hwd
    have hw := hw g2 e_g2
    exact hret _ _ _ hw hwd _ _ d_Mo_writeAll_192
  · have hw := hw.2 hc
    refine lv_aload_n hx hb d_Mo_writeAll_25 rfl (lv_at hl 0 rfl) ?_
    refine gfM_Mo_50 F hwd d_Mo_writeAll_26 ?_
    refine lv_iload_n hx hb d_Mo_writeAll_29 rfl (lv_at hl 2 rfl) ?_
    refine lv_aload_n hx hb d_Mo_writeAll_30 rfl (lv_at hl 0 rfl) ?_
    refine gfM_Mo_112 F hwd d_Mo_writeAll_31 ?_
    obtain ⟨hi, hw⟩ := hw
    refine wrM_14 F hwd hi d_Mo_writeAll_34 (fun H locs hwd => ?_)
    obtain ⟨g3, e_g3⟩ : ∃ z : St, z = ar g 14 x2 (g 104 0) := ⟨_, rfl⟩
    have hwd : wdM D cI cZ ad A H0 g3 H locs := by rw [e_g3]; exact hwd
    have hw := hw g3 e_g3
    refine lv_aload_n hx hb d_Mo_writeAll_35 rfl (lv_at hl 0 rfl) ?_
    refine gfM_Mo_115 F hwd d_Mo_writeAll_36 ?_
    refine lv_topi (fun v4 e_v4 => ?_)
    have hw := hw v4 e_v4
    refine lv_istore_n (lv' := [(3, .int v4), (0, .ref (ad 0)), (1, .int x1), (2, .int x2)]) hx hb d_Mo_writeAll_39 rfl hl (by decide) rfl (fun ls hl => ?_)
    refine lv_aload_n hx hb d_Mo_writeAll_40 rfl (lv_at hl 1 rfl) ?_
    refine gfM_Mo_129 F hwd d_Mo_writeAll_41 ?_
    refine lv_if_le (tgt := 51) hx hb d_Mo_writeAll_44 (by decide) (fun hc => ?_) (fun hc => ?_)
    · have hw := hw.1 hc
      refine lv_iconst (v := 0) hx hb d_Mo_writeAll_51 (by decide) ?_
      exact wb_Mo_writeAll_52 F hret hp17 hw hwd (lv_sub hl [1, 2, 3, 0] rfl)
    · have hw := hw.2 hc
      refine lv_iconst (v := 1) hx hb d_Mo_writeAll_47 (by decide) ?_
      refine lv_goto (tgt := 52) hx hb d_Mo_writeAll_48 (by decide) ?_
      exact wb_Mo_writeAll_52 F hret hp17 hw hwd (lv_sub hl [1, 2, 3, 0] rfl)

set_option maxHeartbeats 4000000 in
theorem wl_Mo_writeAll_17 {K : St → Prop} {x1 : Int32} {x2 : Int32} {g : St} (F : fxM D cI cZ p R s m args c b_Mo_writeAll 5 R_Mo 3 75)
    (hret : rtMV D cI cZ ad p l e R s m args below meth c b_Mo_writeAll A H0 Q K)
    (hw : pl_Mo_writeAll_17 K x1 x2 g)
    (hwd : wdM D cI cZ ad A H0 g H locs) (hl : lv_has ls 5 [(0, .ref (ad 0)), (1, .int x1), (2, .int x2)]) : W p l e R s m args below meth c H locs 0 0 Q (F0 m 17 ls []) := by
  refine hw (fun x1 x2 g => ∀ (H : Heap) (locs : List Loc) (ls : Array Slot), wdM D cI cZ ad A H0 g H locs → lv_has ls 5 [(0, .ref (ad 0)), (1, .int x1), (2, .int x2)] → W p l e R s m args below meth c H locs 0 0 Q (F0 m 17 ls [])) ?_ H locs ls hwd hl
  intro x1 x2 g hw H locs ls hwd hl
  exact wb_Mo_writeAll_17 F hret (fun x1 x2 g H locs ls h hwd hl => h H locs ls hwd hl) hw hwd hl

set_option maxHeartbeats 4000000 in
set_option maxRecDepth 100000 in
theorem wb_Mo_writeAll_0 {K : St → Prop} {x1 : Int32} {g : St} (F : fxM D cI cZ p R s m args c b_Mo_writeAll 5 R_Mo 3 75)
    (hret : rtMV D cI cZ ad p l e R s m args below meth c b_Mo_writeAll A H0 Q K)
    (hw : pb_Mo_writeAll_0 K x1 g)
    (hwd : wdM D cI cZ ad A H0 g H locs) (hl : lv_has ls 5 [(0, .ref (ad 0)), (1, .int x1)]) : W p l e R s m args below meth c H locs 0 0 Q (F0 m 0 ls []) := by
  obtain ⟨hx, hb, hml, hown, hts, hK, hN, hR⟩ := F
  have F : fxM D cI cZ p R s m args c b_Mo_writeAll 5 R_Mo 3 75 := ⟨hx, hb, hml, hown, hts, hK, hN, hR⟩
  refine lv_aload_n hx hb d_Mo_writeAll_0 rfl (lv_at hl 0 rfl) ?_
  refine lv_iconst (v := 0) hx hb d_Mo_writeAll_1 (by decide) ?_
  refine pfM_Mo_112 F hwd d_Mo_writeAll_2 (fun H locs hwd => ?_)
  obtain ⟨g1, e_g1⟩ : ∃ z : St, z = sc g 104 (0 : Int32) := ⟨_, rfl⟩
  have hwd : wdM D cI cZ ad A H0 g1 H locs := by rw [e_g1]; exact hwd
  have hw := hw g1 e_g1
  refine lv_aload_n hx hb d_Mo_writeAll_5 rfl (lv_at hl 0 rfl) ?_
  refine lv_iconst (v := 0) hx hb d_Mo_writeAll_6 (by decide) ?_
  refine pfM_Mo_115 F hwd d_Mo_writeAll_7 (fun H locs hwd => ?_)
  obtain ⟨g2, e_g2⟩ : ∃ z : St, z = sc g1 106 (0 : Int32) := ⟨_, rfl⟩
  have hwd : wdM D cI cZ ad A H0 g2 H locs := by rw [e_g2]; exact hwd
  have hw := hw g2 e_g2
  refine lv_aload_n hx hb d_Mo_writeAll_10 rfl (lv_at hl 0 rfl) ?_
  refine lv_iconst (v := 0) hx hb d_Mo_writeAll_11 (by decide) ?_
  refine pfM_Mo_129 F hwd d_Mo_writeAll_12 (fun H locs hwd => ?_)
  obtain ⟨g3, e_g3⟩ : ∃ z : St, z = sc g2 105 (0 : Int32) := ⟨_, rfl⟩
  have hwd : wdM D cI cZ ad A H0 g3 H locs := by rw [e_g3]; exact hwd
  have hw := hw g3 e_g3
  refine lv_iconst (v := 0) hx hb d_Mo_writeAll_15 (by decide) ?_
  refine lv_topi (fun v4 e_v4 => ?_)
  have hw := hw v4 e_v4
  refine lv_istore_n (lv' := [(2, .int v4), (0, .ref (ad 0)), (1, .int x1)]) hx hb d_Mo_writeAll_16 rfl hl (by decide) rfl (fun ls hl => ?_)
  exact wl_Mo_writeAll_17 F hret hw hwd (lv_sub hl [1, 2, 0] rfl)

theorem ct_Mo_writeAll {l : Launch} {D : va_G} {cI cZ : ClassId} {ad : Nat → Nat} (x1 : Int32) (g : St) (K : St → Prop) (h : pc_Mo_writeAll x1 g K) : ctMV l y_Mo_writeAll b_Mo_writeAll 5 3 75 D cI cZ ad [.ref (ad 0), .int x1] g K :=
  enMV (by decide) (Nat.le_of_ble_eq_true rfl) (fun p e s m args below meth c A H0 ls Q F hwd hl hret => wb_Mo_writeAll_0 F hret h hwd hl)

set_option maxHeartbeats 4000000 in
set_option maxRecDepth 100000 in
theorem wb_Mo_compile_60 {K : Int32 → St → Prop} {P60 : Int32 → Int32 → Int32 → Int32 → St → Prop} {x1 : Int32} {x2 : Int32} {x3 : Int32} {x4 : Int32} {g : St} (F : fxM D cI cZ p R s m args c b_Mo_compile 5 R_Mo 5 112)
    (hret : rtMI D cI cZ ad p l e R s m args below meth c b_Mo_compile A H0 Q K) (hp60 : ∀ (x1 : Int32) (x2 : Int32) (x3 : Int32) (x4 : Int32) (g : St) (H : Heap) (locs : List Loc) (ls : Array Slot), P60 x1 x2 x3 x4 g → wdM D cI cZ ad A H0 g H locs → lv_has ls 5 [(0, .ref (ad 0)), (1, .int x1), (2, .int x2), (3, .int x3), (4, .int x4)] → W p l e R s m args below meth c H locs 0 0 Q (F0 m 60 ls []))
    (hw : pb_Mo_compile_60 K P60 x1 x2 x3 x4 g)
    (hwd : wdM D cI cZ ad A H0 g H locs) (hl : lv_has ls 5 [(0, .ref (ad 0)), (1, .int x1), (2, .int x2), (3, .int x3), (4, .int x4)]) : W p l e R s m args below meth c H locs 0 0 Q (F0 m 60 ls []) := by
  obtain ⟨hx, hb, hml, hown, hts, hK, hN, hR⟩ := F
  have F : fxM D cI cZ p R s m args c b_Mo_compile 5 R_Mo 5 112 := ⟨hx, hb, hml, hown, hts, hK, hN, hR⟩
  refine lv_iload hx hb d_Mo_compile_60 (lv_at hl 4 rfl) ?_
  refine lv_aload_n hx hb d_Mo_compile_62 rfl (lv_at hl 0 rfl) ?_
  refine gfM_Mo_81 F hwd d_Mo_compile_63 ?_
  refine lv_icmp_ge (tgt := 87) hx hb d_Mo_compile_66 (by decide) (fun hc => ?_) (fun hc => ?_)
  · have hw := hw.1 hc
    refine lv_aload_n hx hb d_Mo_compile_87 rfl (lv_at hl 0 rfl) ?_
    refine lv_aload_n hx hb d_Mo_compile_88 rfl (lv_at hl 0 rfl) ?_
    refine gfM_Mo_81 F hwd d_Mo_compile_89 ?_
    refine pfM_Mo_142 F hwd d_Mo_compile_92 (fun H locs hwd => ?_)
    obtain ⟨g1, e_g1⟩ : ∃ z : St, z = sc g 102 (g 101 0) := ⟨_, rfl⟩
    have hwd : wdM D cI cZ ad A H0 g1 H locs := by rw [e_g1]; exact hwd
    have hw := hw g1 e_g1
    refine lv_aload_n hx hb d_Mo_compile_95 rfl (lv_at hl 0 rfl) ?_
    refine lv_iload_n hx hb d_Mo_compile_96 rfl (lv_at hl 2 rfl) ?_
    refine mcM_Mo_145 F hwd (ct_Mo_writeAll _ _ _ hw) ⟨Nat.le_trans (by decide) hR.1, Nat.le_trans (by decide) hR.2⟩ hl.1 (Nat.le_of_ble_eq_true rfl) d_Mo_compile_97 (fun g2 H locs hw hwd => ?_)
    refine lv_aload_n hx hb d_Mo_compile_100 rfl (lv_at hl 0 rfl) ?_
    refine gfM_Mo_95 F hwd d_Mo_compile_101 ?_
    exact hret _ _ _ _ hw hwd _ _ d_Mo_compile_104
  · have hw := hw.2 hc
    refine lv_aload_n hx hb d_Mo_compile_69 rfl (lv_at hl 0 rfl) ?_
    refine lv_aload_n hx hb d_Mo_compile_70 rfl (lv_at hl 0 rfl) ?_
    refine gfM_Mo_25 F hwd d_Mo_compile_71 ?_
    refine lv_iload hx hb d_Mo_compile_74 (lv_at hl 4 rfl) ?_
    obtain ⟨hi, hw⟩ := hw
    refine rdM_6 F hwd hi d_Mo_compile_76 ?_
    refine lv_iload_n hx hb d_Mo_compile_77 rfl (lv_at hl 1 rfl) ?_
    refine mcM_Mo_139 F hwd (ct_Mo_cutTree _ _ _ _ hw) ⟨Nat.le_trans (by decide) hR.1, Nat.le_trans (by decide) hR.2⟩ hl.1 (Nat.le_of_ble_eq_true rfl) d_Mo_compile_78 (fun g3 H locs hw hwd => ?_)
    obtain ⟨v4, e_v4⟩ : ∃ z, z = x4 + (1 : Int32) := ⟨_, rfl⟩
    have hw := hw v4 e_v4
    refine lv_iinc (k := 4) (lv' := [(4, .int v4), (0, .ref (ad 0)), (1, .int x1), (2, .int x2), (3, .int x3)]) hx hb d_Mo_compile_81 hl rfl e_v4.symm (by decide) rfl (fun ls hl => ?_)
    refine lv_goto (tgt := 60) hx hb d_Mo_compile_84 (by decide) ?_
    exact hp60 _ _ _ _ _ H locs ls hw hwd (lv_sub hl [1, 2, 3, 4, 0] rfl)

set_option maxHeartbeats 4000000 in
theorem wl_Mo_compile_60 {K : Int32 → St → Prop} {x1 : Int32} {x2 : Int32} {x3 : Int32} {x4 : Int32} {g : St} (F : fxM D cI cZ p R s m args c b_Mo_compile 5 R_Mo 5 112)
    (hret : rtMI D cI cZ ad p l e R s m args below meth c b_Mo_compile A H0 Q K)
    (hw : pl_Mo_compile_60 K x1 x2 x3 x4 g)
    (hwd : wdM D cI cZ ad A H0 g H locs) (hl : lv_has ls 5 [(0, .ref (ad 0)), (1, .int x1), (2, .int x2), (3, .int x3), (4, .int x4)]) : W p l e R s m args below meth c H locs 0 0 Q (F0 m 60 ls []) := by
  refine hw (fun x1 x2 x3 x4 g => ∀ (H : Heap) (locs : List Loc) (ls : Array Slot), wdM D cI cZ ad A H0 g H locs → lv_has ls 5 [(0, .ref (ad 0)), (1, .int x1), (2, .int x2), (3, .int x3), (4, .int x4)] → W p l e R s m args below meth c H locs 0 0 Q (F0 m 60 ls [])) ?_ H locs ls hwd hl
  intro x1 x2 x3 x4 g hw H locs ls hwd hl
  exact wb_Mo_compile_60 F hret (fun x1 x2 x3 x4 g H locs ls h hwd hl => h H locs ls hwd hl) hw hwd hl

set_option maxHeartbeats 4000000 in
set_option maxRecDepth 100000 in
theorem wb_Mo_compile_31 {K : Int32 → St → Prop} {x1 : Int32} {x2 : Int32} {g : St} (F : fxM D cI cZ p R s m args c b_Mo_compile 5 R_Mo 5 112)
    (hret : rtMI D cI cZ ad p l e R s m args below meth c b_Mo_compile A H0 Q K)
    (hw : pb_Mo_compile_31 K x1 x2 g)
    (hwd : wdM D cI cZ ad A H0 g H locs) (hl : lv_has ls 5 [(0, .ref (ad 0)), (1, .int x1), (2, .int x2)]) : W p l e R s m args below meth c H locs 0 0 Q (F0 m 31 ls []) := by
  obtain ⟨hx, hb, hml, hown, hts, hK, hN, hR⟩ := F
  have F : fxM D cI cZ p R s m args c b_Mo_compile 5 R_Mo 5 112 := ⟨hx, hb, hml, hown, hts, hK, hN, hR⟩
  refine lv_aload_n hx hb d_Mo_compile_31 rfl (lv_at hl 0 rfl) ?_
  refine gfM_Mo_81 F hwd d_Mo_compile_32 ?_
  refine lv_if_ne (tgt := 40) hx hb d_Mo_compile_35 (by decide) (fun hc => ?_) (fun hc => ?_)
  · have hw := hw.1 hc
    refine lv_aload_n hx hb d_Mo_compile_40 rfl (lv_at hl 0 rfl) ?_
    refine mcM_Mo_135 F hwd (ct_Mo_fault  _ _ hw) ⟨Nat.le_trans (by decide) hR.1, Nat.le_trans (by decide) hR.2⟩ hl.1 (Nat.le_of_ble_eq_true rfl) d_Mo_compile_41 (fun v2 g1 H locs hw hwd => ?_)
    refine lv_topi (fun v3 e_v3 => ?_)
    have hw := hw v3 e_v3
    refine lv_istore_n (lv' := [(3, .int v3), (0, .ref (ad 0)), (1, .int x1), (2, .int x2)]) hx hb d_Mo_compile_44 rfl hl (by decide) rfl (fun ls hl => ?_)
    refine lv_iload_n hx hb d_Mo_compile_45 rfl (lv_at hl 0 rfl) ?_
    refine lv_if_eq (tgt := 52) hx hb d_Mo_compile_46 (by decide) (fun hc => ?_) (fun hc => ?_)
    · have hw := hw.1 hc
      refine lv_aload_n hx hb d_Mo_compile_52 rfl (lv_at hl 1 rfl) ?_
      refine lv_iconst (v := 0) hx hb d_Mo_compile_53 (by decide) ?_
      refine pfM_Mo_95 F hwd d_Mo_compile_54 (fun H locs hwd => ?_)
      obtain ⟨g4, e_g4⟩ : ∃ z : St, z = sc g1 103 (0 : Int32) := ⟨_, rfl⟩
      have hwd : wdM D cI cZ ad A H0 g4 H locs := by rw [e_g4]; exact hwd
      have hw := hw g4 e_g4
      refine lv_iconst (v := 0) hx hb d_Mo_compile_57 (by decide) ?_
      refine lv_topi (fun v5 e_v5 => ?_)
      have hw := hw v5 e_v5
      refine lv_istore (lv' := [(4, .int v5), (3, .int v3), (0, .ref (ad 0)), (1, .int x1), (2, .int x2)]) hx hb d_Mo_compile_58 hl (by decide) rfl (fun ls hl => ?_)
      exact wl_Mo_compile_60 F hret hw hwd (lv_sub hl [2, 3, 4, 1, 0] rfl)
    · have hw := hw.2 hc
      refine lv_iload_n hx hb d_Mo_compile_49 rfl (lv_at hl 0 rfl) ?_
      refine lv_ineg hx hb d_Mo_compile_50 ?_
      exact hret _ _ _ _ hw hwd _ _ d_Mo_compile_51
  · have hw := hw.2 hc
    refine lv_iconst (v := -1) hx hb d_Mo_compile_38 (by decide) ?_
    exact hret _ _ _ _ hw hwd _ _ d_Mo_compile_39

set_option maxHeartbeats 4000000 in
set_option maxRecDepth 100000 in
theorem wb_Mo_compile_0 {K : Int32 → St → Prop} {x1 : Int32} {x2 : Int32} {g : St} (F : fxM D cI cZ p R s m args c b_Mo_compile 5 R_Mo 5 112)
    (hret : rtMI D cI cZ ad p l e R s m args below meth c b_Mo_compile A H0 Q K)
    (hw : pb_Mo_compile_0 K x1 x2 g)
    (hwd : wdM D cI cZ ad A H0 g H locs) (hl : lv_has ls 5 [(0, .ref (ad 0)), (1, .int x1), (2, .int x2)]) : W p l e R s m args below meth c H locs 0 0 Q (F0 m 0 ls []) := by
  obtain ⟨hx, hb, hml, hown, hts, hK, hN, hR⟩ := F
  have F : fxM D cI cZ p R s m args c b_Mo_compile 5 R_Mo 5 112 := ⟨hx, hb, hml, hown, hts, hK, hN, hR⟩
  refine lv_iload_n hx hb d_Mo_compile_0 rfl (lv_at hl 1 rfl) ?_
  refine lv_bipush (v := 20) hx hb d_Mo_compile_1 (by decide) ?_
  refine lv_sipush (v := 400) hx hb d_Mo_compile_3 (by decide) ?_
  refine mcM_Mo_75 F hwd (ct_Mo_outside _ _ _ _ _ hw) ⟨Nat.le_trans (by decide) hR.1, Nat.le_trans (by decide) hR.2⟩ hl.1 (Nat.le_of_ble_eq_true rfl) d_Mo_compile_6 (fun v2 g1 H locs hw hwd => ?_)
  refine lv_if_ne (tgt := 38) hx hb d_Mo_compile_9 (by decide) (fun hc => ?_) (fun hc => ?_)
  · have hw := hw.1 hc
    refine lv_iconst (v := -1) hx hb d_Mo_compile_38 (by decide) ?_
    exact hret _ _ _ _ hw hwd _ _ d_Mo_compile_39
  · have hw := hw.2 hc
    refine lv_iload_n hx hb d_Mo_compile_12 rfl (lv_at hl 2 rfl) ?_
    refine lv_bipush (v := 60) hx hb d_Mo_compile_13 (by decide) ?_
    refine lv_icmp_gt (tgt := 38) hx hb d_Mo_compile_15 (by decide) (fun hc => ?_) (fun hc => ?_)
    · have hw := hw.1 hc
      refine lv_iconst (v := -1) hx hb d_Mo_compile_38 (by decide) ?_
      exact hret _ _ _ _ hw hwd _ _ d_Mo_compile_39
    · have hw := hw.2 hc
      refine lv_iload_n hx hb d_Mo_compile_18 rfl (lv_at hl 2 rfl) ?_
      refine lv_bipush (v := 60) hx hb d_Mo_compile_19 (by decide) ?_
      refine lv_icmp_ge (tgt := 31) hx hb d_Mo_compile_21 (by decide) (fun hc => ?_) (fun hc => ?_)
      · have hw := hw.1 hc
        exact wb_Mo_compile_31 F hret hw hwd (lv_sub hl [0, 1, 2] rfl)
      · have hw := hw.2 hc
        refine lv_iload_n hx hb d_Mo_compile_24 rfl (lv_at hl 2 rfl) ?_
        refine lv_iload_n hx hb d_Mo_compile_25 rfl (lv_at hl 1 rfl) ?_
        refine lv_iconst (v := 4) hx hb d_Mo_compile_26 (by decide) ?_
        obtain ⟨hne, hw⟩ := hw
        refine lv_idiv hx hb d_Mo_compile_27 hne ?_
        refine lv_icmp_lt (tgt := 38) hx hb d_Mo_compile_28 (by decide) (fun hc => ?_) (fun hc => ?_)
        · have hw := hw.1 hc
          refine lv_iconst (v := -1) hx hb d_Mo_compile_38 (by decide) ?_
          exact hret _ _ _ _ hw hwd _ _ d_Mo_compile_39
        · have hw := hw.2 hc
          exact wb_Mo_compile_31 F hret hw hwd (lv_sub hl [0, 1, 2] rfl)

theorem ct_Mo_compile {l : Launch} {D : va_G} {cI cZ : ClassId} {ad : Nat → Nat} (x1 : Int32) (x2 : Int32) (g : St) (K : Int32 → St → Prop) (h : pc_Mo_compile x1 x2 g K) : ctMI l y_Mo_compile b_Mo_compile 5 5 112 D cI cZ ad [.ref (ad 0), .int x1, .int x2] g K :=
  enMI (by decide) (Nat.le_of_ble_eq_true rfl) (fun p e s m args below meth c A H0 ls Q F hwd hl hret => wb_Mo_compile_0 F hret h hwd hl)

set_option maxHeartbeats 4000000 in
set_option maxRecDepth 100000 in
theorem wb_Mo_isMethod_0 {K : Int32 → St → Prop} {x1 : Int32} {g : St} (F : fxM D cI cZ p R s m args c b_Mo_isMethod 2 R_Mo 0 0)
    (hret : rtMZ D cI cZ ad p l e R s m args below meth c b_Mo_isMethod A H0 Q K)
    (hw : pb_Mo_isMethod_0 K x1 g)
    (hwd : wdM D cI cZ ad A H0 g H locs) (hl : lv_has ls 2 [(0, .ref (ad 0)), (1, .int x1)]) : W p l e R s m args below meth c H locs 0 0 Q (F0 m 0 ls []) := by
  obtain ⟨hx, hb, hml, hown, hts, hK, hN, hR⟩ := F
  have F : fxM D cI cZ p R s m args c b_Mo_isMethod 2 R_Mo 0 0 := ⟨hx, hb, hml, hown, hts, hK, hN, hR⟩
  refine lv_iload_n hx hb d_Mo_isMethod_0 rfl (lv_at hl 1 rfl) ?_
  refine lv_if_lt (tgt := 16) hx hb d_Mo_isMethod_1 (by decide) (fun hc => ?_) (fun hc => ?_)
  · have hw := hw.1 hc
    refine lv_iconst (v := 0) hx hb d_Mo_isMethod_16 (by decide) ?_
    exact hret _ _ _ _ hw (by decide) hwd _ _ d_Mo_isMethod_17
  · have hw := hw.2 hc
    refine lv_iload_n hx hb d_Mo_isMethod_4 rfl (lv_at hl 1 rfl) ?_
    refine lv_aload_n hx hb d_Mo_isMethod_5 rfl (lv_at hl 0 rfl) ?_
    refine gfM_Mo_95 F hwd d_Mo_isMethod_6 ?_
    refine lv_icmp_ge (tgt := 16) hx hb d_Mo_isMethod_9 (by decide) (fun hc => ?_) (fun hc => ?_)
    · have hw := hw.1 hc
      refine lv_iconst (v := 0) hx hb d_Mo_isMethod_16 (by decide) ?_
      exact hret _ _ _ _ hw (by decide) hwd _ _ d_Mo_isMethod_17
    · have hw := hw.2 hc
      refine lv_iconst (v := 1) hx hb d_Mo_isMethod_12 (by decide) ?_
      refine lv_goto (tgt := 17) hx hb d_Mo_isMethod_13 (by decide) ?_
      exact hret _ _ _ _ hw (by decide) hwd _ _ d_Mo_isMethod_17

theorem ct_Mo_isMethod {l : Launch} {D : va_G} {cI cZ : ClassId} {ad : Nat → Nat} (x1 : Int32) (g : St) (K : Int32 → St → Prop) (h : pc_Mo_isMethod x1 g K) : ctMZ l y_Mo_isMethod b_Mo_isMethod 2 0 0 D cI cZ ad [.ref (ad 0), .int x1] g K :=
  enMZ (by decide) (Nat.le_of_ble_eq_true rfl) (fun p e s m args below meth c A H0 ls Q F hwd hl hret => wb_Mo_isMethod_0 F hret h hwd hl)

set_option maxHeartbeats 4000000 in
set_option maxRecDepth 100000 in
theorem wb_Mo_methods_0 {K : Int32 → St → Prop} {g : St} (F : fxM D cI cZ p R s m args c b_Mo_methods 1 R_Mo 0 0)
    (hret : rtMI D cI cZ ad p l e R s m args below meth c b_Mo_methods A H0 Q K)
    (hw : pb_Mo_methods_0 K g)
    (hwd : wdM D cI cZ ad A H0 g H locs) (hl : lv_has ls 1 [(0, .ref (ad 0))]) : W p l e R s m args below meth c H locs 0 0 Q (F0 m 0 ls []) := by
  obtain ⟨hx, hb, hml, hown, hts, hK, hN, hR⟩ := F
  have F : fxM D cI cZ p R s m args c b_Mo_methods 1 R_Mo 0 0 := ⟨hx, hb, hml, hown, hts, hK, hN, hR⟩
  refine lv_aload_n hx hb d_Mo_methods_0 rfl (lv_at hl 0 rfl) ?_
  refine gfM_Mo_95 F hwd d_Mo_methods_1 ?_
  exact hret _ _ _ _ hw hwd _ _ d_Mo_methods_4

theorem ct_Mo_methods {l : Launch} {D : va_G} {cI cZ : ClassId} {ad : Nat → Nat} (g : St) (K : Int32 → St → Prop) (h : pc_Mo_methods g K) : ctMI l y_Mo_methods b_Mo_methods 1 0 0 D cI cZ ad [.ref (ad 0)] g K :=
  enMI (by decide) (Nat.le_of_ble_eq_true rfl) (fun p e s m args below meth c A H0 ls Q F hwd hl hret => wb_Mo_methods_0 F hret h hwd hl)

set_option maxHeartbeats 4000000 in
set_option maxRecDepth 100000 in
theorem wb_Mo_length_0 {K : Int32 → St → Prop} {x1 : Int32} {g : St} (F : fxM D cI cZ p R s m args c b_Mo_length 2 R_Mo 1 21)
    (hret : rtMI D cI cZ ad p l e R s m args below meth c b_Mo_length A H0 Q K)
    (hw : pb_Mo_length_0 K x1 g)
    (hwd : wdM D cI cZ ad A H0 g H locs) (hl : lv_has ls 2 [(0, .ref (ad 0)), (1, .int x1)]) : W p l e R s m args below meth c H locs 0 0 Q (F0 m 0 ls []) := by
  obtain ⟨hx, hb, hml, hown, hts, hK, hN, hR⟩ := F
  have F : fxM D cI cZ p R s m args c b_Mo_length 2 R_Mo 1 21 := ⟨hx, hb, hml, hown, hts, hK, hN, hR⟩
  refine lv_aload_n hx hb d_Mo_length_0 rfl (lv_at hl 0 rfl) ?_
  refine lv_iload_n hx hb d_Mo_length_1 rfl (lv_at hl 1 rfl) ?_
  refine mcM_Mo_148 F hwd (ct_Mo_isMethod _ _ _ hw) ⟨Nat.le_trans (by decide) hR.1, Nat.le_trans (by decide) hR.2⟩ hl.1 (Nat.le_of_ble_eq_true rfl) d_Mo_length_2 (fun v2 g1 H locs hw hwd => ?_)
  refine lv_if_eq (tgt := 26) hx hb d_Mo_length_5 (by decide) (fun hc => ?_) (fun hc => ?_)
  · have hw := hw.1 hc
    refine lv_iconst (v := -1) hx hb d_Mo_length_26 (by decide) ?_
    exact hret _ _ _ _ hw hwd _ _ d_Mo_length_27
  · have hw := hw.2 hc
    refine lv_aload_n hx hb d_Mo_length_8 rfl (lv_at hl 0 rfl) ?_
    refine gfM_Mo_50 F hwd d_Mo_length_9 ?_
    refine lv_iload_n hx hb d_Mo_length_12 rfl (lv_at hl 1 rfl) ?_
    refine lv_iconst (v := 1) hx hb d_Mo_length_13 (by decide) ?_
    refine lv_iadd hx hb d_Mo_length_14 ?_
    obtain ⟨hi, hw⟩ := hw
    refine rdM_14 F hwd hi d_Mo_length_15 ?_
    refine lv_aload_n hx hb d_Mo_length_16 rfl (lv_at hl 0 rfl) ?_
    refine gfM_Mo_50 F hwd d_Mo_length_17 ?_
    refine lv_iload_n hx hb d_Mo_length_20 rfl (lv_at hl 1 rfl) ?_
    obtain ⟨hi, hw⟩ := hw
    refine rdM_14 F hwd hi d_Mo_length_21 ?_
    refine lv_isub hx hb d_Mo_length_22 ?_
    refine lv_goto (tgt := 27) hx hb d_Mo_length_23 (by decide) ?_
    exact hret _ _ _ _ hw hwd _ _ d_Mo_length_27

theorem ct_Mo_length {l : Launch} {D : va_G} {cI cZ : ClassId} {ad : Nat → Nat} (x1 : Int32) (g : St) (K : Int32 → St → Prop) (h : pc_Mo_length x1 g K) : ctMI l y_Mo_length b_Mo_length 2 1 21 D cI cZ ad [.ref (ad 0), .int x1] g K :=
  enMI (by decide) (Nat.le_of_ble_eq_true rfl) (fun p e s m args below meth c A H0 ls Q F hwd hl hret => wb_Mo_length_0 F hret h hwd hl)

set_option maxHeartbeats 4000000 in
set_option maxRecDepth 100000 in
theorem wb_Mo_byteAt_0 {K : Int32 → St → Prop} {x1 : Int32} {x2 : Int32} {g : St} (F : fxM D cI cZ p R s m args c b_Mo_byteAt 3 R_Mo 1 21)
    (hret : rtMI D cI cZ ad p l e R s m args below meth c b_Mo_byteAt A H0 Q K)
    (hw : pb_Mo_byteAt_0 K x1 x2 g)
    (hwd : wdM D cI cZ ad A H0 g H locs) (hl : lv_has ls 3 [(0, .ref (ad 0)), (1, .int x1), (2, .int x2)]) : W p l e R s m args below meth c H locs 0 0 Q (F0 m 0 ls []) := by
  obtain ⟨hx, hb, hml, hown, hts, hK, hN, hR⟩ := F
  have F : fxM D cI cZ p R s m args c b_Mo_byteAt 3 R_Mo 1 21 := ⟨hx, hb, hml, hown, hts, hK, hN, hR⟩
  refine lv_aload_n hx hb d_Mo_byteAt_0 rfl (lv_at hl 0 rfl) ?_
  refine lv_iload_n hx hb d_Mo_byteAt_1 rfl (lv_at hl 1 rfl) ?_
  refine mcM_Mo_148 F hwd (ct_Mo_isMethod _ _ _ hw) ⟨Nat.le_trans (by decide) hR.1, Nat.le_trans (by decide) hR.2⟩ hl.1 (Nat.le_of_ble_eq_true rfl) d_Mo_byteAt_2 (fun v2 g1 H locs hw hwd => ?_)
  refine lv_if_eq (tgt := 47) hx hb d_Mo_byteAt_5 (by decide) (fun hc => ?_) (fun hc => ?_)
  · have hw := hw.1 hc
    refine lv_iconst (v := -1) hx hb d_Mo_byteAt_47 (by decide) ?_
    exact hret _ _ _ _ hw hwd _ _ d_Mo_byteAt_48
  · have hw := hw.2 hc
    refine lv_iload_n hx hb d_Mo_byteAt_8 rfl (lv_at hl 2 rfl) ?_
    refine lv_if_lt (tgt := 47) hx hb d_Mo_byteAt_9 (by decide) (fun hc => ?_) (fun hc => ?_)
    · have hw := hw.1 hc
      refine lv_iconst (v := -1) hx hb d_Mo_byteAt_47 (by decide) ?_
      exact hret _ _ _ _ hw hwd _ _ d_Mo_byteAt_48
    · have hw := hw.2 hc
      refine lv_iload_n hx hb d_Mo_byteAt_12 rfl (lv_at hl 2 rfl) ?_
      refine lv_aload_n hx hb d_Mo_byteAt_13 rfl (lv_at hl 0 rfl) ?_
      refine gfM_Mo_50 F hwd d_Mo_byteAt_14 ?_
      refine lv_iload_n hx hb d_Mo_byteAt_17 rfl (lv_at hl 1 rfl) ?_
      refine lv_iconst (v := 1) hx hb d_Mo_byteAt_18 (by decide) ?_
      refine lv_iadd hx hb d_Mo_byteAt_19 ?_
      obtain ⟨hi, hw⟩ := hw
      refine rdM_14 F hwd hi d_Mo_byteAt_20 ?_
      refine lv_aload_n hx hb d_Mo_byteAt_21 rfl (lv_at hl 0 rfl) ?_
      refine gfM_Mo_50 F hwd d_Mo_byteAt_22 ?_
      refine lv_iload_n hx hb d_Mo_byteAt_25 rfl (lv_at hl 1 rfl) ?_
      obtain ⟨hi, hw⟩ := hw
      refine rdM_14 F hwd hi d_Mo_byteAt_26 ?_
      refine lv_isub hx hb d_Mo_byteAt_27 ?_
      refine lv_icmp_ge (tgt := 47) hx hb d_Mo_byteAt_28 (by decide) (fun hc => ?_) (fun hc => ?_)
      · have hw := hw.1 hc
        refine lv_iconst (v := -1) hx hb d_Mo_byteAt_47 (by decide) ?_
        exact hret _ _ _ _ hw hwd _ _ d_Mo_byteAt_48
      · have hw := hw.2 hc
        refine lv_aload_n hx hb d_Mo_byteAt_31 rfl (lv_at hl 0 rfl) ?_
        refine gfM_Mo_59 F hwd d_Mo_byteAt_32 ?_
        refine lv_aload_n hx hb d_Mo_byteAt_35 rfl (lv_at hl 0 rfl) ?_
        refine gfM_Mo_50 F hwd d_Mo_byteAt_36 ?_
        refine lv_iload_n hx hb d_Mo_byteAt_39 rfl (lv_at hl 1 rfl) ?_
        obtain ⟨hi, hw⟩ := hw
        refine rdM_14 F hwd hi d_Mo_byteAt_40 ?_
        refine lv_iload_n hx hb d_Mo_byteAt_41 rfl (lv_at hl 2 rfl) ?_
        refine lv_iadd hx hb d_Mo_byteAt_42 ?_
        obtain ⟨hi, hw⟩ := hw
        refine rdM_17 F hwd hi d_Mo_byteAt_43 ?_
        refine lv_goto (tgt := 48) hx hb d_Mo_byteAt_44 (by decide) ?_
        exact hret _ _ _ _ hw hwd _ _ d_Mo_byteAt_48

theorem ct_Mo_byteAt {l : Launch} {D : va_G} {cI cZ : ClassId} {ad : Nat → Nat} (x1 : Int32) (x2 : Int32) (g : St) (K : Int32 → St → Prop) (h : pc_Mo_byteAt x1 x2 g K) : ctMI l y_Mo_byteAt b_Mo_byteAt 3 1 21 D cI cZ ad [.ref (ad 0), .int x1, .int x2] g K :=
  enMI (by decide) (Nat.le_of_ble_eq_true rfl) (fun p e s m args below meth c A H0 ls Q F hwd hl hret => wb_Mo_byteAt_0 F hret h hwd hl)

set_option maxHeartbeats 4000000 in
set_option maxRecDepth 100000 in
theorem wb_Mo_classOf_0 {K : Int32 → St → Prop} {x1 : Int32} {g : St} (F : fxM D cI cZ p R s m args c b_Mo_classOf 2 R_Mo 1 21)
    (hret : rtMI D cI cZ ad p l e R s m args below meth c b_Mo_classOf A H0 Q K)
    (hw : pb_Mo_classOf_0 K x1 g)
    (hwd : wdM D cI cZ ad A H0 g H locs) (hl : lv_has ls 2 [(0, .ref (ad 0)), (1, .int x1)]) : W p l e R s m args below meth c H locs 0 0 Q (F0 m 0 ls []) := by
  obtain ⟨hx, hb, hml, hown, hts, hK, hN, hR⟩ := F
  have F : fxM D cI cZ p R s m args c b_Mo_classOf 2 R_Mo 1 21 := ⟨hx, hb, hml, hown, hts, hK, hN, hR⟩
  refine lv_aload_n hx hb d_Mo_classOf_0 rfl (lv_at hl 0 rfl) ?_
  refine lv_iload_n hx hb d_Mo_classOf_1 rfl (lv_at hl 1 rfl) ?_
  refine mcM_Mo_148 F hwd (ct_Mo_isMethod _ _ _ hw) ⟨Nat.le_trans (by decide) hR.1, Nat.le_trans (by decide) hR.2⟩ hl.1 (Nat.le_of_ble_eq_true rfl) d_Mo_classOf_2 (fun v2 g1 H locs hw hwd => ?_)
  refine lv_if_eq (tgt := 17) hx hb d_Mo_classOf_5 (by decide) (fun hc => ?_) (fun hc => ?_)
  · have hw := hw.1 hc
    refine lv_iconst (v := -1) hx hb d_Mo_classOf_17 (by decide) ?_
    exact hret _ _ _ _ hw hwd _ _ d_Mo_classOf_18
  · have hw := hw.2 hc
    refine lv_aload_n hx hb d_Mo_classOf_8 rfl (lv_at hl 0 rfl) ?_
    refine gfM_Mo_53 F hwd d_Mo_classOf_9 ?_
    refine lv_iload_n hx hb d_Mo_classOf_12 rfl (lv_at hl 1 rfl) ?_
    obtain ⟨hi, hw⟩ := hw
    refine rdM_15 F hwd hi d_Mo_classOf_13 ?_
    refine lv_goto (tgt := 18) hx hb d_Mo_classOf_14 (by decide) ?_
    exact hret _ _ _ _ hw hwd _ _ d_Mo_classOf_18

theorem ct_Mo_classOf {l : Launch} {D : va_G} {cI cZ : ClassId} {ad : Nat → Nat} (x1 : Int32) (g : St) (K : Int32 → St → Prop) (h : pc_Mo_classOf x1 g K) : ctMI l y_Mo_classOf b_Mo_classOf 2 1 21 D cI cZ ad [.ref (ad 0), .int x1] g K :=
  enMI (by decide) (Nat.le_of_ble_eq_true rfl) (fun p e s m args below meth c A H0 ls Q F hwd hl hret => wb_Mo_classOf_0 F hret h hwd hl)

set_option maxHeartbeats 4000000 in
set_option maxRecDepth 100000 in
theorem wb_Mo_classes_0 {K : Int32 → St → Prop} {g : St} (F : fxM D cI cZ p R s m args c b_Mo_classes 1 R_Mo 0 0)
    (hret : rtMI D cI cZ ad p l e R s m args below meth c b_Mo_classes A H0 Q K)
    (hw : pb_Mo_classes_0 K g)
    (hwd : wdM D cI cZ ad A H0 g H locs) (hl : lv_has ls 1 [(0, .ref (ad 0))]) : W p l e R s m args below meth c H locs 0 0 Q (F0 m 0 ls []) := by
  obtain ⟨hx, hb, hml, hown, hts, hK, hN, hR⟩ := F
  have F : fxM D cI cZ p R s m args c b_Mo_classes 1 R_Mo 0 0 := ⟨hx, hb, hml, hown, hts, hK, hN, hR⟩
  refine lv_aload_n hx hb d_Mo_classes_0 rfl (lv_at hl 0 rfl) ?_
  refine gfM_Mo_129 F hwd d_Mo_classes_1 ?_
  exact hret _ _ _ _ hw hwd _ _ d_Mo_classes_4

theorem ct_Mo_classes {l : Launch} {D : va_G} {cI cZ : ClassId} {ad : Nat → Nat} (g : St) (K : Int32 → St → Prop) (h : pc_Mo_classes g K) : ctMI l y_Mo_classes b_Mo_classes 1 0 0 D cI cZ ad [.ref (ad 0)] g K :=
  enMI (by decide) (Nat.le_of_ble_eq_true rfl) (fun p e s m args below meth c A H0 ls Q F hwd hl hret => wb_Mo_classes_0 F hret h hwd hl)

set_option maxHeartbeats 4000000 in
set_option maxRecDepth 100000 in
theorem wb_Mo_entries_0 {K : Int32 → St → Prop} {x1 : Int32} {g : St} (F : fxM D cI cZ p R s m args c b_Mo_entries 2 R_Mo 0 0)
    (hret : rtMI D cI cZ ad p l e R s m args below meth c b_Mo_entries A H0 Q K)
    (hw : pb_Mo_entries_0 K x1 g)
    (hwd : wdM D cI cZ ad A H0 g H locs) (hl : lv_has ls 2 [(0, .ref (ad 0)), (1, .int x1)]) : W p l e R s m args below meth c H locs 0 0 Q (F0 m 0 ls []) := by
  obtain ⟨hx, hb, hml, hown, hts, hK, hN, hR⟩ := F
  have F : fxM D cI cZ p R s m args c b_Mo_entries 2 R_Mo 0 0 := ⟨hx, hb, hml, hown, hts, hK, hN, hR⟩
  refine lv_iload_n hx hb d_Mo_entries_0 rfl (lv_at hl 1 rfl) ?_
  refine lv_if_lt (tgt := 30) hx hb d_Mo_entries_1 (by decide) (fun hc => ?_) (fun hc => ?_)
  · have hw := hw.1 hc
    refine lv_iconst (v := -1) hx hb d_Mo_entries_30 (by decide) ?_
    exact hret _ _ _ _ hw hwd _ _ d_Mo_entries_31
  · have hw := hw.2 hc
    refine lv_iload_n hx hb d_Mo_entries_4 rfl (lv_at hl 1 rfl) ?_
    refine lv_aload_n hx hb d_Mo_entries_5 rfl (lv_at hl 0 rfl) ?_
    refine gfM_Mo_129 F hwd d_Mo_entries_6 ?_
    refine lv_icmp_ge (tgt := 30) hx hb d_Mo_entries_9 (by decide) (fun hc => ?_) (fun hc => ?_)
    · have hw := hw.1 hc
      refine lv_iconst (v := -1) hx hb d_Mo_entries_30 (by decide) ?_
      exact hret _ _ _ _ hw hwd _ _ d_Mo_entries_31
    · have hw := hw.2 hc
      refine lv_aload_n hx hb d_Mo_entries_12 rfl (lv_at hl 0 rfl) ?_
      refine gfM_Mo_62 F hwd d_Mo_entries_13 ?_
      refine lv_iload_n hx hb d_Mo_entries_16 rfl (lv_at hl 1 rfl) ?_
      refine lv_iconst (v := 1) hx hb d_Mo_entries_17 (by decide) ?_
      refine lv_iadd hx hb d_Mo_entries_18 ?_
      obtain ⟨hi, hw⟩ := hw
      refine rdM_18 F hwd hi d_Mo_entries_19 ?_
      refine lv_aload_n hx hb d_Mo_entries_20 rfl (lv_at hl 0 rfl) ?_
      refine gfM_Mo_62 F hwd d_Mo_entries_21 ?_
      refine lv_iload_n hx hb d_Mo_entries_24 rfl (lv_at hl 1 rfl) ?_
      obtain ⟨hi, hw⟩ := hw
      refine rdM_18 F hwd hi d_Mo_entries_25 ?_
      refine lv_isub hx hb d_Mo_entries_26 ?_
      refine lv_goto (tgt := 31) hx hb d_Mo_entries_27 (by decide) ?_
      exact hret _ _ _ _ hw hwd _ _ d_Mo_entries_31

theorem ct_Mo_entries {l : Launch} {D : va_G} {cI cZ : ClassId} {ad : Nat → Nat} (x1 : Int32) (g : St) (K : Int32 → St → Prop) (h : pc_Mo_entries x1 g K) : ctMI l y_Mo_entries b_Mo_entries 2 0 0 D cI cZ ad [.ref (ad 0), .int x1] g K :=
  enMI (by decide) (Nat.le_of_ble_eq_true rfl) (fun p e s m args below meth c A H0 ls Q F hwd hl hret => wb_Mo_entries_0 F hret h hwd hl)

set_option maxHeartbeats 4000000 in
set_option maxRecDepth 100000 in
theorem wb_Mo_entry_0 {K : Int64 → St → Prop} {x1 : Int32} {x2 : Int32} {g : St} (F : fxM D cI cZ p R s m args c b_Mo_entry 3 R_Mo 0 0)
    (hret : rtMJ D cI cZ ad p l e R s m args below meth c b_Mo_entry A H0 Q K)
    (hw : pb_Mo_entry_0 K x1 x2 g)
    (hwd : wdM D cI cZ ad A H0 g H locs) (hl : lv_has ls 3 [(0, .ref (ad 0)), (1, .int x1), (2, .int x2)]) : W p l e R s m args below meth c H locs 0 0 Q (F0 m 0 ls []) := by
  obtain ⟨hx, hb, hml, hown, hts, hK, hN, hR⟩ := F
  have F : fxM D cI cZ p R s m args c b_Mo_entry 3 R_Mo 0 0 := ⟨hx, hb, hml, hown, hts, hK, hN, hR⟩
  refine lv_iload_n hx hb d_Mo_entry_0 rfl (lv_at hl 1 rfl) ?_
  refine lv_if_lt (tgt := 35) hx hb d_Mo_entry_1 (by decide) (fun hc => ?_) (fun hc => ?_)
  · have hw := hw.1 hc
    refine lv_ldc2 (v := -1) hx hb hown (hts _ kM_2) d_Mo_entry_35 ?_
    exact hret _ _ _ _ hw hwd _ _ d_Mo_entry_38
  · have hw := hw.2 hc
    refine lv_iload_n hx hb d_Mo_entry_4 rfl (lv_at hl 1 rfl) ?_
    refine lv_aload_n hx hb d_Mo_entry_5 rfl (lv_at hl 0 rfl) ?_
    refine gfM_Mo_129 F hwd d_Mo_entry_6 ?_
    refine lv_icmp_ge (tgt := 35) hx hb d_Mo_entry_9 (by decide) (fun hc => ?_) (fun hc => ?_)
    · have hw := hw.1 hc
      refine lv_ldc2 (v := -1) hx hb hown (hts _ kM_2) d_Mo_entry_35 ?_
      exact hret _ _ _ _ hw hwd _ _ d_Mo_entry_38
    · have hw := hw.2 hc
      refine lv_iload_n hx hb d_Mo_entry_12 rfl (lv_at hl 2 rfl) ?_
      refine lv_if_lt (tgt := 35) hx hb d_Mo_entry_13 (by decide) (fun hc => ?_) (fun hc => ?_)
      · have hw := hw.1 hc
        refine lv_ldc2 (v := -1) hx hb hown (hts _ kM_2) d_Mo_entry_35 ?_
        exact hret _ _ _ _ hw hwd _ _ d_Mo_entry_38
      · have hw := hw.2 hc
        refine lv_iload_n hx hb d_Mo_entry_16 rfl (lv_at hl 2 rfl) ?_
        refine lv_aload_n hx hb d_Mo_entry_17 rfl (lv_at hl 0 rfl) ?_
        refine gfM_Mo_62 F hwd d_Mo_entry_18 ?_
        refine lv_iload_n hx hb d_Mo_entry_21 rfl (lv_at hl 1 rfl) ?_
        refine lv_iconst (v := 1) hx hb d_Mo_entry_22 (by decide) ?_
        refine lv_iadd hx hb d_Mo_entry_23 ?_
        obtain ⟨hi, hw⟩ := hw
        refine rdM_18 F hwd hi d_Mo_entry_24 ?_
        refine lv_aload_n hx hb d_Mo_entry_25 rfl (lv_at hl 0 rfl) ?_
        refine gfM_Mo_62 F hwd d_Mo_entry_26 ?_
        refine lv_iload_n hx hb d_Mo_entry_29 rfl (lv_at hl 1 rfl) ?_
        obtain ⟨hi, hw⟩ := hw
        refine rdM_18 F hwd hi d_Mo_entry_30 ?_
        refine lv_isub hx hb d_Mo_entry_31 ?_
        refine lv_icmp_lt (tgt := 39) hx hb d_Mo_entry_32 (by decide) (fun hc => ?_) (fun hc => ?_)
        · have hw := hw.1 hc
          refine lv_aload_n hx hb d_Mo_entry_39 rfl (lv_at hl 0 rfl) ?_
          refine gfM_Mo_65 F hwd d_Mo_entry_40 ?_
          refine lv_aload_n hx hb d_Mo_entry_43 rfl (lv_at hl 0 rfl) ?_
          refine gfM_Mo_62 F hwd d_Mo_entry_44 ?_
          refine lv_iload_n hx hb d_Mo_entry_47 rfl (lv_at hl 1 rfl) ?_
          obtain ⟨hi, hw⟩ := hw
          refine rdM_18 F hwd hi d_Mo_entry_48 ?_
          refine lv_iload_n hx hb d_Mo_entry_49 rfl (lv_at hl 2 rfl) ?_
          refine lv_iadd hx hb d_Mo_entry_50 ?_
          obtain ⟨hi, hw⟩ := hw
          refine rdM_19 F hwd hi d_Mo_entry_51 ?_
          refine lv_i2l hx hb d_Mo_entry_52 rfl ?_
          refine lv_ldc2 (v := 4294967296) hx hb hown (hts _ kM_3) d_Mo_entry_53 ?_
          refine lv_lmul hx hb d_Mo_entry_56 ?_
          refine lv_aload_n hx hb d_Mo_entry_57 rfl (lv_at hl 0 rfl) ?_
          refine gfM_Mo_68 F hwd d_Mo_entry_58 ?_
          refine lv_aload_n hx hb d_Mo_entry_61 rfl (lv_at hl 0 rfl) ?_
          refine gfM_Mo_62 F hwd d_Mo_entry_62 ?_
          refine lv_iload_n hx hb d_Mo_entry_65 rfl (lv_at hl 1 rfl) ?_
          obtain ⟨hi, hw⟩ := hw
          refine rdM_18 F hwd hi d_Mo_entry_66 ?_
          refine lv_iload_n hx hb d_Mo_entry_67 rfl (lv_at hl 2 rfl) ?_
          refine lv_iadd hx hb d_Mo_entry_68 ?_
          obtain ⟨hi, hw⟩ := hw
          refine rdM_20 F hwd hi d_Mo_entry_69 ?_
          refine lv_i2l hx hb d_Mo_entry_70 rfl ?_
          refine lv_ldc2 (v := 4294967295) hx hb hown (hts _ kM_4) d_Mo_entry_71 ?_
          refine lv_land hx hb d_Mo_entry_74 ?_
          refine lv_ladd hx hb d_Mo_entry_75 ?_
          exact hret _ _ _ _ hw hwd _ _ d_Mo_entry_76
        · have hw := hw.2 hc
          refine lv_ldc2 (v := -1) hx hb hown (hts _ kM_2) d_Mo_entry_35 ?_
          exact hret _ _ _ _ hw hwd _ _ d_Mo_entry_38

theorem ct_Mo_entry {l : Launch} {D : va_G} {cI cZ : ClassId} {ad : Nat → Nat} (x1 : Int32) (x2 : Int32) (g : St) (K : Int64 → St → Prop) (h : pc_Mo_entry x1 x2 g K) : ctMJ l y_Mo_entry b_Mo_entry 3 0 0 D cI cZ ad [.ref (ad 0), .int x1, .int x2] g K :=
  enMJ (by decide) (Nat.le_of_ble_eq_true rfl) (fun p e s m args below meth c A H0 ls Q F hwd hl hret => wb_Mo_entry_0 F hret h hwd hl)

set_option maxHeartbeats 4000000 in
set_option maxRecDepth 100000 in
theorem wb_Mo_set_0 {K : Int32 → St → Prop} {x1 : Int32} {x2 : Int32} {g : St} (F : fxM D cI cZ p R s m args c b_Mo_set 3 R_Mo 1 22)
    (hret : rtMZ D cI cZ ad p l e R s m args below meth c b_Mo_set A H0 Q K)
    (hw : pb_Mo_set_0 K x1 x2 g)
    (hwd : wdM D cI cZ ad A H0 g H locs) (hl : lv_has ls 3 [(0, .ref (ad 0)), (1, .int x1), (2, .int x2)]) : W p l e R s m args below meth c H locs 0 0 Q (F0 m 0 ls []) := by
  obtain ⟨hx, hb, hml, hown, hts, hK, hN, hR⟩ := F
  have F : fxM D cI cZ p R s m args c b_Mo_set 3 R_Mo 1 22 := ⟨hx, hb, hml, hown, hts, hK, hN, hR⟩
  refine lv_iload_n hx hb d_Mo_set_0 rfl (lv_at hl 1 rfl) ?_
  refine lv_iconst (v := 0) hx hb d_Mo_set_1 (by decide) ?_
  refine lv_bipush (v := 7) hx hb d_Mo_set_2 (by decide) ?_
  refine mcM_Mo_75 F hwd (ct_Mo_outside _ _ _ _ _ hw) ⟨Nat.le_trans (by decide) hR.1, Nat.le_trans (by decide) hR.2⟩ hl.1 (Nat.le_of_ble_eq_true rfl) d_Mo_set_4 (fun v2 g1 H locs hw hwd => ?_)
  refine lv_if_eq (tgt := 12) hx hb d_Mo_set_7 (by decide) (fun hc => ?_) (fun hc => ?_)
  · have hw := hw.1 hc
    refine lv_aload_n hx hb d_Mo_set_12 rfl (lv_at hl 0 rfl) ?_
    refine gfM_Mo_28 F hwd d_Mo_set_13 ?_
    refine lv_iload_n hx hb d_Mo_set_16 rfl (lv_at hl 1 rfl) ?_
    refine lv_iload_n hx hb d_Mo_set_17 rfl (lv_at hl 2 rfl) ?_
    obtain ⟨hi, hw⟩ := hw
    refine wrM_7 F hwd hi d_Mo_set_18 (fun H locs hwd => ?_)
    obtain ⟨g3, e_g3⟩ : ∃ z : St, z = ar g1 7 x1 x2 := ⟨_, rfl⟩
    have hwd : wdM D cI cZ ad A H0 g3 H locs := by rw [e_g3]; exact hwd
    have hw := hw g3 e_g3
    refine lv_iconst (v := 1) hx hb d_Mo_set_19 (by decide) ?_
    exact hret _ _ _ _ hw (by decide) hwd _ _ d_Mo_set_20
  · have hw := hw.2 hc
    refine lv_iconst (v := 0) hx hb d_Mo_set_10 (by decide) ?_
    exact hret _ _ _ _ hw (by decide) hwd _ _ d_Mo_set_11

theorem ct_Mo_set {l : Launch} {D : va_G} {cI cZ : ClassId} {ad : Nat → Nat} (x1 : Int32) (x2 : Int32) (g : St) (K : Int32 → St → Prop) (h : pc_Mo_set x1 x2 g K) : ctMZ l y_Mo_set b_Mo_set 3 1 22 D cI cZ ad [.ref (ad 0), .int x1, .int x2] g K :=
  enMZ (by decide) (Nat.le_of_ble_eq_true rfl) (fun p e s m args below meth c A H0 ls Q F hwd hl hret => wb_Mo_set_0 F hret h hwd hl)

set_option maxHeartbeats 4000000 in
set_option maxRecDepth 100000 in
theorem wb_Mo_ordered_0 {K : Int32 → St → Prop} {x0 : Int32} {g : St} (F : fxM D cI cZ p R s m args c b_Mo_ordered 1 R_Mo 0 0)
    (hret : rtMI D cI cZ ad p l e R s m args below meth c b_Mo_ordered A H0 Q K)
    (hw : pb_Mo_ordered_0 K x0 g)
    (hwd : wdM D cI cZ ad A H0 g H locs) (hl : lv_has ls 1 [(0, .int x0)]) : W p l e R s m args below meth c H locs 0 0 Q (F0 m 0 ls []) := by
  obtain ⟨hx, hb, hml, hown, hts, hK, hN, hR⟩ := F
  have F : fxM D cI cZ p R s m args c b_Mo_ordered 1 R_Mo 0 0 := ⟨hx, hb, hml, hown, hts, hK, hN, hR⟩
  refine lv_iload_n hx hb d_Mo_ordered_0 rfl (lv_at hl 0 rfl) ?_
  refine lv_if_lt (tgt := 8) hx hb d_Mo_ordered_1 (by decide) (fun hc => ?_) (fun hc => ?_)
  · have hw := hw.1 hc
    refine lv_iload_n hx hb d_Mo_ordered_8 rfl (lv_at hl 0 rfl) ?_
    refine lv_ldc (v := 2147483647) hx hb hown (hts _ kM_0) d_Mo_ordered_9 ?_
    refine lv_iand hx hb d_Mo_ordered_11 ?_
    refine lv_ineg hx hb d_Mo_ordered_12 ?_
    exact hret _ _ _ _ hw hwd _ _ d_Mo_ordered_13
  · have hw := hw.2 hc
    refine lv_iload_n hx hb d_Mo_ordered_4 rfl (lv_at hl 0 rfl) ?_
    refine lv_goto (tgt := 13) hx hb d_Mo_ordered_5 (by decide) ?_
    exact hret _ _ _ _ hw hwd _ _ d_Mo_ordered_13

theorem ct_Mo_ordered {l : Launch} {D : va_G} {cI cZ : ClassId} {ad : Nat → Nat} (x0 : Int32) (g : St) (K : Int32 → St → Prop) (h : pc_Mo_ordered x0 g K) : ctMI l y_Mo_ordered b_Mo_ordered 1 0 0 D cI cZ ad [.int x0] g K :=
  enMI (by decide) (Nat.le_of_ble_eq_true rfl) (fun p e s m args below meth c A H0 ls Q F hwd hl hret => wb_Mo_ordered_0 F hret h hwd hl)

set_option maxHeartbeats 4000000 in
set_option maxRecDepth 100000 in
theorem wb_Mo_whole_2 {K : Int32 → St → Prop} {P2 : Int32 → Int32 → St → Prop} {x0 : Int32} {x1 : Int32} {g : St} (F : fxM D cI cZ p R s m args c b_Mo_whole 2 R_Mo 0 0)
    (hret : rtMI D cI cZ ad p l e R s m args below meth c b_Mo_whole A H0 Q K) (hp2 : ∀ (x0 : Int32) (x1 : Int32) (g : St) (H : Heap) (locs : List Loc) (ls : Array Slot), P2 x0 x1 g → wdM D cI cZ ad A H0 g H locs → lv_has ls 2 [(0, .int x0), (1, .int x1)] → W p l e R s m args below meth c H locs 0 0 Q (F0 m 2 ls []))
    (hw : pb_Mo_whole_2 K P2 x0 x1 g)
    (hwd : wdM D cI cZ ad A H0 g H locs) (hl : lv_has ls 2 [(0, .int x0), (1, .int x1)]) : W p l e R s m args below meth c H locs 0 0 Q (F0 m 2 ls []) := by
  obtain ⟨hx, hb, hml, hown, hts, hK, hN, hR⟩ := F
  have F : fxM D cI cZ p R s m args c b_Mo_whole 2 R_Mo 0 0 := ⟨hx, hb, hml, hown, hts, hK, hN, hR⟩
  refine lv_iconst (v := 2) hx hb d_Mo_whole_2 (by decide) ?_
  refine lv_iload_n hx hb d_Mo_whole_3 rfl (lv_at hl 1 rfl) ?_
  refine lv_ishl hx hb d_Mo_whole_4 ?_
  refine lv_iload_n hx hb d_Mo_whole_5 rfl (lv_at hl 0 rfl) ?_
  refine lv_icmp_gt (tgt := 15) hx hb d_Mo_whole_6 (by decide) (fun hc => ?_) (fun hc => ?_)
  · have hw := hw.1 hc
    refine lv_bipush (v := 127) hx hb d_Mo_whole_15 (by decide) ?_
    refine lv_iload_n hx hb d_Mo_whole_17 rfl (lv_at hl 1 rfl) ?_
    refine lv_iadd hx hb d_Mo_whole_18 ?_
    refine lv_ldc (v := 8388608) hx hb hown (hts _ kM_5) d_Mo_whole_19 ?_
    refine lv_imul hx hb d_Mo_whole_21 ?_
    refine lv_iload_n hx hb d_Mo_whole_22 rfl (lv_at hl 0 rfl) ?_
    refine lv_ldc (v := 8388608) hx hb hown (hts _ kM_5) d_Mo_whole_23 ?_
    refine lv_iload_n hx hb d_Mo_whole_25 rfl (lv_at hl 1 rfl) ?_
    refine lv_ishr hx hb d_Mo_whole_26 ?_
    refine lv_imul hx hb d_Mo_whole_27 ?_
    refine lv_iadd hx hb d_Mo_whole_28 ?_
    refine lv_ldc (v := 8388608) hx hb hown (hts _ kM_5) d_Mo_whole_29 ?_
    refine lv_isub hx hb d_Mo_whole_31 ?_
    exact hret _ _ _ _ hw hwd _ _ d_Mo_whole_32
  · have hw := hw.2 hc
    obtain ⟨v1, e_v1⟩ : ∃ z, z = x1 + (1 : Int32) := ⟨_, rfl⟩
    have hw := hw v1 e_v1
    refine lv_iinc (k := 1) (lv' := [(1, .int v1), (0, .int x0)]) hx hb d_Mo_whole_9 hl rfl e_v1.symm (by decide) rfl (fun ls hl => ?_)
    refine lv_goto (tgt := 2) hx hb d_Mo_whole_12 (by decide) ?_
    exact hp2 _ _ _ H locs ls hw hwd (lv_sub hl [1, 0] rfl)

set_option maxHeartbeats 4000000 in
theorem wl_Mo_whole_2 {K : Int32 → St → Prop} {x0 : Int32} {x1 : Int32} {g : St} (F : fxM D cI cZ p R s m args c b_Mo_whole 2 R_Mo 0 0)
    (hret : rtMI D cI cZ ad p l e R s m args below meth c b_Mo_whole A H0 Q K)
    (hw : pl_Mo_whole_2 K x0 x1 g)
    (hwd : wdM D cI cZ ad A H0 g H locs) (hl : lv_has ls 2 [(0, .int x0), (1, .int x1)]) : W p l e R s m args below meth c H locs 0 0 Q (F0 m 2 ls []) := by
  refine hw (fun x0 x1 g => ∀ (H : Heap) (locs : List Loc) (ls : Array Slot), wdM D cI cZ ad A H0 g H locs → lv_has ls 2 [(0, .int x0), (1, .int x1)] → W p l e R s m args below meth c H locs 0 0 Q (F0 m 2 ls [])) ?_ H locs ls hwd hl
  intro x0 x1 g hw H locs ls hwd hl
  exact wb_Mo_whole_2 F hret (fun x0 x1 g H locs ls h hwd hl => h H locs ls hwd hl) hw hwd hl

set_option maxHeartbeats 4000000 in
set_option maxRecDepth 100000 in
theorem wb_Mo_whole_0 {K : Int32 → St → Prop} {x0 : Int32} {g : St} (F : fxM D cI cZ p R s m args c b_Mo_whole 2 R_Mo 0 0)
    (hret : rtMI D cI cZ ad p l e R s m args below meth c b_Mo_whole A H0 Q K)
    (hw : pb_Mo_whole_0 K x0 g)
    (hwd : wdM D cI cZ ad A H0 g H locs) (hl : lv_has ls 2 [(0, .int x0)]) : W p l e R s m args below meth c H locs 0 0 Q (F0 m 0 ls []) := by
  obtain ⟨hx, hb, hml, hown, hts, hK, hN, hR⟩ := F
  have F : fxM D cI cZ p R s m args c b_Mo_whole 2 R_Mo 0 0 := ⟨hx, hb, hml, hown, hts, hK, hN, hR⟩
  refine lv_iconst (v := 0) hx hb d_Mo_whole_0 (by decide) ?_
  refine lv_topi (fun v1 e_v1 => ?_)
  have hw := hw v1 e_v1
  refine lv_istore_n (lv' := [(1, .int v1), (0, .int x0)]) hx hb d_Mo_whole_1 rfl hl (by decide) rfl (fun ls hl => ?_)
  exact wl_Mo_whole_2 F hret hw hwd (lv_sub hl [1, 0] rfl)

theorem ct_Mo_whole {l : Launch} {D : va_G} {cI cZ : ClassId} {ad : Nat → Nat} (x0 : Int32) (g : St) (K : Int32 → St → Prop) (h : pc_Mo_whole x0 g K) : ctMI l y_Mo_whole b_Mo_whole 2 0 0 D cI cZ ad [.int x0] g K :=
  enMI (by decide) (Nat.le_of_ble_eq_true rfl) (fun p e s m args below meth c A H0 ls Q F hwd hl hret => wb_Mo_whole_0 F hret h hwd hl)
end WALKM2
