section WALKM3
variable {p : Program} {l : Launch} {e : Env} {R : Room} {s : State} {m : MethodId} {args : Array Value} {below : List Frame} {meth : Method} {c : Code} {H : Heap} {locs : List Loc} {Q : State → Prop}
variable {D : va_G} {cI cZ : ClassId} {ad : Nat → Nat} {A : Nat → Prop} {H0 : Heap} {ls : Array Slot}
set_option maxHeartbeats 4000000 in
set_option maxRecDepth 100000 in
theorem wb_Mo_goesToYes_165 {K : Int32 → St → Prop} {P124 : Int32 → Int32 → Int32 → Int32 → Int32 → St → Prop} {x1 : Int32} {x2 : Int32} {x3 : Int32} {x4 : Int32} {x5 : Int32} {t0 : Int32} {g : St} (F : fxM D cI cZ p R s m args c b_Mo_goesToYes 6 R_Mo 1 21)
    (hret : rtMZ D cI cZ ad p l e R s m args below meth c b_Mo_goesToYes A H0 Q K) (hp124 : ∀ (x1 : Int32) (x2 : Int32) (x3 : Int32) (x4 : Int32) (x5 : Int32) (g : St) (H : Heap) (locs : List Loc) (ls : Array Slot), P124 x1 x2 x3 x4 x5 g → wdM D cI cZ ad A H0 g H locs → lv_has ls 6 [(0, .ref (ad 0)), (1, .int x1), (2, .int x2), (3, .int x3), (4, .int x4), (5, .int x5)] → W p l e R s m args below meth c H locs 0 0 Q (F0 m 124 ls []))
    (hw : pb_Mo_goesToYes_165 K P124 x1 x2 x3 x4 x5 t0 g)
    (hwd : wdM D cI cZ ad A H0 g H locs) (hl : lv_has ls 6 [(0, .ref (ad 0)), (1, .int x1), (2, .int x2), (3, .int x3), (4, .int x4), (5, .int x5)]) : W p l e R s m args below meth c H locs 0 0 Q (F0 m 165 ls [.int t0]) := by
  obtain ⟨hx, hb, hml, hown, hts, hK, hN, hR⟩ := F
  have F : fxM D cI cZ p R s m args c b_Mo_goesToYes 6 R_Mo 1 21 := ⟨hx, hb, hml, hown, hts, hK, hN, hR⟩
  refine lv_topi (fun v1 e_v1 => ?_)
  have hw := hw v1 e_v1
  refine lv_istore (lv' := [(4, .int v1), (0, .ref (ad 0)), (1, .int x1), (2, .int x2), (3, .int x3), (5, .int x5)]) hx hb d_Mo_goesToYes_165 hl (by decide) rfl (fun ls hl => ?_)
  obtain ⟨v2, e_v2⟩ : ∃ z, z = x5 + (1 : Int32) := ⟨_, rfl⟩
  have hw := hw v2 e_v2
  refine lv_iinc (k := 5) (lv' := [(5, .int v2), (4, .int v1), (0, .ref (ad 0)), (1, .int x1), (2, .int x2), (3, .int x3)]) hx hb d_Mo_goesToYes_167 hl rfl e_v2.symm (by decide) rfl (fun ls hl => ?_)
  refine lv_goto (tgt := 124) hx hb d_Mo_goesToYes_170 (by decide) ?_
  exact hp124 _ _ _ _ _ _ H locs ls hw hwd (lv_sub hl [2, 3, 4, 5, 1, 0] rfl)

set_option maxHeartbeats 4000000 in
set_option maxRecDepth 100000 in
theorem wb_Mo_goesToYes_160 {K : Int32 → St → Prop} {P124 : Int32 → Int32 → Int32 → Int32 → Int32 → St → Prop} {x1 : Int32} {x2 : Int32} {x3 : Int32} {x4 : Int32} {x5 : Int32} {g : St} (F : fxM D cI cZ p R s m args c b_Mo_goesToYes 6 R_Mo 1 21)
    (hret : rtMZ D cI cZ ad p l e R s m args below meth c b_Mo_goesToYes A H0 Q K) (hp124 : ∀ (x1 : Int32) (x2 : Int32) (x3 : Int32) (x4 : Int32) (x5 : Int32) (g : St) (H : Heap) (locs : List Loc) (ls : Array Slot), P124 x1 x2 x3 x4 x5 g → wdM D cI cZ ad A H0 g H locs → lv_has ls 6 [(0, .ref (ad 0)), (1, .int x1), (2, .int x2), (3, .int x3), (4, .int x4), (5, .int x5)] → W p l e R s m args below meth c H locs 0 0 Q (F0 m 124 ls []))
    (hw : pb_Mo_goesToYes_160 K P124 x1 x2 x3 x4 x5 g)
    (hwd : wdM D cI cZ ad A H0 g H locs) (hl : lv_has ls 6 [(0, .ref (ad 0)), (1, .int x1), (2, .int x2), (3, .int x3), (4, .int x4), (5, .int x5)]) : W p l e R s m args below meth c H locs 0 0 Q (F0 m 160 ls []) := by
  obtain ⟨hx, hb, hml, hown, hts, hK, hN, hR⟩ := F
  have F : fxM D cI cZ p R s m args c b_Mo_goesToYes 6 R_Mo 1 21 := ⟨hx, hb, hml, hown, hts, hK, hN, hR⟩
  refine lv_iconst (v := 1) hx hb d_Mo_goesToYes_160 (by decide) ?_
  refine lv_goto (tgt := 165) hx hb d_Mo_goesToYes_161 (by decide) ?_
  exact wb_Mo_goesToYes_165 F hret hp124 hw hwd (lv_sub hl [0, 1, 2, 3, 4, 5] rfl)

set_option maxHeartbeats 4000000 in
set_option maxRecDepth 100000 in
theorem wb_Mo_goesToYes_164 {K : Int32 → St → Prop} {P124 : Int32 → Int32 → Int32 → Int32 → Int32 → St → Prop} {x1 : Int32} {x2 : Int32} {x3 : Int32} {x4 : Int32} {x5 : Int32} {g : St} (F : fxM D cI cZ p R s m args c b_Mo_goesToYes 6 R_Mo 1 21)
    (hret : rtMZ D cI cZ ad p l e R s m args below meth c b_Mo_goesToYes A H0 Q K) (hp124 : ∀ (x1 : Int32) (x2 : Int32) (x3 : Int32) (x4 : Int32) (x5 : Int32) (g : St) (H : Heap) (locs : List Loc) (ls : Array Slot), P124 x1 x2 x3 x4 x5 g → wdM D cI cZ ad A H0 g H locs → lv_has ls 6 [(0, .ref (ad 0)), (1, .int x1), (2, .int x2), (3, .int x3), (4, .int x4), (5, .int x5)] → W p l e R s m args below meth c H locs 0 0 Q (F0 m 124 ls []))
    (hw : pb_Mo_goesToYes_164 K P124 x1 x2 x3 x4 x5 g)
    (hwd : wdM D cI cZ ad A H0 g H locs) (hl : lv_has ls 6 [(0, .ref (ad 0)), (1, .int x1), (2, .int x2), (3, .int x3), (4, .int x4), (5, .int x5)]) : W p l e R s m args below meth c H locs 0 0 Q (F0 m 164 ls []) := by
  obtain ⟨hx, hb, hml, hown, hts, hK, hN, hR⟩ := F
  have F : fxM D cI cZ p R s m args c b_Mo_goesToYes 6 R_Mo 1 21 := ⟨hx, hb, hml, hown, hts, hK, hN, hR⟩
  refine lv_iconst (v := 0) hx hb d_Mo_goesToYes_164 (by decide) ?_
  exact wb_Mo_goesToYes_165 F hret hp124 hw hwd (lv_sub hl [0, 1, 2, 3, 4, 5] rfl)

set_option maxHeartbeats 4000000 in
set_option maxRecDepth 100000 in
theorem wb_Mo_goesToYes_124 {K : Int32 → St → Prop} {P124 : Int32 → Int32 → Int32 → Int32 → Int32 → St → Prop} {x1 : Int32} {x2 : Int32} {x3 : Int32} {x4 : Int32} {x5 : Int32} {g : St} (F : fxM D cI cZ p R s m args c b_Mo_goesToYes 6 R_Mo 1 21)
    (hret : rtMZ D cI cZ ad p l e R s m args below meth c b_Mo_goesToYes A H0 Q K) (hp124 : ∀ (x1 : Int32) (x2 : Int32) (x3 : Int32) (x4 : Int32) (x5 : Int32) (g : St) (H : Heap) (locs : List Loc) (ls : Array Slot), P124 x1 x2 x3 x4 x5 g → wdM D cI cZ ad A H0 g H locs → lv_has ls 6 [(0, .ref (ad 0)), (1, .int x1), (2, .int x2), (3, .int x3), (4, .int x4), (5, .int x5)] → W p l e R s m args below meth c H locs 0 0 Q (F0 m 124 ls []))
    (hw : pb_Mo_goesToYes_124 K P124 x1 x2 x3 x4 x5 g)
    (hwd : wdM D cI cZ ad A H0 g H locs) (hl : lv_has ls 6 [(0, .ref (ad 0)), (1, .int x1), (2, .int x2), (3, .int x3), (4, .int x4), (5, .int x5)]) : W p l e R s m args below meth c H locs 0 0 Q (F0 m 124 ls []) := by
  obtain ⟨hx, hb, hml, hown, hts, hK, hN, hR⟩ := F
  have F : fxM D cI cZ p R s m args c b_Mo_goesToYes 6 R_Mo 1 21 := ⟨hx, hb, hml, hown, hts, hK, hN, hR⟩
  refine lv_iload hx hb d_Mo_goesToYes_124 (lv_at hl 5 rfl) ?_
  refine lv_bipush (v := 32) hx hb d_Mo_goesToYes_126 (by decide) ?_
  refine lv_icmp_ge (tgt := 173) hx hb d_Mo_goesToYes_128 (by decide) (fun hc => ?_) (fun hc => ?_)
  · have hw := hw.1 hc
    refine lv_iload hx hb d_Mo_goesToYes_173 (lv_at hl 4 rfl) ?_
    exact hret _ _ _ _ hw.2 hw.1 hwd _ _ d_Mo_goesToYes_175
  · have hw := hw.2 hc
    refine lv_iload hx hb d_Mo_goesToYes_131 (lv_at hl 4 rfl) ?_
    refine lv_if_ne (tgt := 160) hx hb d_Mo_goesToYes_133 (by decide) (fun hc => ?_) (fun hc => ?_)
    · have hw := hw.1 hc
      exact wb_Mo_goesToYes_160 F hret hp124 hw hwd (lv_sub hl [0, 1, 2, 3, 4, 5] rfl)
    · have hw := hw.2 hc
      refine lv_aload_n hx hb d_Mo_goesToYes_136 rfl (lv_at hl 0 rfl) ?_
      refine gfM_Mo_16 F hwd d_Mo_goesToYes_137 ?_
      refine lv_iload_n hx hb d_Mo_goesToYes_140 rfl (lv_at hl 1 rfl) ?_
      obtain ⟨hi, hw⟩ := hw
      refine rdM_3 F hwd hi d_Mo_goesToYes_141 ?_
      refine lv_iload hx hb d_Mo_goesToYes_142 (lv_at hl 5 rfl) ?_
      refine lv_iushr hx hb d_Mo_goesToYes_144 rfl ?_
      refine lv_iconst (v := 1) hx hb d_Mo_goesToYes_145 (by decide) ?_
      refine lv_iand hx hb d_Mo_goesToYes_146 ?_
      refine lv_iconst (v := 1) hx hb d_Mo_goesToYes_147 (by decide) ?_
      refine lv_icmp_ne (tgt := 164) hx hb d_Mo_goesToYes_148 (by decide) (fun hc => ?_) (fun hc => ?_)
      · have hw := hw.1 hc
        exact wb_Mo_goesToYes_164 F hret hp124 hw hwd (lv_sub hl [0, 1, 2, 3, 4, 5] rfl)
      · have hw := hw.2 hc
        refine lv_iload_n hx hb d_Mo_goesToYes_151 rfl (lv_at hl 2 rfl) ?_
        refine lv_iload hx hb d_Mo_goesToYes_152 (lv_at hl 5 rfl) ?_
        refine mcM_Mo_162 F hwd (ct_Mo_whole _ _ _ hw) ⟨Nat.le_trans (by decide) hR.1, Nat.le_trans (by decide) hR.2⟩ hl.1 (Nat.le_of_ble_eq_true rfl) d_Mo_goesToYes_154 (fun v2 g1 H locs hw hwd => ?_)
        refine lv_icmp_ne (tgt := 164) hx hb d_Mo_goesToYes_157 (by decide) (fun hc => ?_) (fun hc => ?_)
        · have hw := hw.1 hc
          exact wb_Mo_goesToYes_164 F hret hp124 hw hwd (lv_sub hl [0, 1, 2, 3, 4, 5] rfl)
        · have hw := hw.2 hc
          exact wb_Mo_goesToYes_160 F hret hp124 hw hwd (lv_sub hl [0, 1, 2, 3, 4, 5] rfl)

set_option maxHeartbeats 4000000 in
theorem wl_Mo_goesToYes_124 {K : Int32 → St → Prop} {x1 : Int32} {x2 : Int32} {x3 : Int32} {x4 : Int32} {x5 : Int32} {g : St} (F : fxM D cI cZ p R s m args c b_Mo_goesToYes 6 R_Mo 1 21)
    (hret : rtMZ D cI cZ ad p l e R s m args below meth c b_Mo_goesToYes A H0 Q K)
    (hw : pl_Mo_goesToYes_124 K x1 x2 x3 x4 x5 g)
    (hwd : wdM D cI cZ ad A H0 g H locs) (hl : lv_has ls 6 [(0, .ref (ad 0)), (1, .int x1), (2, .int x2), (3, .int x3), (4, .int x4), (5, .int x5)]) : W p l e R s m args below meth c H locs 0 0 Q (F0 m 124 ls []) := by
  refine hw (fun x1 x2 x3 x4 x5 g => ∀ (H : Heap) (locs : List Loc) (ls : Array Slot), wdM D cI cZ ad A H0 g H locs → lv_has ls 6 [(0, .ref (ad 0)), (1, .int x1), (2, .int x2), (3, .int x3), (4, .int x4), (5, .int x5)] → W p l e R s m args below meth c H locs 0 0 Q (F0 m 124 ls [])) ?_ H locs ls hwd hl
  intro x1 x2 x3 x4 x5 g hw H locs ls hwd hl
  exact wb_Mo_goesToYes_124 F hret (fun x1 x2 x3 x4 x5 g H locs ls h hwd hl => h H locs ls hwd hl) hw hwd hl

set_option maxHeartbeats 4000000 in
set_option maxRecDepth 100000 in
theorem wb_Mo_goesToYes_119 {K : Int32 → St → Prop} {x1 : Int32} {x2 : Int32} {x3 : Int32} {t0 : Int32} {g : St} (F : fxM D cI cZ p R s m args c b_Mo_goesToYes 6 R_Mo 1 21)
    (hret : rtMZ D cI cZ ad p l e R s m args below meth c b_Mo_goesToYes A H0 Q K)
    (hw : pb_Mo_goesToYes_119 K x1 x2 x3 t0 g)
    (hwd : wdM D cI cZ ad A H0 g H locs) (hl : lv_has ls 6 [(0, .ref (ad 0)), (1, .int x1), (2, .int x2), (3, .int x3)]) : W p l e R s m args below meth c H locs 0 0 Q (F0 m 119 ls [.int t0]) := by
  obtain ⟨hx, hb, hml, hown, hts, hK, hN, hR⟩ := F
  have F : fxM D cI cZ p R s m args c b_Mo_goesToYes 6 R_Mo 1 21 := ⟨hx, hb, hml, hown, hts, hK, hN, hR⟩
  refine lv_topi (fun v1 e_v1 => ?_)
  have hw := hw v1 e_v1
  refine lv_istore (lv' := [(4, .int v1), (0, .ref (ad 0)), (1, .int x1), (2, .int x2), (3, .int x3)]) hx hb d_Mo_goesToYes_119 hl (by decide) rfl (fun ls hl => ?_)
  refine lv_iconst (v := 1) hx hb d_Mo_goesToYes_121 (by decide) ?_
  refine lv_topi (fun v2 e_v2 => ?_)
  have hw := hw v2 e_v2
  refine lv_istore (lv' := [(5, .int v2), (4, .int v1), (0, .ref (ad 0)), (1, .int x1), (2, .int x2), (3, .int x3)]) hx hb d_Mo_goesToYes_122 hl (by decide) rfl (fun ls hl => ?_)
  exact wl_Mo_goesToYes_124 F hret hw hwd (lv_sub hl [2, 3, 4, 5, 1, 0] rfl)

set_option maxHeartbeats 4000000 in
set_option maxRecDepth 100000 in
theorem wb_Mo_goesToYes_118 {K : Int32 → St → Prop} {x1 : Int32} {x2 : Int32} {x3 : Int32} {g : St} (F : fxM D cI cZ p R s m args c b_Mo_goesToYes 6 R_Mo 1 21)
    (hret : rtMZ D cI cZ ad p l e R s m args below meth c b_Mo_goesToYes A H0 Q K)
    (hw : pb_Mo_goesToYes_118 K x1 x2 x3 g)
    (hwd : wdM D cI cZ ad A H0 g H locs) (hl : lv_has ls 6 [(0, .ref (ad 0)), (1, .int x1), (2, .int x2), (3, .int x3)]) : W p l e R s m args below meth c H locs 0 0 Q (F0 m 118 ls []) := by
  obtain ⟨hx, hb, hml, hown, hts, hK, hN, hR⟩ := F
  have F : fxM D cI cZ p R s m args c b_Mo_goesToYes 6 R_Mo 1 21 := ⟨hx, hb, hml, hown, hts, hK, hN, hR⟩
  refine lv_iconst (v := 0) hx hb d_Mo_goesToYes_118 (by decide) ?_
  exact wb_Mo_goesToYes_119 F hret hw hwd (lv_sub hl [0, 1, 2, 3] rfl)

set_option maxHeartbeats 4000000 in
set_option maxRecDepth 100000 in
theorem wb_Mo_goesToYes_0 {K : Int32 → St → Prop} {x1 : Int32} {g : St} (F : fxM D cI cZ p R s m args c b_Mo_goesToYes 6 R_Mo 1 21)
    (hret : rtMZ D cI cZ ad p l e R s m args below meth c b_Mo_goesToYes A H0 Q K)
    (hw : pb_Mo_goesToYes_0 K x1 g)
    (hwd : wdM D cI cZ ad A H0 g H locs) (hl : lv_has ls 6 [(0, .ref (ad 0)), (1, .int x1)]) : W p l e R s m args below meth c H locs 0 0 Q (F0 m 0 ls []) := by
  obtain ⟨hx, hb, hml, hown, hts, hK, hN, hR⟩ := F
  have F : fxM D cI cZ p R s m args c b_Mo_goesToYes 6 R_Mo 1 21 := ⟨hx, hb, hml, hown, hts, hK, hN, hR⟩
  refine lv_aload_n hx hb d_Mo_goesToYes_0 rfl (lv_at hl 0 rfl) ?_
  refine gfM_Mo_28 F hwd d_Mo_goesToYes_1 ?_
  refine lv_aload_n hx hb d_Mo_goesToYes_4 rfl (lv_at hl 0 rfl) ?_
  refine gfM_Mo_13 F hwd d_Mo_goesToYes_5 ?_
  refine lv_iload_n hx hb d_Mo_goesToYes_8 rfl (lv_at hl 1 rfl) ?_
  obtain ⟨hi, hw⟩ := hw
  refine rdM_2 F hwd hi d_Mo_goesToYes_9 ?_
  obtain ⟨hi, hw⟩ := hw
  refine rdM_7 F hwd hi d_Mo_goesToYes_10 ?_
  refine lv_topi (fun v1 e_v1 => ?_)
  have hw := hw v1 e_v1
  refine lv_istore_n (lv' := [(2, .int v1), (0, .ref (ad 0)), (1, .int x1)]) hx hb d_Mo_goesToYes_11 rfl hl (by decide) rfl (fun ls hl => ?_)
  refine lv_aload_n hx hb d_Mo_goesToYes_12 rfl (lv_at hl 1 rfl) ?_
  refine gfM_Mo_7 F hwd d_Mo_goesToYes_13 ?_
  refine lv_iload_n hx hb d_Mo_goesToYes_16 rfl (lv_at hl 2 rfl) ?_
  obtain ⟨hi, hw⟩ := hw
  refine rdM_1 F hwd hi d_Mo_goesToYes_17 ?_
  refine lv_topi (fun v2 e_v2 => ?_)
  have hw := hw v2 e_v2
  refine lv_istore_n (lv' := [(3, .int v2), (2, .int v1), (0, .ref (ad 0)), (1, .int x1)]) hx hb d_Mo_goesToYes_18 rfl hl (by decide) rfl (fun ls hl => ?_)
  refine lv_iload_n hx hb d_Mo_goesToYes_19 rfl (lv_at hl 1 rfl) ?_
  refine lv_ldc (v := 2147483647) hx hb hown (hts _ kM_0) d_Mo_goesToYes_20 ?_
  refine lv_iand hx hb d_Mo_goesToYes_22 ?_
  refine lv_ldc (v := 2139095040) hx hb hown (hts _ kM_1) d_Mo_goesToYes_23 ?_
  refine lv_icmp_le (tgt := 41) hx hb d_Mo_goesToYes_25 (by decide) (fun hc => ?_) (fun hc => ?_)
  · have hw := hw.1 hc
    refine lv_iload_n hx hb d_Mo_goesToYes_41 rfl (lv_at hl 0 rfl) ?_
    refine lv_iconst (v := 2) hx hb d_Mo_goesToYes_42 (by decide) ?_
    refine lv_icmp_ge (tgt := 68) hx hb d_Mo_goesToYes_43 (by decide) (fun hc => ?_) (fun hc => ?_)
    · have hw := hw.1 hc
      refine lv_iload_n hx hb d_Mo_goesToYes_68 rfl (lv_at hl 0 rfl) ?_
      refine lv_iconst (v := 4) hx hb d_Mo_goesToYes_69 (by decide) ?_
      refine lv_icmp_ge (tgt := 95) hx hb d_Mo_goesToYes_70 (by decide) (fun hc => ?_) (fun hc => ?_)
      · have hw := hw.1 hc
        refine lv_aload_n hx hb d_Mo_goesToYes_95 rfl (lv_at hl 2 rfl) ?_
        refine gfM_Mo_16 F hwd d_Mo_goesToYes_96 ?_
        refine lv_iload_n hx hb d_Mo_goesToYes_99 rfl (lv_at hl 3 rfl) ?_
        obtain ⟨hi, hw⟩ := hw
        refine rdM_3 F hwd hi d_Mo_goesToYes_100 ?_
        refine lv_iconst (v := 1) hx hb d_Mo_goesToYes_101 (by decide) ?_
        refine lv_iand hx hb d_Mo_goesToYes_102 ?_
        refine lv_iconst (v := 1) hx hb d_Mo_goesToYes_103 (by decide) ?_
        refine lv_icmp_ne (tgt := 118) hx hb d_Mo_goesToYes_104 (by decide) (fun hc => ?_) (fun hc => ?_)
        · have hw := hw.1 hc
          exact wb_Mo_goesToYes_118 F hret hw hwd (lv_sub hl [2, 3, 1, 0] rfl)
        · have hw := hw.2 hc
          refine lv_iload_n hx hb d_Mo_goesToYes_107 rfl (lv_at hl 1 rfl) ?_
          refine lv_ldc (v := 2147483647) hx hb hown (hts _ kM_0) d_Mo_goesToYes_108 ?_
          refine lv_iand hx hb d_Mo_goesToYes_110 ?_
          refine lv_if_ne (tgt := 118) hx hb d_Mo_goesToYes_111 (by decide) (fun hc => ?_) (fun hc => ?_)
          · have hw := hw.1 hc
            exact wb_Mo_goesToYes_118 F hret hw hwd (lv_sub hl [2, 3, 1, 0] rfl)
          · have hw := hw.2 hc
            refine lv_iconst (v := 1) hx hb d_Mo_goesToYes_114 (by decide) ?_
            refine lv_goto (tgt := 119) hx hb d_Mo_goesToYes_115 (by decide) ?_
            exact wb_Mo_goesToYes_119 F hret hw hwd (lv_sub hl [2, 3, 1, 0] rfl)
      · have hw := hw.2 hc
        refine lv_iload_n hx hb d_Mo_goesToYes_73 rfl (lv_at hl 1 rfl) ?_
        refine mcM_Mo_159 F hwd (ct_Mo_ordered _ _ _ hw) ⟨Nat.le_trans (by decide) hR.1, Nat.le_trans (by decide) hR.2⟩ hl.1 (Nat.le_of_ble_eq_true rfl) d_Mo_goesToYes_74 (fun v4 g3 H locs hw hwd => ?_)
        refine lv_aload_n hx hb d_Mo_goesToYes_77 rfl (lv_at hl 2 rfl) ?_
        refine gfM_Mo_16 F hwd d_Mo_goesToYes_78 ?_
        refine lv_iload_n hx hb d_Mo_goesToYes_81 rfl (lv_at hl 3 rfl) ?_
        obtain ⟨hi, hw⟩ := hw
        refine rdM_3 F hwd hi d_Mo_goesToYes_82 ?_
        refine mcM_Mo_159 F hwd (ct_Mo_ordered _ _ _ hw) ⟨Nat.le_trans (by decide) hR.1, Nat.le_trans (by decide) hR.2⟩ hl.1 (Nat.le_of_ble_eq_true rfl) d_Mo_goesToYes_83 (fun v6 g5 H locs hw hwd => ?_)
        refine lv_icmp_gt (tgt := 93) hx hb d_Mo_goesToYes_86 (by decide) (fun hc => ?_) (fun hc => ?_)
        · have hw := hw.1 hc
          refine lv_iconst (v := 0) hx hb d_Mo_goesToYes_93 (by decide) ?_
          exact hret _ _ _ _ hw (by decide) hwd _ _ d_Mo_goesToYes_94
        · have hw := hw.2 hc
          refine lv_iconst (v := 1) hx hb d_Mo_goesToYes_89 (by decide) ?_
          refine lv_goto (tgt := 94) hx hb d_Mo_goesToYes_90 (by decide) ?_
          exact hret _ _ _ _ hw (by decide) hwd _ _ d_Mo_goesToYes_94
    · have hw := hw.2 hc
      refine lv_iload_n hx hb d_Mo_goesToYes_46 rfl (lv_at hl 1 rfl) ?_
      refine mcM_Mo_159 F hwd (ct_Mo_ordered _ _ _ hw) ⟨Nat.le_trans (by decide) hR.1, Nat.le_trans (by decide) hR.2⟩ hl.1 (Nat.le_of_ble_eq_true rfl) d_Mo_goesToYes_47 (fun v8 g7 H locs hw hwd => ?_)
      refine lv_aload_n hx hb d_Mo_goesToYes_50 rfl (lv_at hl 2 rfl) ?_
      refine gfM_Mo_16 F hwd d_Mo_goesToYes_51 ?_
      refine lv_iload_n hx hb d_Mo_goesToYes_54 rfl (lv_at hl 3 rfl) ?_
      obtain ⟨hi, hw⟩ := hw
      refine rdM_3 F hwd hi d_Mo_goesToYes_55 ?_
      refine mcM_Mo_159 F hwd (ct_Mo_ordered _ _ _ hw) ⟨Nat.le_trans (by decide) hR.1, Nat.le_trans (by decide) hR.2⟩ hl.1 (Nat.le_of_ble_eq_true rfl) d_Mo_goesToYes_56 (fun v10 g9 H locs hw hwd => ?_)
      refine lv_icmp_ge (tgt := 66) hx hb d_Mo_goesToYes_59 (by decide) (fun hc => ?_) (fun hc => ?_)
      · have hw := hw.1 hc
        refine lv_iconst (v := 0) hx hb d_Mo_goesToYes_66 (by decide) ?_
        exact hret _ _ _ _ hw (by decide) hwd _ _ d_Mo_goesToYes_67
      · have hw := hw.2 hc
        refine lv_iconst (v := 1) hx hb d_Mo_goesToYes_62 (by decide) ?_
        refine lv_goto (tgt := 67) hx hb d_Mo_goesToYes_63 (by decide) ?_
        exact hret _ _ _ _ hw (by decide) hwd _ _ d_Mo_goesToYes_67
  · have hw := hw.2 hc
    refine lv_iload_n hx hb d_Mo_goesToYes_28 rfl (lv_at hl 0 rfl) ?_
    refine lv_iconst (v := 1) hx hb d_Mo_goesToYes_29 (by decide) ?_
    refine lv_iand hx hb d_Mo_goesToYes_30 ?_
    refine lv_iconst (v := 1) hx hb d_Mo_goesToYes_31 (by decide) ?_
    refine lv_icmp_ne (tgt := 39) hx hb d_Mo_goesToYes_32 (by decide) (fun hc => ?_) (fun hc => ?_)
    · have hw := hw.1 hc
      refine lv_iconst (v := 0) hx hb d_Mo_goesToYes_39 (by decide) ?_
      exact hret _ _ _ _ hw (by decide) hwd _ _ d_Mo_goesToYes_40
    · have hw := hw.2 hc
      refine lv_iconst (v := 1) hx hb d_Mo_goesToYes_35 (by decide) ?_
      refine lv_goto (tgt := 40) hx hb d_Mo_goesToYes_36 (by decide) ?_
      exact hret _ _ _ _ hw (by decide) hwd _ _ d_Mo_goesToYes_40

theorem ct_Mo_goesToYes {l : Launch} {D : va_G} {cI cZ : ClassId} {ad : Nat → Nat} (x1 : Int32) (g : St) (K : Int32 → St → Prop) (h : pc_Mo_goesToYes x1 g K) : ctMZ l y_Mo_goesToYes b_Mo_goesToYes 6 1 21 D cI cZ ad [.ref (ad 0), .int x1] g K :=
  enMZ (by decide) (Nat.le_of_ble_eq_true rfl) (fun p e s m args below meth c A H0 ls Q F hwd hl hret => wb_Mo_goesToYes_0 F hret h hwd hl)

set_option maxHeartbeats 4000000 in
set_option maxRecDepth 100000 in
theorem wb_Mo_reach_54 {K : Int32 → St → Prop} {P21 : Int32 → Int32 → St → Prop} {x1 : Int32} {x2 : Int32} {t0 : Int32} {g : St} (F : fxM D cI cZ p R s m args c b_Mo_reach 3 R_Mo 2 46)
    (hret : rtMI D cI cZ ad p l e R s m args below meth c b_Mo_reach A H0 Q K) (hp21 : ∀ (x1 : Int32) (x2 : Int32) (g : St) (H : Heap) (locs : List Loc) (ls : Array Slot), P21 x1 x2 g → wdM D cI cZ ad A H0 g H locs → lv_has ls 3 [(0, .ref (ad 0)), (1, .int x1), (2, .int x2)] → W p l e R s m args below meth c H locs 0 0 Q (F0 m 21 ls []))
    (hw : pb_Mo_reach_54 K P21 x1 x2 t0 g)
    (hwd : wdM D cI cZ ad A H0 g H locs) (hl : lv_has ls 3 [(0, .ref (ad 0)), (1, .int x1), (2, .int x2)]) : W p l e R s m args below meth c H locs 0 0 Q (F0 m 54 ls [.int t0]) := by
  obtain ⟨hx, hb, hml, hown, hts, hK, hN, hR⟩ := F
  have F : fxM D cI cZ p R s m args c b_Mo_reach 3 R_Mo 2 46 := ⟨hx, hb, hml, hown, hts, hK, hN, hR⟩
  refine lv_topi (fun v1 e_v1 => ?_)
  have hw := hw v1 e_v1
  refine lv_istore_n (lv' := [(2, .int v1), (0, .ref (ad 0)), (1, .int x1)]) hx hb d_Mo_reach_54 rfl hl (by decide) rfl (fun ls hl => ?_)
  refine lv_goto (tgt := 21) hx hb d_Mo_reach_55 (by decide) ?_
  exact hp21 _ _ _ H locs ls hw hwd (lv_sub hl [1, 2, 0] rfl)

set_option maxHeartbeats 4000000 in
set_option maxRecDepth 100000 in
theorem wb_Mo_reach_21 {K : Int32 → St → Prop} {P21 : Int32 → Int32 → St → Prop} {x1 : Int32} {x2 : Int32} {g : St} (F : fxM D cI cZ p R s m args c b_Mo_reach 3 R_Mo 2 46)
    (hret : rtMI D cI cZ ad p l e R s m args below meth c b_Mo_reach A H0 Q K) (hp21 : ∀ (x1 : Int32) (x2 : Int32) (g : St) (H : Heap) (locs : List Loc) (ls : Array Slot), P21 x1 x2 g → wdM D cI cZ ad A H0 g H locs → lv_has ls 3 [(0, .ref (ad 0)), (1, .int x1), (2, .int x2)] → W p l e R s m args below meth c H locs 0 0 Q (F0 m 21 ls []))
    (hw : pb_Mo_reach_21 K P21 x1 x2 g)
    (hwd : wdM D cI cZ ad A H0 g H locs) (hl : lv_has ls 3 [(0, .ref (ad 0)), (1, .int x1), (2, .int x2)]) : W p l e R s m args below meth c H locs 0 0 Q (F0 m 21 ls []) := by
  obtain ⟨hx, hb, hml, hown, hts, hK, hN, hR⟩ := F
  have F : fxM D cI cZ p R s m args c b_Mo_reach 3 R_Mo 2 46 := ⟨hx, hb, hml, hown, hts, hK, hN, hR⟩
  refine lv_aload_n hx hb d_Mo_reach_21 rfl (lv_at hl 0 rfl) ?_
  refine gfM_Mo_7 F hwd d_Mo_reach_22 ?_
  refine lv_iload_n hx hb d_Mo_reach_25 rfl (lv_at hl 2 rfl) ?_
  obtain ⟨hi, hw⟩ := hw
  refine rdM_1 F hwd hi d_Mo_reach_26 ?_
  refine lv_iconst (v := -1) hx hb d_Mo_reach_27 (by decide) ?_
  refine lv_icmp_eq (tgt := 58) hx hb d_Mo_reach_28 (by decide) (fun hc => ?_) (fun hc => ?_)
  · have hw := hw.1 hc
    refine lv_iload_n hx hb d_Mo_reach_58 rfl (lv_at hl 2 rfl) ?_
    exact hret _ _ _ _ hw hwd _ _ d_Mo_reach_59
  · have hw := hw.2 hc
    refine lv_aload_n hx hb d_Mo_reach_31 rfl (lv_at hl 0 rfl) ?_
    refine lv_iload_n hx hb d_Mo_reach_32 rfl (lv_at hl 2 rfl) ?_
    refine mcM_Mo_165 F hwd (ct_Mo_goesToYes _ _ _ hw) ⟨Nat.le_trans (by decide) hR.1, Nat.le_trans (by decide) hR.2⟩ hl.1 (Nat.le_of_ble_eq_true rfl) d_Mo_reach_33 (fun v2 g1 H locs hw hwd => ?_)
    refine lv_if_eq (tgt := 48) hx hb d_Mo_reach_36 (by decide) (fun hc => ?_) (fun hc => ?_)
    · have hw := hw.1 hc
      refine lv_aload_n hx hb d_Mo_reach_48 rfl (lv_at hl 0 rfl) ?_
      refine gfM_Mo_22 F hwd d_Mo_reach_49 ?_
      refine lv_iload_n hx hb d_Mo_reach_52 rfl (lv_at hl 2 rfl) ?_
      obtain ⟨hi, hw⟩ := hw
      refine rdM_5 F hwd hi d_Mo_reach_53 ?_
      exact wb_Mo_reach_54 F hret hp21 hw hwd (lv_sub hl [0, 1, 2] rfl)
    · have hw := hw.2 hc
      refine lv_aload_n hx hb d_Mo_reach_39 rfl (lv_at hl 0 rfl) ?_
      refine gfM_Mo_19 F hwd d_Mo_reach_40 ?_
      refine lv_iload_n hx hb d_Mo_reach_43 rfl (lv_at hl 2 rfl) ?_
      obtain ⟨hi, hw⟩ := hw
      refine rdM_4 F hwd hi d_Mo_reach_44 ?_
      refine lv_goto (tgt := 54) hx hb d_Mo_reach_45 (by decide) ?_
      exact wb_Mo_reach_54 F hret hp21 hw hwd (lv_sub hl [0, 1, 2] rfl)

set_option maxHeartbeats 4000000 in
theorem wl_Mo_reach_21 {K : Int32 → St → Prop} {x1 : Int32} {x2 : Int32} {g : St} (F : fxM D cI cZ p R s m args c b_Mo_reach 3 R_Mo 2 46)
    (hret : rtMI D cI cZ ad p l e R s m args below meth c b_Mo_reach A H0 Q K)
    (hw : pl_Mo_reach_21 K x1 x2 g)
    (hwd : wdM D cI cZ ad A H0 g H locs) (hl : lv_has ls 3 [(0, .ref (ad 0)), (1, .int x1), (2, .int x2)]) : W p l e R s m args below meth c H locs 0 0 Q (F0 m 21 ls []) := by
  refine hw (fun x1 x2 g => ∀ (H : Heap) (locs : List Loc) (ls : Array Slot), wdM D cI cZ ad A H0 g H locs → lv_has ls 3 [(0, .ref (ad 0)), (1, .int x1), (2, .int x2)] → W p l e R s m args below meth c H locs 0 0 Q (F0 m 21 ls [])) ?_ H locs ls hwd hl
  intro x1 x2 g hw H locs ls hwd hl
  exact wb_Mo_reach_21 F hret (fun x1 x2 g H locs ls h hwd hl => h H locs ls hwd hl) hw hwd hl

set_option maxHeartbeats 4000000 in
set_option maxRecDepth 100000 in
theorem wb_Mo_reach_0 {K : Int32 → St → Prop} {x1 : Int32} {g : St} (F : fxM D cI cZ p R s m args c b_Mo_reach 3 R_Mo 2 46)
    (hret : rtMI D cI cZ ad p l e R s m args below meth c b_Mo_reach A H0 Q K)
    (hw : pb_Mo_reach_0 K x1 g)
    (hwd : wdM D cI cZ ad A H0 g H locs) (hl : lv_has ls 3 [(0, .ref (ad 0)), (1, .int x1)]) : W p l e R s m args below meth c H locs 0 0 Q (F0 m 0 ls []) := by
  obtain ⟨hx, hb, hml, hown, hts, hK, hN, hR⟩ := F
  have F : fxM D cI cZ p R s m args c b_Mo_reach 3 R_Mo 2 46 := ⟨hx, hb, hml, hown, hts, hK, hN, hR⟩
  refine lv_iload_n hx hb d_Mo_reach_0 rfl (lv_at hl 1 rfl) ?_
  refine lv_if_lt (tgt := 12) hx hb d_Mo_reach_1 (by decide) (fun hc => ?_) (fun hc => ?_)
  · have hw := hw.1 hc
    refine lv_iconst (v := -1) hx hb d_Mo_reach_12 (by decide) ?_
    exact hret _ _ _ _ hw hwd _ _ d_Mo_reach_13
  · have hw := hw.2 hc
    refine lv_iload_n hx hb d_Mo_reach_4 rfl (lv_at hl 1 rfl) ?_
    refine lv_aload_n hx hb d_Mo_reach_5 rfl (lv_at hl 0 rfl) ?_
    refine gfM_Mo_142 F hwd d_Mo_reach_6 ?_
    refine lv_icmp_lt (tgt := 14) hx hb d_Mo_reach_9 (by decide) (fun hc => ?_) (fun hc => ?_)
    · have hw := hw.1 hc
      refine lv_aload_n hx hb d_Mo_reach_14 rfl (lv_at hl 0 rfl) ?_
      refine gfM_Mo_25 F hwd d_Mo_reach_15 ?_
      refine lv_iload_n hx hb d_Mo_reach_18 rfl (lv_at hl 1 rfl) ?_
      obtain ⟨hi, hw⟩ := hw
      refine rdM_6 F hwd hi d_Mo_reach_19 ?_
      refine lv_topi (fun v1 e_v1 => ?_)
      have hw := hw v1 e_v1
      refine lv_istore_n (lv' := [(2, .int v1), (0, .ref (ad 0)), (1, .int x1)]) hx hb d_Mo_reach_20 rfl hl (by decide) rfl (fun ls hl => ?_)
      exact wl_Mo_reach_21 F hret hw hwd (lv_sub hl [1, 2, 0] rfl)
    · have hw := hw.2 hc
      refine lv_iconst (v := -1) hx hb d_Mo_reach_12 (by decide) ?_
      exact hret _ _ _ _ hw hwd _ _ d_Mo_reach_13

theorem ct_Mo_reach {l : Launch} {D : va_G} {cI cZ : ClassId} {ad : Nat → Nat} (x1 : Int32) (g : St) (K : Int32 → St → Prop) (h : pc_Mo_reach x1 g K) : ctMI l y_Mo_reach b_Mo_reach 3 2 46 D cI cZ ad [.ref (ad 0), .int x1] g K :=
  enMI (by decide) (Nat.le_of_ble_eq_true rfl) (fun p e s m args below meth c A H0 ls Q F hwd hl hret => wb_Mo_reach_0 F hret h hwd hl)

set_option maxHeartbeats 4000000 in
set_option maxRecDepth 100000 in
theorem wb_Mo_predict_117 {K : Int64 → St → Prop} {P14 : Int64 → Int32 → St → Prop} {P30 : Int64 → Int32 → Int32 → St → Prop} {x1 : Int64} {x3 : Int32} {x4 : Int32} {t1 : Int32} {g : St} (F : fxM D cI cZ p R s m args c b_Mo_predict 5 R_Mo 2 46)
    (hret : rtMJ D cI cZ ad p l e R s m args below meth c b_Mo_predict A H0 Q K) (hp14 : ∀ (x1 : Int64) (x3 : Int32) (g : St) (H : Heap) (locs : List Loc) (ls : Array Slot), P14 x1 x3 g → wdM D cI cZ ad A H0 g H locs → lv_has ls 5 [(0, .ref (ad 0)), (1, .long x1), (3, .int x3)] → W p l e R s m args below meth c H locs 0 0 Q (F0 m 14 ls [])) (hp30 : ∀ (x1 : Int64) (x3 : Int32) (x4 : Int32) (g : St) (H : Heap) (locs : List Loc) (ls : Array Slot), P30 x1 x3 x4 g → wdM D cI cZ ad A H0 g H locs → lv_has ls 5 [(0, .ref (ad 0)), (1, .long x1), (3, .int x3), (4, .int x4)] → W p l e R s m args below meth c H locs 0 0 Q (F0 m 30 ls []))
    (hw : pb_Mo_predict_117 K P14 P30 x1 x3 x4 t1 g)
    (hwd : wdM D cI cZ ad A H0 g H locs) (hl : lv_has ls 5 [(0, .ref (ad 0)), (1, .long x1), (3, .int x3), (4, .int x4)]) : W p l e R s m args below meth c H locs 0 0 Q (F0 m 117 ls [.int t1, .ref (ad 0)]) := by
  obtain ⟨hx, hb, hml, hown, hts, hK, hN, hR⟩ := F
  have F : fxM D cI cZ p R s m args c b_Mo_predict 5 R_Mo 2 46 := ⟨hx, hb, hml, hown, hts, hK, hN, hR⟩
  refine pfM_Mo_171 F hwd d_Mo_predict_117 (fun H locs hwd => ?_)
  obtain ⟨g1, e_g1⟩ : ∃ z : St, z = sc g 108 t1 := ⟨_, rfl⟩
  have hwd : wdM D cI cZ ad A H0 g1 H locs := by rw [e_g1]; exact hwd
  have hw := hw g1 e_g1
  refine lv_goto (tgt := 30) hx hb d_Mo_predict_120 (by decide) ?_
  exact hp30 _ _ _ _ H locs ls hw hwd (lv_sub hl [0, 1, 2, 3] rfl)

set_option maxHeartbeats 4000000 in
set_option maxRecDepth 100000 in
theorem wb_Mo_predict_89 {K : Int64 → St → Prop} {P14 : Int64 → Int32 → St → Prop} {P30 : Int64 → Int32 → Int32 → St → Prop} {x1 : Int64} {x3 : Int32} {x4 : Int32} {t1 : Int32} {t2 : Int32} {g : St} (F : fxM D cI cZ p R s m args c b_Mo_predict 5 R_Mo 2 46)
    (hret : rtMJ D cI cZ ad p l e R s m args below meth c b_Mo_predict A H0 Q K) (hp14 : ∀ (x1 : Int64) (x3 : Int32) (g : St) (H : Heap) (locs : List Loc) (ls : Array Slot), P14 x1 x3 g → wdM D cI cZ ad A H0 g H locs → lv_has ls 5 [(0, .ref (ad 0)), (1, .long x1), (3, .int x3)] → W p l e R s m args below meth c H locs 0 0 Q (F0 m 14 ls [])) (hp30 : ∀ (x1 : Int64) (x3 : Int32) (x4 : Int32) (g : St) (H : Heap) (locs : List Loc) (ls : Array Slot), P30 x1 x3 x4 g → wdM D cI cZ ad A H0 g H locs → lv_has ls 5 [(0, .ref (ad 0)), (1, .long x1), (3, .int x3), (4, .int x4)] → W p l e R s m args below meth c H locs 0 0 Q (F0 m 30 ls []))
    (hw : pb_Mo_predict_89 K P14 P30 x1 x3 x4 t1 t2 g)
    (hwd : wdM D cI cZ ad A H0 g H locs) (hl : lv_has ls 5 [(0, .ref (ad 0)), (1, .long x1), (3, .int x3), (4, .int x4)]) : W p l e R s m args below meth c H locs 0 0 Q (F0 m 89 ls [.int t2, .int t1, .ref (ad 0)]) := by
  obtain ⟨hx, hb, hml, hown, hts, hK, hN, hR⟩ := F
  have F : fxM D cI cZ p R s m args c b_Mo_predict 5 R_Mo 2 46 := ⟨hx, hb, hml, hown, hts, hK, hN, hR⟩
  refine lv_iadd hx hb d_Mo_predict_89 ?_
  refine pfM_Mo_168 F hwd d_Mo_predict_90 (fun H locs hwd => ?_)
  obtain ⟨g1, e_g1⟩ : ∃ z : St, z = sc g 107 (t1 + t2) := ⟨_, rfl⟩
  have hwd : wdM D cI cZ ad A H0 g1 H locs := by rw [e_g1]; exact hwd
  have hw := hw g1 e_g1
  refine lv_aload_n hx hb d_Mo_predict_93 rfl (lv_at hl 0 rfl) ?_
  refine lv_aload_n hx hb d_Mo_predict_94 rfl (lv_at hl 0 rfl) ?_
  refine gfM_Mo_47 F hwd d_Mo_predict_95 ?_
  refine lv_iload hx hb d_Mo_predict_98 (lv_at hl 3 rfl) ?_
  obtain ⟨hi, hw⟩ := hw
  refine rdM_13 F hwd hi d_Mo_predict_100 ?_
  refine lv_if_lt (tgt := 113) hx hb d_Mo_predict_101 (by decide) (fun hc => ?_) (fun hc => ?_)
  · have hw := hw.1 hc
    refine lv_aload_n hx hb d_Mo_predict_113 rfl (lv_at hl 0 rfl) ?_
    refine gfM_Mo_171 F hwd d_Mo_predict_114 ?_
    exact wb_Mo_predict_117 F hret hp14 hp30 hw hwd (lv_sub hl [0, 1, 2, 3] rfl)
  · have hw := hw.2 hc
    refine lv_aload_n hx hb d_Mo_predict_104 rfl (lv_at hl 0 rfl) ?_
    refine gfM_Mo_171 F hwd d_Mo_predict_105 ?_
    refine lv_iconst (v := 1) hx hb d_Mo_predict_108 (by decide) ?_
    refine lv_iadd hx hb d_Mo_predict_109 ?_
    refine lv_goto (tgt := 117) hx hb d_Mo_predict_110 (by decide) ?_
    exact wb_Mo_predict_117 F hret hp14 hp30 hw hwd (lv_sub hl [0, 1, 2, 3] rfl)

set_option maxHeartbeats 4000000 in
set_option maxRecDepth 100000 in
theorem wb_Mo_predict_67 {K : Int64 → St → Prop} {P14 : Int64 → Int32 → St → Prop} {P30 : Int64 → Int32 → Int32 → St → Prop} {x1 : Int64} {x3 : Int32} {x4 : Int32} {t0 : Int32} {g : St} (F : fxM D cI cZ p R s m args c b_Mo_predict 5 R_Mo 2 46)
    (hret : rtMJ D cI cZ ad p l e R s m args below meth c b_Mo_predict A H0 Q K) (hp14 : ∀ (x1 : Int64) (x3 : Int32) (g : St) (H : Heap) (locs : List Loc) (ls : Array Slot), P14 x1 x3 g → wdM D cI cZ ad A H0 g H locs → lv_has ls 5 [(0, .ref (ad 0)), (1, .long x1), (3, .int x3)] → W p l e R s m args below meth c H locs 0 0 Q (F0 m 14 ls [])) (hp30 : ∀ (x1 : Int64) (x3 : Int32) (x4 : Int32) (g : St) (H : Heap) (locs : List Loc) (ls : Array Slot), P30 x1 x3 x4 g → wdM D cI cZ ad A H0 g H locs → lv_has ls 5 [(0, .ref (ad 0)), (1, .long x1), (3, .int x3), (4, .int x4)] → W p l e R s m args below meth c H locs 0 0 Q (F0 m 30 ls []))
    (hw : pb_Mo_predict_67 K P14 P30 x1 x3 x4 t0 g)
    (hwd : wdM D cI cZ ad A H0 g H locs) (hl : lv_has ls 5 [(0, .ref (ad 0)), (1, .long x1), (3, .int x3), (4, .int x4)]) : W p l e R s m args below meth c H locs 0 0 Q (F0 m 67 ls [.int t0]) := by
  obtain ⟨hx, hb, hml, hown, hts, hK, hN, hR⟩ := F
  have F : fxM D cI cZ p R s m args c b_Mo_predict 5 R_Mo 2 46 := ⟨hx, hb, hml, hown, hts, hK, hN, hR⟩
  refine lv_topi (fun v1 e_v1 => ?_)
  have hw := hw v1 e_v1
  refine lv_istore (lv' := [(4, .int v1), (0, .ref (ad 0)), (1, .long x1), (3, .int x3)]) hx hb d_Mo_predict_67 hl (by decide) rfl (fun ls hl => ?_)
  refine lv_aload_n hx hb d_Mo_predict_69 rfl (lv_at hl 1 rfl) ?_
  refine lv_dup hx hb d_Mo_predict_70 rfl ?_
  refine gfM_Mo_168 F hwd d_Mo_predict_71 ?_
  refine lv_aload_n hx hb d_Mo_predict_74 rfl (lv_at hl 1 rfl) ?_
  refine gfM_Mo_47 F hwd d_Mo_predict_75 ?_
  refine lv_iload hx hb d_Mo_predict_78 (lv_at hl 0 rfl) ?_
  obtain ⟨hi, hw⟩ := hw
  refine rdM_13 F hwd hi d_Mo_predict_80 ?_
  refine lv_if_lt (tgt := 88) hx hb d_Mo_predict_81 (by decide) (fun hc => ?_) (fun hc => ?_)
  · have hw := hw.1 hc
    refine lv_iconst (v := 3) hx hb d_Mo_predict_88 (by decide) ?_
    exact wb_Mo_predict_89 F hret hp14 hp30 hw hwd (lv_sub hl [1, 2, 3, 0] rfl)
  · have hw := hw.2 hc
    refine lv_iconst (v := 5) hx hb d_Mo_predict_84 (by decide) ?_
    refine lv_goto (tgt := 89) hx hb d_Mo_predict_85 (by decide) ?_
    exact wb_Mo_predict_89 F hret hp14 hp30 hw hwd (lv_sub hl [1, 2, 3, 0] rfl)

set_option maxHeartbeats 4000000 in
set_option maxRecDepth 100000 in
theorem wb_Mo_predict_30 {K : Int64 → St → Prop} {P14 : Int64 → Int32 → St → Prop} {P30 : Int64 → Int32 → Int32 → St → Prop} {x1 : Int64} {x3 : Int32} {x4 : Int32} {g : St} (F : fxM D cI cZ p R s m args c b_Mo_predict 5 R_Mo 2 46)
    (hret : rtMJ D cI cZ ad p l e R s m args below meth c b_Mo_predict A H0 Q K) (hp14 : ∀ (x1 : Int64) (x3 : Int32) (g : St) (H : Heap) (locs : List Loc) (ls : Array Slot), P14 x1 x3 g → wdM D cI cZ ad A H0 g H locs → lv_has ls 5 [(0, .ref (ad 0)), (1, .long x1), (3, .int x3)] → W p l e R s m args below meth c H locs 0 0 Q (F0 m 14 ls [])) (hp30 : ∀ (x1 : Int64) (x3 : Int32) (x4 : Int32) (g : St) (H : Heap) (locs : List Loc) (ls : Array Slot), P30 x1 x3 x4 g → wdM D cI cZ ad A H0 g H locs → lv_has ls 5 [(0, .ref (ad 0)), (1, .long x1), (3, .int x3), (4, .int x4)] → W p l e R s m args below meth c H locs 0 0 Q (F0 m 30 ls []))
    (hw : pb_Mo_predict_30 K P14 P30 x1 x3 x4 g)
    (hwd : wdM D cI cZ ad A H0 g H locs) (hl : lv_has ls 5 [(0, .ref (ad 0)), (1, .long x1), (3, .int x3), (4, .int x4)]) : W p l e R s m args below meth c H locs 0 0 Q (F0 m 30 ls []) := by
  obtain ⟨hx, hb, hml, hown, hts, hK, hN, hR⟩ := F
  have F : fxM D cI cZ p R s m args c b_Mo_predict 5 R_Mo 2 46 := ⟨hx, hb, hml, hown, hts, hK, hN, hR⟩
  refine lv_aload_n hx hb d_Mo_predict_30 rfl (lv_at hl 0 rfl) ?_
  refine gfM_Mo_7 F hwd d_Mo_predict_31 ?_
  refine lv_iload hx hb d_Mo_predict_34 (lv_at hl 3 rfl) ?_
  obtain ⟨hi, hw⟩ := hw
  refine rdM_1 F hwd hi d_Mo_predict_36 ?_
  refine lv_iconst (v := -1) hx hb d_Mo_predict_37 (by decide) ?_
  refine lv_icmp_eq (tgt := 123) hx hb d_Mo_predict_38 (by decide) (fun hc => ?_) (fun hc => ?_)
  · have hw := hw.1 hc
    refine lv_aload_n hx hb d_Mo_predict_123 rfl (lv_at hl 0 rfl) ?_
    refine lv_dup hx hb d_Mo_predict_124 rfl ?_
    refine gfM_Mo_168 F hwd d_Mo_predict_125 ?_
    refine lv_iconst (v := 2) hx hb d_Mo_predict_128 (by decide) ?_
    refine lv_iadd hx hb d_Mo_predict_129 ?_
    refine pfM_Mo_168 F hwd d_Mo_predict_130 (fun H locs hwd => ?_)
    obtain ⟨g1, e_g1⟩ : ∃ z : St, z = sc g 107 ((g 107 0) + (2 : Int32)) := ⟨_, rfl⟩
    have hwd : wdM D cI cZ ad A H0 g1 H locs := by rw [e_g1]; exact hwd
    have hw := hw g1 e_g1
    refine lv_lload_n hx hb d_Mo_predict_133 rfl (lv_at hl 1 rfl) ?_
    refine lv_aload_n hx hb d_Mo_predict_134 rfl (lv_at hl 0 rfl) ?_
    refine gfM_Mo_16 F hwd d_Mo_predict_135 ?_
    refine lv_iload hx hb d_Mo_predict_138 (lv_at hl 3 rfl) ?_
    obtain ⟨hi, hw⟩ := hw
    refine rdM_3 F hwd hi d_Mo_predict_140 ?_
    refine lv_i2l hx hb d_Mo_predict_141 rfl ?_
    refine lv_ladd hx hb d_Mo_predict_142 ?_
    refine lv_topl (fun v2 e_v2 => ?_)
    have hw := hw v2 e_v2
    refine lv_lstore_n (lv' := [(1, .long v2), (0, .ref (ad 0)), (3, .int x3), (4, .int x4)]) hx hb d_Mo_predict_143 rfl hl (by decide) rfl (fun ls hl => ?_)
    obtain ⟨v3, e_v3⟩ : ∃ z, z = x3 + (1 : Int32) := ⟨_, rfl⟩
    have hw := hw v3 e_v3
    refine lv_iinc (k := 2) (lv' := [(3, .int v3), (1, .long v2), (0, .ref (ad 0)), (4, .int x4)]) hx hb d_Mo_predict_144 hl rfl e_v3.symm (by decide) rfl (fun ls hl => ?_)
    refine lv_goto (tgt := 14) hx hb d_Mo_predict_147 (by decide) ?_
    exact hp14 _ _ _ H locs ls hw hwd (lv_sub hl [2, 1, 0] rfl)
  · have hw := hw.2 hc
    refine lv_aload_n hx hb d_Mo_predict_41 rfl (lv_at hl 0 rfl) ?_
    refine lv_iload hx hb d_Mo_predict_42 (lv_at hl 3 rfl) ?_
    refine mcM_Mo_165 F hwd (ct_Mo_goesToYes _ _ _ hw) ⟨Nat.le_trans (by decide) hR.1, Nat.le_trans (by decide) hR.2⟩ hl.1 (Nat.le_of_ble_eq_true rfl) d_Mo_predict_44 (fun v5 g4 H locs hw hwd => ?_)
    refine lv_if_eq (tgt := 60) hx hb d_Mo_predict_47 (by decide) (fun hc => ?_) (fun hc => ?_)
    · have hw := hw.1 hc
      refine lv_aload_n hx hb d_Mo_predict_60 rfl (lv_at hl 0 rfl) ?_
      refine gfM_Mo_22 F hwd d_Mo_predict_61 ?_
      refine lv_iload hx hb d_Mo_predict_64 (lv_at hl 3 rfl) ?_
      obtain ⟨hi, hw⟩ := hw
      refine rdM_5 F hwd hi d_Mo_predict_66 ?_
      exact wb_Mo_predict_67 F hret hp14 hp30 hw hwd (lv_sub hl [0, 1, 2, 3] rfl)
    · have hw := hw.2 hc
      refine lv_aload_n hx hb d_Mo_predict_50 rfl (lv_at hl 0 rfl) ?_
      refine gfM_Mo_19 F hwd d_Mo_predict_51 ?_
      refine lv_iload hx hb d_Mo_predict_54 (lv_at hl 3 rfl) ?_
      obtain ⟨hi, hw⟩ := hw
      refine rdM_4 F hwd hi d_Mo_predict_56 ?_
      refine lv_goto (tgt := 67) hx hb d_Mo_predict_57 (by decide) ?_
      exact wb_Mo_predict_67 F hret hp14 hp30 hw hwd (lv_sub hl [0, 1, 2, 3] rfl)

set_option maxHeartbeats 4000000 in
theorem wl_Mo_predict_30 {K : Int64 → St → Prop} {P14 : Int64 → Int32 → St → Prop} {x1 : Int64} {x3 : Int32} {x4 : Int32} {g : St} (F : fxM D cI cZ p R s m args c b_Mo_predict 5 R_Mo 2 46)
    (hret : rtMJ D cI cZ ad p l e R s m args below meth c b_Mo_predict A H0 Q K) (hp14 : ∀ (x1 : Int64) (x3 : Int32) (g : St) (H : Heap) (locs : List Loc) (ls : Array Slot), P14 x1 x3 g → wdM D cI cZ ad A H0 g H locs → lv_has ls 5 [(0, .ref (ad 0)), (1, .long x1), (3, .int x3)] → W p l e R s m args below meth c H locs 0 0 Q (F0 m 14 ls []))
    (hw : pl_Mo_predict_30 K P14 x1 x3 x4 g)
    (hwd : wdM D cI cZ ad A H0 g H locs) (hl : lv_has ls 5 [(0, .ref (ad 0)), (1, .long x1), (3, .int x3), (4, .int x4)]) : W p l e R s m args below meth c H locs 0 0 Q (F0 m 30 ls []) := by
  refine hw (fun x1 x3 x4 g => ∀ (H : Heap) (locs : List Loc) (ls : Array Slot), wdM D cI cZ ad A H0 g H locs → lv_has ls 5 [(0, .ref (ad 0)), (1, .long x1), (3, .int x3), (4, .int x4)] → W p l e R s m args below meth c H locs 0 0 Q (F0 m 30 ls [])) ?_ H locs ls hwd hl
  intro x1 x3 x4 g hw H locs ls hwd hl
  exact wb_Mo_predict_30 F hret hp14 (fun x1 x3 x4 g H locs ls h hwd hl => h H locs ls hwd hl) hw hwd hl

set_option maxHeartbeats 4000000 in
set_option maxRecDepth 100000 in
theorem wb_Mo_predict_14 {K : Int64 → St → Prop} {P14 : Int64 → Int32 → St → Prop} {x1 : Int64} {x3 : Int32} {g : St} (F : fxM D cI cZ p R s m args c b_Mo_predict 5 R_Mo 2 46)
    (hret : rtMJ D cI cZ ad p l e R s m args below meth c b_Mo_predict A H0 Q K) (hp14 : ∀ (x1 : Int64) (x3 : Int32) (g : St) (H : Heap) (locs : List Loc) (ls : Array Slot), P14 x1 x3 g → wdM D cI cZ ad A H0 g H locs → lv_has ls 5 [(0, .ref (ad 0)), (1, .long x1), (3, .int x3)] → W p l e R s m args below meth c H locs 0 0 Q (F0 m 14 ls []))
    (hw : pb_Mo_predict_14 K P14 x1 x3 g)
    (hwd : wdM D cI cZ ad A H0 g H locs) (hl : lv_has ls 5 [(0, .ref (ad 0)), (1, .long x1), (3, .int x3)]) : W p l e R s m args below meth c H locs 0 0 Q (F0 m 14 ls []) := by
  obtain ⟨hx, hb, hml, hown, hts, hK, hN, hR⟩ := F
  have F : fxM D cI cZ p R s m args c b_Mo_predict 5 R_Mo 2 46 := ⟨hx, hb, hml, hown, hts, hK, hN, hR⟩
  refine lv_iload_n hx hb d_Mo_predict_14 rfl (lv_at hl 2 rfl) ?_
  refine lv_aload_n hx hb d_Mo_predict_15 rfl (lv_at hl 0 rfl) ?_
  refine gfM_Mo_142 F hwd d_Mo_predict_16 ?_
  refine lv_icmp_ge (tgt := 150) hx hb d_Mo_predict_19 (by decide) (fun hc => ?_) (fun hc => ?_)
  · have hw := hw.1 hc
    refine lv_lload_n hx hb d_Mo_predict_150 rfl (lv_at hl 1 rfl) ?_
    exact hret _ _ _ _ hw hwd _ _ d_Mo_predict_151
  · have hw := hw.2 hc
    refine lv_aload_n hx hb d_Mo_predict_22 rfl (lv_at hl 0 rfl) ?_
    refine gfM_Mo_25 F hwd d_Mo_predict_23 ?_
    refine lv_iload_n hx hb d_Mo_predict_26 rfl (lv_at hl 2 rfl) ?_
    obtain ⟨hi, hw⟩ := hw
    refine rdM_6 F hwd hi d_Mo_predict_27 ?_
    refine lv_topi (fun v1 e_v1 => ?_)
    have hw := hw v1 e_v1
    refine lv_istore (lv' := [(4, .int v1), (0, .ref (ad 0)), (1, .long x1), (3, .int x3)]) hx hb d_Mo_predict_28 hl (by decide) rfl (fun ls hl => ?_)
    exact wl_Mo_predict_30 F hret hp14 hw hwd (lv_sub hl [1, 2, 3, 0] rfl)

set_option maxHeartbeats 4000000 in
theorem wl_Mo_predict_14 {K : Int64 → St → Prop} {x1 : Int64} {x3 : Int32} {g : St} (F : fxM D cI cZ p R s m args c b_Mo_predict 5 R_Mo 2 46)
    (hret : rtMJ D cI cZ ad p l e R s m args below meth c b_Mo_predict A H0 Q K)
    (hw : pl_Mo_predict_14 K x1 x3 g)
    (hwd : wdM D cI cZ ad A H0 g H locs) (hl : lv_has ls 5 [(0, .ref (ad 0)), (1, .long x1), (3, .int x3)]) : W p l e R s m args below meth c H locs 0 0 Q (F0 m 14 ls []) := by
  refine hw (fun x1 x3 g => ∀ (H : Heap) (locs : List Loc) (ls : Array Slot), wdM D cI cZ ad A H0 g H locs → lv_has ls 5 [(0, .ref (ad 0)), (1, .long x1), (3, .int x3)] → W p l e R s m args below meth c H locs 0 0 Q (F0 m 14 ls [])) ?_ H locs ls hwd hl
  intro x1 x3 g hw H locs ls hwd hl
  exact wb_Mo_predict_14 F hret (fun x1 x3 g H locs ls h hwd hl => h H locs ls hwd hl) hw hwd hl

set_option maxHeartbeats 4000000 in
set_option maxRecDepth 100000 in
theorem wb_Mo_predict_0 {K : Int64 → St → Prop} {g : St} (F : fxM D cI cZ p R s m args c b_Mo_predict 5 R_Mo 2 46)
    (hret : rtMJ D cI cZ ad p l e R s m args below meth c b_Mo_predict A H0 Q K)
    (hw : pb_Mo_predict_0 K g)
    (hwd : wdM D cI cZ ad A H0 g H locs) (hl : lv_has ls 5 [(0, .ref (ad 0))]) : W p l e R s m args below meth c H locs 0 0 Q (F0 m 0 ls []) := by
  obtain ⟨hx, hb, hml, hown, hts, hK, hN, hR⟩ := F
  have F : fxM D cI cZ p R s m args c b_Mo_predict 5 R_Mo 2 46 := ⟨hx, hb, hml, hown, hts, hK, hN, hR⟩
  refine lv_lconst (v := 0) hx hb d_Mo_predict_0 (by decide) ?_
  refine lv_topl (fun v1 e_v1 => ?_)
  have hw := hw v1 e_v1
  refine lv_lstore_n (lv' := [(1, .long v1), (0, .ref (ad 0))]) hx hb d_Mo_predict_1 rfl hl (by decide) rfl (fun ls hl => ?_)
  refine lv_aload_n hx hb d_Mo_predict_2 rfl (lv_at hl 1 rfl) ?_
  refine lv_iconst (v := 0) hx hb d_Mo_predict_3 (by decide) ?_
  refine pfM_Mo_168 F hwd d_Mo_predict_4 (fun H locs hwd => ?_)
  obtain ⟨g2, e_g2⟩ : ∃ z : St, z = sc g 107 (0 : Int32) := ⟨_, rfl⟩
  have hwd : wdM D cI cZ ad A H0 g2 H locs := by rw [e_g2]; exact hwd
  have hw := hw g2 e_g2
  refine lv_aload_n hx hb d_Mo_predict_7 rfl (lv_at hl 1 rfl) ?_
  refine lv_iconst (v := 0) hx hb d_Mo_predict_8 (by decide) ?_
  refine pfM_Mo_171 F hwd d_Mo_predict_9 (fun H locs hwd => ?_)
  obtain ⟨g3, e_g3⟩ : ∃ z : St, z = sc g2 108 (0 : Int32) := ⟨_, rfl⟩
  have hwd : wdM D cI cZ ad A H0 g3 H locs := by rw [e_g3]; exact hwd
  have hw := hw g3 e_g3
  refine lv_iconst (v := 0) hx hb d_Mo_predict_12 (by decide) ?_
  refine lv_topi (fun v4 e_v4 => ?_)
  have hw := hw v4 e_v4
  refine lv_istore_n (lv' := [(3, .int v4), (1, .long v1), (0, .ref (ad 0))]) hx hb d_Mo_predict_13 rfl hl (by decide) rfl (fun ls hl => ?_)
  exact wl_Mo_predict_14 F hret hw hwd (lv_sub hl [2, 1, 0] rfl)

theorem ct_Mo_predict {l : Launch} {D : va_G} {cI cZ : ClassId} {ad : Nat → Nat} (g : St) (K : Int64 → St → Prop) (h : pc_Mo_predict g K) : ctMJ l y_Mo_predict b_Mo_predict 5 2 46 D cI cZ ad [.ref (ad 0)] g K :=
  enMJ (by decide) (Nat.le_of_ble_eq_true rfl) (fun p e s m args below meth c A H0 ls Q F hwd hl hret => wb_Mo_predict_0 F hret h hwd hl)

set_option maxHeartbeats 4000000 in
set_option maxRecDepth 100000 in
theorem wb_Mo_steps_0 {K : Int32 → St → Prop} {g : St} (F : fxM D cI cZ p R s m args c b_Mo_steps 1 R_Mo 0 0)
    (hret : rtMI D cI cZ ad p l e R s m args below meth c b_Mo_steps A H0 Q K)
    (hw : pb_Mo_steps_0 K g)
    (hwd : wdM D cI cZ ad A H0 g H locs) (hl : lv_has ls 1 [(0, .ref (ad 0))]) : W p l e R s m args below meth c H locs 0 0 Q (F0 m 0 ls []) := by
  obtain ⟨hx, hb, hml, hown, hts, hK, hN, hR⟩ := F
  have F : fxM D cI cZ p R s m args c b_Mo_steps 1 R_Mo 0 0 := ⟨hx, hb, hml, hown, hts, hK, hN, hR⟩
  refine lv_aload_n hx hb d_Mo_steps_0 rfl (lv_at hl 0 rfl) ?_
  refine gfM_Mo_168 F hwd d_Mo_steps_1 ?_
  exact hret _ _ _ _ hw hwd _ _ d_Mo_steps_4

theorem ct_Mo_steps {l : Launch} {D : va_G} {cI cZ : ClassId} {ad : Nat → Nat} (g : St) (K : Int32 → St → Prop) (h : pc_Mo_steps g K) : ctMI l y_Mo_steps b_Mo_steps 1 0 0 D cI cZ ad [.ref (ad 0)] g K :=
  enMI (by decide) (Nat.le_of_ble_eq_true rfl) (fun p e s m args below meth c A H0 ls Q F hwd hl hret => wb_Mo_steps_0 F hret h hwd hl)

set_option maxHeartbeats 4000000 in
set_option maxRecDepth 100000 in
theorem wb_Mo_calls_0 {K : Int32 → St → Prop} {g : St} (F : fxM D cI cZ p R s m args c b_Mo_calls 1 R_Mo 0 0)
    (hret : rtMI D cI cZ ad p l e R s m args below meth c b_Mo_calls A H0 Q K)
    (hw : pb_Mo_calls_0 K g)
    (hwd : wdM D cI cZ ad A H0 g H locs) (hl : lv_has ls 1 [(0, .ref (ad 0))]) : W p l e R s m args below meth c H locs 0 0 Q (F0 m 0 ls []) := by
  obtain ⟨hx, hb, hml, hown, hts, hK, hN, hR⟩ := F
  have F : fxM D cI cZ p R s m args c b_Mo_calls 1 R_Mo 0 0 := ⟨hx, hb, hml, hown, hts, hK, hN, hR⟩
  refine lv_aload_n hx hb d_Mo_calls_0 rfl (lv_at hl 0 rfl) ?_
  refine gfM_Mo_171 F hwd d_Mo_calls_1 ?_
  exact hret _ _ _ _ hw hwd _ _ d_Mo_calls_4

theorem ct_Mo_calls {l : Launch} {D : va_G} {cI cZ : ClassId} {ad : Nat → Nat} (g : St) (K : Int32 → St → Prop) (h : pc_Mo_calls g K) : ctMI l y_Mo_calls b_Mo_calls 1 0 0 D cI cZ ad [.ref (ad 0)] g K :=
  enMI (by decide) (Nat.le_of_ble_eq_true rfl) (fun p e s m args below meth c A H0 ls Q F hwd hl hret => wb_Mo_calls_0 F hret h hwd hl)
end WALKM3
