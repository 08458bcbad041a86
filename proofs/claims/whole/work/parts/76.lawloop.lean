section LAWL
variable {p : Program} {l : Launch} {e : Env} {R : Room} {s : State} {m : MethodId} {below : List Frame} {meth : Method} {c : Code} {Q : State → Prop}
variable {DC DM : va_G} {cI cZ : ClassId} {aC aM : Nat → Nat} {A : Nat → Prop} {b L : Nat} {xs : Nat → Int32}
set_option maxHeartbeats 8000000 in
theorem l_loop {Rel : St → St → Prop} (sim0 : ∀ (gc gm : St) (y1 : Int32), Rel gc gm → pc_BF_leaf y1 gc (fun r1 gc => pc_Mo_leaf y1 gm (fun r2 gm => r1 = r2 ∧ Rel gc gm))) (sim1 : ∀ (gc gm : St) (y1 y2 y3 y4 y5 : Int32), Rel gc gm → pc_BF_split y1 y2 y3 y4 y5 gc (fun r1 gc => pc_Mo_split y1 y2 y3 y4 y5 gm (fun r2 gm => r1 = r2 ∧ Rel gc gm))) (sim2 : ∀ (gc gm : St) (y1 : Int32), Rel gc gm → pc_BF_tree y1 gc (fun r1 gc => pc_Mo_tree y1 gm (fun r2 gm => r1 = r2 ∧ Rel gc gm))) (sim3 : ∀ (gc gm : St) (y1 y2 : Int32), Rel gc gm → pc_BF_compile y1 y2 gc (fun r1 gc => pc_Mo_compile y1 y2 gm (fun r2 gm => r1 = r2 ∧ Rel gc gm))) (sim4 : ∀ (gc gm : St), Rel gc gm → pc_BF_methods gc (fun r1 gc => pc_Mo_methods gm (fun r2 gm => r1 = r2 ∧ Rel gc gm))) (sim5 : ∀ (gc gm : St) (y1 : Int32), Rel gc gm → pc_BF_length y1 gc (fun r1 gc => pc_Mo_length y1 gm (fun r2 gm => r1 = r2 ∧ Rel gc gm))) (sim6 : ∀ (gc gm : St) (y1 y2 : Int32), Rel gc gm → pc_BF_byteAt y1 y2 gc (fun r1 gc => pc_Mo_byteAt y1 y2 gm (fun r2 gm => r1 = r2 ∧ Rel gc gm))) (sim7 : ∀ (gc gm : St) (y1 : Int32), Rel gc gm → pc_BF_classOf y1 gc (fun r1 gc => pc_Mo_classOf y1 gm (fun r2 gm => r1 = r2 ∧ Rel gc gm))) (sim8 : ∀ (gc gm : St), Rel gc gm → pc_BF_classes gc (fun r1 gc => pc_Mo_classes gm (fun r2 gm => r1 = r2 ∧ Rel gc gm))) (sim9 : ∀ (gc gm : St) (y1 : Int32), Rel gc gm → pc_BF_entries y1 gc (fun r1 gc => pc_Mo_entries y1 gm (fun r2 gm => r1 = r2 ∧ Rel gc gm))) (sim10 : ∀ (gc gm : St) (y1 y2 : Int32), Rel gc gm → pc_BF_entry y1 y2 gc (fun r1 gc => pc_Mo_entry y1 y2 gm (fun r2 gm => r1 = r2 ∧ Rel gc gm))) (sim11 : ∀ (gc gm : St) (y1 y2 : Int32), Rel gc gm → pc_BF_set y1 y2 gc (fun r1 gc => pc_Mo_set y1 y2 gm (fun r2 gm => r1 = r2 ∧ Rel gc gm))) (sim12 : ∀ (gc gm : St), Rel gc gm → pc_BF_predict gc (fun r1 gc => pc_Mo_predict gm (fun r2 gm => r1 = r2 ∧ Rel gc gm))) (sim13 : ∀ (gc gm : St), Rel gc gm → pc_BF_steps gc (fun r1 gc => pc_Mo_steps gm (fun r2 gm => r1 = r2 ∧ Rel gc gm))) (sim14 : ∀ (gc gm : St), Rel gc gm → pc_BF_calls gc (fun r1 gc => pc_Mo_calls gm (fun r2 gm => r1 = r2 ∧ Rel gc gm))) (sim15 : ∀ (gc gm : St) (y1 : Int32), Rel gc gm → pc_BF_reach y1 gc (fun r1 gc => pc_Mo_reach y1 gm (fun r2 gm => r1 = r2 ∧ Rel gc gm))) (F : lfx DC DM cI cZ p s m c b L xs) (hbA : ¬ A b) (hL : L ≤ 3072) (hf : 46 ≤ R.cells ∧ 3692 ≤ R.slots) (hroom : 35 ≤ R.frames ∧ 802 ≤ R.locals)
    (hend : ∀ (gc gm : St) (H : Heap) (locs : List Loc) (ls : Array Slot), lwd DC DM cI cZ aC aM A s.heap gc gm H locs → W p l e R s m #[Value.ref b] below meth c H locs 46 3692 Q (F0 m 518 ls [])) :
    ∀ (n j : Nat) (gc gm : St) (H : Heap) (locs : List Loc) (ls : Array Slot), L ≤ j + n → j ≤ 3078 → Rel gc gm → lwd DC DM cI cZ aC aM A s.heap gc gm H locs → lv_has ls 4 [(0, .ref b), (1, .ref (aC 0)), (2, .ref (aM 0)), (3, .int (nI j))] → W p l e R s m #[Value.ref b] below meth c H locs 46 3692 Q (F0 m 18 ls []) := by
  intro n
  induction n with
  | zero =>
    intro j gc gm H locs ls hn hj hR hlw hl
    obtain ⟨hx, hb, hml, hown, hts, hX, hbl, hKC, hKM, hNC, hNM⟩ := F
    refine lv_iload_n hx hb d_law_18 rfl (lv_at hl 3 rfl) ?_
    refine lv_aload_n hx hb d_law_19 rfl (lv_at hl 0 rfl) ?_
    refine va_slen hx hb hX hbl hbA hlw.1.2.2.1 d_law_20 ?_
    refine lv_bipush (v := 6) hx hb d_law_21 (by decide) ?_
    refine lv_isub hx hb d_law_23 ?_
    refine lv_icmp_gt (tgt := 518) hx hb d_law_24 (by decide) (fun _ => hend gc gm H locs ls hlw) (fun hc => ?_)
    have hc' : ¬ ((nI L - nI 6).toInt < (nI j).toInt) := fun h => hc (Int32.lt_iff_toInt_lt.mpr h)
    rw [pk_sub_toInt (by omega) (by decide), nI_toInt (by omega)] at hc'
    exact absurd hc' (by omega)
  | succ n ih =>
    intro j gc gm H locs ls hn hj hR hlw hl
    obtain ⟨hx, hb, hml, hown, hts, hX, hbl, hKC, hKM, hNC, hNM⟩ := F
    have F : lfx DC DM cI cZ p s m c b L xs := ⟨hx, hb, hml, hown, hts, hX, hbl, hKC, hKM, hNC, hNM⟩
    refine lv_iload_n hx hb d_law_18 rfl (lv_at hl 3 rfl) ?_
    refine lv_aload_n hx hb d_law_19 rfl (lv_at hl 0 rfl) ?_
    refine va_slen hx hb hX hbl hbA hlw.1.2.2.1 d_law_20 ?_
    refine lv_bipush (v := 6) hx hb d_law_21 (by decide) ?_
    refine lv_isub hx hb d_law_23 ?_
    refine lv_icmp_gt (tgt := 518) hx hb d_law_24 (by decide) (fun _ => hend gc gm H locs ls hlw) (fun hc => ?_)
    have hc' : ¬ ((nI L - nI 6).toInt < (nI j).toInt) := fun h => hc (Int32.lt_iff_toInt_lt.mpr h)
    rw [pk_sub_toInt (by omega) (by decide), nI_toInt (by omega)] at hc'
    have hj6 : j + 6 ≤ L := by omega
    refine lv_aload_n hx hb d_law_27 rfl (lv_at hl 0 rfl) ?_
    refine lv_iload_n hx hb d_law_28 rfl (lv_at hl 3 rfl) ?_
    refine va_sld hx hb hX hbl hbA hlw.1.2.2.1 (vp_in_nI (by omega) (by omega)) d_law_29 ?_
    refine lv_bipush (v := 15) hx hb d_law_30 (by decide) ?_
    refine lv_iand hx hb d_law_32 ?_
    obtain ⟨v, hv, ev⟩ := pk_andE (xs (nI j).toNatClampNeg) (m := 15) 4 (by decide)
    rw [ev]
    have hi : ∀ k : Nat, 1 ≤ k → k ≤ 5 → vp_in (nI j + nI k) L := fun k h1 h2 => by
      rw [nI_add]
      exact vp_in_nI (by omega) (by omega)
    have kk : ∀ (gc gm : St) (H : Heap) (locs : List Loc), Rel gc gm → lwd DC DM cI cZ aC aM A s.heap gc gm H locs → W p l e R s m #[Value.ref b] below meth c H locs 46 3692 Q (F0 m 512 ls []) := by
      intro gc gm H locs hR hlw
      refine lv_iinc (k := 3) (v := nI (j + 6)) (lv' := [(3, .int (nI (j + 6))), (0, .ref b), (1, .ref (aC 0)), (2, .ref (aM 0))]) hx hb d_law_512 hl rfl (by rw [← nI_add]; rfl) (by decide) rfl (fun ls hl => ?_)
      refine lv_goto (tgt := 18) hx hb d_law_515 (by decide) ?_
      exact ih (j + 6) gc gm H locs ls (by omega) (by omega) hR hlw (lv_sub hl [1, 2, 3, 0] rfl)
    by_cases hv0 : v = 0
    · subst hv0
      exact lv_tableIn (tgt := 112) hx hb d_law_33 (by decide) (by decide) rfl (by decide) (lb_0 sim0 F hbA hR hlw hl hi hf ⟨Nat.le_trans (by decide) hroom.1, Nat.le_trans (by decide) hroom.2⟩ ⟨Nat.le_trans (by decide) hroom.1, Nat.le_trans (by decide) hroom.2⟩ kk)
    by_cases hv1 : v = 1
    · subst hv1
      exact lv_tableIn (tgt := 135) hx hb d_law_33 (by decide) (by decide) rfl (by decide) (lb_1 sim1 F hbA hR hlw hl hi hf ⟨Nat.le_trans (by decide) hroom.1, Nat.le_trans (by decide) hroom.2⟩ ⟨Nat.le_trans (by decide) hroom.1, Nat.le_trans (by decide) hroom.2⟩ kk)
    by_cases hv2 : v = 2
    · subst hv2
      exact lv_tableIn (tgt := 198) hx hb d_law_33 (by decide) (by decide) rfl (by decide) (lb_2 sim2 F hbA hR hlw hl hi hf ⟨Nat.le_trans (by decide) hroom.1, Nat.le_trans (by decide) hroom.2⟩ ⟨Nat.le_trans (by decide) hroom.1, Nat.le_trans (by decide) hroom.2⟩ kk)
    by_cases hv3 : v = 3
    · subst hv3
      exact lv_tableIn (tgt := 221) hx hb d_law_33 (by decide) (by decide) rfl (by decide) (lb_3 sim3 F hbA hR hlw hl hi hf ⟨Nat.le_trans (by decide) hroom.1, Nat.le_trans (by decide) hroom.2⟩ ⟨Nat.le_trans (by decide) hroom.1, Nat.le_trans (by decide) hroom.2⟩ kk)
    by_cases hv4 : v = 4
    · subst hv4
      exact lv_tableIn (tgt := 254) hx hb d_law_33 (by decide) (by decide) rfl (by decide) (lb_4 sim4 F hbA hR hlw hl hi hf ⟨Nat.le_trans (by decide) hroom.1, Nat.le_trans (by decide) hroom.2⟩ ⟨Nat.le_trans (by decide) hroom.1, Nat.le_trans (by decide) hroom.2⟩ kk)
    by_cases hv5 : v = 5
    · subst hv5
      exact lv_tableIn (tgt := 267) hx hb d_law_33 (by decide) (by decide) rfl (by decide) (lb_5 sim5 F hbA hR hlw hl hi hf ⟨Nat.le_trans (by decide) hroom.1, Nat.le_trans (by decide) hroom.2⟩ ⟨Nat.le_trans (by decide) hroom.1, Nat.le_trans (by decide) hroom.2⟩ kk)
    by_cases hv6 : v = 6
    · subst hv6
      exact lv_tableIn (tgt := 290) hx hb d_law_33 (by decide) (by decide) rfl (by decide) (lb_6 sim6 F hbA hR hlw hl hi hf ⟨Nat.le_trans (by decide) hroom.1, Nat.le_trans (by decide) hroom.2⟩ ⟨Nat.le_trans (by decide) hroom.1, Nat.le_trans (by decide) hroom.2⟩ kk)
    by_cases hv7 : v = 7
    · subst hv7
      exact lv_tableIn (tgt := 323) hx hb d_law_33 (by decide) (by decide) rfl (by decide) (lb_7 sim7 F hbA hR hlw hl hi hf ⟨Nat.le_trans (by decide) hroom.1, Nat.le_trans (by decide) hroom.2⟩ ⟨Nat.le_trans (by decide) hroom.1, Nat.le_trans (by decide) hroom.2⟩ kk)
    by_cases hv8 : v = 8
    · subst hv8
      exact lv_tableIn (tgt := 346) hx hb d_law_33 (by decide) (by decide) rfl (by decide) (lb_8 sim8 F hbA hR hlw hl hi hf ⟨Nat.le_trans (by decide) hroom.1, Nat.le_trans (by decide) hroom.2⟩ ⟨Nat.le_trans (by decide) hroom.1, Nat.le_trans (by decide) hroom.2⟩ kk)
    by_cases hv9 : v = 9
    · subst hv9
      exact lv_tableIn (tgt := 359) hx hb d_law_33 (by decide) (by decide) rfl (by decide) (lb_9 sim9 F hbA hR hlw hl hi hf ⟨Nat.le_trans (by decide) hroom.1, Nat.le_trans (by decide) hroom.2⟩ ⟨Nat.le_trans (by decide) hroom.1, Nat.le_trans (by decide) hroom.2⟩ kk)
    by_cases hv10 : v = 10
    · subst hv10
      exact lv_tableIn (tgt := 382) hx hb d_law_33 (by decide) (by decide) rfl (by decide) (lb_10 sim10 F hbA hR hlw hl hi hf ⟨Nat.le_trans (by decide) hroom.1, Nat.le_trans (by decide) hroom.2⟩ ⟨Nat.le_trans (by decide) hroom.1, Nat.le_trans (by decide) hroom.2⟩ kk)
    by_cases hv11 : v = 11
    · subst hv11
      exact lv_tableIn (tgt := 416) hx hb d_law_33 (by decide) (by decide) rfl (by decide) (lb_11 sim11 F hbA hR hlw hl hi hf ⟨Nat.le_trans (by decide) hroom.1, Nat.le_trans (by decide) hroom.2⟩ ⟨Nat.le_trans (by decide) hroom.1, Nat.le_trans (by decide) hroom.2⟩ kk)
    by_cases hv12 : v = 12
    · subst hv12
      exact lv_tableIn (tgt := 449) hx hb d_law_33 (by decide) (by decide) rfl (by decide) (lb_12 sim12 F hbA hR hlw hl hi hf ⟨Nat.le_trans (by decide) hroom.1, Nat.le_trans (by decide) hroom.2⟩ ⟨Nat.le_trans (by decide) hroom.1, Nat.le_trans (by decide) hroom.2⟩ kk)
    by_cases hv13 : v = 13
    · subst hv13
      exact lv_tableIn (tgt := 463) hx hb d_law_33 (by decide) (by decide) rfl (by decide) (lb_13 sim13 F hbA hR hlw hl hi hf ⟨Nat.le_trans (by decide) hroom.1, Nat.le_trans (by decide) hroom.2⟩ ⟨Nat.le_trans (by decide) hroom.1, Nat.le_trans (by decide) hroom.2⟩ kk)
    by_cases hv14 : v = 14
    · subst hv14
      exact lv_tableIn (tgt := 476) hx hb d_law_33 (by decide) (by decide) rfl (by decide) (lb_14 sim14 F hbA hR hlw hl hi hf ⟨Nat.le_trans (by decide) hroom.1, Nat.le_trans (by decide) hroom.2⟩ ⟨Nat.le_trans (by decide) hroom.1, Nat.le_trans (by decide) hroom.2⟩ kk)
    by_cases hv15 : v = 15
    · subst hv15
      exact lv_tableIn (tgt := 489) hx hb d_law_33 (by decide) (by decide) rfl (by decide) (lb_15 sim15 F hbA hR hlw hl hi hf ⟨Nat.le_trans (by decide) hroom.1, Nat.le_trans (by decide) hroom.2⟩ ⟨Nat.le_trans (by decide) hroom.1, Nat.le_trans (by decide) hroom.2⟩ kk)
    omega
end LAWL
set_option maxHeartbeats 8000000 in
set_option maxRecDepth 100000 in
theorem law_all {Rel : St → St → Prop} (h00 : Rel (fun _ _ => 0) (fun _ _ => 0)) (sim0 : ∀ (gc gm : St) (y1 : Int32), Rel gc gm → pc_BF_leaf y1 gc (fun r1 gc => pc_Mo_leaf y1 gm (fun r2 gm => r1 = r2 ∧ Rel gc gm))) (sim1 : ∀ (gc gm : St) (y1 y2 y3 y4 y5 : Int32), Rel gc gm → pc_BF_split y1 y2 y3 y4 y5 gc (fun r1 gc => pc_Mo_split y1 y2 y3 y4 y5 gm (fun r2 gm => r1 = r2 ∧ Rel gc gm))) (sim2 : ∀ (gc gm : St) (y1 : Int32), Rel gc gm → pc_BF_tree y1 gc (fun r1 gc => pc_Mo_tree y1 gm (fun r2 gm => r1 = r2 ∧ Rel gc gm))) (sim3 : ∀ (gc gm : St) (y1 y2 : Int32), Rel gc gm → pc_BF_compile y1 y2 gc (fun r1 gc => pc_Mo_compile y1 y2 gm (fun r2 gm => r1 = r2 ∧ Rel gc gm))) (sim4 : ∀ (gc gm : St), Rel gc gm → pc_BF_methods gc (fun r1 gc => pc_Mo_methods gm (fun r2 gm => r1 = r2 ∧ Rel gc gm))) (sim5 : ∀ (gc gm : St) (y1 : Int32), Rel gc gm → pc_BF_length y1 gc (fun r1 gc => pc_Mo_length y1 gm (fun r2 gm => r1 = r2 ∧ Rel gc gm))) (sim6 : ∀ (gc gm : St) (y1 y2 : Int32), Rel gc gm → pc_BF_byteAt y1 y2 gc (fun r1 gc => pc_Mo_byteAt y1 y2 gm (fun r2 gm => r1 = r2 ∧ Rel gc gm))) (sim7 : ∀ (gc gm : St) (y1 : Int32), Rel gc gm → pc_BF_classOf y1 gc (fun r1 gc => pc_Mo_classOf y1 gm (fun r2 gm => r1 = r2 ∧ Rel gc gm))) (sim8 : ∀ (gc gm : St), Rel gc gm → pc_BF_classes gc (fun r1 gc => pc_Mo_classes gm (fun r2 gm => r1 = r2 ∧ Rel gc gm))) (sim9 : ∀ (gc gm : St) (y1 : Int32), Rel gc gm → pc_BF_entries y1 gc (fun r1 gc => pc_Mo_entries y1 gm (fun r2 gm => r1 = r2 ∧ Rel gc gm))) (sim10 : ∀ (gc gm : St) (y1 y2 : Int32), Rel gc gm → pc_BF_entry y1 y2 gc (fun r1 gc => pc_Mo_entry y1 y2 gm (fun r2 gm => r1 = r2 ∧ Rel gc gm))) (sim11 : ∀ (gc gm : St) (y1 y2 : Int32), Rel gc gm → pc_BF_set y1 y2 gc (fun r1 gc => pc_Mo_set y1 y2 gm (fun r2 gm => r1 = r2 ∧ Rel gc gm))) (sim12 : ∀ (gc gm : St), Rel gc gm → pc_BF_predict gc (fun r1 gc => pc_Mo_predict gm (fun r2 gm => r1 = r2 ∧ Rel gc gm))) (sim13 : ∀ (gc gm : St), Rel gc gm → pc_BF_steps gc (fun r1 gc => pc_Mo_steps gm (fun r2 gm => r1 = r2 ∧ Rel gc gm))) (sim14 : ∀ (gc gm : St), Rel gc gm → pc_BF_calls gc (fun r1 gc => pc_Mo_calls gm (fun r2 gm => r1 = r2 ∧ Rel gc gm))) (sim15 : ∀ (gc gm : St) (y1 : Int32), Rel gc gm → pc_BF_reach y1 gc (fun r1 gc => pc_Mo_reach y1 gm (fun r2 gm => r1 = r2 ∧ Rel gc gm)))
    {p : Program} {e : Env} {s : State} {m : MethodId} {below : List Frame} {meth : Method} {c : Code} (l : Launch) {b L : Nat} {xs : Nat → Int32} (hL : L ≤ 3072) (C0 : lw_At p s m meth c b L xs) : W p l e room_1 s m #[Value.ref b] below meth c s.heap [] 0 0 (lw_Z below #[Value.ref b] s) (entryFrame m ([Value.ref b] : List Value).toArray 4) := by
  obtain ⟨hx, hb, hr, hml, hown, hts, hX, hbl, hlocks, hgv⟩ := C0
  obtain ⟨cC0, iC0, kC0⟩ := u_known (C := R_BF) (T := F_BF) (N := 7) (n := 7) hts (fun w h => subC w (in_BF w h)) (hts _ lwt_98)
  obtain ⟨cC1, iC1, kC1⟩ := u_known (C := R_Fo) (T := F_Fo) (N := 8) (n := 8) hts (fun w h => subC w (in_Fo w h)) (hts _ lwt_99)
  obtain ⟨cC2, iC2, kC2⟩ := u_known (C := R_Ch) (T := F_Ch) (N := 2) (n := 2) hts (fun w h => subC w (in_Ch w h)) (hts _ lwt_100)
  obtain ⟨cC3, iC3, kC3⟩ := u_known (C := R_Cu) (T := F_Cu) (N := 5) (n := 5) hts (fun w h => subC w (in_Cu w h)) (hts _ lwt_101)
  obtain ⟨cC4, iC4, kC4⟩ := u_known (C := R_Ta) (T := F_Ta) (N := 4) (n := 4) hts (fun w h => subC w (in_Ta w h)) (hts _ lwt_102)
  obtain ⟨cC5, iC5, kC5⟩ := u_known (C := R_Co) (T := F_Co) (N := 10) (n := 10) hts (fun w h => subC w (in_Co w h)) (hts _ lwt_103)
  obtain ⟨cC6, iC6, kC6⟩ := u_known (C := R_Ma) (T := F_Ma) (N := 5) (n := 5) hts (fun w h => subC w (in_Ma w h)) (hts _ lwt_104)
  obtain ⟨cM0, iM0, kM0⟩ := u_known (C := R_Mo) (T := F_Mo) (N := 29) (n := 29) hts (fun w h => subM w (in_Mo w h)) (hts _ lwt_105)
  obtain ⟨cI, kI, compI, hI1, hI2, hI3⟩ := Cond.arrayClass_spec (hts _ lwt_106)
  obtain ⟨cZ, kZ, compZ, hZ1, hZ2, hZ3⟩ := Cond.arrayClass_spec (hts _ lwt_107)
  obtain ⟨DC, hDC⟩ : ∃ D : va_G, D = (fun k => match k with | 0 => cC0 | 1 => cC1 | 2 => cC2 | 3 => cC3 | 4 => cC4 | 5 => cC5 | _ => cC6, fun k => match k with | 0 => iC0 | 1 => iC1 | 2 => iC2 | 3 => iC3 | 4 => iC4 | 5 => iC5 | _ => iC6) := ⟨_, rfl⟩
  obtain ⟨DM, hDM⟩ : ∃ D : va_G, D = (fun k => match k with | _ => cM0, fun k => match k with | _ => iM0) := ⟨_, rfl⟩
  have hKC : va_K DC clC [(cI, .int), (cZ, .boolean)] s := by
    refine ⟨fun k q hq => ?_, fun k q hq => ?_⟩
    · rcases k with _ | _ | _ | _ | _ | _ | _ | k
      · cases hq; rw [hDC]; exact kC0
      · cases hq; rw [hDC]; exact kC1
      · cases hq; rw [hDC]; exact kC2
      · cases hq; rw [hDC]; exact kC3
      · cases hq; rw [hDC]; exact kC4
      · cases hq; rw [hDC]; exact kC5
      · cases hq; rw [hDC]; exact kC6
      · exact absurd (List.getElem?_eq_some_iff.mp hq).1 (by simp)
    · rcases k with _ | _ | k
      · cases hq; exact ⟨fun n z => ⟨fun k h => (by cases h), kI, hI2, compI, hI3⟩, hI1⟩
      · cases hq; exact ⟨fun n z => ⟨fun k h => (by cases h), kZ, hZ2, compZ, hZ3⟩, hZ1⟩
      · exact absurd (List.getElem?_eq_some_iff.mp hq).1 (by simp)
  have hKM : va_K DM clM [(cI, .int), (cZ, .boolean)] s := by
    refine ⟨fun k q hq => ?_, fun k q hq => ?_⟩
    · rcases k with _ | k
      · cases hq; rw [hDM]; exact kM0
      · exact absurd (List.getElem?_eq_some_iff.mp hq).1 (by simp)
    · rcases k with _ | _ | k
      · cases hq; exact ⟨fun n z => ⟨fun k h => (by cases h), kI, hI2, compI, hI3⟩, hI1⟩
      · cases hq; exact ⟨fun n z => ⟨fun k h => (by cases h), kZ, hZ2, compZ, hZ3⟩, hZ1⟩
      · exact absurd (List.getElem?_eq_some_iff.mp hq).1 (by simp)
  have hNC : nwC s := ⟨fun q hq => va_Nw.of rfl (hts _ (subNFC q hq)), fun q hq => va_Nw.of rfl (hts _ (subNMC q hq))⟩
  have hNM : nwM s := ⟨fun q hq => va_Nw.of rfl (hts _ (subNFM q hq)), fun q hq => va_Nw.of rfl (hts _ (subNMM q hq))⟩
  have F : lfx DC DM cI cZ p s m c b L xs := ⟨hx, hb, hml, hown, hts, hX, hbl, hKC, hKM, hNC, hNM⟩
  have hl := lv_entry ([.ref b]) (n := 4) (Nat.le_of_ble_eq_true rfl)
  rw [lg_entry_eq]
  generalize (lg_sl ([.ref b]) ++ List.replicate (4 - (lg_sl ([.ref b])).length) Slot.unset).toArray = ls at hl ⊢
  have hl : lv_has ls 4 [(0, .ref b)] := hl
  obtain ⟨A, hAe⟩ : ∃ A : Nat → Prop, A = fun q => s.heap.size ≤ q := ⟨_, rfl⟩
  have hA : ∀ q : Nat, s.heap.size ≤ q → A q := fun q h => by rw [hAe]; exact h
  have hbA : ¬ A b := by rw [hAe]; exact Nat.not_le.mpr hbl
  have hS : va_S A s.heap s.heap [] := va_S.rf
  have hP : va_P DC clC [] s.heap := fun k q h => by simp at h
  have hD : va_D A [] := ⟨fun i j x y h => by simp at h, fun k q h => by simp at h⟩
  have h_1 : 1 ≤ room_1.cells := Nat.le_of_ble_eq_true rfl
  have h_2 : 7 ≤ room_1.slots := Nat.le_of_ble_eq_true rfl
  refine va_new (ci := 0) (fs := [.null, .null, .null, .null, .null, .null, .null]) (C := R_BF) (T := F_BF) (N := 7) hx hb hts (fun w h => subC w (in_BF w h)) t_BF t_BF_ok hown (hts _ lwt_108) (hts _ lwt_98) (hts _ lwt_0) hKC hP hD hS hA rfl (fun j hj => by rcases (show j = 0 ∨ j = 1 ∨ j = 2 ∨ j = 3 ∨ j = 4 ∨ j = 5 ∨ j = 6 by omega) with rfl | rfl | rfl | rfl | rfl | rfl | rfl <;> rfl) h_1 h_2 d_law_0 (fun q0 H hP hD hS => ?_)
  have hP : va_P DC clC [(q0, .inr (0, [.null, .null, .null, .null, .null, .null, .null]))] H := hP
  have hD : va_D A [(q0, .inr (0, [.null, .null, .null, .null, .null, .null, .null]))] := hD
  refine lv_dup hx hb d_law_3 rfl ?_
  have hFc := va_free (wc := [(q0, .inr (0, [.null, .null, .null, .null, .null, .null, .null]))]) hD hS hA [0] rfl
  refine va_callv (va_runI (As := []) (rest := [.ref q0]) ⟨hx, hb, hml, hown, hts⟩ (ci_BF (l := l) (D := DC) (cI := cI) (cZ := cZ) q0 H.size) ⟨callB_of 0 hts (goodLC _ kC_83) rfl rfl rfl (hts _ lwt_0) (hts _ lwt_109) (by decide +kernel) ⟨Nat.le_of_ble_eq_true rfl, Nat.le_of_ble_eq_true rfl⟩, rfl, hts _ lwt_110⟩ ⟨fun a U g mk q => by obtain ⟨q0, q1, qP, qK, qD, qN⟩ := q; exact ⟨q0, q1, qP, va_K.moved (u := U) (U := U.calling g mk a) (Vm.Alike.refl U.vm) qK, qD, nwC_same (s := U) (U := U.calling g mk a) rfl qN⟩, fun U hU hW => ⟨rfl, by rw [hU], by rw [hU]; exact hP, va_K.moved hW.alike hKC, hD.weaken (fun _ _ _ _ => trivial), nwC_warm hW hNC⟩⟩ rfl rfl hl.1 rfl (lv_room (Nat.le_of_ble_eq_true rfl)) d_law_4 ⟨Nat.le_of_ble_eq_true rfl, Nat.le_of_ble_eq_true rfl⟩) hS (fun q _ h => hFc q h) hFc (fun aC t H1 locs ht hvm haC hB hz1 hk1 hS => ?_)
  obtain ⟨hP, hK1, hD⟩ := hB
  rw [ht] at hP
  have hD := hD.weaken (fun _ _ _ h => hFc _ h)
  rw [← haC]
  refine lv_astore_n (lv' := [(1, .ref (aC 0)), (0, .ref b)]) hx hb d_law_7 rfl hl (by decide) rfl (fun ls hl => ?_)
  have hCP := hP
  have hCD := hD
  have hCS := hS
  have hf9 : ∀ q ∈ locs, s.heap.size ≤ q.base := fun q h => by have := hS.2.2 q h; rw [hAe] at this; exact this
  refine va_forget hf9 ?_
  have hA2 : ∀ q : Nat, H1.size ≤ q → (fun q => H1.size ≤ q) q := fun q h => h
  have hS : va_S (fun q => H1.size ≤ q) H1 H1 [] := va_S.rf
  have hP : va_P DM clM [] H1 := fun k q h => by simp at h
  have hD : va_D (fun q => H1.size ≤ q) [] := ⟨fun i j x y h => by simp at h, fun k q h => by simp at h⟩
  have h_1 : 26 ≤ room_1.cells := Nat.le_of_ble_eq_true rfl
  have h_2 : 1656 ≤ room_1.slots := Nat.le_of_ble_eq_true rfl
  refine W.widen (k := 25) (n := 1627) (Nat.le_of_ble_eq_true rfl) (Nat.le_of_ble_eq_true rfl) ?_
  refine va_new (ci := 0) (fs := [.int 0, .null, .null, .null, .null, .null, .int 0, .null, .null, .null, .null, .null, .null, .int 0, .null, .null, .int 0, .null, .null, .null, .null, .int 0, .int 0, .null, .null, .null, .int 0, .int 0, .int 0]) (C := R_Mo) (T := F_Mo) (N := 29) hx hb hts (fun w h => subM w (in_Mo w h)) t_Mo t_Mo_ok hown (hts _ lwt_111) (hts _ lwt_105) (hts _ lwt_4) hKM hP hD hS hA2 rfl (fun j hj => by rcases (show j = 0 ∨ j = 1 ∨ j = 2 ∨ j = 3 ∨ j = 4 ∨ j = 5 ∨ j = 6 ∨ j = 7 ∨ j = 8 ∨ j = 9 ∨ j = 10 ∨ j = 11 ∨ j = 12 ∨ j = 13 ∨ j = 14 ∨ j = 15 ∨ j = 16 ∨ j = 17 ∨ j = 18 ∨ j = 19 ∨ j = 20 ∨ j = 21 ∨ j = 22 ∨ j = 23 ∨ j = 24 ∨ j = 25 ∨ j = 26 ∨ j = 27 ∨ j = 28 by omega) with rfl | rfl | rfl | rfl | rfl | rfl | rfl | rfl | rfl | rfl | rfl | rfl | rfl | rfl | rfl | rfl | rfl | rfl | rfl | rfl | rfl | rfl | rfl | rfl | rfl | rfl | rfl | rfl | rfl <;> rfl) h_1 h_2 d_law_8 (fun q8 H hP hD hS => ?_)
  have hP : va_P DM clM [(q8, .inr (0, [.int 0, .null, .null, .null, .null, .null, .int 0, .null, .null, .null, .null, .null, .null, .int 0, .null, .null, .int 0, .null, .null, .null, .null, .int 0, .int 0, .null, .null, .null, .int 0, .int 0, .int 0]))] H := hP
  have hD : va_D (fun q => H1.size ≤ q) [(q8, .inr (0, [.int 0, .null, .null, .null, .null, .null, .int 0, .null, .null, .null, .null, .null, .null, .int 0, .null, .null, .int 0, .null, .null, .null, .null, .int 0, .int 0, .null, .null, .null, .int 0, .int 0, .int 0]))] := hD
  refine lv_dup hx hb d_law_11 rfl ?_
  have hFc := va_free (wc := [(q8, .inr (0, [.int 0, .null, .null, .null, .null, .null, .int 0, .null, .null, .null, .null, .null, .null, .int 0, .null, .null, .int 0, .null, .null, .null, .null, .int 0, .int 0, .null, .null, .null, .int 0, .int 0, .int 0]))]) hD hS hA2 [0] rfl
  refine va_callv (va_runI (As := []) (rest := [.ref q8]) ⟨hx, hb, hml, hown, hts⟩ (ci_Mo (l := l) (D := DM) (cI := cI) (cZ := cZ) q8 H.size) ⟨callB_of 0 hts (goodLM _ kM_31) rfl rfl rfl (hts _ lwt_4) (hts _ lwt_112) (by decide +kernel) ⟨Nat.le_of_ble_eq_true rfl, Nat.le_of_ble_eq_true rfl⟩, rfl, hts _ lwt_113⟩ ⟨fun a U g mk q => by obtain ⟨q0, q1, qP, qK, qD, qN⟩ := q; exact ⟨q0, q1, qP, va_K.moved (u := U) (U := U.calling g mk a) (Vm.Alike.refl U.vm) qK, qD, nwM_same (s := U) (U := U.calling g mk a) rfl qN⟩, fun U hU hW => ⟨rfl, by rw [hU], by rw [hU]; exact hP, va_K.moved hW.alike hKM, hD.weaken (fun _ _ _ _ => trivial), nwM_warm hW hNM⟩⟩ rfl rfl hl.1 rfl (lv_room (Nat.le_of_ble_eq_true rfl)) d_law_12 ⟨Nat.le_of_ble_eq_true rfl, Nat.le_of_ble_eq_true rfl⟩) hS (fun q _ h => hFc q h) hFc (fun aM t H2 locs ht hvm haM hB hz1 hk1 hS => ?_)
  obtain ⟨hP, hK1, hD⟩ := hB
  rw [ht] at hP
  have hD := hD.weaken (fun _ _ _ h => hFc _ h)
  rw [← haM]
  refine lv_astore_n (lv' := [(2, .ref (aM 0)), (1, .ref (aC 0)), (0, .ref b)]) hx hb d_law_15 rfl hl (by decide) rfl (fun ls hl => ?_)
  refine lv_iconst (v := 0) hx hb d_law_16 (by decide) ?_
  refine lv_istore_n (lv' := [(3, .int 0), (2, .ref (aM 0)), (1, .ref (aC 0)), (0, .ref b)]) hx hb d_law_17 rfl hl (by decide) rfl (fun ls hl => ?_)
  refine W.widen (k := 46) (n := 3692) (Nat.le_of_ble_eq_true rfl) (Nat.le_of_ble_eq_true rfl) ?_
  have hCP2 : va_P DC clC (gwC cI cZ aC (fun _ _ => 0)) H2 := hCP.kept (fun k q hq => hS.2.1 q.1 (hCP k q hq).lt (Nat.not_le.mpr (hCP k q hq).lt))
  have hS2 : va_S A s.heap H2 locs := ⟨Nat.le_trans hCS.1 hS.1, fun q h1 h2 => (hS.2.1 q (Nat.lt_of_lt_of_le h1 hCS.1) (Nat.not_le.mpr (Nat.lt_of_lt_of_le h1 hCS.1))).trans (hCS.2.1 q h1 h2), fun q h => hA _ (Nat.le_trans hCS.1 (hS.2.2 q h))⟩
  have hlw : lwd DC DM cI cZ aC aM A s.heap (fun _ _ => 0) (fun _ _ => 0) H2 locs := by
    refine ⟨⟨hCP2, hCD, hS2, hA⟩, ⟨hP, hD.weaken (fun k q hq h => hA _ (Nat.le_trans hCS.1 h)), hS2, hA⟩, fun i j hi hj heq => ?_⟩
    have e1 : ((gwC cI cZ aC (fun _ _ => 0)).map Prod.fst)[i]? = some (aC i) := by
      rw [show (gwC cI cZ aC (fun _ _ => 0)).map Prod.fst = (List.range 25).map aC from rfl, List.getElem?_map, List.getElem?_range hi]; rfl
    have e2 : ((gwM cI cZ aM (fun _ _ => 0)).map Prod.fst)[j]? = some (aM j) := by
      rw [show (gwM cI cZ aM (fun _ _ => 0)).map Prod.fst = (List.range 21).map aM from rfl, List.getElem?_map, List.getElem?_range hj]; rfl
    rw [List.getElem?_map] at e1 e2
    cases hq1 : (gwC cI cZ aC (fun _ _ => 0))[i]? with
    | none => rw [hq1] at e1; cases e1
    | some z1 =>
      cases hq2 : (gwM cI cZ aM (fun _ _ => 0))[j]? with
      | none => rw [hq2] at e2; cases e2
      | some z2 =>
        rw [hq1] at e1; rw [hq2] at e2
        have a1 := (hCP i z1 hq1).lt
        have a2 := hD.2 j z2 hq2
        rw [Option.some.inj e1] at a1
        rw [show z2.1 = aM j from Option.some.inj e2] at a2
        rw [heq] at a1
        exact Nat.not_le.mpr a1 a2
  refine l_loop sim0 sim1 sim2 sim3 sim4 sim5 sim6 sim7 sim8 sim9 sim10 sim11 sim12 sim13 sim14 sim15 F hbA hL ⟨Nat.le_of_ble_eq_true rfl, Nat.le_of_ble_eq_true rfl⟩ ⟨Nat.le_of_ble_eq_true rfl, Nat.le_of_ble_eq_true rfl⟩ ?_ L 0 _ _ H2 locs ls (by omega) (by omega) h00 hlw (lv_sub hl [3, 2, 1, 0] rfl)
  intro gc gm H locs ls hlw
  refine lv_iconst (v := 1) hx hb d_law_518 (by decide) ?_
  refine va_forget (fun q h => by have := hlw.1.2.2.1.2.2 q h; rw [hAe] at this; exact this) ?_
  refine W.widen (k := 600000) (n := 7302250) (Nat.le_of_ble_eq_true rfl) (Nat.le_of_ble_eq_true rfl) ?_
  exact lw_ret hx hb hr hlocks d_law_519
