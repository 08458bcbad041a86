def iw_Fo (cI cZ : ClassId) (h0 : Nat) (q : Nat → Nat) : va_W := [(h0, .inr (1, [.ref (q 0), .ref (q 1), .ref (q 2), .ref (q 3), .ref (q 4), .ref (q 5), .int 0, .int 0])), ((q 0), .inl (cI, 60, .inl (fun _ => 0))), ((q 1), .inl (cI, 60, .inl (fun _ => 0))), ((q 2), .inl (cI, 60, .inl (fun _ => 0))), ((q 3), .inl (cI, 60, .inl (fun _ => 0))), ((q 4), .inl (cI, 60, .inl (fun _ => 0))), ((q 5), .inl (cI, 8, .inl (fun _ => 0)))]
def iw_Ch (cI cZ : ClassId) (h0 : Nat) (q : Nat → Nat) (r_forest : Nat) : va_W := [(h0, .inr (2, [.ref r_forest, .ref (q 0)])), ((q 0), .inl (cZ, 60, .inl (fun _ => 0)))]
def iw_Cu (cI cZ : ClassId) (h0 : Nat) (q : Nat → Nat) (r_forest : Nat) : va_W := [(h0, .inr (3, [.ref r_forest, .ref (q 0), .ref (q 1), .ref (q 2), .int 0])), ((q 0), .inl (cI, 60, .inl (fun _ => 0))), ((q 1), .inl (cI, 60, .inl (fun _ => 0))), ((q 2), .inl (cI, 60, .inl (fun _ => 0)))]
def iw_Ta (cI cZ : ClassId) (h0 : Nat) (q : Nat → Nat) : va_W := [(h0, .inr (4, [.ref (q 0), .ref (q 1), .ref (q 2), .int 0])), ((q 0), .inl (cI, 120, .inl (fun _ => 0))), ((q 1), .inl (cI, 120, .inl (fun _ => 0))), ((q 2), .inl (cI, 61, .inl (fun _ => 0)))]
def iw_Co (cI cZ : ClassId) (h0 : Nat) (q : Nat → Nat) (r_forest : Nat) (r_cutter : Nat) (r_tables : Nat) : va_W := [(h0, .inr (5, [.ref r_forest, .ref r_cutter, .ref r_tables, .ref (q 0), .ref (q 1), .ref (q 2), .ref (q 3), .int 0, .int 0, .int 0])), ((q 0), .inl (cI, 600, .inl (fun _ => 0))), ((q 1), .inl (cI, 61, .inl (fun _ => 0))), ((q 2), .inl (cI, 60, .inl (fun _ => 0))), ((q 3), .inl (cI, 8, .inl (fun _ => 0)))]
def iw_Ma (cI cZ : ClassId) (h0 : Nat) (q : Nat → Nat) (r_code : Nat) (r_tables : Nat) (r_features : Nat) : va_W := [(h0, .inr (6, [.ref r_code, .ref r_tables, .ref r_features, .int 0, .int 0]))]

set_option maxHeartbeats 8000000 in
set_option maxRecDepth 100000 in
theorem ci_Fo {l : Launch} {D : va_G} {cI cZ : ClassId} (h0 : Nat) (sz : Nat) : Met l y_Fo_init (.code y_Fo_init b_Fo_init 1 none :: wGC) ({ frames := 1, cells := 6, slots := 308, locals := 20 }) (va_Pc [.ref h0] (fun U => U.heap.size = sz ∧ va_P D clC [(h0, .inr (1, [.null, .null, .null, .null, .null, .null, .int 0, .int 0]))] U.heap ∧ va_K D clC [(cI, .int), (cZ, .boolean)] U ∧ va_D (fun _ => True) [(h0, .inr (1, [.null, .null, .null, .null, .null, .null, .int 0, .int 0]))] ∧ nwC U)) (va_Qv (fun _ : Nat → Nat => True) (fun q t => va_P D clC (iw_Fo cI cZ h0 q ) t.heap ∧ va_K D clC [(cI, .int), (cZ, .boolean)] t ∧ va_D (va_A [(h0, .inr (1, [.null, .null, .null, .null, .null, .null, .int 0, .int 0]))] sz) (iw_Fo cI cZ h0 q )) (va_A [(h0, .inr (1, [.null, .null, .null, .null, .null, .null, .int 0, .int 0]))] sz)) 6 308 (va_A [(h0, .inr (1, [.null, .null, .null, .null, .null, .null, .int 0, .int 0]))] sz) := by
  refine Met.ofW (cc := b_Fo_init) (maxL := 1) (ret := none) (by decide) rfl ?_
  intro p e s m args below meth c s₁ B hml hv
  obtain ⟨rfl, hsz, hP, hK, hD0, hN⟩ := hv
  have hx := B.exec
  have hb := B.bytes
  have hr := B.returns
  have hts0 := atoms_spec (ws := .code y_Fo_init b_Fo_init 1 none :: wGC) B.pre
  have hts : ∀ w ∈ wGC, w.before _ s = true := fun w h => hts0 w (List.mem_cons_of_mem _ h)
  have hown : s.vm.findClass R_Fo = some m.cls := findClass_of_methodNamed B.named
  have hlocks := B.notSynchronized
  have hin : meth.name = "<init>" := (name_of_methodNamed B.named B.method).1
  subst hsz
  have hD := hD0.self (sz := s.heap.size)
  generalize hAe : va_A [(h0, .inr (1, [.null, .null, .null, .null, .null, .null, .int 0, .int 0]))] s.heap.size = A at hD ⊢
  have hA : ∀ q : Nat, s.heap.size ≤ q → A q := fun q h => by rw [← hAe]; exact Or.inr h
  have hS : va_S A s.heap s.heap [] := va_S.rf
  have hP : va_P D clC [(h0, .inr (1, [.null, .null, .null, .null, .null, .null, .int 0, .int 0]))] s.heap := hP
  have hl := lv_entry ([.ref h0]) (n := 1) (Nat.le_of_ble_eq_true rfl)
  rw [lg_entry_eq]
  generalize (lg_sl ([.ref h0]) ++ List.replicate (1 - (lg_sl ([.ref h0])).length) Slot.unset).toArray = ls at hl ⊢
  have hl : lv_has ls 1 [(0, .ref h0)] := hl
  refine lv_aload_n hx hb d_Fo_init_0 rfl (lv_at hl 0 rfl) ?_
  refine W.objInit hx hb hown (hts _ kC_6) (hts _ kC_7) (hts _ kC_8) rfl (by rw [hml]; exact hl.1) rfl d_Fo_init_1 (Nat.le_of_ble_eq_true rfl) (Nat.le_of_ble_eq_true rfl) ?_
  refine W.eq (g2 := F0 m 4 ls []) rfl ?_
  refine lv_aload_n hx hb d_Fo_init_4 rfl (lv_at hl 0 rfl) ?_
  refine lv_bipush (v := 60) hx hb d_Fo_init_5 (by decide) ?_
  have h_1 : 1 ≤ 6 := by decide
  have h_2 : 60 ≤ 308 := by decide
  refine va_newa (atype := .int) (ty := .int) (a0 := (60, .inl (fun _ => 0))) (N' := 60) hx hb (hts _ kC_9) rfl hK hP hD hS hA (fun cA => by rw [vp_cell_i]; rfl) (by decide) (by decide) (by decide) h_1 h_2 d_Fo_init_7 (fun q7 cA H hK2 hP hD hS => ?_)
  have hq : cI = cA := Option.some.inj ((hK2.2 0 _ rfl).2.symm.trans (hK2.2 2 _ rfl).2)
  subst hq
  have hP : va_P D clC [(h0, .inr (1, [.null, .null, .null, .null, .null, .null, .int 0, .int 0])), (q7, .inl (cI, 60, .inl (fun _ => 0)))] H := hP
  have hD : va_D A [(h0, .inr (1, [.null, .null, .null, .null, .null, .null, .int 0, .int 0])), (q7, .inl (cI, 60, .inl (fun _ => 0)))] := hD
  refine W.widen (k := 1) (n := 60) (Nat.le_of_ble_eq_true rfl) (Nat.le_of_ble_eq_true rfl) ?_
  refine va_putF (D := D) (ci := 1) (v := .ref q7) (ty := .array .int) (C := R_Fo) (T := F_Fo) (N := 8) hx hb hts in_Fo t_Fo t_Fo_ok n_Fo hown hK hP hD hS 0 rfl rfl 0 (by decide) (hts _ kC_10) (fun _ h9 => h9) rfl hin rfl (by decide +kernel) rfl rfl (Nat.le_of_ble_eq_true rfl) d_Fo_init_9 (fun H locs hP hD hS => ?_)
  have hP : va_P D clC [(h0, .inr (1, [.ref q7, .null, .null, .null, .null, .null, .int 0, .int 0])), (q7, .inl (cI, 60, .inl (fun _ => 0)))] H := hP
  have hD : va_D A [(h0, .inr (1, [.ref q7, .null, .null, .null, .null, .null, .int 0, .int 0])), (q7, .inl (cI, 60, .inl (fun _ => 0)))] := hD
  refine lv_aload_n hx hb d_Fo_init_12 rfl (lv_at hl 0 rfl) ?_
  refine lv_bipush (v := 60) hx hb d_Fo_init_13 (by decide) ?_
  have h_1 : 2 ≤ 6 := by decide
  have h_2 : 120 ≤ 308 := by decide
  refine va_newa (atype := .int) (ty := .int) (a0 := (60, .inl (fun _ => 0))) (N' := 60) hx hb (hts _ kC_9) rfl hK hP hD hS hA (fun cA => by rw [vp_cell_i]; rfl) (by decide) (by decide) (by decide) h_1 h_2 d_Fo_init_15 (fun q15 cA H hK2 hP hD hS => ?_)
  have hq : cI = cA := Option.some.inj ((hK2.2 0 _ rfl).2.symm.trans (hK2.2 2 _ rfl).2)
  subst hq
  have hP : va_P D clC [(h0, .inr (1, [.ref q7, .null, .null, .null, .null, .null, .int 0, .int 0])), (q7, .inl (cI, 60, .inl (fun _ => 0))), (q15, .inl (cI, 60, .inl (fun _ => 0)))] H := hP
  have hD : va_D A [(h0, .inr (1, [.ref q7, .null, .null, .null, .null, .null, .int 0, .int 0])), (q7, .inl (cI, 60, .inl (fun _ => 0))), (q15, .inl (cI, 60, .inl (fun _ => 0)))] := hD
  refine W.widen (k := 2) (n := 120) (Nat.le_of_ble_eq_true rfl) (Nat.le_of_ble_eq_true rfl) ?_
  refine va_putF (D := D) (ci := 1) (v := .ref q15) (ty := .array .int) (C := R_Fo) (T := F_Fo) (N := 8) hx hb hts in_Fo t_Fo t_Fo_ok n_Fo hown hK hP hD hS 0 rfl rfl 1 (by decide) (hts _ kC_11) (fun _ h9 => h9) rfl hin rfl (by decide +kernel) rfl rfl (Nat.le_of_ble_eq_true rfl) d_Fo_init_17 (fun H locs hP hD hS => ?_)
  have hP : va_P D clC [(h0, .inr (1, [.ref q7, .ref q15, .null, .null, .null, .null, .int 0, .int 0])), (q7, .inl (cI, 60, .inl (fun _ => 0))), (q15, .inl (cI, 60, .inl (fun _ => 0)))] H := hP
  have hD : va_D A [(h0, .inr (1, [.ref q7, .ref q15, .null, .null, .null, .null, .int 0, .int 0])), (q7, .inl (cI, 60, .inl (fun _ => 0))), (q15, .inl (cI, 60, .inl (fun _ => 0)))] := hD
  refine lv_aload_n hx hb d_Fo_init_20 rfl (lv_at hl 0 rfl) ?_
  refine lv_bipush (v := 60) hx hb d_Fo_init_21 (by decide) ?_
  have h_1 : 3 ≤ 6 := by decide
  have h_2 : 180 ≤ 308 := by decide
  refine va_newa (atype := .int) (ty := .int) (a0 := (60, .inl (fun _ => 0))) (N' := 60) hx hb (hts _ kC_9) rfl hK hP hD hS hA (fun cA => by rw [vp_cell_i]; rfl) (by decide) (by decide) (by decide) h_1 h_2 d_Fo_init_23 (fun q23 cA H hK2 hP hD hS => ?_)
  have hq : cI = cA := Option.some.inj ((hK2.2 0 _ rfl).2.symm.trans (hK2.2 2 _ rfl).2)
  subst hq
  have hP : va_P D clC [(h0, .inr (1, [.ref q7, .ref q15, .null, .null, .null, .null, .int 0, .int 0])), (q7, .inl (cI, 60, .inl (fun _ => 0))), (q15, .inl (cI, 60, .inl (fun _ => 0))), (q23, .inl (cI, 60, .inl (fun _ => 0)))] H := hP
  have hD : va_D A [(h0, .inr (1, [.ref q7, .ref q15, .null, .null, .null, .null, .int 0, .int 0])), (q7, .inl (cI, 60, .inl (fun _ => 0))), (q15, .inl (cI, 60, .inl (fun _ => 0))), (q23, .inl (cI, 60, .inl (fun _ => 0)))] := hD
  refine W.widen (k := 3) (n := 180) (Nat.le_of_ble_eq_true rfl) (Nat.le_of_ble_eq_true rfl) ?_
  refine va_putF (D := D) (ci := 1) (v := .ref q23) (ty := .array .int) (C := R_Fo) (T := F_Fo) (N := 8) hx hb hts in_Fo t_Fo t_Fo_ok n_Fo hown hK hP hD hS 0 rfl rfl 2 (by decide) (hts _ kC_12) (fun _ h9 => h9) rfl hin rfl (by decide +kernel) rfl rfl (Nat.le_of_ble_eq_true rfl) d_Fo_init_25 (fun H locs hP hD hS => ?_)
  have hP : va_P D clC [(h0, .inr (1, [.ref q7, .ref q15, .ref q23, .null, .null, .null, .int 0, .int 0])), (q7, .inl (cI, 60, .inl (fun _ => 0))), (q15, .inl (cI, 60, .inl (fun _ => 0))), (q23, .inl (cI, 60, .inl (fun _ => 0)))] H := hP
  have hD : va_D A [(h0, .inr (1, [.ref q7, .ref q15, .ref q23, .null, .null, .null, .int 0, .int 0])), (q7, .inl (cI, 60, .inl (fun _ => 0))), (q15, .inl (cI, 60, .inl (fun _ => 0))), (q23, .inl (cI, 60, .inl (fun _ => 0)))] := hD
  refine lv_aload_n hx hb d_Fo_init_28 rfl (lv_at hl 0 rfl) ?_
  refine lv_bipush (v := 60) hx hb d_Fo_init_29 (by decide) ?_
  have h_1 : 4 ≤ 6 := by decide
  have h_2 : 240 ≤ 308 := by decide
  refine va_newa (atype := .int) (ty := .int) (a0 := (60, .inl (fun _ => 0))) (N' := 60) hx hb (hts _ kC_9) rfl hK hP hD hS hA (fun cA => by rw [vp_cell_i]; rfl) (by decide) (by decide) (by decide) h_1 h_2 d_Fo_init_31 (fun q31 cA H hK2 hP hD hS => ?_)
  have hq : cI = cA := Option.some.inj ((hK2.2 0 _ rfl).2.symm.trans (hK2.2 2 _ rfl).2)
  subst hq
  have hP : va_P D clC [(h0, .inr (1, [.ref q7, .ref q15, .ref q23, .null, .null, .null, .int 0, .int 0])), (q7, .inl (cI, 60, .inl (fun _ => 0))), (q15, .inl (cI, 60, .inl (fun _ => 0))), (q23, .inl (cI, 60, .inl (fun _ => 0))), (q31, .inl (cI, 60, .inl (fun _ => 0)))] H := hP
  have hD : va_D A [(h0, .inr (1, [.ref q7, .ref q15, .ref q23, .null, .null, .null, .int 0, .int 0])), (q7, .inl (cI, 60, .inl (fun _ => 0))), (q15, .inl (cI, 60, .inl (fun _ => 0))), (q23, .inl (cI, 60, .inl (fun _ => 0))), (q31, .inl (cI, 60, .inl (fun _ => 0)))] := hD
  refine W.widen (k := 4) (n := 240) (Nat.le_of_ble_eq_true rfl) (Nat.le_of_ble_eq_true rfl) ?_
  refine va_putF (D := D) (ci := 1) (v := .ref q31) (ty := .array .int) (C := R_Fo) (T := F_Fo) (N := 8) hx hb hts in_Fo t_Fo t_Fo_ok n_Fo hown hK hP hD hS 0 rfl rfl 3 (by decide) (hts _ kC_13) (fun _ h9 => h9) rfl hin rfl (by decide +kernel) rfl rfl (Nat.le_of_ble_eq_true rfl) d_Fo_init_33 (fun H locs hP hD hS => ?_)
  have hP : va_P D clC [(h0, .inr (1, [.ref q7, .ref q15, .ref q23, .ref q31, .null, .null, .int 0, .int 0])), (q7, .inl (cI, 60, .inl (fun _ => 0))), (q15, .inl (cI, 60, .inl (fun _ => 0))), (q23, .inl (cI, 60, .inl (fun _ => 0))), (q31, .inl (cI, 60, .inl (fun _ => 0)))] H := hP
  have hD : va_D A [(h0, .inr (1, [.ref q7, .ref q15, .ref q23, .ref q31, .null, .null, .int 0, .int 0])), (q7, .inl (cI, 60, .inl (fun _ => 0))), (q15, .inl (cI, 60, .inl (fun _ => 0))), (q23, .inl (cI, 60, .inl (fun _ => 0))), (q31, .inl (cI, 60, .inl (fun _ => 0)))] := hD
  refine lv_aload_n hx hb d_Fo_init_36 rfl (lv_at hl 0 rfl) ?_
  refine lv_bipush (v := 60) hx hb d_Fo_init_37 (by decide) ?_
  have h_1 : 5 ≤ 6 := by decide
  have h_2 : 300 ≤ 308 := by decide
  refine va_newa (atype := .int) (ty := .int) (a0 := (60, .inl (fun _ => 0))) (N' := 60) hx hb (hts _ kC_9) rfl hK hP hD hS hA (fun cA => by rw [vp_cell_i]; rfl) (by decide) (by decide) (by decide) h_1 h_2 d_Fo_init_39 (fun q39 cA H hK2 hP hD hS => ?_)
  have hq : cI = cA := Option.some.inj ((hK2.2 0 _ rfl).2.symm.trans (hK2.2 2 _ rfl).2)
  subst hq
  have hP : va_P D clC [(h0, .inr (1, [.ref q7, .ref q15, .ref q23, .ref q31, .null, .null, .int 0, .int 0])), (q7, .inl (cI, 60, .inl (fun _ => 0))), (q15, .inl (cI, 60, .inl (fun _ => 0))), (q23, .inl (cI, 60, .inl (fun _ => 0))), (q31, .inl (cI, 60, .inl (fun _ => 0))), (q39, .inl (cI, 60, .inl (fun _ => 0)))] H := hP
  have hD : va_D A [(h0, .inr (1, [.ref q7, .ref q15, .ref q23, .ref q31, .null, .null, .int 0, .int 0])), (q7, .inl (cI, 60, .inl (fun _ => 0))), (q15, .inl (cI, 60, .inl (fun _ => 0))), (q23, .inl (cI, 60, .inl (fun _ => 0))), (q31, .inl (cI, 60, .inl (fun _ => 0))), (q39, .inl (cI, 60, .inl (fun _ => 0)))] := hD
  refine W.widen (k := 5) (n := 300) (Nat.le_of_ble_eq_true rfl) (Nat.le_of_ble_eq_true rfl) ?_
  refine va_putF (D := D) (ci := 1) (v := .ref q39) (ty := .array .int) (C := R_Fo) (T := F_Fo) (N := 8) hx hb hts in_Fo t_Fo t_Fo_ok n_Fo hown hK hP hD hS 0 rfl rfl 4 (by decide) (hts _ kC_14) (fun _ h9 => h9) rfl hin rfl (by decide +kernel) rfl rfl (Nat.le_of_ble_eq_true rfl) d_Fo_init_41 (fun H locs hP hD hS => ?_)
  have hP : va_P D clC [(h0, .inr (1, [.ref q7, .ref q15, .ref q23, .ref q31, .ref q39, .null, .int 0, .int 0])), (q7, .inl (cI, 60, .inl (fun _ => 0))), (q15, .inl (cI, 60, .inl (fun _ => 0))), (q23, .inl (cI, 60, .inl (fun _ => 0))), (q31, .inl (cI, 60, .inl (fun _ => 0))), (q39, .inl (cI, 60, .inl (fun _ => 0)))] H := hP
  have hD : va_D A [(h0, .inr (1, [.ref q7, .ref q15, .ref q23, .ref q31, .ref q39, .null, .int 0, .int 0])), (q7, .inl (cI, 60, .inl (fun _ => 0))), (q15, .inl (cI, 60, .inl (fun _ => 0))), (q23, .inl (cI, 60, .inl (fun _ => 0))), (q31, .inl (cI, 60, .inl (fun _ => 0))), (q39, .inl (cI, 60, .inl (fun _ => 0)))] := hD
  refine lv_aload_n hx hb d_Fo_init_44 rfl (lv_at hl 0 rfl) ?_
  refine lv_bipush (v := 8) hx hb d_Fo_init_45 (by decide) ?_
  have h_1 : 6 ≤ 6 := by decide
  have h_2 : 308 ≤ 308 := by decide
  refine va_newa (atype := .int) (ty := .int) (a0 := (8, .inl (fun _ => 0))) (N' := 8) hx hb (hts _ kC_9) rfl hK hP hD hS hA (fun cA => by rw [vp_cell_i]; rfl) (by decide) (by decide) (by decide) h_1 h_2 d_Fo_init_47 (fun q47 cA H hK2 hP hD hS => ?_)
  have hq : cI = cA := Option.some.inj ((hK2.2 0 _ rfl).2.symm.trans (hK2.2 2 _ rfl).2)
  subst hq
  have hP : va_P D clC [(h0, .inr (1, [.ref q7, .ref q15, .ref q23, .ref q31, .ref q39, .null, .int 0, .int 0])), (q7, .inl (cI, 60, .inl (fun _ => 0))), (q15, .inl (cI, 60, .inl (fun _ => 0))), (q23, .inl (cI, 60, .inl (fun _ => 0))), (q31, .inl (cI, 60, .inl (fun _ => 0))), (q39, .inl (cI, 60, .inl (fun _ => 0))), (q47, .inl (cI, 8, .inl (fun _ => 0)))] H := hP
  have hD : va_D A [(h0, .inr (1, [.ref q7, .ref q15, .ref q23, .ref q31, .ref q39, .null, .int 0, .int 0])), (q7, .inl (cI, 60, .inl (fun _ => 0))), (q15, .inl (cI, 60, .inl (fun _ => 0))), (q23, .inl (cI, 60, .inl (fun _ => 0))), (q31, .inl (cI, 60, .inl (fun _ => 0))), (q39, .inl (cI, 60, .inl (fun _ => 0))), (q47, .inl (cI, 8, .inl (fun _ => 0)))] := hD
  refine W.widen (k := 6) (n := 308) (Nat.le_of_ble_eq_true rfl) (Nat.le_of_ble_eq_true rfl) ?_
  refine va_putF (D := D) (ci := 1) (v := .ref q47) (ty := .array .int) (C := R_Fo) (T := F_Fo) (N := 8) hx hb hts in_Fo t_Fo t_Fo_ok n_Fo hown hK hP hD hS 0 rfl rfl 5 (by decide) (hts _ kC_15) (fun _ h9 => h9) rfl hin rfl (by decide +kernel) rfl rfl (Nat.le_of_ble_eq_true rfl) d_Fo_init_49 (fun H locs hP hD hS => ?_)
  have hP : va_P D clC [(h0, .inr (1, [.ref q7, .ref q15, .ref q23, .ref q31, .ref q39, .ref q47, .int 0, .int 0])), (q7, .inl (cI, 60, .inl (fun _ => 0))), (q15, .inl (cI, 60, .inl (fun _ => 0))), (q23, .inl (cI, 60, .inl (fun _ => 0))), (q31, .inl (cI, 60, .inl (fun _ => 0))), (q39, .inl (cI, 60, .inl (fun _ => 0))), (q47, .inl (cI, 8, .inl (fun _ => 0)))] H := hP
  have hD : va_D A [(h0, .inr (1, [.ref q7, .ref q15, .ref q23, .ref q31, .ref q39, .ref q47, .int 0, .int 0])), (q7, .inl (cI, 60, .inl (fun _ => 0))), (q15, .inl (cI, 60, .inl (fun _ => 0))), (q23, .inl (cI, 60, .inl (fun _ => 0))), (q31, .inl (cI, 60, .inl (fun _ => 0))), (q39, .inl (cI, 60, .inl (fun _ => 0))), (q47, .inl (cI, 8, .inl (fun _ => 0)))] := hD
  have hP9 := hP.sub (ws' := iw_Fo cI cZ h0 (fun k => ([q7, q15, q23, q31, q39, q47] : List Nat).getD k 0) ) [0, 1, 2, 3, 4, 5, 6] rfl
  have hD9 := hD.sub (ws' := iw_Fo cI cZ h0 (fun k => ([q7, q15, q23, q31, q39, q47] : List Nat).getD k 0) ) [0, 1, 2, 3, 4, 5, 6] (by decide) rfl
  exact W.vret hx hb hr (fun t ht hW => ⟨⟨(fun k => ([q7, q15, q23, q31, q39, q47] : List Nat).getD k 0), rfl, trivial, by rw [ht]; exact hP9, va_K.moved hW.alike hK, hD9⟩, hS.F ht⟩) hS.2.2 d_Fo_init_52

set_option maxHeartbeats 8000000 in
set_option maxRecDepth 100000 in
theorem ci_Ch {l : Launch} {D : va_G} {cI cZ : ClassId} (h0 : Nat) (r_forest : Nat) (sz : Nat) : Met l y_Ch_init (.code y_Ch_init b_Ch_init 2 none :: wGC) ({ frames := 1, cells := 1, slots := 60, locals := 20 }) (va_Pc [.ref h0, .ref r_forest] (fun U => U.heap.size = sz ∧ va_P D clC [(h0, .inr (2, [.null, .null]))] U.heap ∧ va_K D clC [(cI, .int), (cZ, .boolean)] U ∧ va_D (fun _ => True) [(h0, .inr (2, [.null, .null]))] ∧ nwC U)) (va_Qv (fun _ : Nat → Nat => True) (fun q t => va_P D clC (iw_Ch cI cZ h0 q r_forest) t.heap ∧ va_K D clC [(cI, .int), (cZ, .boolean)] t ∧ va_D (va_A [(h0, .inr (2, [.null, .null]))] sz) (iw_Ch cI cZ h0 q r_forest)) (va_A [(h0, .inr (2, [.null, .null]))] sz)) 1 60 (va_A [(h0, .inr (2, [.null, .null]))] sz) := by
  refine Met.ofW (cc := b_Ch_init) (maxL := 2) (ret := none) (by decide) rfl ?_
  intro p e s m args below meth c s₁ B hml hv
  obtain ⟨rfl, hsz, hP, hK, hD0, hN⟩ := hv
  have hx := B.exec
  have hb := B.bytes
  have hr := B.returns
  have hts0 := atoms_spec (ws := .code y_Ch_init b_Ch_init 2 none :: wGC) B.pre
  have hts : ∀ w ∈ wGC, w.before _ s = true := fun w h => hts0 w (List.mem_cons_of_mem _ h)
  have hown : s.vm.findClass R_Ch = some m.cls := findClass_of_methodNamed B.named
  have hlocks := B.notSynchronized
  have hin : meth.name = "<init>" := (name_of_methodNamed B.named B.method).1
  subst hsz
  have hD := hD0.self (sz := s.heap.size)
  generalize hAe : va_A [(h0, .inr (2, [.null, .null]))] s.heap.size = A at hD ⊢
  have hA : ∀ q : Nat, s.heap.size ≤ q → A q := fun q h => by rw [← hAe]; exact Or.inr h
  have hS : va_S A s.heap s.heap [] := va_S.rf
  have hP : va_P D clC [(h0, .inr (2, [.null, .null]))] s.heap := hP
  have hl := lv_entry ([.ref h0, .ref r_forest]) (n := 2) (Nat.le_of_ble_eq_true rfl)
  rw [lg_entry_eq]
  generalize (lg_sl ([.ref h0, .ref r_forest]) ++ List.replicate (2 - (lg_sl ([.ref h0, .ref r_forest])).length) Slot.unset).toArray = ls at hl ⊢
  have hl : lv_has ls 2 [(0, .ref h0), (1, .ref r_forest)] := hl
  refine lv_aload_n hx hb d_Ch_init_0 rfl (lv_at hl 0 rfl) ?_
  refine W.objInit hx hb hown (hts _ kC_17) (hts _ kC_7) (hts _ kC_8) rfl (by rw [hml]; exact hl.1) rfl d_Ch_init_1 (Nat.le_of_ble_eq_true rfl) (Nat.le_of_ble_eq_true rfl) ?_
  refine W.eq (g2 := F0 m 4 ls []) rfl ?_
  refine lv_aload_n hx hb d_Ch_init_4 rfl (lv_at hl 0 rfl) ?_
  refine lv_bipush (v := 60) hx hb d_Ch_init_5 (by decide) ?_
  have h_1 : 1 ≤ 1 := by decide
  have h_2 : 60 ≤ 60 := by decide
  refine va_newa (atype := .boolean) (ty := .boolean) (a0 := (60, .inl (fun _ => 0))) (N' := 60) hx hb (hts _ kC_18) rfl hK hP hD hS hA (fun cA => by rw [vp_cell_i]; rfl) (by decide) (by decide) (by decide) h_1 h_2 d_Ch_init_7 (fun q7 cA H hK2 hP hD hS => ?_)
  have hq : cZ = cA := Option.some.inj ((hK2.2 1 _ rfl).2.symm.trans (hK2.2 2 _ rfl).2)
  subst hq
  -- boolean
  have hP : va_P D clC [(h0, .inr (2, [.null, .null])), (q7, .inl (cZ, 60, .inl (fun _ => 0)))] H := hP
  have hD : va_D A [(h0, .inr (2, [.null, .null])), (q7, .inl (cZ, 60, .inl (fun _ => 0)))] := hD
  refine W.widen (k := 1) (n := 60) (Nat.le_of_ble_eq_true rfl) (Nat.le_of_ble_eq_true rfl) ?_
  refine va_putF (D := D) (ci := 2) (v := .ref q7) (ty := .array .boolean) (C := R_Ch) (T := F_Ch) (N := 2) hx hb hts in_Ch t_Ch t_Ch_ok n_Ch hown hK hP hD hS 0 rfl rfl 1 (by decide) (hts _ kC_19) (fun _ h9 => h9) rfl hin rfl (by decide +kernel) rfl rfl (Nat.le_of_ble_eq_true rfl) d_Ch_init_9 (fun H locs hP hD hS => ?_)
  have hP : va_P D clC [(h0, .inr (2, [.null, .ref q7])), (q7, .inl (cZ, 60, .inl (fun _ => 0)))] H := hP
  have hD : va_D A [(h0, .inr (2, [.null, .ref q7])), (q7, .inl (cZ, 60, .inl (fun _ => 0)))] := hD
  refine lv_aload_n hx hb d_Ch_init_12 rfl (lv_at hl 0 rfl) ?_
  refine lv_aload_n hx hb d_Ch_init_13 rfl (lv_at hl 1 rfl) ?_
  refine va_putF (D := D) (ci := 2) (v := .ref r_forest) (ty := .object "BranchForge$Forest") (C := R_Ch) (T := F_Ch) (N := 2) hx hb hts in_Ch t_Ch t_Ch_ok n_Ch hown hK hP hD hS 0 rfl rfl 0 (by decide) (hts _ kC_20) (fun _ h9 => h9) rfl hin rfl (by decide +kernel) rfl rfl (Nat.le_of_ble_eq_true rfl) d_Ch_init_14 (fun H locs hP hD hS => ?_)
  have hP : va_P D clC [(h0, .inr (2, [.ref r_forest, .ref q7])), (q7, .inl (cZ, 60, .inl (fun _ => 0)))] H := hP
  have hD : va_D A [(h0, .inr (2, [.ref r_forest, .ref q7])), (q7, .inl (cZ, 60, .inl (fun _ => 0)))] := hD
  have hP9 := hP.sub (ws' := iw_Ch cI cZ h0 (fun k => ([q7] : List Nat).getD k 0) r_forest) [0, 1] rfl
  have hD9 := hD.sub (ws' := iw_Ch cI cZ h0 (fun k => ([q7] : List Nat).getD k 0) r_forest) [0, 1] (by decide) rfl
  exact W.vret hx hb hr (fun t ht hW => ⟨⟨(fun k => ([q7] : List Nat).getD k 0), rfl, trivial, by rw [ht]; exact hP9, va_K.moved hW.alike hK, hD9⟩, hS.F ht⟩) hS.2.2 d_Ch_init_17

set_option maxHeartbeats 8000000 in
set_option maxRecDepth 100000 in
theorem ci_Cu {l : Launch} {D : va_G} {cI cZ : ClassId} (h0 : Nat) (r_forest : Nat) (sz : Nat) : Met l y_Cu_init (.code y_Cu_init b_Cu_init 2 none :: wGC) ({ frames := 1, cells := 3, slots := 180, locals := 20 }) (va_Pc [.ref h0, .ref r_forest] (fun U => U.heap.size = sz ∧ va_P D clC [(h0, .inr (3, [.null, .null, .null, .null, .int 0]))] U.heap ∧ va_K D clC [(cI, .int), (cZ, .boolean)] U ∧ va_D (fun _ => True) [(h0, .inr (3, [.null, .null, .null, .null, .int 0]))] ∧ nwC U)) (va_Qv (fun _ : Nat → Nat => True) (fun q t => va_P D clC (iw_Cu cI cZ h0 q r_forest) t.heap ∧ va_K D clC [(cI, .int), (cZ, .boolean)] t ∧ va_D (va_A [(h0, .inr (3, [.null, .null, .null, .null, .int 0]))] sz) (iw_Cu cI cZ h0 q r_forest)) (va_A [(h0, .inr (3, [.null, .null, .null, .null, .int 0]))] sz)) 3 180 (va_A [(h0, .inr (3, [.null, .null, .null, .null, .int 0]))] sz) := by
  refine Met.ofW (cc := b_Cu_init) (maxL := 2) (ret := none) (by decide) rfl ?_
  intro p e s m args below meth c s₁ B hml hv
  obtain ⟨rfl, hsz, hP, hK, hD0, hN⟩ := hv
  have hx := B.exec
  have hb := B.bytes
  have hr := B.returns
  have hts0 := atoms_spec (ws := .code y_Cu_init b_Cu_init 2 none :: wGC) B.pre
  have hts : ∀ w ∈ wGC, w.before _ s = true := fun w h => hts0 w (List.mem_cons_of_mem _ h)
  have hown : s.vm.findClass R_Cu = some m.cls := findClass_of_methodNamed B.named
  have hlocks := B.notSynchronized
  have hin : meth.name = "<init>" := (name_of_methodNamed B.named B.method).1
  subst hsz
  have hD := hD0.self (sz := s.heap.size)
  generalize hAe : va_A [(h0, .inr (3, [.null, .null, .null, .null, .int 0]))] s.heap.size = A at hD ⊢
  have hA : ∀ q : Nat, s.heap.size ≤ q → A q := fun q h => by rw [← hAe]; exact Or.inr h
  have hS : va_S A s.heap s.heap [] := va_S.rf
  have hP : va_P D clC [(h0, .inr (3, [.null, .null, .null, .null, .int 0]))] s.heap := hP
  have hl := lv_entry ([.ref h0, .ref r_forest]) (n := 2) (Nat.le_of_ble_eq_true rfl)
  rw [lg_entry_eq]
  generalize (lg_sl ([.ref h0, .ref r_forest]) ++ List.replicate (2 - (lg_sl ([.ref h0, .ref r_forest])).length) Slot.unset).toArray = ls at hl ⊢
  have hl : lv_has ls 2 [(0, .ref h0), (1, .ref r_forest)] := hl
  refine lv_aload_n hx hb d_Cu_init_0 rfl (lv_at hl 0 rfl) ?_
  refine W.objInit hx hb hown (hts _ kC_22) (hts _ kC_7) (hts _ kC_8) rfl (by rw [hml]; exact hl.1) rfl d_Cu_init_1 (Nat.le_of_ble_eq_true rfl) (Nat.le_of_ble_eq_true rfl) ?_
  refine W.eq (g2 := F0 m 4 ls []) rfl ?_
  refine lv_aload_n hx hb d_Cu_init_4 rfl (lv_at hl 0 rfl) ?_
  refine lv_bipush (v := 60) hx hb d_Cu_init_5 (by decide) ?_
  have h_1 : 1 ≤ 3 := by decide
  have h_2 : 60 ≤ 180 := by decide
  refine va_newa (atype := .int) (ty := .int) (a0 := (60, .inl (fun _ => 0))) (N' := 60) hx hb (hts _ kC_9) rfl hK hP hD hS hA (fun cA => by rw [vp_cell_i]; rfl) (by decide) (by decide) (by decide) h_1 h_2 d_Cu_init_7 (fun q7 cA H hK2 hP hD hS => ?_)
  have hq : cI = cA := Option.some.inj ((hK2.2 0 _ rfl).2.symm.trans (hK2.2 2 _ rfl).2)
  subst hq
  have hP : va_P D clC [(h0, .inr (3, [.null, .null, .null, .null, .int 0])), (q7, .inl (cI, 60, .inl (fun _ => 0)))] H := hP
  have hD : va_D A [(h0, .inr (3, [.null, .null, .null, .null, .int 0])), (q7, .inl (cI, 60, .inl (fun _ => 0)))] := hD
  refine W.widen (k := 1) (n := 60) (Nat.le_of_ble_eq_true rfl) (Nat.le_of_ble_eq_true rfl) ?_
  refine va_putF (D := D) (ci := 3) (v := .ref q7) (ty := .array .int) (C := R_Cu) (T := F_Cu) (N := 5) hx hb hts in_Cu t_Cu t_Cu_ok n_Cu hown hK hP hD hS 0 rfl rfl 1 (by decide) (hts _ kC_23) (fun _ h9 => h9) rfl hin rfl (by decide +kernel) rfl rfl (Nat.le_of_ble_eq_true rfl) d_Cu_init_9 (fun H locs hP hD hS => ?_)
  have hP : va_P D clC [(h0, .inr (3, [.null, .ref q7, .null, .null, .int 0])), (q7, .inl (cI, 60, .inl (fun _ => 0)))] H := hP
  have hD : va_D A [(h0, .inr (3, [.null, .ref q7, .null, .null, .int 0])), (q7, .inl (cI, 60, .inl (fun _ => 0)))] := hD
  refine lv_aload_n hx hb d_Cu_init_12 rfl (lv_at hl 0 rfl) ?_
  refine lv_bipush (v := 60) hx hb d_Cu_init_13 (by decide) ?_
  have h_1 : 2 ≤ 3 := by decide
  have h_2 : 120 ≤ 180 := by decide
  refine va_newa (atype := .int) (ty := .int) (a0 := (60, .inl (fun _ => 0))) (N' := 60) hx hb (hts _ kC_9) rfl hK hP hD hS hA (fun cA => by rw [vp_cell_i]; rfl) (by decide) (by decide) (by decide) h_1 h_2 d_Cu_init_15 (fun q15 cA H hK2 hP hD hS => ?_)
  have hq : cI = cA := Option.some.inj ((hK2.2 0 _ rfl).2.symm.trans (hK2.2 2 _ rfl).2)
  subst hq
  have hP : va_P D clC [(h0, .inr (3, [.null, .ref q7, .null, .null, .int 0])), (q7, .inl (cI, 60, .inl (fun _ => 0))), (q15, .inl (cI, 60, .inl (fun _ => 0)))] H := hP
  have hD : va_D A [(h0, .inr (3, [.null, .ref q7, .null, .null, .int 0])), (q7, .inl (cI, 60, .inl (fun _ => 0))), (q15, .inl (cI, 60, .inl (fun _ => 0)))] := hD
  refine W.widen (k := 2) (n := 120) (Nat.le_of_ble_eq_true rfl) (Nat.le_of_ble_eq_true rfl) ?_
  refine va_putF (D := D) (ci := 3) (v := .ref q15) (ty := .array .int) (C := R_Cu) (T := F_Cu) (N := 5) hx hb hts in_Cu t_Cu t_Cu_ok n_Cu hown hK hP hD hS 0 rfl rfl 2 (by decide) (hts _ kC_24) (fun _ h9 => h9) rfl hin rfl (by decide +kernel) rfl rfl (Nat.le_of_ble_eq_true rfl) d_Cu_init_17 (fun H locs hP hD hS => ?_)
  have hP : va_P D clC [(h0, .inr (3, [.null, .ref q7, .ref q15, .null, .int 0])), (q7, .inl (cI, 60, .inl (fun _ => 0))), (q15, .inl (cI, 60, .inl (fun _ => 0)))] H := hP
  have hD : va_D A [(h0, .inr (3, [.null, .ref q7, .ref q15, .null, .int 0])), (q7, .inl (cI, 60, .inl (fun _ => 0))), (q15, .inl (cI, 60, .inl (fun _ => 0)))] := hD
  refine lv_aload_n hx hb d_Cu_init_20 rfl (lv_at hl 0 rfl) ?_
  refine lv_bipush (v := 60) hx hb d_Cu_init_21 (by decide) ?_
  have h_1 : 3 ≤ 3 := by decide
  have h_2 : 180 ≤ 180 := by decide
  refine va_newa (atype := .int) (ty := .int) (a0 := (60, .inl (fun _ => 0))) (N' := 60) hx hb (hts _ kC_9) rfl hK hP hD hS hA (fun cA => by rw [vp_cell_i]; rfl) (by decide) (by decide) (by decide) h_1 h_2 d_Cu_init_23 (fun q23 cA H hK2 hP hD hS => ?_)
  have hq : cI = cA := Option.some.inj ((hK2.2 0 _ rfl).2.symm.trans (hK2.2 2 _ rfl).2)
  subst hq
  have hP : va_P D clC [(h0, .inr (3, [.null, .ref q7, .ref q15, .null, .int 0])), (q7, .inl (cI, 60, .inl (fun _ => 0))), (q15, .inl (cI, 60, .inl (fun _ => 0))), (q23, .inl (cI, 60, .inl (fun _ => 0)))] H := hP
  have hD : va_D A [(h0, .inr (3, [.null, .ref q7, .ref q15, .null, .int 0])), (q7, .inl (cI, 60, .inl (fun _ => 0))), (q15, .inl (cI, 60, .inl (fun _ => 0))), (q23, .inl (cI, 60, .inl (fun _ => 0)))] := hD
  refine W.widen (k := 3) (n := 180) (Nat.le_of_ble_eq_true rfl) (Nat.le_of_ble_eq_true rfl) ?_
  refine va_putF (D := D) (ci := 3) (v := .ref q23) (ty := .array .int) (C := R_Cu) (T := F_Cu) (N := 5) hx hb hts in_Cu t_Cu t_Cu_ok n_Cu hown hK hP hD hS 0 rfl rfl 3 (by decide) (hts _ kC_25) (fun _ h9 => h9) rfl hin rfl (by decide +kernel) rfl rfl (Nat.le_of_ble_eq_true rfl) d_Cu_init_25 (fun H locs hP hD hS => ?_)
  have hP : va_P D clC [(h0, .inr (3, [.null, .ref q7, .ref q15, .ref q23, .int 0])), (q7, .inl (cI, 60, .inl (fun _ => 0))), (q15, .inl (cI, 60, .inl (fun _ => 0))), (q23, .inl (cI, 60, .inl (fun _ => 0)))] H := hP
  have hD : va_D A [(h0, .inr (3, [.null, .ref q7, .ref q15, .ref q23, .int 0])), (q7, .inl (cI, 60, .inl (fun _ => 0))), (q15, .inl (cI, 60, .inl (fun _ => 0))), (q23, .inl (cI, 60, .inl (fun _ => 0)))] := hD
  refine lv_aload_n hx hb d_Cu_init_28 rfl (lv_at hl 0 rfl) ?_
  refine lv_aload_n hx hb d_Cu_init_29 rfl (lv_at hl 1 rfl) ?_
  refine va_putF (D := D) (ci := 3) (v := .ref r_forest) (ty := .object "BranchForge$Forest") (C := R_Cu) (T := F_Cu) (N := 5) hx hb hts in_Cu t_Cu t_Cu_ok n_Cu hown hK hP hD hS 0 rfl rfl 0 (by decide) (hts _ kC_26) (fun _ h9 => h9) rfl hin rfl (by decide +kernel) rfl rfl (Nat.le_of_ble_eq_true rfl) d_Cu_init_30 (fun H locs hP hD hS => ?_)
  have hP : va_P D clC [(h0, .inr (3, [.ref r_forest, .ref q7, .ref q15, .ref q23, .int 0])), (q7, .inl (cI, 60, .inl (fun _ => 0))), (q15, .inl (cI, 60, .inl (fun _ => 0))), (q23, .inl (cI, 60, .inl (fun _ => 0)))] H := hP
  have hD : va_D A [(h0, .inr (3, [.ref r_forest, .ref q7, .ref q15, .ref q23, .int 0])), (q7, .inl (cI, 60, .inl (fun _ => 0))), (q15, .inl (cI, 60, .inl (fun _ => 0))), (q23, .inl (cI, 60, .inl (fun _ => 0)))] := hD
  have hP9 := hP.sub (ws' := iw_Cu cI cZ h0 (fun k => ([q7, q15, q23] : List Nat).getD k 0) r_forest) [0, 1, 2, 3] rfl
  have hD9 := hD.sub (ws' := iw_Cu cI cZ h0 (fun k => ([q7, q15, q23] : List Nat).getD k 0) r_forest) [0, 1, 2, 3] (by decide) rfl
  exact W.vret hx hb hr (fun t ht hW => ⟨⟨(fun k => ([q7, q15, q23] : List Nat).getD k 0), rfl, trivial, by rw [ht]; exact hP9, va_K.moved hW.alike hK, hD9⟩, hS.F ht⟩) hS.2.2 d_Cu_init_33

set_option maxHeartbeats 8000000 in
set_option maxRecDepth 100000 in
theorem ci_Ta {l : Launch} {D : va_G} {cI cZ : ClassId} (h0 : Nat) (sz : Nat) : Met l y_Ta_init (.code y_Ta_init b_Ta_init 1 none :: wGC) ({ frames := 1, cells := 3, slots := 301, locals := 20 }) (va_Pc [.ref h0] (fun U => U.heap.size = sz ∧ va_P D clC [(h0, .inr (4, [.null, .null, .null, .int 0]))] U.heap ∧ va_K D clC [(cI, .int), (cZ, .boolean)] U ∧ va_D (fun _ => True) [(h0, .inr (4, [.null, .null, .null, .int 0]))] ∧ nwC U)) (va_Qv (fun _ : Nat → Nat => True) (fun q t => va_P D clC (iw_Ta cI cZ h0 q ) t.heap ∧ va_K D clC [(cI, .int), (cZ, .boolean)] t ∧ va_D (va_A [(h0, .inr (4, [.null, .null, .null, .int 0]))] sz) (iw_Ta cI cZ h0 q )) (va_A [(h0, .inr (4, [.null, .null, .null, .int 0]))] sz)) 3 301 (va_A [(h0, .inr (4, [.null, .null, .null, .int 0]))] sz) := by
  refine Met.ofW (cc := b_Ta_init) (maxL := 1) (ret := none) (by decide) rfl ?_
  intro p e s m args below meth c s₁ B hml hv
  obtain ⟨rfl, hsz, hP, hK, hD0, hN⟩ := hv
  have hx := B.exec
  have hb := B.bytes
  have hr := B.returns
  have hts0 := atoms_spec (ws := .code y_Ta_init b_Ta_init 1 none :: wGC) B.pre
  have hts : ∀ w ∈ wGC, w.before _ s = true := fun w h => hts0 w (List.mem_cons_of_mem _ h)
  have hown : s.vm.findClass R_Ta = some m.cls := findClass_of_methodNamed B.named
  have hlocks := B.notSynchronized
  have hin : meth.name = "<init>" := (name_of_methodNamed B.named B.method).1
  subst hsz
  have hD := hD0.self (sz := s.heap.size)
  generalize hAe : va_A [(h0, .inr (4, [.null, .null, .null, .int 0]))] s.heap.size = A at hD ⊢
  have hA : ∀ q : Nat, s.heap.size ≤ q → A q := fun q h => by rw [← hAe]; exact Or.inr h
  have hS : va_S A s.heap s.heap [] := va_S.rf
  have hP : va_P D clC [(h0, .inr (4, [.null, .null, .null, .int 0]))] s.heap := hP
  have hl := lv_entry ([.ref h0]) (n := 1) (Nat.le_of_ble_eq_true rfl)
  rw [lg_entry_eq]
  generalize (lg_sl ([.ref h0]) ++ List.replicate (1 - (lg_sl ([.ref h0])).length) Slot.unset).toArray = ls at hl ⊢
  have hl : lv_has ls 1 [(0, .ref h0)] := hl
  refine lv_aload_n hx hb d_Ta_init_0 rfl (lv_at hl 0 rfl) ?_
  refine W.objInit hx hb hown (hts _ kC_28) (hts _ kC_7) (hts _ kC_8) rfl (by rw [hml]; exact hl.1) rfl d_Ta_init_1 (Nat.le_of_ble_eq_true rfl) (Nat.le_of_ble_eq_true rfl) ?_
  refine W.eq (g2 := F0 m 4 ls []) rfl ?_
  refine lv_aload_n hx hb d_Ta_init_4 rfl (lv_at hl 0 rfl) ?_
  refine lv_bipush (v := 120) hx hb d_Ta_init_5 (by decide) ?_
  have h_1 : 1 ≤ 3 := by decide
  have h_2 : 120 ≤ 301 := by decide
  refine va_newa (atype := .int) (ty := .int) (a0 := (120, .inl (fun _ => 0))) (N' := 120) hx hb (hts _ kC_9) rfl hK hP hD hS hA (fun cA => by rw [vp_cell_i]; rfl) (by decide) (by decide) (by decide) h_1 h_2 d_Ta_init_7 (fun q7 cA H hK2 hP hD hS => ?_)
  have hq : cI = cA := Option.some.inj ((hK2.2 0 _ rfl).2.symm.trans (hK2.2 2 _ rfl).2)
  subst hq
  have hP : va_P D clC [(h0, .inr (4, [.null, .null, .null, .int 0])), (q7, .inl (cI, 120, .inl (fun _ => 0)))] H := hP
  have hD : va_D A [(h0, .inr (4, [.null, .null, .null, .int 0])), (q7, .inl (cI, 120, .inl (fun _ => 0)))] := hD
  refine W.widen (k := 1) (n := 120) (Nat.le_of_ble_eq_true rfl) (Nat.le_of_ble_eq_true rfl) ?_
  refine va_putF (D := D) (ci := 4) (v := .ref q7) (ty := .array .int) (C := R_Ta) (T := F_Ta) (N := 4) hx hb hts in_Ta t_Ta t_Ta_ok n_Ta hown hK hP hD hS 0 rfl rfl 0 (by decide) (hts _ kC_29) (fun _ h9 => h9) rfl hin rfl (by decide +kernel) rfl rfl (Nat.le_of_ble_eq_true rfl) d_Ta_init_9 (fun H locs hP hD hS => ?_)
  have hP : va_P D clC [(h0, .inr (4, [.ref q7, .null, .null, .int 0])), (q7, .inl (cI, 120, .inl (fun _ => 0)))] H := hP
  have hD : va_D A [(h0, .inr (4, [.ref q7, .null, .null, .int 0])), (q7, .inl (cI, 120, .inl (fun _ => 0)))] := hD
  refine lv_aload_n hx hb d_Ta_init_12 rfl (lv_at hl 0 rfl) ?_
  refine lv_bipush (v := 120) hx hb d_Ta_init_13 (by decide) ?_
  have h_1 : 2 ≤ 3 := by decide
  have h_2 : 240 ≤ 301 := by decide
  refine va_newa (atype := .int) (ty := .int) (a0 := (120, .inl (fun _ => 0))) (N' := 120) hx hb (hts _ kC_9) rfl hK hP hD hS hA (fun cA => by rw [vp_cell_i]; rfl) (by decide) (by decide) (by decide) h_1 h_2 d_Ta_init_15 (fun q15 cA H hK2 hP hD hS => ?_)
  have hq : cI = cA := Option.some.inj ((hK2.2 0 _ rfl).2.symm.trans (hK2.2 2 _ rfl).2)
  subst hq
  have hP : va_P D clC [(h0, .inr (4, [.ref q7, .null, .null, .int 0])), (q7, .inl (cI, 120, .inl (fun _ => 0))), (q15, .inl (cI, 120, .inl (fun _ => 0)))] H := hP
  have hD : va_D A [(h0, .inr (4, [.ref q7, .null, .null, .int 0])), (q7, .inl (cI, 120, .inl (fun _ => 0))), (q15, .inl (cI, 120, .inl (fun _ => 0)))] := hD
  refine W.widen (k := 2) (n := 240) (Nat.le_of_ble_eq_true rfl) (Nat.le_of_ble_eq_true rfl) ?_
  refine va_putF (D := D) (ci := 4) (v := .ref q15) (ty := .array .int) (C := R_Ta) (T := F_Ta) (N := 4) hx hb hts in_Ta t_Ta t_Ta_ok n_Ta hown hK hP hD hS 0 rfl rfl 1 (by decide) (hts _ kC_30) (fun _ h9 => h9) rfl hin rfl (by decide +kernel) rfl rfl (Nat.le_of_ble_eq_true rfl) d_Ta_init_17 (fun H locs hP hD hS => ?_)
  have hP : va_P D clC [(h0, .inr (4, [.ref q7, .ref q15, .null, .int 0])), (q7, .inl (cI, 120, .inl (fun _ => 0))), (q15, .inl (cI, 120, .inl (fun _ => 0)))] H := hP
  have hD : va_D A [(h0, .inr (4, [.ref q7, .ref q15, .null, .int 0])), (q7, .inl (cI, 120, .inl (fun _ => 0))), (q15, .inl (cI, 120, .inl (fun _ => 0)))] := hD
  refine lv_aload_n hx hb d_Ta_init_20 rfl (lv_at hl 0 rfl) ?_
  refine lv_bipush (v := 61) hx hb d_Ta_init_21 (by decide) ?_
  have h_1 : 3 ≤ 3 := by decide
  have h_2 : 301 ≤ 301 := by decide
  refine va_newa (atype := .int) (ty := .int) (a0 := (61, .inl (fun _ => 0))) (N' := 61) hx hb (hts _ kC_9) rfl hK hP hD hS hA (fun cA => by rw [vp_cell_i]; rfl) (by decide) (by decide) (by decide) h_1 h_2 d_Ta_init_23 (fun q23 cA H hK2 hP hD hS => ?_)
  have hq : cI = cA := Option.some.inj ((hK2.2 0 _ rfl).2.symm.trans (hK2.2 2 _ rfl).2)
  subst hq
  have hP : va_P D clC [(h0, .inr (4, [.ref q7, .ref q15, .null, .int 0])), (q7, .inl (cI, 120, .inl (fun _ => 0))), (q15, .inl (cI, 120, .inl (fun _ => 0))), (q23, .inl (cI, 61, .inl (fun _ => 0)))] H := hP
  have hD : va_D A [(h0, .inr (4, [.ref q7, .ref q15, .null, .int 0])), (q7, .inl (cI, 120, .inl (fun _ => 0))), (q15, .inl (cI, 120, .inl (fun _ => 0))), (q23, .inl (cI, 61, .inl (fun _ => 0)))] := hD
  refine W.widen (k := 3) (n := 301) (Nat.le_of_ble_eq_true rfl) (Nat.le_of_ble_eq_true rfl) ?_
  refine va_putF (D := D) (ci := 4) (v := .ref q23) (ty := .array .int) (C := R_Ta) (T := F_Ta) (N := 4) hx hb hts in_Ta t_Ta t_Ta_ok n_Ta hown hK hP hD hS 0 rfl rfl 2 (by decide) (hts _ kC_31) (fun _ h9 => h9) rfl hin rfl (by decide +kernel) rfl rfl (Nat.le_of_ble_eq_true rfl) d_Ta_init_25 (fun H locs hP hD hS => ?_)
  have hP : va_P D clC [(h0, .inr (4, [.ref q7, .ref q15, .ref q23, .int 0])), (q7, .inl (cI, 120, .inl (fun _ => 0))), (q15, .inl (cI, 120, .inl (fun _ => 0))), (q23, .inl (cI, 61, .inl (fun _ => 0)))] H := hP
  have hD : va_D A [(h0, .inr (4, [.ref q7, .ref q15, .ref q23, .int 0])), (q7, .inl (cI, 120, .inl (fun _ => 0))), (q15, .inl (cI, 120, .inl (fun _ => 0))), (q23, .inl (cI, 61, .inl (fun _ => 0)))] := hD
  have hP9 := hP.sub (ws' := iw_Ta cI cZ h0 (fun k => ([q7, q15, q23] : List Nat).getD k 0) ) [0, 1, 2, 3] rfl
  have hD9 := hD.sub (ws' := iw_Ta cI cZ h0 (fun k => ([q7, q15, q23] : List Nat).getD k 0) ) [0, 1, 2, 3] (by decide) rfl
  exact W.vret hx hb hr (fun t ht hW => ⟨⟨(fun k => ([q7, q15, q23] : List Nat).getD k 0), rfl, trivial, by rw [ht]; exact hP9, va_K.moved hW.alike hK, hD9⟩, hS.F ht⟩) hS.2.2 d_Ta_init_28

set_option maxHeartbeats 8000000 in
set_option maxRecDepth 100000 in
theorem ci_Co {l : Launch} {D : va_G} {cI cZ : ClassId} (h0 : Nat) (r_forest : Nat) (r_cutter : Nat) (r_tables : Nat) (sz : Nat) : Met l y_Co_init (.code y_Co_init b_Co_init 4 none :: wGC) ({ frames := 1, cells := 4, slots := 729, locals := 20 }) (va_Pc [.ref h0, .ref r_forest, .ref r_cutter, .ref r_tables] (fun U => U.heap.size = sz ∧ va_P D clC [(h0, .inr (5, [.null, .null, .null, .null, .null, .null, .null, .int 0, .int 0, .int 0]))] U.heap ∧ va_K D clC [(cI, .int), (cZ, .boolean)] U ∧ va_D (fun _ => True) [(h0, .inr (5, [.null, .null, .null, .null, .null, .null, .null, .int 0, .int 0, .int 0]))] ∧ nwC U)) (va_Qv (fun _ : Nat → Nat => True) (fun q t => va_P D clC (iw_Co cI cZ h0 q r_forest r_cutter r_tables) t.heap ∧ va_K D clC [(cI, .int), (cZ, .boolean)] t ∧ va_D (va_A [(h0, .inr (5, [.null, .null, .null, .null, .null, .null, .null, .int 0, .int 0, .int 0]))] sz) (iw_Co cI cZ h0 q r_forest r_cutter r_tables)) (va_A [(h0, .inr (5, [.null, .null, .null, .null, .null, .null, .null, .int 0, .int 0, .int 0]))] sz)) 4 729 (va_A [(h0, .inr (5, [.null, .null, .null, .null, .null, .null, .null, .int 0, .int 0, .int 0]))] sz) := by
  refine Met.ofW (cc := b_Co_init) (maxL := 4) (ret := none) (by decide) rfl ?_
  intro p e s m args below meth c s₁ B hml hv
  obtain ⟨rfl, hsz, hP, hK, hD0, hN⟩ := hv
  have hx := B.exec
  have hb := B.bytes
  have hr := B.returns
  have hts0 := atoms_spec (ws := .code y_Co_init b_Co_init 4 none :: wGC) B.pre
  have hts : ∀ w ∈ wGC, w.before _ s = true := fun w h => hts0 w (List.mem_cons_of_mem _ h)
  have hown : s.vm.findClass R_Co = some m.cls := findClass_of_methodNamed B.named
  have hlocks := B.notSynchronized
  have hin : meth.name = "<init>" := (name_of_methodNamed B.named B.method).1
  subst hsz
  have hD := hD0.self (sz := s.heap.size)
  generalize hAe : va_A [(h0, .inr (5, [.null, .null, .null, .null, .null, .null, .null, .int 0, .int 0, .int 0]))] s.heap.size = A at hD ⊢
  have hA : ∀ q : Nat, s.heap.size ≤ q → A q := fun q h => by rw [← hAe]; exact Or.inr h
  have hS : va_S A s.heap s.heap [] := va_S.rf
  have hP : va_P D clC [(h0, .inr (5, [.null, .null, .null, .null, .null, .null, .null, .int 0, .int 0, .int 0]))] s.heap := hP
  have hl := lv_entry ([.ref h0, .ref r_forest, .ref r_cutter, .ref r_tables]) (n := 4) (Nat.le_of_ble_eq_true rfl)
  rw [lg_entry_eq]
  generalize (lg_sl ([.ref h0, .ref r_forest, .ref r_cutter, .ref r_tables]) ++ List.replicate (4 - (lg_sl ([.ref h0, .ref r_forest, .ref r_cutter, .ref r_tables])).length) Slot.unset).toArray = ls at hl ⊢
  have hl : lv_has ls 4 [(0, .ref h0), (1, .ref r_forest), (2, .ref r_cutter), (3, .ref r_tables)] := hl
  refine lv_aload_n hx hb d_Co_init_0 rfl (lv_at hl 0 rfl) ?_
  refine W.objInit hx hb hown (hts _ kC_33) (hts _ kC_7) (hts _ kC_8) rfl (by rw [hml]; exact hl.1) rfl d_Co_init_1 (Nat.le_of_ble_eq_true rfl) (Nat.le_of_ble_eq_true rfl) ?_
  refine W.eq (g2 := F0 m 4 ls []) rfl ?_
  refine lv_aload_n hx hb d_Co_init_4 rfl (lv_at hl 0 rfl) ?_
  refine lv_sipush (v := 600) hx hb d_Co_init_5 (by decide) ?_
  have h_1 : 1 ≤ 4 := by decide
  have h_2 : 600 ≤ 729 := by decide
  refine va_newa (atype := .int) (ty := .int) (a0 := (600, .inl (fun _ => 0))) (N' := 600) hx hb (hts _ kC_9) rfl hK hP hD hS hA (fun cA => by rw [vp_cell_i]; rfl) (by decide) (by decide) (by decide) h_1 h_2 d_Co_init_8 (fun q8 cA H hK2 hP hD hS => ?_)
  have hq : cI = cA := Option.some.inj ((hK2.2 0 _ rfl).2.symm.trans (hK2.2 2 _ rfl).2)
  subst hq
  have hP : va_P D clC [(h0, .inr (5, [.null, .null, .null, .null, .null, .null, .null, .int 0, .int 0, .int 0])), (q8, .inl (cI, 600, .inl (fun _ => 0)))] H := hP
  have hD : va_D A [(h0, .inr (5, [.null, .null, .null, .null, .null, .null, .null, .int 0, .int 0, .int 0])), (q8, .inl (cI, 600, .inl (fun _ => 0)))] := hD
  refine W.widen (k := 1) (n := 600) (Nat.le_of_ble_eq_true rfl) (Nat.le_of_ble_eq_true rfl) ?_
  refine va_putF (D := D) (ci := 5) (v := .ref q8) (ty := .array .int) (C := R_Co) (T := F_Co) (N := 10) hx hb hts in_Co t_Co t_Co_ok n_Co hown hK hP hD hS 0 rfl rfl 3 (by decide) (hts _ kC_34) (fun _ h9 => h9) rfl hin rfl (by decide +kernel) rfl rfl (Nat.le_of_ble_eq_true rfl) d_Co_init_10 (fun H locs hP hD hS => ?_)
  have hP : va_P D clC [(h0, .inr (5, [.null, .null, .null, .ref q8, .null, .null, .null, .int 0, .int 0, .int 0])), (q8, .inl (cI, 600, .inl (fun _ => 0)))] H := hP
  have hD : va_D A [(h0, .inr (5, [.null, .null, .null, .ref q8, .null, .null, .null, .int 0, .int 0, .int 0])), (q8, .inl (cI, 600, .inl (fun _ => 0)))] := hD
  refine lv_aload_n hx hb d_Co_init_13 rfl (lv_at hl 0 rfl) ?_
  refine lv_bipush (v := 61) hx hb d_Co_init_14 (by decide) ?_
  have h_1 : 2 ≤ 4 := by decide
  have h_2 : 661 ≤ 729 := by decide
  refine va_newa (atype := .int) (ty := .int) (a0 := (61, .inl (fun _ => 0))) (N' := 61) hx hb (hts _ kC_9) rfl hK hP hD hS hA (fun cA => by rw [vp_cell_i]; rfl) (by decide) (by decide) (by decide) h_1 h_2 d_Co_init_16 (fun q16 cA H hK2 hP hD hS => ?_)
  have hq : cI = cA := Option.some.inj ((hK2.2 0 _ rfl).2.symm.trans (hK2.2 2 _ rfl).2)
  subst hq
  have hP : va_P D clC [(h0, .inr (5, [.null, .null, .null, .ref q8, .null, .null, .null, .int 0, .int 0, .int 0])), (q8, .inl (cI, 600, .inl (fun _ => 0))), (q16, .inl (cI, 61, .inl (fun _ => 0)))] H := hP
  have hD : va_D A [(h0, .inr (5, [.null, .null, .null, .ref q8, .null, .null, .null, .int 0, .int 0, .int 0])), (q8, .inl (cI, 600, .inl (fun _ => 0))), (q16, .inl (cI, 61, .inl (fun _ => 0)))] := hD
  refine W.widen (k := 2) (n := 661) (Nat.le_of_ble_eq_true rfl) (Nat.le_of_ble_eq_true rfl) ?_
  refine va_putF (D := D) (ci := 5) (v := .ref q16) (ty := .array .int) (C := R_Co) (T := F_Co) (N := 10) hx hb hts in_Co t_Co t_Co_ok n_Co hown hK hP hD hS 0 rfl rfl 4 (by decide) (hts _ kC_35) (fun _ h9 => h9) rfl hin rfl (by decide +kernel) rfl rfl (Nat.le_of_ble_eq_true rfl) d_Co_init_18 (fun H locs hP hD hS => ?_)
  have hP : va_P D clC [(h0, .inr (5, [.null, .null, .null, .ref q8, .ref q16, .null, .null, .int 0, .int 0, .int 0])), (q8, .inl (cI, 600, .inl (fun _ => 0))), (q16, .inl (cI, 61, .inl (fun _ => 0)))] H := hP
  have hD : va_D A [(h0, .inr (5, [.null, .null, .null, .ref q8, .ref q16, .null, .null, .int 0, .int 0, .int 0])), (q8, .inl (cI, 600, .inl (fun _ => 0))), (q16, .inl (cI, 61, .inl (fun _ => 0)))] := hD
  refine lv_aload_n hx hb d_Co_init_21 rfl (lv_at hl 0 rfl) ?_
  refine lv_bipush (v := 60) hx hb d_Co_init_22 (by decide) ?_
  have h_1 : 3 ≤ 4 := by decide
  have h_2 : 721 ≤ 729 := by decide
  refine va_newa (atype := .int) (ty := .int) (a0 := (60, .inl (fun _ => 0))) (N' := 60) hx hb (hts _ kC_9) rfl hK hP hD hS hA (fun cA => by rw [vp_cell_i]; rfl) (by decide) (by decide) (by decide) h_1 h_2 d_Co_init_24 (fun q24 cA H hK2 hP hD hS => ?_)
  have hq : cI = cA := Option.some.inj ((hK2.2 0 _ rfl).2.symm.trans (hK2.2 2 _ rfl).2)
  subst hq
  have hP : va_P D clC [(h0, .inr (5, [.null, .null, .null, .ref q8, .ref q16, .null, .null, .int 0, .int 0, .int 0])), (q8, .inl (cI, 600, .inl (fun _ => 0))), (q16, .inl (cI, 61, .inl (fun _ => 0))), (q24, .inl (cI, 60, .inl (fun _ => 0)))] H := hP
  have hD : va_D A [(h0, .inr (5, [.null, .null, .null, .ref q8, .ref q16, .null, .null, .int 0, .int 0, .int 0])), (q8, .inl (cI, 600, .inl (fun _ => 0))), (q16, .inl (cI, 61, .inl (fun _ => 0))), (q24, .inl (cI, 60, .inl (fun _ => 0)))] := hD
  refine W.widen (k := 3) (n := 721) (Nat.le_of_ble_eq_true rfl) (Nat.le_of_ble_eq_true rfl) ?_
  refine va_putF (D := D) (ci := 5) (v := .ref q24) (ty := .array .int) (C := R_Co) (T := F_Co) (N := 10) hx hb hts in_Co t_Co t_Co_ok n_Co hown hK hP hD hS 0 rfl rfl 5 (by decide) (hts _ kC_36) (fun _ h9 => h9) rfl hin rfl (by decide +kernel) rfl rfl (Nat.le_of_ble_eq_true rfl) d_Co_init_26 (fun H locs hP hD hS => ?_)
  have hP : va_P D clC [(h0, .inr (5, [.null, .null, .null, .ref q8, .ref q16, .ref q24, .null, .int 0, .int 0, .int 0])), (q8, .inl (cI, 600, .inl (fun _ => 0))), (q16, .inl (cI, 61, .inl (fun _ => 0))), (q24, .inl (cI, 60, .inl (fun _ => 0)))] H := hP
  have hD : va_D A [(h0, .inr (5, [.null, .null, .null, .ref q8, .ref q16, .ref q24, .null, .int 0, .int 0, .int 0])), (q8, .inl (cI, 600, .inl (fun _ => 0))), (q16, .inl (cI, 61, .inl (fun _ => 0))), (q24, .inl (cI, 60, .inl (fun _ => 0)))] := hD
  refine lv_aload_n hx hb d_Co_init_29 rfl (lv_at hl 0 rfl) ?_
  refine lv_bipush (v := 8) hx hb d_Co_init_30 (by decide) ?_
  have h_1 : 4 ≤ 4 := by decide
  have h_2 : 729 ≤ 729 := by decide
  refine va_newa (atype := .int) (ty := .int) (a0 := (8, .inl (fun _ => 0))) (N' := 8) hx hb (hts _ kC_9) rfl hK hP hD hS hA (fun cA => by rw [vp_cell_i]; rfl) (by decide) (by decide) (by decide) h_1 h_2 d_Co_init_32 (fun q32 cA H hK2 hP hD hS => ?_)
  have hq : cI = cA := Option.some.inj ((hK2.2 0 _ rfl).2.symm.trans (hK2.2 2 _ rfl).2)
  subst hq
  have hP : va_P D clC [(h0, .inr (5, [.null, .null, .null, .ref q8, .ref q16, .ref q24, .null, .int 0, .int 0, .int 0])), (q8, .inl (cI, 600, .inl (fun _ => 0))), (q16, .inl (cI, 61, .inl (fun _ => 0))), (q24, .inl (cI, 60, .inl (fun _ => 0))), (q32, .inl (cI, 8, .inl (fun _ => 0)))] H := hP
  have hD : va_D A [(h0, .inr (5, [.null, .null, .null, .ref q8, .ref q16, .ref q24, .null, .int 0, .int 0, .int 0])), (q8, .inl (cI, 600, .inl (fun _ => 0))), (q16, .inl (cI, 61, .inl (fun _ => 0))), (q24, .inl (cI, 60, .inl (fun _ => 0))), (q32, .inl (cI, 8, .inl (fun _ => 0)))] := hD
  refine W.widen (k := 4) (n := 729) (Nat.le_of_ble_eq_true rfl) (Nat.le_of_ble_eq_true rfl) ?_
  refine va_putF (D := D) (ci := 5) (v := .ref q32) (ty := .array .int) (C := R_Co) (T := F_Co) (N := 10) hx hb hts in_Co t_Co t_Co_ok n_Co hown hK hP hD hS 0 rfl rfl 6 (by decide) (hts _ kC_37) (fun _ h9 => h9) rfl hin rfl (by decide +kernel) rfl rfl (Nat.le_of_ble_eq_true rfl) d_Co_init_34 (fun H locs hP hD hS => ?_)
  have hP : va_P D clC [(h0, .inr (5, [.null, .null, .null, .ref q8, .ref q16, .ref q24, .ref q32, .int 0, .int 0, .int 0])), (q8, .inl (cI, 600, .inl (fun _ => 0))), (q16, .inl (cI, 61, .inl (fun _ => 0))), (q24, .inl (cI, 60, .inl (fun _ => 0))), (q32, .inl (cI, 8, .inl (fun _ => 0)))] H := hP
  have hD : va_D A [(h0, .inr (5, [.null, .null, .null, .ref q8, .ref q16, .ref q24, .ref q32, .int 0, .int 0, .int 0])), (q8, .inl (cI, 600, .inl (fun _ => 0))), (q16, .inl (cI, 61, .inl (fun _ => 0))), (q24, .inl (cI, 60, .inl (fun _ => 0))), (q32, .inl (cI, 8, .inl (fun _ => 0)))] := hD
  refine lv_aload_n hx hb d_Co_init_37 rfl (lv_at hl 0 rfl) ?_
  refine lv_aload_n hx hb d_Co_init_38 rfl (lv_at hl 1 rfl) ?_
  refine va_putF (D := D) (ci := 5) (v := .ref r_forest) (ty := .object "BranchForge$Forest") (C := R_Co) (T := F_Co) (N := 10) hx hb hts in_Co t_Co t_Co_ok n_Co hown hK hP hD hS 0 rfl rfl 0 (by decide) (hts _ kC_38) (fun _ h9 => h9) rfl hin rfl (by decide +kernel) rfl rfl (Nat.le_of_ble_eq_true rfl) d_Co_init_39 (fun H locs hP hD hS => ?_)
  have hP : va_P D clC [(h0, .inr (5, [.ref r_forest, .null, .null, .ref q8, .ref q16, .ref q24, .ref q32, .int 0, .int 0, .int 0])), (q8, .inl (cI, 600, .inl (fun _ => 0))), (q16, .inl (cI, 61, .inl (fun _ => 0))), (q24, .inl (cI, 60, .inl (fun _ => 0))), (q32, .inl (cI, 8, .inl (fun _ => 0)))] H := hP
  have hD : va_D A [(h0, .inr (5, [.ref r_forest, .null, .null, .ref q8, .ref q16, .ref q24, .ref q32, .int 0, .int 0, .int 0])), (q8, .inl (cI, 600, .inl (fun _ => 0))), (q16, .inl (cI, 61, .inl (fun _ => 0))), (q24, .inl (cI, 60, .inl (fun _ => 0))), (q32, .inl (cI, 8, .inl (fun _ => 0)))] := hD
  refine lv_aload_n hx hb d_Co_init_42 rfl (lv_at hl 0 rfl) ?_
  refine lv_aload_n hx hb d_Co_init_43 rfl (lv_at hl 2 rfl) ?_
  refine va_putF (D := D) (ci := 5) (v := .ref r_cutter) (ty := .object "BranchForge$Cutter") (C := R_Co) (T := F_Co) (N := 10) hx hb hts in_Co t_Co t_Co_ok n_Co hown hK hP hD hS 0 rfl rfl 1 (by decide) (hts _ kC_39) (fun _ h9 => h9) rfl hin rfl (by decide +kernel) rfl rfl (Nat.le_of_ble_eq_true rfl) d_Co_init_44 (fun H locs hP hD hS => ?_)
  have hP : va_P D clC [(h0, .inr (5, [.ref r_forest, .ref r_cutter, .null, .ref q8, .ref q16, .ref q24, .ref q32, .int 0, .int 0, .int 0])), (q8, .inl (cI, 600, .inl (fun _ => 0))), (q16, .inl (cI, 61, .inl (fun _ => 0))), (q24, .inl (cI, 60, .inl (fun _ => 0))), (q32, .inl (cI, 8, .inl (fun _ => 0)))] H := hP
  have hD : va_D A [(h0, .inr (5, [.ref r_forest, .ref r_cutter, .null, .ref q8, .ref q16, .ref q24, .ref q32, .int 0, .int 0, .int 0])), (q8, .inl (cI, 600, .inl (fun _ => 0))), (q16, .inl (cI, 61, .inl (fun _ => 0))), (q24, .inl (cI, 60, .inl (fun _ => 0))), (q32, .inl (cI, 8, .inl (fun _ => 0)))] := hD
  refine lv_aload_n hx hb d_Co_init_47 rfl (lv_at hl 0 rfl) ?_
  refine lv_aload_n hx hb d_Co_init_48 rfl (lv_at hl 3 rfl) ?_
  refine va_putF (D := D) (ci := 5) (v := .ref r_tables) (ty := .object "BranchForge$Tables") (C := R_Co) (T := F_Co) (N := 10) hx hb hts in_Co t_Co t_Co_ok n_Co hown hK hP hD hS 0 rfl rfl 2 (by decide) (hts _ kC_40) (fun _ h9 => h9) rfl hin rfl (by decide +kernel) rfl rfl (Nat.le_of_ble_eq_true rfl) d_Co_init_49 (fun H locs hP hD hS => ?_)
  have hP : va_P D clC [(h0, .inr (5, [.ref r_forest, .ref r_cutter, .ref r_tables, .ref q8, .ref q16, .ref q24, .ref q32, .int 0, .int 0, .int 0])), (q8, .inl (cI, 600, .inl (fun _ => 0))), (q16, .inl (cI, 61, .inl (fun _ => 0))), (q24, .inl (cI, 60, .inl (fun _ => 0))), (q32, .inl (cI, 8, .inl (fun _ => 0)))] H := hP
  have hD : va_D A [(h0, .inr (5, [.ref r_forest, .ref r_cutter, .ref r_tables, .ref q8, .ref q16, .ref q24, .ref q32, .int 0, .int 0, .int 0])), (q8, .inl (cI, 600, .inl (fun _ => 0))), (q16, .inl (cI, 61, .inl (fun _ => 0))), (q24, .inl (cI, 60, .inl (fun _ => 0))), (q32, .inl (cI, 8, .inl (fun _ => 0)))] := hD
  have hP9 := hP.sub (ws' := iw_Co cI cZ h0 (fun k => ([q8, q16, q24, q32] : List Nat).getD k 0) r_forest r_cutter r_tables) [0, 1, 2, 3, 4] rfl
  have hD9 := hD.sub (ws' := iw_Co cI cZ h0 (fun k => ([q8, q16, q24, q32] : List Nat).getD k 0) r_forest r_cutter r_tables) [0, 1, 2, 3, 4] (by decide) rfl
  exact W.vret hx hb hr (fun t ht hW => ⟨⟨(fun k => ([q8, q16, q24, q32] : List Nat).getD k 0), rfl, trivial, by rw [ht]; exact hP9, va_K.moved hW.alike hK, hD9⟩, hS.F ht⟩) hS.2.2 d_Co_init_52

set_option maxHeartbeats 8000000 in
set_option maxRecDepth 100000 in
theorem ci_Ma {l : Launch} {D : va_G} {cI cZ : ClassId} (h0 : Nat) (r_code : Nat) (r_tables : Nat) (r_features : Nat) (sz : Nat) : Met l y_Ma_init (.code y_Ma_init b_Ma_init 4 none :: wGC) ({ frames := 1, cells := 0, slots := 0, locals := 20 }) (va_Pc [.ref h0, .ref r_code, .ref r_tables, .ref r_features] (fun U => U.heap.size = sz ∧ va_P D clC [(h0, .inr (6, [.null, .null, .null, .int 0, .int 0]))] U.heap ∧ va_K D clC [(cI, .int), (cZ, .boolean)] U ∧ va_D (fun _ => True) [(h0, .inr (6, [.null, .null, .null, .int 0, .int 0]))] ∧ nwC U)) (va_Qv (fun _ : Nat → Nat => True) (fun q t => va_P D clC (iw_Ma cI cZ h0 q r_code r_tables r_features) t.heap ∧ va_K D clC [(cI, .int), (cZ, .boolean)] t ∧ va_D (va_A [(h0, .inr (6, [.null, .null, .null, .int 0, .int 0]))] sz) (iw_Ma cI cZ h0 q r_code r_tables r_features)) (va_A [(h0, .inr (6, [.null, .null, .null, .int 0, .int 0]))] sz)) 0 0 (va_A [(h0, .inr (6, [.null, .null, .null, .int 0, .int 0]))] sz) := by
  refine Met.ofW (cc := b_Ma_init) (maxL := 4) (ret := none) (by decide) rfl ?_
  intro p e s m args below meth c s₁ B hml hv
  obtain ⟨rfl, hsz, hP, hK, hD0, hN⟩ := hv
  have hx := B.exec
  have hb := B.bytes
  have hr := B.returns
  have hts0 := atoms_spec (ws := .code y_Ma_init b_Ma_init 4 none :: wGC) B.pre
  have hts : ∀ w ∈ wGC, w.before _ s = true := fun w h => hts0 w (List.mem_cons_of_mem _ h)
  have hown : s.vm.findClass R_Ma = some m.cls := findClass_of_methodNamed B.named
  have hlocks := B.notSynchronized
  have hin : meth.name = "<init>" := (name_of_methodNamed B.named B.method).1
  subst hsz
  have hD := hD0.self (sz := s.heap.size)
  generalize hAe : va_A [(h0, .inr (6, [.null, .null, .null, .int 0, .int 0]))] s.heap.size = A at hD ⊢
  have hA : ∀ q : Nat, s.heap.size ≤ q → A q := fun q h => by rw [← hAe]; exact Or.inr h
  have hS : va_S A s.heap s.heap [] := va_S.rf
  have hP : va_P D clC [(h0, .inr (6, [.null, .null, .null, .int 0, .int 0]))] s.heap := hP
  have hl := lv_entry ([.ref h0, .ref r_code, .ref r_tables, .ref r_features]) (n := 4) (Nat.le_of_ble_eq_true rfl)
  rw [lg_entry_eq]
  generalize (lg_sl ([.ref h0, .ref r_code, .ref r_tables, .ref r_features]) ++ List.replicate (4 - (lg_sl ([.ref h0, .ref r_code, .ref r_tables, .ref r_features])).length) Slot.unset).toArray = ls at hl ⊢
  have hl : lv_has ls 4 [(0, .ref h0), (1, .ref r_code), (2, .ref r_tables), (3, .ref r_features)] := hl
  refine lv_aload_n hx hb d_Ma_init_0 rfl (lv_at hl 0 rfl) ?_
  refine W.objInit hx hb hown (hts _ kC_42) (hts _ kC_7) (hts _ kC_8) rfl (by rw [hml]; exact hl.1) rfl d_Ma_init_1 (Nat.le_of_ble_eq_true rfl) (Nat.le_of_ble_eq_true rfl) ?_
  refine W.eq (g2 := F0 m 4 ls []) rfl ?_
  refine lv_aload_n hx hb d_Ma_init_4 rfl (lv_at hl 0 rfl) ?_
  refine lv_aload_n hx hb d_Ma_init_5 rfl (lv_at hl 1 rfl) ?_
  refine va_putF (D := D) (ci := 6) (v := .ref r_code) (ty := .object "BranchForge$Code") (C := R_Ma) (T := F_Ma) (N := 5) hx hb hts in_Ma t_Ma t_Ma_ok n_Ma hown hK hP hD hS 0 rfl rfl 0 (by decide) (hts _ kC_43) (fun _ h9 => h9) rfl hin rfl (by decide +kernel) rfl rfl (Nat.le_of_ble_eq_true rfl) d_Ma_init_6 (fun H locs hP hD hS => ?_)
  have hP : va_P D clC [(h0, .inr (6, [.ref r_code, .null, .null, .int 0, .int 0]))] H := hP
  have hD : va_D A [(h0, .inr (6, [.ref r_code, .null, .null, .int 0, .int 0]))] := hD
  refine lv_aload_n hx hb d_Ma_init_9 rfl (lv_at hl 0 rfl) ?_
  refine lv_aload_n hx hb d_Ma_init_10 rfl (lv_at hl 2 rfl) ?_
  refine va_putF (D := D) (ci := 6) (v := .ref r_tables) (ty := .object "BranchForge$Tables") (C := R_Ma) (T := F_Ma) (N := 5) hx hb hts in_Ma t_Ma t_Ma_ok n_Ma hown hK hP hD hS 0 rfl rfl 1 (by decide) (hts _ kC_44) (fun _ h9 => h9) rfl hin rfl (by decide +kernel) rfl rfl (Nat.le_of_ble_eq_true rfl) d_Ma_init_11 (fun H locs hP hD hS => ?_)
  have hP : va_P D clC [(h0, .inr (6, [.ref r_code, .ref r_tables, .null, .int 0, .int 0]))] H := hP
  have hD : va_D A [(h0, .inr (6, [.ref r_code, .ref r_tables, .null, .int 0, .int 0]))] := hD
  refine lv_aload_n hx hb d_Ma_init_14 rfl (lv_at hl 0 rfl) ?_
  refine lv_aload_n hx hb d_Ma_init_15 rfl (lv_at hl 3 rfl) ?_
  refine va_putF (D := D) (ci := 6) (v := .ref r_features) (ty := .array .int) (C := R_Ma) (T := F_Ma) (N := 5) hx hb hts in_Ma t_Ma t_Ma_ok n_Ma hown hK hP hD hS 0 rfl rfl 2 (by decide) (hts _ kC_45) (fun _ h9 => h9) rfl hin rfl (by decide +kernel) rfl rfl (Nat.le_of_ble_eq_true rfl) d_Ma_init_16 (fun H locs hP hD hS => ?_)
  have hP : va_P D clC [(h0, .inr (6, [.ref r_code, .ref r_tables, .ref r_features, .int 0, .int 0]))] H := hP
  have hD : va_D A [(h0, .inr (6, [.ref r_code, .ref r_tables, .ref r_features, .int 0, .int 0]))] := hD
  have hP9 := hP.sub (ws' := iw_Ma cI cZ h0 (fun k => ([] : List Nat).getD k 0) r_code r_tables r_features) [0] rfl
  have hD9 := hD.sub (ws' := iw_Ma cI cZ h0 (fun k => ([] : List Nat).getD k 0) r_code r_tables r_features) [0] (by decide) rfl
  exact W.vret hx hb hr (fun t ht hW => ⟨⟨(fun k => ([] : List Nat).getD k 0), rfl, trivial, by rw [ht]; exact hP9, va_K.moved hW.alike hK, hD9⟩, hS.F ht⟩) hS.2.2 d_Ma_init_19

set_option maxHeartbeats 8000000 in
set_option maxRecDepth 100000 in
theorem ci_BF {l : Launch} {D : va_G} {cI cZ : ClassId} (h0 : Nat) (sz : Nat) : Met l y_BF_init (.code y_BF_init b_BF_init 1 none :: wGC) ({ frames := 2, cells := 24, slots := 1620, locals := 43 }) (va_Pc [.ref h0] (fun U => U.heap.size = sz ∧ va_P D clC [(h0, .inr (0, [.null, .null, .null, .null, .null, .null, .null]))] U.heap ∧ va_K D clC [(cI, .int), (cZ, .boolean)] U ∧ va_D (fun _ => True) [(h0, .inr (0, [.null, .null, .null, .null, .null, .null, .null]))] ∧ nwC U)) (va_Qv (fun ad : Nat → Nat => ad 0 = h0) (fun ad t => va_P D clC (gwC cI cZ ad (fun _ _ => 0)) t.heap ∧ va_K D clC [(cI, .int), (cZ, .boolean)] t ∧ va_D (va_A [(h0, .inr (0, [.null, .null, .null, .null, .null, .null, .null]))] sz) (gwC cI cZ ad (fun _ _ => 0))) (va_A [(h0, .inr (0, [.null, .null, .null, .null, .null, .null, .null]))] sz)) 24 1620 (va_A [(h0, .inr (0, [.null, .null, .null, .null, .null, .null, .null]))] sz) := by
  refine Met.ofW (cc := b_BF_init) (maxL := 1) (ret := none) (by decide) rfl ?_
  intro p e s m args below meth c s₁ B hml hv
  obtain ⟨rfl, hsz, hP, hK, hD0, hN⟩ := hv
  have hx := B.exec
  have hb := B.bytes
  have hr := B.returns
  have hts0 := atoms_spec (ws := .code y_BF_init b_BF_init 1 none :: wGC) B.pre
  have hts : ∀ w ∈ wGC, w.before _ s = true := fun w h => hts0 w (List.mem_cons_of_mem _ h)
  have hown : s.vm.findClass R_BF = some m.cls := findClass_of_methodNamed B.named
  have hlocks := B.notSynchronized
  have hin : meth.name = "<init>" := (name_of_methodNamed B.named B.method).1
  subst hsz
  have hD := hD0.self (sz := s.heap.size)
  generalize hAe : va_A [(h0, .inr (0, [.null, .null, .null, .null, .null, .null, .null]))] s.heap.size = A at hD ⊢
  have hA : ∀ q : Nat, s.heap.size ≤ q → A q := fun q h => by rw [← hAe]; exact Or.inr h
  have hS : va_S A s.heap s.heap [] := va_S.rf
  have hP : va_P D clC [(h0, .inr (0, [.null, .null, .null, .null, .null, .null, .null]))] s.heap := hP
  have hl := lv_entry ([.ref h0]) (n := 1) (Nat.le_of_ble_eq_true rfl)
  rw [lg_entry_eq]
  generalize (lg_sl ([.ref h0]) ++ List.replicate (1 - (lg_sl ([.ref h0])).length) Slot.unset).toArray = ls at hl ⊢
  have hl : lv_has ls 1 [(0, .ref h0)] := hl
  refine lv_aload_n hx hb d_BF_init_0 rfl (lv_at hl 0 rfl) ?_
  refine W.objInit hx hb hown (hts _ kC_47) (hts _ kC_7) (hts _ kC_8) rfl (by rw [hml]; exact hl.1) rfl d_BF_init_1 (Nat.le_of_ble_eq_true rfl) (Nat.le_of_ble_eq_true rfl) ?_
  refine W.eq (g2 := F0 m 4 ls []) rfl ?_
  refine lv_aload_n hx hb d_BF_init_4 rfl (lv_at hl 0 rfl) ?_
  refine lv_bipush (v := 8) hx hb d_BF_init_5 (by decide) ?_
  have h_1 : 1 ≤ 24 := by decide
  have h_2 : 8 ≤ 1620 := by decide
  refine va_newa (atype := .int) (ty := .int) (a0 := (8, .inl (fun _ => 0))) (N' := 8) hx hb (hts _ kC_9) rfl hK hP hD hS hA (fun cA => by rw [vp_cell_i]; rfl) (by decide) (by decide) (by decide) h_1 h_2 d_BF_init_7 (fun q7 cA H hK2 hP hD hS => ?_)
  have hq : cI = cA := Option.some.inj ((hK2.2 0 _ rfl).2.symm.trans (hK2.2 2 _ rfl).2)
  subst hq
  have hP : va_P D clC [(h0, .inr (0, [.null, .null, .null, .null, .null, .null, .null])), (q7, .inl (cI, 8, .inl (fun _ => 0)))] H := hP
  have hD : va_D A [(h0, .inr (0, [.null, .null, .null, .null, .null, .null, .null])), (q7, .inl (cI, 8, .inl (fun _ => 0)))] := hD
  refine W.widen (k := 1) (n := 8) (Nat.le_of_ble_eq_true rfl) (Nat.le_of_ble_eq_true rfl) ?_
  refine va_putF (D := D) (ci := 0) (v := .ref q7) (ty := .array .int) (C := R_BF) (T := F_BF) (N := 7) hx hb hts in_BF t_BF t_BF_ok n_BF hown hK hP hD hS 0 rfl rfl 0 (by decide) (hts _ kC_48) (fun _ h9 => h9) rfl hin rfl (by decide +kernel) rfl rfl (Nat.le_of_ble_eq_true rfl) d_BF_init_9 (fun H locs hP hD hS => ?_)
  have hP : va_P D clC [(h0, .inr (0, [.ref q7, .null, .null, .null, .null, .null, .null])), (q7, .inl (cI, 8, .inl (fun _ => 0)))] H := hP
  have hD : va_D A [(h0, .inr (0, [.ref q7, .null, .null, .null, .null, .null, .null])), (q7, .inl (cI, 8, .inl (fun _ => 0)))] := hD
  refine lv_aload_n hx hb d_BF_init_12 rfl (lv_at hl 0 rfl) ?_
  have h_1 : 2 ≤ 24 := by decide
  have h_2 : 16 ≤ 1620 := by decide
  refine va_new (ci := 1) (fs := [.null, .null, .null, .null, .null, .null, .int 0, .int 0]) (C := R_Fo) (T := F_Fo) (N := 8) hx hb hts in_Fo t_Fo t_Fo_ok hown (hts _ kC_49) (hts _ kC_50) (hts _ kC_51) hK hP hD hS hA rfl (fun j hj => by rcases (show j = 0 ∨ j = 1 ∨ j = 2 ∨ j = 3 ∨ j = 4 ∨ j = 5 ∨ j = 6 ∨ j = 7 by omega) with rfl | rfl | rfl | rfl | rfl | rfl | rfl | rfl <;> rfl) h_1 h_2 d_BF_init_13 (fun q13 H hP hD hS => ?_)
  have hP : va_P D clC [(h0, .inr (0, [.ref q7, .null, .null, .null, .null, .null, .null])), (q7, .inl (cI, 8, .inl (fun _ => 0))), (q13, .inr (1, [.null, .null, .null, .null, .null, .null, .int 0, .int 0]))] H := hP
  have hD : va_D A [(h0, .inr (0, [.ref q7, .null, .null, .null, .null, .null, .null])), (q7, .inl (cI, 8, .inl (fun _ => 0))), (q13, .inr (1, [.null, .null, .null, .null, .null, .null, .int 0, .int 0]))] := hD
  refine W.widen (k := 2) (n := 16) (Nat.le_of_ble_eq_true rfl) (Nat.le_of_ble_eq_true rfl) ?_
  refine lv_dup hx hb d_BF_init_16 rfl ?_
  have hPc := hP.sub (ws' := [(q13, .inr (1, [.null, .null, .null, .null, .null, .null, .int 0, .int 0]))]) [2] rfl
  have hDc := hD.sub (ws' := [(q13, .inr (1, [.null, .null, .null, .null, .null, .null, .int 0, .int 0]))]) [2] (by decide) rfl
  have hFc := va_free (wc := [(q13, .inr (1, [.null, .null, .null, .null, .null, .null, .int 0, .int 0]))]) hD hS hA [2] rfl
  have h_1 : 8 ≤ 24 ∧ 324 ≤ 1620 := by decide
  refine va_callv (va_runIN (As := []) (rest := [.ref q13, .ref h0]) ⟨hx, hb, hml, hown, hts⟩ (ci_Fo (l := l) (D := D) (cI := cI) (cZ := cZ) q13 H.size) (⟨va_cnB 0 hts (goodC _ (List.forall_mem_cons.mpr ⟨kC_16, fun _ h => h⟩)) rfl rfl rfl (show va_Nw (.methodLinkNest R_BF 15 y_Fo_init "BranchForge") s from nwC_m hN nyC_0) (hts _ kC_51) (by decide +kernel) ⟨Nat.le_of_ble_eq_true rfl, Nat.le_of_ble_eq_true rfl⟩, rfl, hts _ kC_52⟩) ⟨fun a U g mk q => by obtain ⟨q0, q1, qP, qK, qD, qN⟩ := q; exact ⟨q0, q1, qP, va_K.moved (u := U) (U := U.calling g mk a) (Vm.Alike.refl U.vm) qK, qD, nwC_same (s := U) (U := U.calling g mk a) rfl qN⟩, fun U hU hW => ⟨rfl, by rw [hU], by rw [hU]; exact hPc, va_K.moved hW.alike hK, hDc.weaken (fun _ _ _ _ => trivial), nwC_warm hW hN⟩⟩ rfl rfl hl.1 rfl (lv_room (Nat.le_of_ble_eq_true rfl)) d_BF_init_17 h_1) hS (fun q _ h => hFc q h) hFc (fun f17 t H1 locs ht hvm _ hB hz1 hk1 hS => ?_)
  obtain ⟨hP1, hK1, hD1⟩ := hB
  rw [ht] at hP1
  obtain ⟨hP, hD⟩ := va_join (wr := [(h0, .inr (0, [.ref q7, .null, .null, .null, .null, .null, .null])), (q7, .inl (cI, 8, .inl (fun _ => 0)))]) (w1 := [(q13, .inr (1, [.ref (f17 0), .ref (f17 1), .ref (f17 2), .ref (f17 3), .ref (f17 4), .ref (f17 5), .int 0, .int 0])), ((f17 0), .inl (cI, 60, .inl (fun _ => 0))), ((f17 1), .inl (cI, 60, .inl (fun _ => 0))), ((f17 2), .inl (cI, 60, .inl (fun _ => 0))), ((f17 3), .inl (cI, 60, .inl (fun _ => 0))), ((f17 4), .inl (cI, 60, .inl (fun _ => 0))), ((f17 5), .inl (cI, 8, .inl (fun _ => 0)))]) hP hD [2] [0, 1] rfl rfl (by decide) (by decide) hk1 hFc hP1 hD1
  generalize H1 = H at hP hS ⊢
  have hP : va_P D clC [(h0, .inr (0, [.ref q7, .null, .null, .null, .null, .null, .null])), (q7, .inl (cI, 8, .inl (fun _ => 0))), (q13, .inr (1, [.ref (f17 0), .ref (f17 1), .ref (f17 2), .ref (f17 3), .ref (f17 4), .ref (f17 5), .int 0, .int 0])), ((f17 0), .inl (cI, 60, .inl (fun _ => 0))), ((f17 1), .inl (cI, 60, .inl (fun _ => 0))), ((f17 2), .inl (cI, 60, .inl (fun _ => 0))), ((f17 3), .inl (cI, 60, .inl (fun _ => 0))), ((f17 4), .inl (cI, 60, .inl (fun _ => 0))), ((f17 5), .inl (cI, 8, .inl (fun _ => 0)))] H := hP
  have hD : va_D A [(h0, .inr (0, [.ref q7, .null, .null, .null, .null, .null, .null])), (q7, .inl (cI, 8, .inl (fun _ => 0))), (q13, .inr (1, [.ref (f17 0), .ref (f17 1), .ref (f17 2), .ref (f17 3), .ref (f17 4), .ref (f17 5), .int 0, .int 0])), ((f17 0), .inl (cI, 60, .inl (fun _ => 0))), ((f17 1), .inl (cI, 60, .inl (fun _ => 0))), ((f17 2), .inl (cI, 60, .inl (fun _ => 0))), ((f17 3), .inl (cI, 60, .inl (fun _ => 0))), ((f17 4), .inl (cI, 60, .inl (fun _ => 0))), ((f17 5), .inl (cI, 8, .inl (fun _ => 0)))] := hD
  refine W.widen (k := 8) (n := 324) (Nat.le_of_ble_eq_true rfl) (Nat.le_of_ble_eq_true rfl) ?_
  refine va_putF (D := D) (ci := 0) (v := .ref q13) (ty := .object "BranchForge$Forest") (C := R_BF) (T := F_BF) (N := 7) hx hb hts in_BF t_BF t_BF_ok n_BF hown hK hP hD hS 0 rfl rfl 1 (by decide) (hts _ kC_53) (fun _ h9 => h9) rfl hin rfl (by decide +kernel) rfl rfl (Nat.le_of_ble_eq_true rfl) d_BF_init_20 (fun H locs hP hD hS => ?_)
  have hP : va_P D clC [(h0, .inr (0, [.ref q7, .ref q13, .null, .null, .null, .null, .null])), (q7, .inl (cI, 8, .inl (fun _ => 0))), (q13, .inr (1, [.ref (f17 0), .ref (f17 1), .ref (f17 2), .ref (f17 3), .ref (f17 4), .ref (f17 5), .int 0, .int 0])), ((f17 0), .inl (cI, 60, .inl (fun _ => 0))), ((f17 1), .inl (cI, 60, .inl (fun _ => 0))), ((f17 2), .inl (cI, 60, .inl (fun _ => 0))), ((f17 3), .inl (cI, 60, .inl (fun _ => 0))), ((f17 4), .inl (cI, 60, .inl (fun _ => 0))), ((f17 5), .inl (cI, 8, .inl (fun _ => 0)))] H := hP
  have hD : va_D A [(h0, .inr (0, [.ref q7, .ref q13, .null, .null, .null, .null, .null])), (q7, .inl (cI, 8, .inl (fun _ => 0))), (q13, .inr (1, [.ref (f17 0), .ref (f17 1), .ref (f17 2), .ref (f17 3), .ref (f17 4), .ref (f17 5), .int 0, .int 0])), ((f17 0), .inl (cI, 60, .inl (fun _ => 0))), ((f17 1), .inl (cI, 60, .inl (fun _ => 0))), ((f17 2), .inl (cI, 60, .inl (fun _ => 0))), ((f17 3), .inl (cI, 60, .inl (fun _ => 0))), ((f17 4), .inl (cI, 60, .inl (fun _ => 0))), ((f17 5), .inl (cI, 8, .inl (fun _ => 0)))] := hD
  refine lv_aload_n hx hb d_BF_init_23 rfl (lv_at hl 0 rfl) ?_
  have h_1 : 9 ≤ 24 := by decide
  have h_2 : 326 ≤ 1620 := by decide
  refine va_new (ci := 2) (fs := [.null, .null]) (C := R_Ch) (T := F_Ch) (N := 2) hx hb hts in_Ch t_Ch t_Ch_ok hown (hts _ kC_54) (hts _ kC_55) (hts _ kC_56) hK hP hD hS hA rfl (fun j hj => by rcases (show j = 0 ∨ j = 1 by omega) with rfl | rfl <;> rfl) h_1 h_2 d_BF_init_24 (fun q24 H hP hD hS => ?_)
  have hP : va_P D clC [(h0, .inr (0, [.ref q7, .ref q13, .null, .null, .null, .null, .null])), (q7, .inl (cI, 8, .inl (fun _ => 0))), (q13, .inr (1, [.ref (f17 0), .ref (f17 1), .ref (f17 2), .ref (f17 3), .ref (f17 4), .ref (f17 5), .int 0, .int 0])), ((f17 0), .inl (cI, 60, .inl (fun _ => 0))), ((f17 1), .inl (cI, 60, .inl (fun _ => 0))), ((f17 2), .inl (cI, 60, .inl (fun _ => 0))), ((f17 3), .inl (cI, 60, .inl (fun _ => 0))), ((f17 4), .inl (cI, 60, .inl (fun _ => 0))), ((f17 5), .inl (cI, 8, .inl (fun _ => 0))), (q24, .inr (2, [.null, .null]))] H := hP
  have hD : va_D A [(h0, .inr (0, [.ref q7, .ref q13, .null, .null, .null, .null, .null])), (q7, .inl (cI, 8, .inl (fun _ => 0))), (q13, .inr (1, [.ref (f17 0), .ref (f17 1), .ref (f17 2), .ref (f17 3), .ref (f17 4), .ref (f17 5), .int 0, .int 0])), ((f17 0), .inl (cI, 60, .inl (fun _ => 0))), ((f17 1), .inl (cI, 60, .inl (fun _ => 0))), ((f17 2), .inl (cI, 60, .inl (fun _ => 0))), ((f17 3), .inl (cI, 60, .inl (fun _ => 0))), ((f17 4), .inl (cI, 60, .inl (fun _ => 0))), ((f17 5), .inl (cI, 8, .inl (fun _ => 0))), (q24, .inr (2, [.null, .null]))] := hD
  refine W.widen (k := 9) (n := 326) (Nat.le_of_ble_eq_true rfl) (Nat.le_of_ble_eq_true rfl) ?_
  refine lv_dup hx hb d_BF_init_27 rfl ?_
  refine lv_aload_n hx hb d_BF_init_28 rfl (lv_at hl 0 rfl) ?_
  refine va_get (D := D) (ci := 0) (v := .ref q13) (C := R_BF) (T := F_BF) (N := 7) hx hb hts in_BF hown hK hP 0 rfl rfl 1 (by decide) (hts _ kC_53) (fun _ h9 => h9) rfl d_BF_init_29 ?_
  have hPc := hP.sub (ws' := [(q24, .inr (2, [.null, .null]))]) [9] rfl
  have hDc := hD.sub (ws' := [(q24, .inr (2, [.null, .null]))]) [9] (by decide) rfl
  have hFc := va_free (wc := [(q24, .inr (2, [.null, .null]))]) hD hS hA [9] rfl
  have h_1 : 10 ≤ 24 ∧ 386 ≤ 1620 := by decide
  refine va_callv (va_runI (As := [.ref q13]) (rest := [.ref q24, .ref h0]) ⟨hx, hb, hml, hown, hts⟩ (ci_Ch (l := l) (D := D) (cI := cI) (cZ := cZ) q24 q13 H.size) (⟨callB_of 1 hts (goodC _ (List.forall_mem_cons.mpr ⟨kC_21, fun _ h => h⟩)) rfl rfl rfl (hts _ kC_56) (hts _ kC_57) (by decide +kernel) ⟨Nat.le_of_ble_eq_true rfl, Nat.le_of_ble_eq_true rfl⟩, rfl, hts _ kC_58⟩) ⟨fun a U g mk q => by obtain ⟨q0, q1, qP, qK, qD, qN⟩ := q; exact ⟨q0, q1, qP, va_K.moved (u := U) (U := U.calling g mk a) (Vm.Alike.refl U.vm) qK, qD, nwC_same (s := U) (U := U.calling g mk a) rfl qN⟩, fun U hU hW => ⟨rfl, by rw [hU], by rw [hU]; exact hPc, va_K.moved hW.alike hK, hDc.weaken (fun _ _ _ _ => trivial), nwC_warm hW hN⟩⟩ rfl rfl hl.1 rfl (lv_room (Nat.le_of_ble_eq_true rfl)) d_BF_init_32 h_1) hS (fun q _ h => hFc q h) hFc (fun f32 t H1 locs ht hvm _ hB hz1 hk1 hS => ?_)
  obtain ⟨hP1, hK1, hD1⟩ := hB
  rw [ht] at hP1
  obtain ⟨hP, hD⟩ := va_join (wr := [(h0, .inr (0, [.ref q7, .ref q13, .null, .null, .null, .null, .null])), (q7, .inl (cI, 8, .inl (fun _ => 0))), (q13, .inr (1, [.ref (f17 0), .ref (f17 1), .ref (f17 2), .ref (f17 3), .ref (f17 4), .ref (f17 5), .int 0, .int 0])), ((f17 0), .inl (cI, 60, .inl (fun _ => 0))), ((f17 1), .inl (cI, 60, .inl (fun _ => 0))), ((f17 2), .inl (cI, 60, .inl (fun _ => 0))), ((f17 3), .inl (cI, 60, .inl (fun _ => 0))), ((f17 4), .inl (cI, 60, .inl (fun _ => 0))), ((f17 5), .inl (cI, 8, .inl (fun _ => 0)))]) (w1 := [(q24, .inr (2, [.ref q13, .ref (f32 0)])), ((f32 0), .inl (cZ, 60, .inl (fun _ => 0)))]) hP hD [9] [0, 1, 2, 3, 4, 5, 6, 7, 8] rfl rfl (by decide) (by decide) hk1 hFc hP1 hD1
  generalize H1 = H at hP hS ⊢
  have hP : va_P D clC [(h0, .inr (0, [.ref q7, .ref q13, .null, .null, .null, .null, .null])), (q7, .inl (cI, 8, .inl (fun _ => 0))), (q13, .inr (1, [.ref (f17 0), .ref (f17 1), .ref (f17 2), .ref (f17 3), .ref (f17 4), .ref (f17 5), .int 0, .int 0])), ((f17 0), .inl (cI, 60, .inl (fun _ => 0))), ((f17 1), .inl (cI, 60, .inl (fun _ => 0))), ((f17 2), .inl (cI, 60, .inl (fun _ => 0))), ((f17 3), .inl (cI, 60, .inl (fun _ => 0))), ((f17 4), .inl (cI, 60, .inl (fun _ => 0))), ((f17 5), .inl (cI, 8, .inl (fun _ => 0))), (q24, .inr (2, [.ref q13, .ref (f32 0)])), ((f32 0), .inl (cZ, 60, .inl (fun _ => 0)))] H := hP
  have hD : va_D A [(h0, .inr (0, [.ref q7, .ref q13, .null, .null, .null, .null, .null])), (q7, .inl (cI, 8, .inl (fun _ => 0))), (q13, .inr (1, [.ref (f17 0), .ref (f17 1), .ref (f17 2), .ref (f17 3), .ref (f17 4), .ref (f17 5), .int 0, .int 0])), ((f17 0), .inl (cI, 60, .inl (fun _ => 0))), ((f17 1), .inl (cI, 60, .inl (fun _ => 0))), ((f17 2), .inl (cI, 60, .inl (fun _ => 0))), ((f17 3), .inl (cI, 60, .inl (fun _ => 0))), ((f17 4), .inl (cI, 60, .inl (fun _ => 0))), ((f17 5), .inl (cI, 8, .inl (fun _ => 0))), (q24, .inr (2, [.ref q13, .ref (f32 0)])), ((f32 0), .inl (cZ, 60, .inl (fun _ => 0)))] := hD
  refine W.widen (k := 10) (n := 386) (Nat.le_of_ble_eq_true rfl) (Nat.le_of_ble_eq_true rfl) ?_
  refine va_putF (D := D) (ci := 0) (v := .ref q24) (ty := .object "BranchForge$Checker") (C := R_BF) (T := F_BF) (N := 7) hx hb hts in_BF t_BF t_BF_ok n_BF hown hK hP hD hS 0 rfl rfl 2 (by decide) (hts _ kC_59) (fun _ h9 => h9) rfl hin rfl (by decide +kernel) rfl rfl (Nat.le_of_ble_eq_true rfl) d_BF_init_35 (fun H locs hP hD hS => ?_)
  have hP : va_P D clC [(h0, .inr (0, [.ref q7, .ref q13, .ref q24, .null, .null, .null, .null])), (q7, .inl (cI, 8, .inl (fun _ => 0))), (q13, .inr (1, [.ref (f17 0), .ref (f17 1), .ref (f17 2), .ref (f17 3), .ref (f17 4), .ref (f17 5), .int 0, .int 0])), ((f17 0), .inl (cI, 60, .inl (fun _ => 0))), ((f17 1), .inl (cI, 60, .inl (fun _ => 0))), ((f17 2), .inl (cI, 60, .inl (fun _ => 0))), ((f17 3), .inl (cI, 60, .inl (fun _ => 0))), ((f17 4), .inl (cI, 60, .inl (fun _ => 0))), ((f17 5), .inl (cI, 8, .inl (fun _ => 0))), (q24, .inr (2, [.ref q13, .ref (f32 0)])), ((f32 0), .inl (cZ, 60, .inl (fun _ => 0)))] H := hP
  have hD : va_D A [(h0, .inr (0, [.ref q7, .ref q13, .ref q24, .null, .null, .null, .null])), (q7, .inl (cI, 8, .inl (fun _ => 0))), (q13, .inr (1, [.ref (f17 0), .ref (f17 1), .ref (f17 2), .ref (f17 3), .ref (f17 4), .ref (f17 5), .int 0, .int 0])), ((f17 0), .inl (cI, 60, .inl (fun _ => 0))), ((f17 1), .inl (cI, 60, .inl (fun _ => 0))), ((f17 2), .inl (cI, 60, .inl (fun _ => 0))), ((f17 3), .inl (cI, 60, .inl (fun _ => 0))), ((f17 4), .inl (cI, 60, .inl (fun _ => 0))), ((f17 5), .inl (cI, 8, .inl (fun _ => 0))), (q24, .inr (2, [.ref q13, .ref (f32 0)])), ((f32 0), .inl (cZ, 60, .inl (fun _ => 0)))] := hD
  refine lv_aload_n hx hb d_BF_init_38 rfl (lv_at hl 0 rfl) ?_
  have h_1 : 11 ≤ 24 := by decide
  have h_2 : 391 ≤ 1620 := by decide
  refine va_new (ci := 3) (fs := [.null, .null, .null, .null, .int 0]) (C := R_Cu) (T := F_Cu) (N := 5) hx hb hts in_Cu t_Cu t_Cu_ok hown (hts _ kC_60) (hts _ kC_61) (hts _ kC_62) hK hP hD hS hA rfl (fun j hj => by rcases (show j = 0 ∨ j = 1 ∨ j = 2 ∨ j = 3 ∨ j = 4 by omega) with rfl | rfl | rfl | rfl | rfl <;> rfl) h_1 h_2 d_BF_init_39 (fun q39 H hP hD hS => ?_)
  have hP : va_P D clC [(h0, .inr (0, [.ref q7, .ref q13, .ref q24, .null, .null, .null, .null])), (q7, .inl (cI, 8, .inl (fun _ => 0))), (q13, .inr (1, [.ref (f17 0), .ref (f17 1), .ref (f17 2), .ref (f17 3), .ref (f17 4), .ref (f17 5), .int 0, .int 0])), ((f17 0), .inl (cI, 60, .inl (fun _ => 0))), ((f17 1), .inl (cI, 60, .inl (fun _ => 0))), ((f17 2), .inl (cI, 60, .inl (fun _ => 0))), ((f17 3), .inl (cI, 60, .inl (fun _ => 0))), ((f17 4), .inl (cI, 60, .inl (fun _ => 0))), ((f17 5), .inl (cI, 8, .inl (fun _ => 0))), (q24, .inr (2, [.ref q13, .ref (f32 0)])), ((f32 0), .inl (cZ, 60, .inl (fun _ => 0))), (q39, .inr (3, [.null, .null, .null, .null, .int 0]))] H := hP
  have hD : va_D A [(h0, .inr (0, [.ref q7, .ref q13, .ref q24, .null, .null, .null, .null])), (q7, .inl (cI, 8, .inl (fun _ => 0))), (q13, .inr (1, [.ref (f17 0), .ref (f17 1), .ref (f17 2), .ref (f17 3), .ref (f17 4), .ref (f17 5), .int 0, .int 0])), ((f17 0), .inl (cI, 60, .inl (fun _ => 0))), ((f17 1), .inl (cI, 60, .inl (fun _ => 0))), ((f17 2), .inl (cI, 60, .inl (fun _ => 0))), ((f17 3), .inl (cI, 60, .inl (fun _ => 0))), ((f17 4), .inl (cI, 60, .inl (fun _ => 0))), ((f17 5), .inl (cI, 8, .inl (fun _ => 0))), (q24, .inr (2, [.ref q13, .ref (f32 0)])), ((f32 0), .inl (cZ, 60, .inl (fun _ => 0))), (q39, .inr (3, [.null, .null, .null, .null, .int 0]))] := hD
  refine W.widen (k := 11) (n := 391) (Nat.le_of_ble_eq_true rfl) (Nat.le_of_ble_eq_true rfl) ?_
  refine lv_dup hx hb d_BF_init_42 rfl ?_
  refine lv_aload_n hx hb d_BF_init_43 rfl (lv_at hl 0 rfl) ?_
  refine va_get (D := D) (ci := 0) (v := .ref q13) (C := R_BF) (T := F_BF) (N := 7) hx hb hts in_BF hown hK hP 0 rfl rfl 1 (by decide) (hts _ kC_53) (fun _ h9 => h9) rfl d_BF_init_44 ?_
  have hPc := hP.sub (ws' := [(q39, .inr (3, [.null, .null, .null, .null, .int 0]))]) [11] rfl
  have hDc := hD.sub (ws' := [(q39, .inr (3, [.null, .null, .null, .null, .int 0]))]) [11] (by decide) rfl
  have hFc := va_free (wc := [(q39, .inr (3, [.null, .null, .null, .null, .int 0]))]) hD hS hA [11] rfl
  have h_1 : 14 ≤ 24 ∧ 571 ≤ 1620 := by decide
  refine va_callv (va_runI (As := [.ref q13]) (rest := [.ref q39, .ref h0]) ⟨hx, hb, hml, hown, hts⟩ (ci_Cu (l := l) (D := D) (cI := cI) (cZ := cZ) q39 q13 H.size) (⟨callB_of 1 hts (goodC _ (List.forall_mem_cons.mpr ⟨kC_27, fun _ h => h⟩)) rfl rfl rfl (hts _ kC_62) (hts _ kC_63) (by decide +kernel) ⟨Nat.le_of_ble_eq_true rfl, Nat.le_of_ble_eq_true rfl⟩, rfl, hts _ kC_64⟩) ⟨fun a U g mk q => by obtain ⟨q0, q1, qP, qK, qD, qN⟩ := q; exact ⟨q0, q1, qP, va_K.moved (u := U) (U := U.calling g mk a) (Vm.Alike.refl U.vm) qK, qD, nwC_same (s := U) (U := U.calling g mk a) rfl qN⟩, fun U hU hW => ⟨rfl, by rw [hU], by rw [hU]; exact hPc, va_K.moved hW.alike hK, hDc.weaken (fun _ _ _ _ => trivial), nwC_warm hW hN⟩⟩ rfl rfl hl.1 rfl (lv_room (Nat.le_of_ble_eq_true rfl)) d_BF_init_47 h_1) hS (fun q _ h => hFc q h) hFc (fun f47 t H1 locs ht hvm _ hB hz1 hk1 hS => ?_)
  obtain ⟨hP1, hK1, hD1⟩ := hB
  rw [ht] at hP1
  obtain ⟨hP, hD⟩ := va_join (wr := [(h0, .inr (0, [.ref q7, .ref q13, .ref q24, .null, .null, .null, .null])), (q7, .inl (cI, 8, .inl (fun _ => 0))), (q13, .inr (1, [.ref (f17 0), .ref (f17 1), .ref (f17 2), .ref (f17 3), .ref (f17 4), .ref (f17 5), .int 0, .int 0])), ((f17 0), .inl (cI, 60, .inl (fun _ => 0))), ((f17 1), .inl (cI, 60, .inl (fun _ => 0))), ((f17 2), .inl (cI, 60, .inl (fun _ => 0))), ((f17 3), .inl (cI, 60, .inl (fun _ => 0))), ((f17 4), .inl (cI, 60, .inl (fun _ => 0))), ((f17 5), .inl (cI, 8, .inl (fun _ => 0))), (q24, .inr (2, [.ref q13, .ref (f32 0)])), ((f32 0), .inl (cZ, 60, .inl (fun _ => 0)))]) (w1 := [(q39, .inr (3, [.ref q13, .ref (f47 0), .ref (f47 1), .ref (f47 2), .int 0])), ((f47 0), .inl (cI, 60, .inl (fun _ => 0))), ((f47 1), .inl (cI, 60, .inl (fun _ => 0))), ((f47 2), .inl (cI, 60, .inl (fun _ => 0)))]) hP hD [11] [0, 1, 2, 3, 4, 5, 6, 7, 8, 9, 10] rfl rfl (by decide) (by decide) hk1 hFc hP1 hD1
  generalize H1 = H at hP hS ⊢
  have hP : va_P D clC [(h0, .inr (0, [.ref q7, .ref q13, .ref q24, .null, .null, .null, .null])), (q7, .inl (cI, 8, .inl (fun _ => 0))), (q13, .inr (1, [.ref (f17 0), .ref (f17 1), .ref (f17 2), .ref (f17 3), .ref (f17 4), .ref (f17 5), .int 0, .int 0])), ((f17 0), .inl (cI, 60, .inl (fun _ => 0))), ((f17 1), .inl (cI, 60, .inl (fun _ => 0))), ((f17 2), .inl (cI, 60, .inl (fun _ => 0))), ((f17 3), .inl (cI, 60, .inl (fun _ => 0))), ((f17 4), .inl (cI, 60, .inl (fun _ => 0))), ((f17 5), .inl (cI, 8, .inl (fun _ => 0))), (q24, .inr (2, [.ref q13, .ref (f32 0)])), ((f32 0), .inl (cZ, 60, .inl (fun _ => 0))), (q39, .inr (3, [.ref q13, .ref (f47 0), .ref (f47 1), .ref (f47 2), .int 0])), ((f47 0), .inl (cI, 60, .inl (fun _ => 0))), ((f47 1), .inl (cI, 60, .inl (fun _ => 0))), ((f47 2), .inl (cI, 60, .inl (fun _ => 0)))] H := hP
  have hD : va_D A [(h0, .inr (0, [.ref q7, .ref q13, .ref q24, .null, .null, .null, .null])), (q7, .inl (cI, 8, .inl (fun _ => 0))), (q13, .inr (1, [.ref (f17 0), .ref (f17 1), .ref (f17 2), .ref (f17 3), .ref (f17 4), .ref (f17 5), .int 0, .int 0])), ((f17 0), .inl (cI, 60, .inl (fun _ => 0))), ((f17 1), .inl (cI, 60, .inl (fun _ => 0))), ((f17 2), .inl (cI, 60, .inl (fun _ => 0))), ((f17 3), .inl (cI, 60, .inl (fun _ => 0))), ((f17 4), .inl (cI, 60, .inl (fun _ => 0))), ((f17 5), .inl (cI, 8, .inl (fun _ => 0))), (q24, .inr (2, [.ref q13, .ref (f32 0)])), ((f32 0), .inl (cZ, 60, .inl (fun _ => 0))), (q39, .inr (3, [.ref q13, .ref (f47 0), .ref (f47 1), .ref (f47 2), .int 0])), ((f47 0), .inl (cI, 60, .inl (fun _ => 0))), ((f47 1), .inl (cI, 60, .inl (fun _ => 0))), ((f47 2), .inl (cI, 60, .inl (fun _ => 0)))] := hD
  refine W.widen (k := 14) (n := 571) (Nat.le_of_ble_eq_true rfl) (Nat.le_of_ble_eq_true rfl) ?_
  refine va_putF (D := D) (ci := 0) (v := .ref q39) (ty := .object "BranchForge$Cutter") (C := R_BF) (T := F_BF) (N := 7) hx hb hts in_BF t_BF t_BF_ok n_BF hown hK hP hD hS 0 rfl rfl 3 (by decide) (hts _ kC_65) (fun _ h9 => h9) rfl hin rfl (by decide +kernel) rfl rfl (Nat.le_of_ble_eq_true rfl) d_BF_init_50 (fun H locs hP hD hS => ?_)
  have hP : va_P D clC [(h0, .inr (0, [.ref q7, .ref q13, .ref q24, .ref q39, .null, .null, .null])), (q7, .inl (cI, 8, .inl (fun _ => 0))), (q13, .inr (1, [.ref (f17 0), .ref (f17 1), .ref (f17 2), .ref (f17 3), .ref (f17 4), .ref (f17 5), .int 0, .int 0])), ((f17 0), .inl (cI, 60, .inl (fun _ => 0))), ((f17 1), .inl (cI, 60, .inl (fun _ => 0))), ((f17 2), .inl (cI, 60, .inl (fun _ => 0))), ((f17 3), .inl (cI, 60, .inl (fun _ => 0))), ((f17 4), .inl (cI, 60, .inl (fun _ => 0))), ((f17 5), .inl (cI, 8, .inl (fun _ => 0))), (q24, .inr (2, [.ref q13, .ref (f32 0)])), ((f32 0), .inl (cZ, 60, .inl (fun _ => 0))), (q39, .inr (3, [.ref q13, .ref (f47 0), .ref (f47 1), .ref (f47 2), .int 0])), ((f47 0), .inl (cI, 60, .inl (fun _ => 0))), ((f47 1), .inl (cI, 60, .inl (fun _ => 0))), ((f47 2), .inl (cI, 60, .inl (fun _ => 0)))] H := hP
  have hD : va_D A [(h0, .inr (0, [.ref q7, .ref q13, .ref q24, .ref q39, .null, .null, .null])), (q7, .inl (cI, 8, .inl (fun _ => 0))), (q13, .inr (1, [.ref (f17 0), .ref (f17 1), .ref (f17 2), .ref (f17 3), .ref (f17 4), .ref (f17 5), .int 0, .int 0])), ((f17 0), .inl (cI, 60, .inl (fun _ => 0))), ((f17 1), .inl (cI, 60, .inl (fun _ => 0))), ((f17 2), .inl (cI, 60, .inl (fun _ => 0))), ((f17 3), .inl (cI, 60, .inl (fun _ => 0))), ((f17 4), .inl (cI, 60, .inl (fun _ => 0))), ((f17 5), .inl (cI, 8, .inl (fun _ => 0))), (q24, .inr (2, [.ref q13, .ref (f32 0)])), ((f32 0), .inl (cZ, 60, .inl (fun _ => 0))), (q39, .inr (3, [.ref q13, .ref (f47 0), .ref (f47 1), .ref (f47 2), .int 0])), ((f47 0), .inl (cI, 60, .inl (fun _ => 0))), ((f47 1), .inl (cI, 60, .inl (fun _ => 0))), ((f47 2), .inl (cI, 60, .inl (fun _ => 0)))] := hD
  refine lv_aload_n hx hb d_BF_init_53 rfl (lv_at hl 0 rfl) ?_
  have h_1 : 15 ≤ 24 := by decide
  have h_2 : 575 ≤ 1620 := by decide
  refine va_new (ci := 4) (fs := [.null, .null, .null, .int 0]) (C := R_Ta) (T := F_Ta) (N := 4) hx hb hts in_Ta t_Ta t_Ta_ok hown (hts _ kC_66) (hts _ kC_67) (hts _ kC_68) hK hP hD hS hA rfl (fun j hj => by rcases (show j = 0 ∨ j = 1 ∨ j = 2 ∨ j = 3 by omega) with rfl | rfl | rfl | rfl <;> rfl) h_1 h_2 d_BF_init_54 (fun q54 H hP hD hS => ?_)
  have hP : va_P D clC [(h0, .inr (0, [.ref q7, .ref q13, .ref q24, .ref q39, .null, .null, .null])), (q7, .inl (cI, 8, .inl (fun _ => 0))), (q13, .inr (1, [.ref (f17 0), .ref (f17 1), .ref (f17 2), .ref (f17 3), .ref (f17 4), .ref (f17 5), .int 0, .int 0])), ((f17 0), .inl (cI, 60, .inl (fun _ => 0))), ((f17 1), .inl (cI, 60, .inl (fun _ => 0))), ((f17 2), .inl (cI, 60, .inl (fun _ => 0))), ((f17 3), .inl (cI, 60, .inl (fun _ => 0))), ((f17 4), .inl (cI, 60, .inl (fun _ => 0))), ((f17 5), .inl (cI, 8, .inl (fun _ => 0))), (q24, .inr (2, [.ref q13, .ref (f32 0)])), ((f32 0), .inl (cZ, 60, .inl (fun _ => 0))), (q39, .inr (3, [.ref q13, .ref (f47 0), .ref (f47 1), .ref (f47 2), .int 0])), ((f47 0), .inl (cI, 60, .inl (fun _ => 0))), ((f47 1), .inl (cI, 60, .inl (fun _ => 0))), ((f47 2), .inl (cI, 60, .inl (fun _ => 0))), (q54, .inr (4, [.null, .null, .null, .int 0]))] H := hP
  have hD : va_D A [(h0, .inr (0, [.ref q7, .ref q13, .ref q24, .ref q39, .null, .null, .null])), (q7, .inl (cI, 8, .inl (fun _ => 0))), (q13, .inr (1, [.ref (f17 0), .ref (f17 1), .ref (f17 2), .ref (f17 3), .ref (f17 4), .ref (f17 5), .int 0, .int 0])), ((f17 0), .inl (cI, 60, .inl (fun _ => 0))), ((f17 1), .inl (cI, 60, .inl (fun _ => 0))), ((f17 2), .inl (cI, 60, .inl (fun _ => 0))), ((f17 3), .inl (cI, 60, .inl (fun _ => 0))), ((f17 4), .inl (cI, 60, .inl (fun _ => 0))), ((f17 5), .inl (cI, 8, .inl (fun _ => 0))), (q24, .inr (2, [.ref q13, .ref (f32 0)])), ((f32 0), .inl (cZ, 60, .inl (fun _ => 0))), (q39, .inr (3, [.ref q13, .ref (f47 0), .ref (f47 1), .ref (f47 2), .int 0])), ((f47 0), .inl (cI, 60, .inl (fun _ => 0))), ((f47 1), .inl (cI, 60, .inl (fun _ => 0))), ((f47 2), .inl (cI, 60, .inl (fun _ => 0))), (q54, .inr (4, [.null, .null, .null, .int 0]))] := hD
  refine W.widen (k := 15) (n := 575) (Nat.le_of_ble_eq_true rfl) (Nat.le_of_ble_eq_true rfl) ?_
  refine lv_dup hx hb d_BF_init_57 rfl ?_
  have hPc := hP.sub (ws' := [(q54, .inr (4, [.null, .null, .null, .int 0]))]) [15] rfl
  have hDc := hD.sub (ws' := [(q54, .inr (4, [.null, .null, .null, .int 0]))]) [15] (by decide) rfl
  have hFc := va_free (wc := [(q54, .inr (4, [.null, .null, .null, .int 0]))]) hD hS hA [15] rfl
  have h_1 : 18 ≤ 24 ∧ 876 ≤ 1620 := by decide
  refine va_callv (va_runIN (As := []) (rest := [.ref q54, .ref h0]) ⟨hx, hb, hml, hown, hts⟩ (ci_Ta (l := l) (D := D) (cI := cI) (cZ := cZ) q54 H.size) (⟨va_cnB 0 hts (goodC _ (List.forall_mem_cons.mpr ⟨kC_32, fun _ h => h⟩)) rfl rfl rfl (show va_Nw (.methodLinkNest R_BF 38 y_Ta_init "BranchForge") s from nwC_m hN nyC_1) (hts _ kC_68) (by decide +kernel) ⟨Nat.le_of_ble_eq_true rfl, Nat.le_of_ble_eq_true rfl⟩, rfl, hts _ kC_69⟩) ⟨fun a U g mk q => by obtain ⟨q0, q1, qP, qK, qD, qN⟩ := q; exact ⟨q0, q1, qP, va_K.moved (u := U) (U := U.calling g mk a) (Vm.Alike.refl U.vm) qK, qD, nwC_same (s := U) (U := U.calling g mk a) rfl qN⟩, fun U hU hW => ⟨rfl, by rw [hU], by rw [hU]; exact hPc, va_K.moved hW.alike hK, hDc.weaken (fun _ _ _ _ => trivial), nwC_warm hW hN⟩⟩ rfl rfl hl.1 rfl (lv_room (Nat.le_of_ble_eq_true rfl)) d_BF_init_58 h_1) hS (fun q _ h => hFc q h) hFc (fun f58 t H1 locs ht hvm _ hB hz1 hk1 hS => ?_)
  obtain ⟨hP1, hK1, hD1⟩ := hB
  rw [ht] at hP1
  obtain ⟨hP, hD⟩ := va_join (wr := [(h0, .inr (0, [.ref q7, .ref q13, .ref q24, .ref q39, .null, .null, .null])), (q7, .inl (cI, 8, .inl (fun _ => 0))), (q13, .inr (1, [.ref (f17 0), .ref (f17 1), .ref (f17 2), .ref (f17 3), .ref (f17 4), .ref (f17 5), .int 0, .int 0])), ((f17 0), .inl (cI, 60, .inl (fun _ => 0))), ((f17 1), .inl (cI, 60, .inl (fun _ => 0))), ((f17 2), .inl (cI, 60, .inl (fun _ => 0))), ((f17 3), .inl (cI, 60, .inl (fun _ => 0))), ((f17 4), .inl (cI, 60, .inl (fun _ => 0))), ((f17 5), .inl (cI, 8, .inl (fun _ => 0))), (q24, .inr (2, [.ref q13, .ref (f32 0)])), ((f32 0), .inl (cZ, 60, .inl (fun _ => 0))), (q39, .inr (3, [.ref q13, .ref (f47 0), .ref (f47 1), .ref (f47 2), .int 0])), ((f47 0), .inl (cI, 60, .inl (fun _ => 0))), ((f47 1), .inl (cI, 60, .inl (fun _ => 0))), ((f47 2), .inl (cI, 60, .inl (fun _ => 0)))]) (w1 := [(q54, .inr (4, [.ref (f58 0), .ref (f58 1), .ref (f58 2), .int 0])), ((f58 0), .inl (cI, 120, .inl (fun _ => 0))), ((f58 1), .inl (cI, 120, .inl (fun _ => 0))), ((f58 2), .inl (cI, 61, .inl (fun _ => 0)))]) hP hD [15] [0, 1, 2, 3, 4, 5, 6, 7, 8, 9, 10, 11, 12, 13, 14] rfl rfl (by decide) (by decide) hk1 hFc hP1 hD1
  generalize H1 = H at hP hS ⊢
  have hP : va_P D clC [(h0, .inr (0, [.ref q7, .ref q13, .ref q24, .ref q39, .null, .null, .null])), (q7, .inl (cI, 8, .inl (fun _ => 0))), (q13, .inr (1, [.ref (f17 0), .ref (f17 1), .ref (f17 2), .ref (f17 3), .ref (f17 4), .ref (f17 5), .int 0, .int 0])), ((f17 0), .inl (cI, 60, .inl (fun _ => 0))), ((f17 1), .inl (cI, 60, .inl (fun _ => 0))), ((f17 2), .inl (cI, 60, .inl (fun _ => 0))), ((f17 3), .inl (cI, 60, .inl (fun _ => 0))), ((f17 4), .inl (cI, 60, .inl (fun _ => 0))), ((f17 5), .inl (cI, 8, .inl (fun _ => 0))), (q24, .inr (2, [.ref q13, .ref (f32 0)])), ((f32 0), .inl (cZ, 60, .inl (fun _ => 0))), (q39, .inr (3, [.ref q13, .ref (f47 0), .ref (f47 1), .ref (f47 2), .int 0])), ((f47 0), .inl (cI, 60, .inl (fun _ => 0))), ((f47 1), .inl (cI, 60, .inl (fun _ => 0))), ((f47 2), .inl (cI, 60, .inl (fun _ => 0))), (q54, .inr (4, [.ref (f58 0), .ref (f58 1), .ref (f58 2), .int 0])), ((f58 0), .inl (cI, 120, .inl (fun _ => 0))), ((f58 1), .inl (cI, 120, .inl (fun _ => 0))), ((f58 2), .inl (cI, 61, .inl (fun _ => 0)))] H := hP
  have hD : va_D A [(h0, .inr (0, [.ref q7, .ref q13, .ref q24, .ref q39, .null, .null, .null])), (q7, .inl (cI, 8, .inl (fun _ => 0))), (q13, .inr (1, [.ref (f17 0), .ref (f17 1), .ref (f17 2), .ref (f17 3), .ref (f17 4), .ref (f17 5), .int 0, .int 0])), ((f17 0), .inl (cI, 60, .inl (fun _ => 0))), ((f17 1), .inl (cI, 60, .inl (fun _ => 0))), ((f17 2), .inl (cI, 60, .inl (fun _ => 0))), ((f17 3), .inl (cI, 60, .inl (fun _ => 0))), ((f17 4), .inl (cI, 60, .inl (fun _ => 0))), ((f17 5), .inl (cI, 8, .inl (fun _ => 0))), (q24, .inr (2, [.ref q13, .ref (f32 0)])), ((f32 0), .inl (cZ, 60, .inl (fun _ => 0))), (q39, .inr (3, [.ref q13, .ref (f47 0), .ref (f47 1), .ref (f47 2), .int 0])), ((f47 0), .inl (cI, 60, .inl (fun _ => 0))), ((f47 1), .inl (cI, 60, .inl (fun _ => 0))), ((f47 2), .inl (cI, 60, .inl (fun _ => 0))), (q54, .inr (4, [.ref (f58 0), .ref (f58 1), .ref (f58 2), .int 0])), ((f58 0), .inl (cI, 120, .inl (fun _ => 0))), ((f58 1), .inl (cI, 120, .inl (fun _ => 0))), ((f58 2), .inl (cI, 61, .inl (fun _ => 0)))] := hD
  refine W.widen (k := 18) (n := 876) (Nat.le_of_ble_eq_true rfl) (Nat.le_of_ble_eq_true rfl) ?_
  refine va_putF (D := D) (ci := 0) (v := .ref q54) (ty := .object "BranchForge$Tables") (C := R_BF) (T := F_BF) (N := 7) hx hb hts in_BF t_BF t_BF_ok n_BF hown hK hP hD hS 0 rfl rfl 4 (by decide) (hts _ kC_70) (fun _ h9 => h9) rfl hin rfl (by decide +kernel) rfl rfl (Nat.le_of_ble_eq_true rfl) d_BF_init_61 (fun H locs hP hD hS => ?_)
  have hP : va_P D clC [(h0, .inr (0, [.ref q7, .ref q13, .ref q24, .ref q39, .ref q54, .null, .null])), (q7, .inl (cI, 8, .inl (fun _ => 0))), (q13, .inr (1, [.ref (f17 0), .ref (f17 1), .ref (f17 2), .ref (f17 3), .ref (f17 4), .ref (f17 5), .int 0, .int 0])), ((f17 0), .inl (cI, 60, .inl (fun _ => 0))), ((f17 1), .inl (cI, 60, .inl (fun _ => 0))), ((f17 2), .inl (cI, 60, .inl (fun _ => 0))), ((f17 3), .inl (cI, 60, .inl (fun _ => 0))), ((f17 4), .inl (cI, 60, .inl (fun _ => 0))), ((f17 5), .inl (cI, 8, .inl (fun _ => 0))), (q24, .inr (2, [.ref q13, .ref (f32 0)])), ((f32 0), .inl (cZ, 60, .inl (fun _ => 0))), (q39, .inr (3, [.ref q13, .ref (f47 0), .ref (f47 1), .ref (f47 2), .int 0])), ((f47 0), .inl (cI, 60, .inl (fun _ => 0))), ((f47 1), .inl (cI, 60, .inl (fun _ => 0))), ((f47 2), .inl (cI, 60, .inl (fun _ => 0))), (q54, .inr (4, [.ref (f58 0), .ref (f58 1), .ref (f58 2), .int 0])), ((f58 0), .inl (cI, 120, .inl (fun _ => 0))), ((f58 1), .inl (cI, 120, .inl (fun _ => 0))), ((f58 2), .inl (cI, 61, .inl (fun _ => 0)))] H := hP
  have hD : va_D A [(h0, .inr (0, [.ref q7, .ref q13, .ref q24, .ref q39, .ref q54, .null, .null])), (q7, .inl (cI, 8, .inl (fun _ => 0))), (q13, .inr (1, [.ref (f17 0), .ref (f17 1), .ref (f17 2), .ref (f17 3), .ref (f17 4), .ref (f17 5), .int 0, .int 0])), ((f17 0), .inl (cI, 60, .inl (fun _ => 0))), ((f17 1), .inl (cI, 60, .inl (fun _ => 0))), ((f17 2), .inl (cI, 60, .inl (fun _ => 0))), ((f17 3), .inl (cI, 60, .inl (fun _ => 0))), ((f17 4), .inl (cI, 60, .inl (fun _ => 0))), ((f17 5), .inl (cI, 8, .inl (fun _ => 0))), (q24, .inr (2, [.ref q13, .ref (f32 0)])), ((f32 0), .inl (cZ, 60, .inl (fun _ => 0))), (q39, .inr (3, [.ref q13, .ref (f47 0), .ref (f47 1), .ref (f47 2), .int 0])), ((f47 0), .inl (cI, 60, .inl (fun _ => 0))), ((f47 1), .inl (cI, 60, .inl (fun _ => 0))), ((f47 2), .inl (cI, 60, .inl (fun _ => 0))), (q54, .inr (4, [.ref (f58 0), .ref (f58 1), .ref (f58 2), .int 0])), ((f58 0), .inl (cI, 120, .inl (fun _ => 0))), ((f58 1), .inl (cI, 120, .inl (fun _ => 0))), ((f58 2), .inl (cI, 61, .inl (fun _ => 0)))] := hD
  refine lv_aload_n hx hb d_BF_init_64 rfl (lv_at hl 0 rfl) ?_
  have h_1 : 19 ≤ 24 := by decide
  have h_2 : 886 ≤ 1620 := by decide
  refine va_new (ci := 5) (fs := [.null, .null, .null, .null, .null, .null, .null, .int 0, .int 0, .int 0]) (C := R_Co) (T := F_Co) (N := 10) hx hb hts in_Co t_Co t_Co_ok hown (hts _ kC_71) (hts _ kC_72) (hts _ kC_73) hK hP hD hS hA rfl (fun j hj => by rcases (show j = 0 ∨ j = 1 ∨ j = 2 ∨ j = 3 ∨ j = 4 ∨ j = 5 ∨ j = 6 ∨ j = 7 ∨ j = 8 ∨ j = 9 by omega) with rfl | rfl | rfl | rfl | rfl | rfl | rfl | rfl | rfl | rfl <;> rfl) h_1 h_2 d_BF_init_65 (fun q65 H hP hD hS => ?_)
  have hP : va_P D clC [(h0, .inr (0, [.ref q7, .ref q13, .ref q24, .ref q39, .ref q54, .null, .null])), (q7, .inl (cI, 8, .inl (fun _ => 0))), (q13, .inr (1, [.ref (f17 0), .ref (f17 1), .ref (f17 2), .ref (f17 3), .ref (f17 4), .ref (f17 5), .int 0, .int 0])), ((f17 0), .inl (cI, 60, .inl (fun _ => 0))), ((f17 1), .inl (cI, 60, .inl (fun _ => 0))), ((f17 2), .inl (cI, 60, .inl (fun _ => 0))), ((f17 3), .inl (cI, 60, .inl (fun _ => 0))), ((f17 4), .inl (cI, 60, .inl (fun _ => 0))), ((f17 5), .inl (cI, 8, .inl (fun _ => 0))), (q24, .inr (2, [.ref q13, .ref (f32 0)])), ((f32 0), .inl (cZ, 60, .inl (fun _ => 0))), (q39, .inr (3, [.ref q13, .ref (f47 0), .ref (f47 1), .ref (f47 2), .int 0])), ((f47 0), .inl (cI, 60, .inl (fun _ => 0))), ((f47 1), .inl (cI, 60, .inl (fun _ => 0))), ((f47 2), .inl (cI, 60, .inl (fun _ => 0))), (q54, .inr (4, [.ref (f58 0), .ref (f58 1), .ref (f58 2), .int 0])), ((f58 0), .inl (cI, 120, .inl (fun _ => 0))), ((f58 1), .inl (cI, 120, .inl (fun _ => 0))), ((f58 2), .inl (cI, 61, .inl (fun _ => 0))), (q65, .inr (5, [.null, .null, .null, .null, .null, .null, .null, .int 0, .int 0, .int 0]))] H := hP
  have hD : va_D A [(h0, .inr (0, [.ref q7, .ref q13, .ref q24, .ref q39, .ref q54, .null, .null])), (q7, .inl (cI, 8, .inl (fun _ => 0))), (q13, .inr (1, [.ref (f17 0), .ref (f17 1), .ref (f17 2), .ref (f17 3), .ref (f17 4), .ref (f17 5), .int 0, .int 0])), ((f17 0), .inl (cI, 60, .inl (fun _ => 0))), ((f17 1), .inl (cI, 60, .inl (fun _ => 0))), ((f17 2), .inl (cI, 60, .inl (fun _ => 0))), ((f17 3), .inl (cI, 60, .inl (fun _ => 0))), ((f17 4), .inl (cI, 60, .inl (fun _ => 0))), ((f17 5), .inl (cI, 8, .inl (fun _ => 0))), (q24, .inr (2, [.ref q13, .ref (f32 0)])), ((f32 0), .inl (cZ, 60, .inl (fun _ => 0))), (q39, .inr (3, [.ref q13, .ref (f47 0), .ref (f47 1), .ref (f47 2), .int 0])), ((f47 0), .inl (cI, 60, .inl (fun _ => 0))), ((f47 1), .inl (cI, 60, .inl (fun _ => 0))), ((f47 2), .inl (cI, 60, .inl (fun _ => 0))), (q54, .inr (4, [.ref (f58 0), .ref (f58 1), .ref (f58 2), .int 0])), ((f58 0), .inl (cI, 120, .inl (fun _ => 0))), ((f58 1), .inl (cI, 120, .inl (fun _ => 0))), ((f58 2), .inl (cI, 61, .inl (fun _ => 0))), (q65, .inr (5, [.null, .null, .null, .null, .null, .null, .null, .int 0, .int 0, .int 0]))] := hD
  refine W.widen (k := 19) (n := 886) (Nat.le_of_ble_eq_true rfl) (Nat.le_of_ble_eq_true rfl) ?_
  refine lv_dup hx hb d_BF_init_68 rfl ?_
  refine lv_aload_n hx hb d_BF_init_69 rfl (lv_at hl 0 rfl) ?_
  refine va_get (D := D) (ci := 0) (v := .ref q13) (C := R_BF) (T := F_BF) (N := 7) hx hb hts in_BF hown hK hP 0 rfl rfl 1 (by decide) (hts _ kC_53) (fun _ h9 => h9) rfl d_BF_init_70 ?_
  refine lv_aload_n hx hb d_BF_init_73 rfl (lv_at hl 0 rfl) ?_
  refine va_get (D := D) (ci := 0) (v := .ref q39) (C := R_BF) (T := F_BF) (N := 7) hx hb hts in_BF hown hK hP 0 rfl rfl 3 (by decide) (hts _ kC_65) (fun _ h9 => h9) rfl d_BF_init_74 ?_
  refine lv_aload_n hx hb d_BF_init_77 rfl (lv_at hl 0 rfl) ?_
  refine va_get (D := D) (ci := 0) (v := .ref q54) (C := R_BF) (T := F_BF) (N := 7) hx hb hts in_BF hown hK hP 0 rfl rfl 4 (by decide) (hts _ kC_70) (fun _ h9 => h9) rfl d_BF_init_78 ?_
  have hPc := hP.sub (ws' := [(q65, .inr (5, [.null, .null, .null, .null, .null, .null, .null, .int 0, .int 0, .int 0]))]) [19] rfl
  have hDc := hD.sub (ws' := [(q65, .inr (5, [.null, .null, .null, .null, .null, .null, .null, .int 0, .int 0, .int 0]))]) [19] (by decide) rfl
  have hFc := va_free (wc := [(q65, .inr (5, [.null, .null, .null, .null, .null, .null, .null, .int 0, .int 0, .int 0]))]) hD hS hA [19] rfl
  have h_1 : 23 ≤ 24 ∧ 1615 ≤ 1620 := by decide
  refine va_callv (va_runI (As := [.ref q13, .ref q39, .ref q54]) (rest := [.ref q65, .ref h0]) ⟨hx, hb, hml, hown, hts⟩ (ci_Co (l := l) (D := D) (cI := cI) (cZ := cZ) q65 q13 q39 q54 H.size) (⟨callB_of 3 hts (goodC _ (List.forall_mem_cons.mpr ⟨kC_41, fun _ h => h⟩)) rfl rfl rfl (hts _ kC_73) (hts _ kC_74) (by decide +kernel) ⟨Nat.le_of_ble_eq_true rfl, Nat.le_of_ble_eq_true rfl⟩, rfl, hts _ kC_75⟩) ⟨fun a U g mk q => by obtain ⟨q0, q1, qP, qK, qD, qN⟩ := q; exact ⟨q0, q1, qP, va_K.moved (u := U) (U := U.calling g mk a) (Vm.Alike.refl U.vm) qK, qD, nwC_same (s := U) (U := U.calling g mk a) rfl qN⟩, fun U hU hW => ⟨rfl, by rw [hU], by rw [hU]; exact hPc, va_K.moved hW.alike hK, hDc.weaken (fun _ _ _ _ => trivial), nwC_warm hW hN⟩⟩ rfl rfl hl.1 rfl (lv_room (Nat.le_of_ble_eq_true rfl)) d_BF_init_81 h_1) hS (fun q _ h => hFc q h) hFc (fun f81 t H1 locs ht hvm _ hB hz1 hk1 hS => ?_)
  obtain ⟨hP1, hK1, hD1⟩ := hB
  rw [ht] at hP1
  obtain ⟨hP, hD⟩ := va_join (wr := [(h0, .inr (0, [.ref q7, .ref q13, .ref q24, .ref q39, .ref q54, .null, .null])), (q7, .inl (cI, 8, .inl (fun _ => 0))), (q13, .inr (1, [.ref (f17 0), .ref (f17 1), .ref (f17 2), .ref (f17 3), .ref (f17 4), .ref (f17 5), .int 0, .int 0])), ((f17 0), .inl (cI, 60, .inl (fun _ => 0))), ((f17 1), .inl (cI, 60, .inl (fun _ => 0))), ((f17 2), .inl (cI, 60, .inl (fun _ => 0))), ((f17 3), .inl (cI, 60, .inl (fun _ => 0))), ((f17 4), .inl (cI, 60, .inl (fun _ => 0))), ((f17 5), .inl (cI, 8, .inl (fun _ => 0))), (q24, .inr (2, [.ref q13, .ref (f32 0)])), ((f32 0), .inl (cZ, 60, .inl (fun _ => 0))), (q39, .inr (3, [.ref q13, .ref (f47 0), .ref (f47 1), .ref (f47 2), .int 0])), ((f47 0), .inl (cI, 60, .inl (fun _ => 0))), ((f47 1), .inl (cI, 60, .inl (fun _ => 0))), ((f47 2), .inl (cI, 60, .inl (fun _ => 0))), (q54, .inr (4, [.ref (f58 0), .ref (f58 1), .ref (f58 2), .int 0])), ((f58 0), .inl (cI, 120, .inl (fun _ => 0))), ((f58 1), .inl (cI, 120, .inl (fun _ => 0))), ((f58 2), .inl (cI, 61, .inl (fun _ => 0)))]) (w1 := [(q65, .inr (5, [.ref q13, .ref q39, .ref q54, .ref (f81 0), .ref (f81 1), .ref (f81 2), .ref (f81 3), .int 0, .int 0, .int 0])), ((f81 0), .inl (cI, 600, .inl (fun _ => 0))), ((f81 1), .inl (cI, 61, .inl (fun _ => 0))), ((f81 2), .inl (cI, 60, .inl (fun _ => 0))), ((f81 3), .inl (cI, 8, .inl (fun _ => 0)))]) hP hD [19] [0, 1, 2, 3, 4, 5, 6, 7, 8, 9, 10, 11, 12, 13, 14, 15, 16, 17, 18] rfl rfl (by decide) (by decide) hk1 hFc hP1 hD1
  generalize H1 = H at hP hS ⊢
  have hP : va_P D clC [(h0, .inr (0, [.ref q7, .ref q13, .ref q24, .ref q39, .ref q54, .null, .null])), (q7, .inl (cI, 8, .inl (fun _ => 0))), (q13, .inr (1, [.ref (f17 0), .ref (f17 1), .ref (f17 2), .ref (f17 3), .ref (f17 4), .ref (f17 5), .int 0, .int 0])), ((f17 0), .inl (cI, 60, .inl (fun _ => 0))), ((f17 1), .inl (cI, 60, .inl (fun _ => 0))), ((f17 2), .inl (cI, 60, .inl (fun _ => 0))), ((f17 3), .inl (cI, 60, .inl (fun _ => 0))), ((f17 4), .inl (cI, 60, .inl (fun _ => 0))), ((f17 5), .inl (cI, 8, .inl (fun _ => 0))), (q24, .inr (2, [.ref q13, .ref (f32 0)])), ((f32 0), .inl (cZ, 60, .inl (fun _ => 0))), (q39, .inr (3, [.ref q13, .ref (f47 0), .ref (f47 1), .ref (f47 2), .int 0])), ((f47 0), .inl (cI, 60, .inl (fun _ => 0))), ((f47 1), .inl (cI, 60, .inl (fun _ => 0))), ((f47 2), .inl (cI, 60, .inl (fun _ => 0))), (q54, .inr (4, [.ref (f58 0), .ref (f58 1), .ref (f58 2), .int 0])), ((f58 0), .inl (cI, 120, .inl (fun _ => 0))), ((f58 1), .inl (cI, 120, .inl (fun _ => 0))), ((f58 2), .inl (cI, 61, .inl (fun _ => 0))), (q65, .inr (5, [.ref q13, .ref q39, .ref q54, .ref (f81 0), .ref (f81 1), .ref (f81 2), .ref (f81 3), .int 0, .int 0, .int 0])), ((f81 0), .inl (cI, 600, .inl (fun _ => 0))), ((f81 1), .inl (cI, 61, .inl (fun _ => 0))), ((f81 2), .inl (cI, 60, .inl (fun _ => 0))), ((f81 3), .inl (cI, 8, .inl (fun _ => 0)))] H := hP
  have hD : va_D A [(h0, .inr (0, [.ref q7, .ref q13, .ref q24, .ref q39, .ref q54, .null, .null])), (q7, .inl (cI, 8, .inl (fun _ => 0))), (q13, .inr (1, [.ref (f17 0), .ref (f17 1), .ref (f17 2), .ref (f17 3), .ref (f17 4), .ref (f17 5), .int 0, .int 0])), ((f17 0), .inl (cI, 60, .inl (fun _ => 0))), ((f17 1), .inl (cI, 60, .inl (fun _ => 0))), ((f17 2), .inl (cI, 60, .inl (fun _ => 0))), ((f17 3), .inl (cI, 60, .inl (fun _ => 0))), ((f17 4), .inl (cI, 60, .inl (fun _ => 0))), ((f17 5), .inl (cI, 8, .inl (fun _ => 0))), (q24, .inr (2, [.ref q13, .ref (f32 0)])), ((f32 0), .inl (cZ, 60, .inl (fun _ => 0))), (q39, .inr (3, [.ref q13, .ref (f47 0), .ref (f47 1), .ref (f47 2), .int 0])), ((f47 0), .inl (cI, 60, .inl (fun _ => 0))), ((f47 1), .inl (cI, 60, .inl (fun _ => 0))), ((f47 2), .inl (cI, 60, .inl (fun _ => 0))), (q54, .inr (4, [.ref (f58 0), .ref (f58 1), .ref (f58 2), .int 0])), ((f58 0), .inl (cI, 120, .inl (fun _ => 0))), ((f58 1), .inl (cI, 120, .inl (fun _ => 0))), ((f58 2), .inl (cI, 61, .inl (fun _ => 0))), (q65, .inr (5, [.ref q13, .ref q39, .ref q54, .ref (f81 0), .ref (f81 1), .ref (f81 2), .ref (f81 3), .int 0, .int 0, .int 0])), ((f81 0), .inl (cI, 600, .inl (fun _ => 0))), ((f81 1), .inl (cI, 61, .inl (fun _ => 0))), ((f81 2), .inl (cI, 60, .inl (fun _ => 0))), ((f81 3), .inl (cI, 8, .inl (fun _ => 0)))] := hD
  refine W.widen (k := 23) (n := 1615) (Nat.le_of_ble_eq_true rfl) (Nat.le_of_ble_eq_true rfl) ?_
  refine va_putF (D := D) (ci := 0) (v := .ref q65) (ty := .object "BranchForge$Code") (C := R_BF) (T := F_BF) (N := 7) hx hb hts in_BF t_BF t_BF_ok n_BF hown hK hP hD hS 0 rfl rfl 5 (by decide) (hts _ kC_76) (fun _ h9 => h9) rfl hin rfl (by decide +kernel) rfl rfl (Nat.le_of_ble_eq_true rfl) d_BF_init_84 (fun H locs hP hD hS => ?_)
  have hP : va_P D clC [(h0, .inr (0, [.ref q7, .ref q13, .ref q24, .ref q39, .ref q54, .ref q65, .null])), (q7, .inl (cI, 8, .inl (fun _ => 0))), (q13, .inr (1, [.ref (f17 0), .ref (f17 1), .ref (f17 2), .ref (f17 3), .ref (f17 4), .ref (f17 5), .int 0, .int 0])), ((f17 0), .inl (cI, 60, .inl (fun _ => 0))), ((f17 1), .inl (cI, 60, .inl (fun _ => 0))), ((f17 2), .inl (cI, 60, .inl (fun _ => 0))), ((f17 3), .inl (cI, 60, .inl (fun _ => 0))), ((f17 4), .inl (cI, 60, .inl (fun _ => 0))), ((f17 5), .inl (cI, 8, .inl (fun _ => 0))), (q24, .inr (2, [.ref q13, .ref (f32 0)])), ((f32 0), .inl (cZ, 60, .inl (fun _ => 0))), (q39, .inr (3, [.ref q13, .ref (f47 0), .ref (f47 1), .ref (f47 2), .int 0])), ((f47 0), .inl (cI, 60, .inl (fun _ => 0))), ((f47 1), .inl (cI, 60, .inl (fun _ => 0))), ((f47 2), .inl (cI, 60, .inl (fun _ => 0))), (q54, .inr (4, [.ref (f58 0), .ref (f58 1), .ref (f58 2), .int 0])), ((f58 0), .inl (cI, 120, .inl (fun _ => 0))), ((f58 1), .inl (cI, 120, .inl (fun _ => 0))), ((f58 2), .inl (cI, 61, .inl (fun _ => 0))), (q65, .inr (5, [.ref q13, .ref q39, .ref q54, .ref (f81 0), .ref (f81 1), .ref (f81 2), .ref (f81 3), .int 0, .int 0, .int 0])), ((f81 0), .inl (cI, 600, .inl (fun _ => 0))), ((f81 1), .inl (cI, 61, .inl (fun _ => 0))), ((f81 2), .inl (cI, 60, .inl (fun _ => 0))), ((f81 3), .inl (cI, 8, .inl (fun _ => 0)))] H := hP
  have hD : va_D A [(h0, .inr (0, [.ref q7, .ref q13, .ref q24, .ref q39, .ref q54, .ref q65, .null])), (q7, .inl (cI, 8, .inl (fun _ => 0))), (q13, .inr (1, [.ref (f17 0), .ref (f17 1), .ref (f17 2), .ref (f17 3), .ref (f17 4), .ref (f17 5), .int 0, .int 0])), ((f17 0), .inl (cI, 60, .inl (fun _ => 0))), ((f17 1), .inl (cI, 60, .inl (fun _ => 0))), ((f17 2), .inl (cI, 60, .inl (fun _ => 0))), ((f17 3), .inl (cI, 60, .inl (fun _ => 0))), ((f17 4), .inl (cI, 60, .inl (fun _ => 0))), ((f17 5), .inl (cI, 8, .inl (fun _ => 0))), (q24, .inr (2, [.ref q13, .ref (f32 0)])), ((f32 0), .inl (cZ, 60, .inl (fun _ => 0))), (q39, .inr (3, [.ref q13, .ref (f47 0), .ref (f47 1), .ref (f47 2), .int 0])), ((f47 0), .inl (cI, 60, .inl (fun _ => 0))), ((f47 1), .inl (cI, 60, .inl (fun _ => 0))), ((f47 2), .inl (cI, 60, .inl (fun _ => 0))), (q54, .inr (4, [.ref (f58 0), .ref (f58 1), .ref (f58 2), .int 0])), ((f58 0), .inl (cI, 120, .inl (fun _ => 0))), ((f58 1), .inl (cI, 120, .inl (fun _ => 0))), ((f58 2), .inl (cI, 61, .inl (fun _ => 0))), (q65, .inr (5, [.ref q13, .ref q39, .ref q54, .ref (f81 0), .ref (f81 1), .ref (f81 2), .ref (f81 3), .int 0, .int 0, .int 0])), ((f81 0), .inl (cI, 600, .inl (fun _ => 0))), ((f81 1), .inl (cI, 61, .inl (fun _ => 0))), ((f81 2), .inl (cI, 60, .inl (fun _ => 0))), ((f81 3), .inl (cI, 8, .inl (fun _ => 0)))] := hD
  refine lv_aload_n hx hb d_BF_init_87 rfl (lv_at hl 0 rfl) ?_
  have h_1 : 24 ≤ 24 := by decide
  have h_2 : 1620 ≤ 1620 := by decide
  refine va_new (ci := 6) (fs := [.null, .null, .null, .int 0, .int 0]) (C := R_Ma) (T := F_Ma) (N := 5) hx hb hts in_Ma t_Ma t_Ma_ok hown (hts _ kC_77) (hts _ kC_78) (hts _ kC_79) hK hP hD hS hA rfl (fun j hj => by rcases (show j = 0 ∨ j = 1 ∨ j = 2 ∨ j = 3 ∨ j = 4 by omega) with rfl | rfl | rfl | rfl | rfl <;> rfl) h_1 h_2 d_BF_init_88 (fun q88 H hP hD hS => ?_)
  have hP : va_P D clC [(h0, .inr (0, [.ref q7, .ref q13, .ref q24, .ref q39, .ref q54, .ref q65, .null])), (q7, .inl (cI, 8, .inl (fun _ => 0))), (q13, .inr (1, [.ref (f17 0), .ref (f17 1), .ref (f17 2), .ref (f17 3), .ref (f17 4), .ref (f17 5), .int 0, .int 0])), ((f17 0), .inl (cI, 60, .inl (fun _ => 0))), ((f17 1), .inl (cI, 60, .inl (fun _ => 0))), ((f17 2), .inl (cI, 60, .inl (fun _ => 0))), ((f17 3), .inl (cI, 60, .inl (fun _ => 0))), ((f17 4), .inl (cI, 60, .inl (fun _ => 0))), ((f17 5), .inl (cI, 8, .inl (fun _ => 0))), (q24, .inr (2, [.ref q13, .ref (f32 0)])), ((f32 0), .inl (cZ, 60, .inl (fun _ => 0))), (q39, .inr (3, [.ref q13, .ref (f47 0), .ref (f47 1), .ref (f47 2), .int 0])), ((f47 0), .inl (cI, 60, .inl (fun _ => 0))), ((f47 1), .inl (cI, 60, .inl (fun _ => 0))), ((f47 2), .inl (cI, 60, .inl (fun _ => 0))), (q54, .inr (4, [.ref (f58 0), .ref (f58 1), .ref (f58 2), .int 0])), ((f58 0), .inl (cI, 120, .inl (fun _ => 0))), ((f58 1), .inl (cI, 120, .inl (fun _ => 0))), ((f58 2), .inl (cI, 61, .inl (fun _ => 0))), (q65, .inr (5, [.ref q13, .ref q39, .ref q54, .ref (f81 0), .ref (f81 1), .ref (f81 2), .ref (f81 3), .int 0, .int 0, .int 0])), ((f81 0), .inl (cI, 600, .inl (fun _ => 0))), ((f81 1), .inl (cI, 61, .inl (fun _ => 0))), ((f81 2), .inl (cI, 60, .inl (fun _ => 0))), ((f81 3), .inl (cI, 8, .inl (fun _ => 0))), (q88, .inr (6, [.null, .null, .null, .int 0, .int 0]))] H := hP
  have hD : va_D A [(h0, .inr (0, [.ref q7, .ref q13, .ref q24, .ref q39, .ref q54, .ref q65, .null])), (q7, .inl (cI, 8, .inl (fun _ => 0))), (q13, .inr (1, [.ref (f17 0), .ref (f17 1), .ref (f17 2), .ref (f17 3), .ref (f17 4), .ref (f17 5), .int 0, .int 0])), ((f17 0), .inl (cI, 60, .inl (fun _ => 0))), ((f17 1), .inl (cI, 60, .inl (fun _ => 0))), ((f17 2), .inl (cI, 60, .inl (fun _ => 0))), ((f17 3), .inl (cI, 60, .inl (fun _ => 0))), ((f17 4), .inl (cI, 60, .inl (fun _ => 0))), ((f17 5), .inl (cI, 8, .inl (fun _ => 0))), (q24, .inr (2, [.ref q13, .ref (f32 0)])), ((f32 0), .inl (cZ, 60, .inl (fun _ => 0))), (q39, .inr (3, [.ref q13, .ref (f47 0), .ref (f47 1), .ref (f47 2), .int 0])), ((f47 0), .inl (cI, 60, .inl (fun _ => 0))), ((f47 1), .inl (cI, 60, .inl (fun _ => 0))), ((f47 2), .inl (cI, 60, .inl (fun _ => 0))), (q54, .inr (4, [.ref (f58 0), .ref (f58 1), .ref (f58 2), .int 0])), ((f58 0), .inl (cI, 120, .inl (fun _ => 0))), ((f58 1), .inl (cI, 120, .inl (fun _ => 0))), ((f58 2), .inl (cI, 61, .inl (fun _ => 0))), (q65, .inr (5, [.ref q13, .ref q39, .ref q54, .ref (f81 0), .ref (f81 1), .ref (f81 2), .ref (f81 3), .int 0, .int 0, .int 0])), ((f81 0), .inl (cI, 600, .inl (fun _ => 0))), ((f81 1), .inl (cI, 61, .inl (fun _ => 0))), ((f81 2), .inl (cI, 60, .inl (fun _ => 0))), ((f81 3), .inl (cI, 8, .inl (fun _ => 0))), (q88, .inr (6, [.null, .null, .null, .int 0, .int 0]))] := hD
  refine W.widen (k := 24) (n := 1620) (Nat.le_of_ble_eq_true rfl) (Nat.le_of_ble_eq_true rfl) ?_
  refine lv_dup hx hb d_BF_init_91 rfl ?_
  refine lv_aload_n hx hb d_BF_init_92 rfl (lv_at hl 0 rfl) ?_
  refine va_get (D := D) (ci := 0) (v := .ref q65) (C := R_BF) (T := F_BF) (N := 7) hx hb hts in_BF hown hK hP 0 rfl rfl 5 (by decide) (hts _ kC_76) (fun _ h9 => h9) rfl d_BF_init_93 ?_
  refine lv_aload_n hx hb d_BF_init_96 rfl (lv_at hl 0 rfl) ?_
  refine va_get (D := D) (ci := 0) (v := .ref q54) (C := R_BF) (T := F_BF) (N := 7) hx hb hts in_BF hown hK hP 0 rfl rfl 4 (by decide) (hts _ kC_70) (fun _ h9 => h9) rfl d_BF_init_97 ?_
  refine lv_aload_n hx hb d_BF_init_100 rfl (lv_at hl 0 rfl) ?_
  refine va_get (D := D) (ci := 0) (v := .ref q7) (C := R_BF) (T := F_BF) (N := 7) hx hb hts in_BF hown hK hP 0 rfl rfl 0 (by decide) (hts _ kC_48) (fun _ h9 => h9) rfl d_BF_init_101 ?_
  have hPc := hP.sub (ws' := [(q88, .inr (6, [.null, .null, .null, .int 0, .int 0]))]) [24] rfl
  have hDc := hD.sub (ws' := [(q88, .inr (6, [.null, .null, .null, .int 0, .int 0]))]) [24] (by decide) rfl
  have hFc := va_free (wc := [(q88, .inr (6, [.null, .null, .null, .int 0, .int 0]))]) hD hS hA [24] rfl
  have h_1 : 24 ≤ 24 ∧ 1620 ≤ 1620 := by decide
  refine va_callv (va_runI (As := [.ref q65, .ref q54, .ref q7]) (rest := [.ref q88, .ref h0]) ⟨hx, hb, hml, hown, hts⟩ (ci_Ma (l := l) (D := D) (cI := cI) (cZ := cZ) q88 q65 q54 q7 H.size) (⟨callB_of 3 hts (goodC _ (List.forall_mem_cons.mpr ⟨kC_46, fun _ h => h⟩)) rfl rfl rfl (hts _ kC_79) (hts _ kC_80) (by decide +kernel) ⟨Nat.le_of_ble_eq_true rfl, Nat.le_of_ble_eq_true rfl⟩, rfl, hts _ kC_81⟩) ⟨fun a U g mk q => by obtain ⟨q0, q1, qP, qK, qD, qN⟩ := q; exact ⟨q0, q1, qP, va_K.moved (u := U) (U := U.calling g mk a) (Vm.Alike.refl U.vm) qK, qD, nwC_same (s := U) (U := U.calling g mk a) rfl qN⟩, fun U hU hW => ⟨rfl, by rw [hU], by rw [hU]; exact hPc, va_K.moved hW.alike hK, hDc.weaken (fun _ _ _ _ => trivial), nwC_warm hW hN⟩⟩ rfl rfl hl.1 rfl (lv_room (Nat.le_of_ble_eq_true rfl)) d_BF_init_104 h_1) hS (fun q _ h => hFc q h) hFc (fun f104 t H1 locs ht hvm _ hB hz1 hk1 hS => ?_)
  obtain ⟨hP1, hK1, hD1⟩ := hB
  rw [ht] at hP1
  obtain ⟨hP, hD⟩ := va_join (wr := [(h0, .inr (0, [.ref q7, .ref q13, .ref q24, .ref q39, .ref q54, .ref q65, .null])), (q7, .inl (cI, 8, .inl (fun _ => 0))), (q13, .inr (1, [.ref (f17 0), .ref (f17 1), .ref (f17 2), .ref (f17 3), .ref (f17 4), .ref (f17 5), .int 0, .int 0])), ((f17 0), .inl (cI, 60, .inl (fun _ => 0))), ((f17 1), .inl (cI, 60, .inl (fun _ => 0))), ((f17 2), .inl (cI, 60, .inl (fun _ => 0))), ((f17 3), .inl (cI, 60, .inl (fun _ => 0))), ((f17 4), .inl (cI, 60, .inl (fun _ => 0))), ((f17 5), .inl (cI, 8, .inl (fun _ => 0))), (q24, .inr (2, [.ref q13, .ref (f32 0)])), ((f32 0), .inl (cZ, 60, .inl (fun _ => 0))), (q39, .inr (3, [.ref q13, .ref (f47 0), .ref (f47 1), .ref (f47 2), .int 0])), ((f47 0), .inl (cI, 60, .inl (fun _ => 0))), ((f47 1), .inl (cI, 60, .inl (fun _ => 0))), ((f47 2), .inl (cI, 60, .inl (fun _ => 0))), (q54, .inr (4, [.ref (f58 0), .ref (f58 1), .ref (f58 2), .int 0])), ((f58 0), .inl (cI, 120, .inl (fun _ => 0))), ((f58 1), .inl (cI, 120, .inl (fun _ => 0))), ((f58 2), .inl (cI, 61, .inl (fun _ => 0))), (q65, .inr (5, [.ref q13, .ref q39, .ref q54, .ref (f81 0), .ref (f81 1), .ref (f81 2), .ref (f81 3), .int 0, .int 0, .int 0])), ((f81 0), .inl (cI, 600, .inl (fun _ => 0))), ((f81 1), .inl (cI, 61, .inl (fun _ => 0))), ((f81 2), .inl (cI, 60, .inl (fun _ => 0))), ((f81 3), .inl (cI, 8, .inl (fun _ => 0)))]) (w1 := [(q88, .inr (6, [.ref q65, .ref q54, .ref q7, .int 0, .int 0]))]) hP hD [24] [0, 1, 2, 3, 4, 5, 6, 7, 8, 9, 10, 11, 12, 13, 14, 15, 16, 17, 18, 19, 20, 21, 22, 23] rfl rfl (by decide) (by decide) hk1 hFc hP1 hD1
  generalize H1 = H at hP hS ⊢
  have hP : va_P D clC [(h0, .inr (0, [.ref q7, .ref q13, .ref q24, .ref q39, .ref q54, .ref q65, .null])), (q7, .inl (cI, 8, .inl (fun _ => 0))), (q13, .inr (1, [.ref (f17 0), .ref (f17 1), .ref (f17 2), .ref (f17 3), .ref (f17 4), .ref (f17 5), .int 0, .int 0])), ((f17 0), .inl (cI, 60, .inl (fun _ => 0))), ((f17 1), .inl (cI, 60, .inl (fun _ => 0))), ((f17 2), .inl (cI, 60, .inl (fun _ => 0))), ((f17 3), .inl (cI, 60, .inl (fun _ => 0))), ((f17 4), .inl (cI, 60, .inl (fun _ => 0))), ((f17 5), .inl (cI, 8, .inl (fun _ => 0))), (q24, .inr (2, [.ref q13, .ref (f32 0)])), ((f32 0), .inl (cZ, 60, .inl (fun _ => 0))), (q39, .inr (3, [.ref q13, .ref (f47 0), .ref (f47 1), .ref (f47 2), .int 0])), ((f47 0), .inl (cI, 60, .inl (fun _ => 0))), ((f47 1), .inl (cI, 60, .inl (fun _ => 0))), ((f47 2), .inl (cI, 60, .inl (fun _ => 0))), (q54, .inr (4, [.ref (f58 0), .ref (f58 1), .ref (f58 2), .int 0])), ((f58 0), .inl (cI, 120, .inl (fun _ => 0))), ((f58 1), .inl (cI, 120, .inl (fun _ => 0))), ((f58 2), .inl (cI, 61, .inl (fun _ => 0))), (q65, .inr (5, [.ref q13, .ref q39, .ref q54, .ref (f81 0), .ref (f81 1), .ref (f81 2), .ref (f81 3), .int 0, .int 0, .int 0])), ((f81 0), .inl (cI, 600, .inl (fun _ => 0))), ((f81 1), .inl (cI, 61, .inl (fun _ => 0))), ((f81 2), .inl (cI, 60, .inl (fun _ => 0))), ((f81 3), .inl (cI, 8, .inl (fun _ => 0))), (q88, .inr (6, [.ref q65, .ref q54, .ref q7, .int 0, .int 0]))] H := hP
  have hD : va_D A [(h0, .inr (0, [.ref q7, .ref q13, .ref q24, .ref q39, .ref q54, .ref q65, .null])), (q7, .inl (cI, 8, .inl (fun _ => 0))), (q13, .inr (1, [.ref (f17 0), .ref (f17 1), .ref (f17 2), .ref (f17 3), .ref (f17 4), .ref (f17 5), .int 0, .int 0])), ((f17 0), .inl (cI, 60, .inl (fun _ => 0))), ((f17 1), .inl (cI, 60, .inl (fun _ => 0))), ((f17 2), .inl (cI, 60, .inl (fun _ => 0))), ((f17 3), .inl (cI, 60, .inl (fun _ => 0))), ((f17 4), .inl (cI, 60, .inl (fun _ => 0))), ((f17 5), .inl (cI, 8, .inl (fun _ => 0))), (q24, .inr (2, [.ref q13, .ref (f32 0)])), ((f32 0), .inl (cZ, 60, .inl (fun _ => 0))), (q39, .inr (3, [.ref q13, .ref (f47 0), .ref (f47 1), .ref (f47 2), .int 0])), ((f47 0), .inl (cI, 60, .inl (fun _ => 0))), ((f47 1), .inl (cI, 60, .inl (fun _ => 0))), ((f47 2), .inl (cI, 60, .inl (fun _ => 0))), (q54, .inr (4, [.ref (f58 0), .ref (f58 1), .ref (f58 2), .int 0])), ((f58 0), .inl (cI, 120, .inl (fun _ => 0))), ((f58 1), .inl (cI, 120, .inl (fun _ => 0))), ((f58 2), .inl (cI, 61, .inl (fun _ => 0))), (q65, .inr (5, [.ref q13, .ref q39, .ref q54, .ref (f81 0), .ref (f81 1), .ref (f81 2), .ref (f81 3), .int 0, .int 0, .int 0])), ((f81 0), .inl (cI, 600, .inl (fun _ => 0))), ((f81 1), .inl (cI, 61, .inl (fun _ => 0))), ((f81 2), .inl (cI, 60, .inl (fun _ => 0))), ((f81 3), .inl (cI, 8, .inl (fun _ => 0))), (q88, .inr (6, [.ref q65, .ref q54, .ref q7, .int 0, .int 0]))] := hD
  refine W.widen (k := 24) (n := 1620) (Nat.le_of_ble_eq_true rfl) (Nat.le_of_ble_eq_true rfl) ?_
  refine va_putF (D := D) (ci := 0) (v := .ref q88) (ty := .object "BranchForge$Machine") (C := R_BF) (T := F_BF) (N := 7) hx hb hts in_BF t_BF t_BF_ok n_BF hown hK hP hD hS 0 rfl rfl 6 (by decide) (hts _ kC_82) (fun _ h9 => h9) rfl hin rfl (by decide +kernel) rfl rfl (Nat.le_of_ble_eq_true rfl) d_BF_init_107 (fun H locs hP hD hS => ?_)
  have hP : va_P D clC [(h0, .inr (0, [.ref q7, .ref q13, .ref q24, .ref q39, .ref q54, .ref q65, .ref q88])), (q7, .inl (cI, 8, .inl (fun _ => 0))), (q13, .inr (1, [.ref (f17 0), .ref (f17 1), .ref (f17 2), .ref (f17 3), .ref (f17 4), .ref (f17 5), .int 0, .int 0])), ((f17 0), .inl (cI, 60, .inl (fun _ => 0))), ((f17 1), .inl (cI, 60, .inl (fun _ => 0))), ((f17 2), .inl (cI, 60, .inl (fun _ => 0))), ((f17 3), .inl (cI, 60, .inl (fun _ => 0))), ((f17 4), .inl (cI, 60, .inl (fun _ => 0))), ((f17 5), .inl (cI, 8, .inl (fun _ => 0))), (q24, .inr (2, [.ref q13, .ref (f32 0)])), ((f32 0), .inl (cZ, 60, .inl (fun _ => 0))), (q39, .inr (3, [.ref q13, .ref (f47 0), .ref (f47 1), .ref (f47 2), .int 0])), ((f47 0), .inl (cI, 60, .inl (fun _ => 0))), ((f47 1), .inl (cI, 60, .inl (fun _ => 0))), ((f47 2), .inl (cI, 60, .inl (fun _ => 0))), (q54, .inr (4, [.ref (f58 0), .ref (f58 1), .ref (f58 2), .int 0])), ((f58 0), .inl (cI, 120, .inl (fun _ => 0))), ((f58 1), .inl (cI, 120, .inl (fun _ => 0))), ((f58 2), .inl (cI, 61, .inl (fun _ => 0))), (q65, .inr (5, [.ref q13, .ref q39, .ref q54, .ref (f81 0), .ref (f81 1), .ref (f81 2), .ref (f81 3), .int 0, .int 0, .int 0])), ((f81 0), .inl (cI, 600, .inl (fun _ => 0))), ((f81 1), .inl (cI, 61, .inl (fun _ => 0))), ((f81 2), .inl (cI, 60, .inl (fun _ => 0))), ((f81 3), .inl (cI, 8, .inl (fun _ => 0))), (q88, .inr (6, [.ref q65, .ref q54, .ref q7, .int 0, .int 0]))] H := hP
  have hD : va_D A [(h0, .inr (0, [.ref q7, .ref q13, .ref q24, .ref q39, .ref q54, .ref q65, .ref q88])), (q7, .inl (cI, 8, .inl (fun _ => 0))), (q13, .inr (1, [.ref (f17 0), .ref (f17 1), .ref (f17 2), .ref (f17 3), .ref (f17 4), .ref (f17 5), .int 0, .int 0])), ((f17 0), .inl (cI, 60, .inl (fun _ => 0))), ((f17 1), .inl (cI, 60, .inl (fun _ => 0))), ((f17 2), .inl (cI, 60, .inl (fun _ => 0))), ((f17 3), .inl (cI, 60, .inl (fun _ => 0))), ((f17 4), .inl (cI, 60, .inl (fun _ => 0))), ((f17 5), .inl (cI, 8, .inl (fun _ => 0))), (q24, .inr (2, [.ref q13, .ref (f32 0)])), ((f32 0), .inl (cZ, 60, .inl (fun _ => 0))), (q39, .inr (3, [.ref q13, .ref (f47 0), .ref (f47 1), .ref (f47 2), .int 0])), ((f47 0), .inl (cI, 60, .inl (fun _ => 0))), ((f47 1), .inl (cI, 60, .inl (fun _ => 0))), ((f47 2), .inl (cI, 60, .inl (fun _ => 0))), (q54, .inr (4, [.ref (f58 0), .ref (f58 1), .ref (f58 2), .int 0])), ((f58 0), .inl (cI, 120, .inl (fun _ => 0))), ((f58 1), .inl (cI, 120, .inl (fun _ => 0))), ((f58 2), .inl (cI, 61, .inl (fun _ => 0))), (q65, .inr (5, [.ref q13, .ref q39, .ref q54, .ref (f81 0), .ref (f81 1), .ref (f81 2), .ref (f81 3), .int 0, .int 0, .int 0])), ((f81 0), .inl (cI, 600, .inl (fun _ => 0))), ((f81 1), .inl (cI, 61, .inl (fun _ => 0))), ((f81 2), .inl (cI, 60, .inl (fun _ => 0))), ((f81 3), .inl (cI, 8, .inl (fun _ => 0))), (q88, .inr (6, [.ref q65, .ref q54, .ref q7, .int 0, .int 0]))] := hD
  have hP9 := hP.sub (ws' := gwC cI cZ (fun k => ([h0, q7, q13, (f17 0), (f17 1), (f17 2), (f17 3), (f17 4), (f17 5), q24, (f32 0), q39, (f47 0), (f47 1), (f47 2), q54, (f58 0), (f58 1), (f58 2), q65, (f81 0), (f81 1), (f81 2), (f81 3), q88] : List Nat).getD k 0) (fun _ _ => 0)) [0, 1, 2, 3, 4, 5, 6, 7, 8, 9, 10, 11, 12, 13, 14, 15, 16, 17, 18, 19, 20, 21, 22, 23, 24] rfl
  have hD9 := hD.sub (ws' := gwC cI cZ (fun k => ([h0, q7, q13, (f17 0), (f17 1), (f17 2), (f17 3), (f17 4), (f17 5), q24, (f32 0), q39, (f47 0), (f47 1), (f47 2), q54, (f58 0), (f58 1), (f58 2), q65, (f81 0), (f81 1), (f81 2), (f81 3), q88] : List Nat).getD k 0) (fun _ _ => 0)) [0, 1, 2, 3, 4, 5, 6, 7, 8, 9, 10, 11, 12, 13, 14, 15, 16, 17, 18, 19, 20, 21, 22, 23, 24] (by decide) rfl
  exact W.vret hx hb hr (fun t ht hW => ⟨⟨(fun k => ([h0, q7, q13, (f17 0), (f17 1), (f17 2), (f17 3), (f17 4), (f17 5), q24, (f32 0), q39, (f47 0), (f47 1), (f47 2), q54, (f58 0), (f58 1), (f58 2), q65, (f81 0), (f81 1), (f81 2), (f81 3), q88] : List Nat).getD k 0), rfl, rfl, by rw [ht]; exact hP9, va_K.moved hW.alike hK, hD9⟩, hS.F ht⟩) hS.2.2 d_BF_init_110
