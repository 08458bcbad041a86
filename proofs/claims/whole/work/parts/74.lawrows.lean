theorem lg_self (x : Int64) : lg_cmp x x = 0 := by
  unfold lg_cmp
  rw [if_neg (show ¬ x > x from Int64.lt_irrefl), if_pos rfl]
/-- the law's world: the class's and the reference's side by side -/
def lwd (DC DM : va_G) (cI cZ : ClassId) (aC aM : Nat → Nat) (A : Nat → Prop) (H0 : Heap) (gc gm : St) (H : Heap) (locs : List Loc) : Prop :=
  wdC DC cI cZ aC A H0 gc H locs ∧ wdM DM cI cZ aM A H0 gm H locs ∧ ∀ i j : Nat, i < 25 → j < 21 → aC i ≠ aM j
theorem gwC_ad {cI cZ : ClassId} {ad : Nat → Nat} {g : St} {k : Nat} {q : Nat × va_E} (h : (gwC cI cZ ad g)[k]? = some q) : k < 25 ∧ q.1 = ad k := by
  have h1 : ((gwC cI cZ ad g).map Prod.fst)[k]? = some q.1 := by rw [List.getElem?_map, h]; rfl
  rw [show (gwC cI cZ ad g).map Prod.fst = (List.range 25).map ad from rfl, List.getElem?_map] at h1
  cases hr : (List.range 25)[k]? with
  | none => rw [hr] at h1; cases h1
  | some z =>
    rw [hr] at h1
    obtain ⟨hk, hz⟩ := List.getElem?_eq_some_iff.mp hr
    rw [List.getElem_range] at hz
    rw [List.length_range] at hk
    exact ⟨hk, by rw [hz]; exact (Option.some.inj h1).symm⟩
theorem gwM_ad {cI cZ : ClassId} {ad : Nat → Nat} {g : St} {k : Nat} {q : Nat × va_E} (h : (gwM cI cZ ad g)[k]? = some q) : k < 21 ∧ q.1 = ad k := by
  have h1 : ((gwM cI cZ ad g).map Prod.fst)[k]? = some q.1 := by rw [List.getElem?_map, h]; rfl
  rw [show (gwM cI cZ ad g).map Prod.fst = (List.range 21).map ad from rfl, List.getElem?_map] at h1
  cases hr : (List.range 21)[k]? with
  | none => rw [hr] at h1; cases h1
  | some z =>
    rw [hr] at h1
    obtain ⟨hk, hz⟩ := List.getElem?_eq_some_iff.mp hr
    rw [List.getElem_range] at hz
    rw [List.length_range] at hk
    exact ⟨hk, by rw [hz]; exact (Option.some.inj h1).symm⟩
/-- what is fixed in the law -/
def lfx (DC DM : va_G) (cI cZ : ClassId) (p : Program) (s : State) (m : MethodId) (c : Code) (b L : Nat) (xs : Nat → Int32) : Prop :=
  p.tables.exec = Jvm.exec ∧ c.code = code ∧ c.maxLocals = 4 ∧ s.vm.findClass R_law = some m.cls ∧ (∀ w ∈ lw_tbl, w.before #[Value.ref b] s = true) ∧ va_X b L xs s s.heap ∧ b < s.heap.size ∧ va_K DC clC [(cI, .int), (cZ, .boolean)] s ∧ va_K DM clM [(cI, .int), (cZ, .boolean)] s ∧ nwC s ∧ nwM s
theorem goodLC (c0 : Cond) (h : c0 ∈ wGC) : GoodIn lw_tbl (c0 :: wGC) := fun w hw => by
  have h2 : w ∈ wGC := by
    rcases List.mem_cons.mp hw with rfl | h'
    · exact h
    · exact h'
  exact ⟨subC w h2, good_of_word (goodwC w h2)⟩
theorem goodLM (c0 : Cond) (h : c0 ∈ wGM) : GoodIn lw_tbl (c0 :: wGM) := fun w hw => by
  have h2 : w ∈ wGM := by
    rcases List.mem_cons.mp hw with rfl | h'
    · exact h
    · exact h'
  exact ⟨subM w h2, good_of_word (goodwM w h2)⟩
section LAWR
variable {p : Program} {l : Launch} {e : Env} {R : Room} {s : State} {m : MethodId} {args : Array Value} {below : List Frame} {meth : Method} {c : Code} {H : Heap} {locs : List Loc} {Q : State → Prop} {cells slots : Nat}
variable {DC DM : va_G} {cI cZ : ClassId} {aC aM : Nat → Nat} {A : Nat → Prop} {H0 : Heap} {pc : Nat} {ls : Array Slot} {rest : List Value} {gc gm : St} {b L : Nat} {xs : Nat → Int32}
theorem alC_I {K : Int32 → St → Prop} {a : Array Value} {st0 : List Value} (hlw : lwd DC DM cI cZ aC aM A H0 gc gm H locs) (hr : va_Run p l e R s m args below meth c H locs cells slots 0 0 (F0 m pc ls st0) rest (va_Qi K (bwC DC cI cZ aC gc H.size) (va_A (gwC cI cZ aC gc) H.size) a) (va_A (gwC cI cZ aC gc) H.size))
    (kk : ∀ (r : Int32) (g' : St) (H' : Heap) (locs' : List Loc), K r g' → lwd DC DM cI cZ aC aM A H0 g' gm H' locs' → W p l e R s m args below meth c H' locs' cells slots Q (F0 m (pc + 3) ls (.int r :: rest))) : W p l e R s m args below meth c H locs cells slots Q (F0 m pc ls st0) := by
  obtain ⟨hC, hM, hd⟩ := hlw
  have hfc := wdC_free hC
  obtain ⟨hP, hD, hS, hA⟩ := hC
  obtain ⟨hPo, hDo, -, -⟩ := hM
  refine va_calli hr hS (fun q _ h => hfc q h) hfc (fun r u t H1 locs1 ht hvm hw hB hz1 hk1 hS1 => ?_)
  obtain ⟨hP1, hK1, hD1⟩ := hB
  rw [ht] at hP1
  have hPo1 : va_P DM clM (gwM cI cZ aM gm) H1 := hPo.kept (fun k q hq => hk1 q.1 (hPo k q hq).lt (fun hz => by
    rcases hz with ⟨k2, e2, h2⟩ | h2
    · obtain ⟨b1, b2⟩ := gwM_ad hq
      obtain ⟨b3, b4⟩ := gwC_ad h2
      exact hd k2 k b3 b1 (b4.symm.trans b2)
    · exact absurd (hPo k q hq).lt (Nat.not_lt.mpr h2)))
  exact kk r u H1 locs1 hw ⟨⟨hP1, hD1.weaken (fun _ _ _ h => hfc _ h), hS1, hA⟩, ⟨hPo1, hDo, hS1, hA⟩, hd⟩
theorem alC_J {K : Int64 → St → Prop} {a : Array Value} {st0 : List Value} (hlw : lwd DC DM cI cZ aC aM A H0 gc gm H locs) (hr : va_Run p l e R s m args below meth c H locs cells slots 0 0 (F0 m pc ls st0) rest (va_Ql K (bwC DC cI cZ aC gc H.size) (va_A (gwC cI cZ aC gc) H.size) a) (va_A (gwC cI cZ aC gc) H.size))
    (kk : ∀ (r : Int64) (g' : St) (H' : Heap) (locs' : List Loc), K r g' → lwd DC DM cI cZ aC aM A H0 g' gm H' locs' → W p l e R s m args below meth c H' locs' cells slots Q (F0 m (pc + 3) ls (.long r :: rest))) : W p l e R s m args below meth c H locs cells slots Q (F0 m pc ls st0) := by
  obtain ⟨hC, hM, hd⟩ := hlw
  have hfc := wdC_free hC
  obtain ⟨hP, hD, hS, hA⟩ := hC
  obtain ⟨hPo, hDo, -, -⟩ := hM
  refine va_calll hr hS (fun q _ h => hfc q h) hfc (fun r u t H1 locs1 ht hvm hw hB hz1 hk1 hS1 => ?_)
  obtain ⟨hP1, hK1, hD1⟩ := hB
  rw [ht] at hP1
  have hPo1 : va_P DM clM (gwM cI cZ aM gm) H1 := hPo.kept (fun k q hq => hk1 q.1 (hPo k q hq).lt (fun hz => by
    rcases hz with ⟨k2, e2, h2⟩ | h2
    · obtain ⟨b1, b2⟩ := gwM_ad hq
      obtain ⟨b3, b4⟩ := gwC_ad h2
      exact hd k2 k b3 b1 (b4.symm.trans b2)
    · exact absurd (hPo k q hq).lt (Nat.not_lt.mpr h2)))
  exact kk r u H1 locs1 hw ⟨⟨hP1, hD1.weaken (fun _ _ _ h => hfc _ h), hS1, hA⟩, ⟨hPo1, hDo, hS1, hA⟩, hd⟩
theorem alM_I {K : Int32 → St → Prop} {a : Array Value} {st0 : List Value} (hlw : lwd DC DM cI cZ aC aM A H0 gc gm H locs) (hr : va_Run p l e R s m args below meth c H locs cells slots 0 0 (F0 m pc ls st0) rest (va_Qi K (bwM DM cI cZ aM gm H.size) (va_A (gwM cI cZ aM gm) H.size) a) (va_A (gwM cI cZ aM gm) H.size))
    (kk : ∀ (r : Int32) (g' : St) (H' : Heap) (locs' : List Loc), K r g' → lwd DC DM cI cZ aC aM A H0 gc g' H' locs' → W p l e R s m args below meth c H' locs' cells slots Q (F0 m (pc + 3) ls (.int r :: rest))) : W p l e R s m args below meth c H locs cells slots Q (F0 m pc ls st0) := by
  obtain ⟨hC, hM, hd⟩ := hlw
  have hfc := wdM_free hM
  obtain ⟨hP, hD, hS, hA⟩ := hM
  obtain ⟨hPo, hDo, -, -⟩ := hC
  refine va_calli hr hS (fun q _ h => hfc q h) hfc (fun r u t H1 locs1 ht hvm hw hB hz1 hk1 hS1 => ?_)
  obtain ⟨hP1, hK1, hD1⟩ := hB
  rw [ht] at hP1
  have hPo1 : va_P DC clC (gwC cI cZ aC gc) H1 := hPo.kept (fun k q hq => hk1 q.1 (hPo k q hq).lt (fun hz => by
    rcases hz with ⟨k2, e2, h2⟩ | h2
    · obtain ⟨b1, b2⟩ := gwC_ad hq
      obtain ⟨b3, b4⟩ := gwM_ad h2
      exact hd k k2 b1 b3 (b2.symm.trans b4)
    · exact absurd (hPo k q hq).lt (Nat.not_lt.mpr h2)))
  exact kk r u H1 locs1 hw ⟨⟨hPo1, hDo, hS1, hA⟩, ⟨hP1, hD1.weaken (fun _ _ _ h => hfc _ h), hS1, hA⟩, hd⟩
theorem alM_J {K : Int64 → St → Prop} {a : Array Value} {st0 : List Value} (hlw : lwd DC DM cI cZ aC aM A H0 gc gm H locs) (hr : va_Run p l e R s m args below meth c H locs cells slots 0 0 (F0 m pc ls st0) rest (va_Ql K (bwM DM cI cZ aM gm H.size) (va_A (gwM cI cZ aM gm) H.size) a) (va_A (gwM cI cZ aM gm) H.size))
    (kk : ∀ (r : Int64) (g' : St) (H' : Heap) (locs' : List Loc), K r g' → lwd DC DM cI cZ aC aM A H0 gc g' H' locs' → W p l e R s m args below meth c H' locs' cells slots Q (F0 m (pc + 3) ls (.long r :: rest))) : W p l e R s m args below meth c H locs cells slots Q (F0 m pc ls st0) := by
  obtain ⟨hC, hM, hd⟩ := hlw
  have hfc := wdM_free hM
  obtain ⟨hP, hD, hS, hA⟩ := hM
  obtain ⟨hPo, hDo, -, -⟩ := hC
  refine va_calll hr hS (fun q _ h => hfc q h) hfc (fun r u t H1 locs1 ht hvm hw hB hz1 hk1 hS1 => ?_)
  obtain ⟨hP1, hK1, hD1⟩ := hB
  rw [ht] at hP1
  have hPo1 : va_P DC clC (gwC cI cZ aC gc) H1 := hPo.kept (fun k q hq => hk1 q.1 (hPo k q hq).lt (fun hz => by
    rcases hz with ⟨k2, e2, h2⟩ | h2
    · obtain ⟨b1, b2⟩ := gwC_ad hq
      obtain ⟨b3, b4⟩ := gwM_ad h2
      exact hd k k2 b1 b3 (b2.symm.trans b4)
    · exact absurd (hPo k q hq).lt (Nat.not_lt.mpr h2)))
  exact kk r u H1 locs1 hw ⟨⟨hPo1, hDo, hS1, hA⟩, ⟨hP1, hD1.weaken (fun _ _ _ h => hfc _ h), hS1, hA⟩, hd⟩
theorem lc_13 {x1 : Int32} {K : Int32 → St → Prop} {f lo : Nat} (F : lfx DC DM cI cZ p s m c b L xs) (hlw : lwd DC DM cI cZ aC aM A H0 gc gm H locs) (hM : ctCI l y_BF_leaf b_BF_leaf 2 f lo DC cI cZ aC [.ref (aC 0), .int x1] gc K) (hr : f + 1 ≤ R.frames ∧ 8 + (2 + 11) + lo ≤ R.locals) (hf : cells ≤ R.cells ∧ slots ≤ R.slots) (hsz : ls.size = 4) (hW : (rest.map fun v => v.category).sum ≤ 8) (hdg : decode code pc = .ok (.invokevirtual 13, 3))
    (kk : ∀ (r : Int32) (g' : St) (H' : Heap) (locs' : List Loc), K r g' → lwd DC DM cI cZ aC aM A H0 g' gm H' locs' → W p l e R s m #[Value.ref b] below meth c H' locs' cells slots Q (F0 m (pc + 3) ls (.int r :: rest))) : W p l e R s m #[Value.ref b] below meth c H locs cells slots Q (F0 m pc ls (.int x1 :: .ref (aC 0) :: rest)) := by
  obtain ⟨hx, hb, hml, hown, hts, hX, hbl, hKC, hKM, hNC, hNM⟩ := F
  exact alC_I hlw (va_runV (As := [.int x1]) (rest := rest) ⟨hx, hb, hml, hown, hts⟩ (hM H.size) ⟨callB_of 1 hts (goodLC _ kC_239) rfl rfl rfl (hts _ lwt_0) (hts _ lwt_1) (by decide +kernel) hr, hts _ lwt_2, hts _ lwt_3⟩ (prC_V (k := 0) hKC hNC hlw.1 (show clC[0]? = some (R_BF, F_BF, 7) from rfl) rfl) rfl rfl hsz rfl (lv_room hW) hdg hf) kk
theorem lc_17 {x1 : Int32} {K : Int32 → St → Prop} {f lo : Nat} (F : lfx DC DM cI cZ p s m c b L xs) (hlw : lwd DC DM cI cZ aC aM A H0 gc gm H locs) (hM : ctMI l y_Mo_leaf b_Mo_leaf 2 f lo DM cI cZ aM [.ref (aM 0), .int x1] gm K) (hr : f + 1 ≤ R.frames ∧ 8 + (2 + 11) + lo ≤ R.locals) (hf : cells ≤ R.cells ∧ slots ≤ R.slots) (hsz : ls.size = 4) (hW : (rest.map fun v => v.category).sum ≤ 8) (hdg : decode code pc = .ok (.invokevirtual 17, 3))
    (kk : ∀ (r : Int32) (g' : St) (H' : Heap) (locs' : List Loc), K r g' → lwd DC DM cI cZ aC aM A H0 gc g' H' locs' → W p l e R s m #[Value.ref b] below meth c H' locs' cells slots Q (F0 m (pc + 3) ls (.int r :: rest))) : W p l e R s m #[Value.ref b] below meth c H locs cells slots Q (F0 m pc ls (.int x1 :: .ref (aM 0) :: rest)) := by
  obtain ⟨hx, hb, hml, hown, hts, hX, hbl, hKC, hKM, hNC, hNM⟩ := F
  exact alM_I hlw (va_runV (As := [.int x1]) (rest := rest) ⟨hx, hb, hml, hown, hts⟩ (hM H.size) ⟨callB_of 1 hts (goodLM _ kM_96) rfl rfl rfl (hts _ lwt_4) (hts _ lwt_5) (by decide +kernel) hr, hts _ lwt_6, hts _ lwt_7⟩ (prM_V (k := 0) hKM hNM hlw.2.1 (show clM[0]? = some (R_Mo, F_Mo, 29) from rfl) rfl) rfl rfl hsz rfl (lv_room hW) hdg hf) kk
theorem lc_18 {x1 x2 x3 x4 x5 : Int32} {K : Int32 → St → Prop} {f lo : Nat} (F : lfx DC DM cI cZ p s m c b L xs) (hlw : lwd DC DM cI cZ aC aM A H0 gc gm H locs) (hM : ctCI l y_BF_split b_BF_split 6 f lo DC cI cZ aC [.ref (aC 0), .int x1, .int x2, .int x3, .int x4, .int x5] gc K) (hr : f + 1 ≤ R.frames ∧ 8 + (6 + 11) + lo ≤ R.locals) (hf : cells ≤ R.cells ∧ slots ≤ R.slots) (hsz : ls.size = 4) (hW : (rest.map fun v => v.category).sum ≤ 8) (hdg : decode code pc = .ok (.invokevirtual 18, 3))
    (kk : ∀ (r : Int32) (g' : St) (H' : Heap) (locs' : List Loc), K r g' → lwd DC DM cI cZ aC aM A H0 g' gm H' locs' → W p l e R s m #[Value.ref b] below meth c H' locs' cells slots Q (F0 m (pc + 3) ls (.int r :: rest))) : W p l e R s m #[Value.ref b] below meth c H locs cells slots Q (F0 m pc ls (.int x5 :: .int x4 :: .int x3 :: .int x2 :: .int x1 :: .ref (aC 0) :: rest)) := by
  obtain ⟨hx, hb, hml, hown, hts, hX, hbl, hKC, hKM, hNC, hNM⟩ := F
  exact alC_I hlw (va_runV (As := [.int x1, .int x2, .int x3, .int x4, .int x5]) (rest := rest) ⟨hx, hb, hml, hown, hts⟩ (hM H.size) ⟨callB_of 5 hts (goodLC _ kC_240) rfl rfl rfl (hts _ lwt_0) (hts _ lwt_8) (by decide +kernel) hr, hts _ lwt_9, hts _ lwt_10⟩ (prC_V (k := 0) hKC hNC hlw.1 (show clC[0]? = some (R_BF, F_BF, 7) from rfl) rfl) rfl rfl hsz rfl (lv_room hW) hdg hf) kk
theorem lc_22 {x1 x2 x3 x4 x5 : Int32} {K : Int32 → St → Prop} {f lo : Nat} (F : lfx DC DM cI cZ p s m c b L xs) (hlw : lwd DC DM cI cZ aC aM A H0 gc gm H locs) (hM : ctMI l y_Mo_split b_Mo_split 7 f lo DM cI cZ aM [.ref (aM 0), .int x1, .int x2, .int x3, .int x4, .int x5] gm K) (hr : f + 1 ≤ R.frames ∧ 8 + (7 + 11) + lo ≤ R.locals) (hf : cells ≤ R.cells ∧ slots ≤ R.slots) (hsz : ls.size = 4) (hW : (rest.map fun v => v.category).sum ≤ 8) (hdg : decode code pc = .ok (.invokevirtual 22, 3))
    (kk : ∀ (r : Int32) (g' : St) (H' : Heap) (locs' : List Loc), K r g' → lwd DC DM cI cZ aC aM A H0 gc g' H' locs' → W p l e R s m #[Value.ref b] below meth c H' locs' cells slots Q (F0 m (pc + 3) ls (.int r :: rest))) : W p l e R s m #[Value.ref b] below meth c H locs cells slots Q (F0 m pc ls (.int x5 :: .int x4 :: .int x3 :: .int x2 :: .int x1 :: .ref (aM 0) :: rest)) := by
  obtain ⟨hx, hb, hml, hown, hts, hX, hbl, hKC, hKM, hNC, hNM⟩ := F
  exact alM_I hlw (va_runV (As := [.int x1, .int x2, .int x3, .int x4, .int x5]) (rest := rest) ⟨hx, hb, hml, hown, hts⟩ (hM H.size) ⟨callB_of 5 hts (goodLM _ kM_98) rfl rfl rfl (hts _ lwt_4) (hts _ lwt_11) (by decide +kernel) hr, hts _ lwt_12, hts _ lwt_13⟩ (prM_V (k := 0) hKM hNM hlw.2.1 (show clM[0]? = some (R_Mo, F_Mo, 29) from rfl) rfl) rfl rfl hsz rfl (lv_room hW) hdg hf) kk
theorem lc_23 {x1 : Int32} {K : Int32 → St → Prop} {f lo : Nat} (F : lfx DC DM cI cZ p s m c b L xs) (hlw : lwd DC DM cI cZ aC aM A H0 gc gm H locs) (hM : ctCI l y_BF_tree b_BF_tree 2 f lo DC cI cZ aC [.ref (aC 0), .int x1] gc K) (hr : f + 1 ≤ R.frames ∧ 8 + (2 + 11) + lo ≤ R.locals) (hf : cells ≤ R.cells ∧ slots ≤ R.slots) (hsz : ls.size = 4) (hW : (rest.map fun v => v.category).sum ≤ 8) (hdg : decode code pc = .ok (.invokevirtual 23, 3))
    (kk : ∀ (r : Int32) (g' : St) (H' : Heap) (locs' : List Loc), K r g' → lwd DC DM cI cZ aC aM A H0 g' gm H' locs' → W p l e R s m #[Value.ref b] below meth c H' locs' cells slots Q (F0 m (pc + 3) ls (.int r :: rest))) : W p l e R s m #[Value.ref b] below meth c H locs cells slots Q (F0 m pc ls (.int x1 :: .ref (aC 0) :: rest)) := by
  obtain ⟨hx, hb, hml, hown, hts, hX, hbl, hKC, hKM, hNC, hNM⟩ := F
  exact alC_I hlw (va_runV (As := [.int x1]) (rest := rest) ⟨hx, hb, hml, hown, hts⟩ (hM H.size) ⟨callB_of 1 hts (goodLC _ kC_241) rfl rfl rfl (hts _ lwt_0) (hts _ lwt_14) (by decide +kernel) hr, hts _ lwt_15, hts _ lwt_16⟩ (prC_V (k := 0) hKC hNC hlw.1 (show clC[0]? = some (R_BF, F_BF, 7) from rfl) rfl) rfl rfl hsz rfl (lv_room hW) hdg hf) kk
theorem lc_26 {x1 : Int32} {K : Int32 → St → Prop} {f lo : Nat} (F : lfx DC DM cI cZ p s m c b L xs) (hlw : lwd DC DM cI cZ aC aM A H0 gc gm H locs) (hM : ctMI l y_Mo_tree b_Mo_tree 2 f lo DM cI cZ aM [.ref (aM 0), .int x1] gm K) (hr : f + 1 ≤ R.frames ∧ 8 + (2 + 11) + lo ≤ R.locals) (hf : cells ≤ R.cells ∧ slots ≤ R.slots) (hsz : ls.size = 4) (hW : (rest.map fun v => v.category).sum ≤ 8) (hdg : decode code pc = .ok (.invokevirtual 26, 3))
    (kk : ∀ (r : Int32) (g' : St) (H' : Heap) (locs' : List Loc), K r g' → lwd DC DM cI cZ aC aM A H0 gc g' H' locs' → W p l e R s m #[Value.ref b] below meth c H' locs' cells slots Q (F0 m (pc + 3) ls (.int r :: rest))) : W p l e R s m #[Value.ref b] below meth c H locs cells slots Q (F0 m pc ls (.int x1 :: .ref (aM 0) :: rest)) := by
  obtain ⟨hx, hb, hml, hown, hts, hX, hbl, hKC, hKM, hNC, hNM⟩ := F
  exact alM_I hlw (va_runV (As := [.int x1]) (rest := rest) ⟨hx, hb, hml, hown, hts⟩ (hM H.size) ⟨callB_of 1 hts (goodLM _ kM_99) rfl rfl rfl (hts _ lwt_4) (hts _ lwt_17) (by decide +kernel) hr, hts _ lwt_18, hts _ lwt_19⟩ (prM_V (k := 0) hKM hNM hlw.2.1 (show clM[0]? = some (R_Mo, F_Mo, 29) from rfl) rfl) rfl rfl hsz rfl (lv_room hW) hdg hf) kk
theorem lc_27 {x1 x2 : Int32} {K : Int32 → St → Prop} {f lo : Nat} (F : lfx DC DM cI cZ p s m c b L xs) (hlw : lwd DC DM cI cZ aC aM A H0 gc gm H locs) (hM : ctCI l y_BF_compile b_BF_compile 4 f lo DC cI cZ aC [.ref (aC 0), .int x1, .int x2] gc K) (hr : f + 1 ≤ R.frames ∧ 8 + (4 + 11) + lo ≤ R.locals) (hf : cells ≤ R.cells ∧ slots ≤ R.slots) (hsz : ls.size = 4) (hW : (rest.map fun v => v.category).sum ≤ 8) (hdg : decode code pc = .ok (.invokevirtual 27, 3))
    (kk : ∀ (r : Int32) (g' : St) (H' : Heap) (locs' : List Loc), K r g' → lwd DC DM cI cZ aC aM A H0 g' gm H' locs' → W p l e R s m #[Value.ref b] below meth c H' locs' cells slots Q (F0 m (pc + 3) ls (.int r :: rest))) : W p l e R s m #[Value.ref b] below meth c H locs cells slots Q (F0 m pc ls (.int x2 :: .int x1 :: .ref (aC 0) :: rest)) := by
  obtain ⟨hx, hb, hml, hown, hts, hX, hbl, hKC, hKM, hNC, hNM⟩ := F
  exact alC_I hlw (va_runV (As := [.int x1, .int x2]) (rest := rest) ⟨hx, hb, hml, hown, hts⟩ (hM H.size) ⟨callB_of 2 hts (goodLC _ kC_242) rfl rfl rfl (hts _ lwt_0) (hts _ lwt_20) (by decide +kernel) hr, hts _ lwt_21, hts _ lwt_22⟩ (prC_V (k := 0) hKC hNC hlw.1 (show clC[0]? = some (R_BF, F_BF, 7) from rfl) rfl) rfl rfl hsz rfl (lv_room hW) hdg hf) kk
theorem lc_31 {x1 x2 : Int32} {K : Int32 → St → Prop} {f lo : Nat} (F : lfx DC DM cI cZ p s m c b L xs) (hlw : lwd DC DM cI cZ aC aM A H0 gc gm H locs) (hM : ctMI l y_Mo_compile b_Mo_compile 5 f lo DM cI cZ aM [.ref (aM 0), .int x1, .int x2] gm K) (hr : f + 1 ≤ R.frames ∧ 8 + (5 + 11) + lo ≤ R.locals) (hf : cells ≤ R.cells ∧ slots ≤ R.slots) (hsz : ls.size = 4) (hW : (rest.map fun v => v.category).sum ≤ 8) (hdg : decode code pc = .ok (.invokevirtual 31, 3))
    (kk : ∀ (r : Int32) (g' : St) (H' : Heap) (locs' : List Loc), K r g' → lwd DC DM cI cZ aC aM A H0 gc g' H' locs' → W p l e R s m #[Value.ref b] below meth c H' locs' cells slots Q (F0 m (pc + 3) ls (.int r :: rest))) : W p l e R s m #[Value.ref b] below meth c H locs cells slots Q (F0 m pc ls (.int x2 :: .int x1 :: .ref (aM 0) :: rest)) := by
  obtain ⟨hx, hb, hml, hown, hts, hX, hbl, hKC, hKM, hNC, hNM⟩ := F
  exact alM_I hlw (va_runV (As := [.int x1, .int x2]) (rest := rest) ⟨hx, hb, hml, hown, hts⟩ (hM H.size) ⟨callB_of 2 hts (goodLM _ kM_114) rfl rfl rfl (hts _ lwt_4) (hts _ lwt_23) (by decide +kernel) hr, hts _ lwt_24, hts _ lwt_25⟩ (prM_V (k := 0) hKM hNM hlw.2.1 (show clM[0]? = some (R_Mo, F_Mo, 29) from rfl) rfl) rfl rfl hsz rfl (lv_room hW) hdg hf) kk
theorem lc_32 {K : Int32 → St → Prop} {f lo : Nat} (F : lfx DC DM cI cZ p s m c b L xs) (hlw : lwd DC DM cI cZ aC aM A H0 gc gm H locs) (hM : ctCI l y_BF_methods b_BF_methods 1 f lo DC cI cZ aC [.ref (aC 0)] gc K) (hr : f + 1 ≤ R.frames ∧ 8 + (1 + 11) + lo ≤ R.locals) (hf : cells ≤ R.cells ∧ slots ≤ R.slots) (hsz : ls.size = 4) (hW : (rest.map fun v => v.category).sum ≤ 8) (hdg : decode code pc = .ok (.invokevirtual 32, 3))
    (kk : ∀ (r : Int32) (g' : St) (H' : Heap) (locs' : List Loc), K r g' → lwd DC DM cI cZ aC aM A H0 g' gm H' locs' → W p l e R s m #[Value.ref b] below meth c H' locs' cells slots Q (F0 m (pc + 3) ls (.int r :: rest))) : W p l e R s m #[Value.ref b] below meth c H locs cells slots Q (F0 m pc ls (.ref (aC 0) :: rest)) := by
  obtain ⟨hx, hb, hml, hown, hts, hX, hbl, hKC, hKM, hNC, hNM⟩ := F
  exact alC_I hlw (va_runV (As := []) (rest := rest) ⟨hx, hb, hml, hown, hts⟩ (hM H.size) ⟨callB_of 0 hts (goodLC _ kC_243) rfl rfl rfl (hts _ lwt_0) (hts _ lwt_26) (by decide +kernel) hr, hts _ lwt_27, hts _ lwt_28⟩ (prC_V (k := 0) hKC hNC hlw.1 (show clC[0]? = some (R_BF, F_BF, 7) from rfl) rfl) rfl rfl hsz rfl (lv_room hW) hdg hf) kk
theorem lc_36 {K : Int32 → St → Prop} {f lo : Nat} (F : lfx DC DM cI cZ p s m c b L xs) (hlw : lwd DC DM cI cZ aC aM A H0 gc gm H locs) (hM : ctMI l y_Mo_methods b_Mo_methods 1 f lo DM cI cZ aM [.ref (aM 0)] gm K) (hr : f + 1 ≤ R.frames ∧ 8 + (1 + 11) + lo ≤ R.locals) (hf : cells ≤ R.cells ∧ slots ≤ R.slots) (hsz : ls.size = 4) (hW : (rest.map fun v => v.category).sum ≤ 8) (hdg : decode code pc = .ok (.invokevirtual 36, 3))
    (kk : ∀ (r : Int32) (g' : St) (H' : Heap) (locs' : List Loc), K r g' → lwd DC DM cI cZ aC aM A H0 gc g' H' locs' → W p l e R s m #[Value.ref b] below meth c H' locs' cells slots Q (F0 m (pc + 3) ls (.int r :: rest))) : W p l e R s m #[Value.ref b] below meth c H locs cells slots Q (F0 m pc ls (.ref (aM 0) :: rest)) := by
  obtain ⟨hx, hb, hml, hown, hts, hX, hbl, hKC, hKM, hNC, hNM⟩ := F
  exact alM_I hlw (va_runV (As := []) (rest := rest) ⟨hx, hb, hml, hown, hts⟩ (hM H.size) ⟨callB_of 0 hts (goodLM _ kM_116) rfl rfl rfl (hts _ lwt_4) (hts _ lwt_29) (by decide +kernel) hr, hts _ lwt_30, hts _ lwt_31⟩ (prM_V (k := 0) hKM hNM hlw.2.1 (show clM[0]? = some (R_Mo, F_Mo, 29) from rfl) rfl) rfl rfl hsz rfl (lv_room hW) hdg hf) kk
theorem lc_37 {x1 : Int32} {K : Int32 → St → Prop} {f lo : Nat} (F : lfx DC DM cI cZ p s m c b L xs) (hlw : lwd DC DM cI cZ aC aM A H0 gc gm H locs) (hM : ctCI l y_BF_length b_BF_length 2 f lo DC cI cZ aC [.ref (aC 0), .int x1] gc K) (hr : f + 1 ≤ R.frames ∧ 8 + (2 + 11) + lo ≤ R.locals) (hf : cells ≤ R.cells ∧ slots ≤ R.slots) (hsz : ls.size = 4) (hW : (rest.map fun v => v.category).sum ≤ 8) (hdg : decode code pc = .ok (.invokevirtual 37, 3))
    (kk : ∀ (r : Int32) (g' : St) (H' : Heap) (locs' : List Loc), K r g' → lwd DC DM cI cZ aC aM A H0 g' gm H' locs' → W p l e R s m #[Value.ref b] below meth c H' locs' cells slots Q (F0 m (pc + 3) ls (.int r :: rest))) : W p l e R s m #[Value.ref b] below meth c H locs cells slots Q (F0 m pc ls (.int x1 :: .ref (aC 0) :: rest)) := by
  obtain ⟨hx, hb, hml, hown, hts, hX, hbl, hKC, hKM, hNC, hNM⟩ := F
  exact alC_I hlw (va_runV (As := [.int x1]) (rest := rest) ⟨hx, hb, hml, hown, hts⟩ (hM H.size) ⟨callB_of 1 hts (goodLC _ kC_244) rfl rfl rfl (hts _ lwt_0) (hts _ lwt_32) (by decide +kernel) hr, hts _ lwt_33, hts _ lwt_34⟩ (prC_V (k := 0) hKC hNC hlw.1 (show clC[0]? = some (R_BF, F_BF, 7) from rfl) rfl) rfl rfl hsz rfl (lv_room hW) hdg hf) kk
theorem lc_40 {x1 : Int32} {K : Int32 → St → Prop} {f lo : Nat} (F : lfx DC DM cI cZ p s m c b L xs) (hlw : lwd DC DM cI cZ aC aM A H0 gc gm H locs) (hM : ctMI l y_Mo_length b_Mo_length 2 f lo DM cI cZ aM [.ref (aM 0), .int x1] gm K) (hr : f + 1 ≤ R.frames ∧ 8 + (2 + 11) + lo ≤ R.locals) (hf : cells ≤ R.cells ∧ slots ≤ R.slots) (hsz : ls.size = 4) (hW : (rest.map fun v => v.category).sum ≤ 8) (hdg : decode code pc = .ok (.invokevirtual 40, 3))
    (kk : ∀ (r : Int32) (g' : St) (H' : Heap) (locs' : List Loc), K r g' → lwd DC DM cI cZ aC aM A H0 gc g' H' locs' → W p l e R s m #[Value.ref b] below meth c H' locs' cells slots Q (F0 m (pc + 3) ls (.int r :: rest))) : W p l e R s m #[Value.ref b] below meth c H locs cells slots Q (F0 m pc ls (.int x1 :: .ref (aM 0) :: rest)) := by
  obtain ⟨hx, hb, hml, hown, hts, hX, hbl, hKC, hKM, hNC, hNM⟩ := F
  exact alM_I hlw (va_runV (As := [.int x1]) (rest := rest) ⟨hx, hb, hml, hown, hts⟩ (hM H.size) ⟨callB_of 1 hts (goodLM _ kM_117) rfl rfl rfl (hts _ lwt_4) (hts _ lwt_35) (by decide +kernel) hr, hts _ lwt_36, hts _ lwt_37⟩ (prM_V (k := 0) hKM hNM hlw.2.1 (show clM[0]? = some (R_Mo, F_Mo, 29) from rfl) rfl) rfl rfl hsz rfl (lv_room hW) hdg hf) kk
theorem lc_41 {x1 x2 : Int32} {K : Int32 → St → Prop} {f lo : Nat} (F : lfx DC DM cI cZ p s m c b L xs) (hlw : lwd DC DM cI cZ aC aM A H0 gc gm H locs) (hM : ctCI l y_BF_byteAt b_BF_byteAt 3 f lo DC cI cZ aC [.ref (aC 0), .int x1, .int x2] gc K) (hr : f + 1 ≤ R.frames ∧ 8 + (3 + 11) + lo ≤ R.locals) (hf : cells ≤ R.cells ∧ slots ≤ R.slots) (hsz : ls.size = 4) (hW : (rest.map fun v => v.category).sum ≤ 8) (hdg : decode code pc = .ok (.invokevirtual 41, 3))
    (kk : ∀ (r : Int32) (g' : St) (H' : Heap) (locs' : List Loc), K r g' → lwd DC DM cI cZ aC aM A H0 g' gm H' locs' → W p l e R s m #[Value.ref b] below meth c H' locs' cells slots Q (F0 m (pc + 3) ls (.int r :: rest))) : W p l e R s m #[Value.ref b] below meth c H locs cells slots Q (F0 m pc ls (.int x2 :: .int x1 :: .ref (aC 0) :: rest)) := by
  obtain ⟨hx, hb, hml, hown, hts, hX, hbl, hKC, hKM, hNC, hNM⟩ := F
  exact alC_I hlw (va_runV (As := [.int x1, .int x2]) (rest := rest) ⟨hx, hb, hml, hown, hts⟩ (hM H.size) ⟨callB_of 2 hts (goodLC _ kC_245) rfl rfl rfl (hts _ lwt_0) (hts _ lwt_38) (by decide +kernel) hr, hts _ lwt_39, hts _ lwt_40⟩ (prC_V (k := 0) hKC hNC hlw.1 (show clC[0]? = some (R_BF, F_BF, 7) from rfl) rfl) rfl rfl hsz rfl (lv_room hW) hdg hf) kk
theorem lc_44 {x1 x2 : Int32} {K : Int32 → St → Prop} {f lo : Nat} (F : lfx DC DM cI cZ p s m c b L xs) (hlw : lwd DC DM cI cZ aC aM A H0 gc gm H locs) (hM : ctMI l y_Mo_byteAt b_Mo_byteAt 3 f lo DM cI cZ aM [.ref (aM 0), .int x1, .int x2] gm K) (hr : f + 1 ≤ R.frames ∧ 8 + (3 + 11) + lo ≤ R.locals) (hf : cells ≤ R.cells ∧ slots ≤ R.slots) (hsz : ls.size = 4) (hW : (rest.map fun v => v.category).sum ≤ 8) (hdg : decode code pc = .ok (.invokevirtual 44, 3))
    (kk : ∀ (r : Int32) (g' : St) (H' : Heap) (locs' : List Loc), K r g' → lwd DC DM cI cZ aC aM A H0 gc g' H' locs' → W p l e R s m #[Value.ref b] below meth c H' locs' cells slots Q (F0 m (pc + 3) ls (.int r :: rest))) : W p l e R s m #[Value.ref b] below meth c H locs cells slots Q (F0 m pc ls (.int x2 :: .int x1 :: .ref (aM 0) :: rest)) := by
  obtain ⟨hx, hb, hml, hown, hts, hX, hbl, hKC, hKM, hNC, hNM⟩ := F
  exact alM_I hlw (va_runV (As := [.int x1, .int x2]) (rest := rest) ⟨hx, hb, hml, hown, hts⟩ (hM H.size) ⟨callB_of 2 hts (goodLM _ kM_118) rfl rfl rfl (hts _ lwt_4) (hts _ lwt_41) (by decide +kernel) hr, hts _ lwt_42, hts _ lwt_43⟩ (prM_V (k := 0) hKM hNM hlw.2.1 (show clM[0]? = some (R_Mo, F_Mo, 29) from rfl) rfl) rfl rfl hsz rfl (lv_room hW) hdg hf) kk
theorem lc_45 {x1 : Int32} {K : Int32 → St → Prop} {f lo : Nat} (F : lfx DC DM cI cZ p s m c b L xs) (hlw : lwd DC DM cI cZ aC aM A H0 gc gm H locs) (hM : ctCI l y_BF_classOf b_BF_classOf 2 f lo DC cI cZ aC [.ref (aC 0), .int x1] gc K) (hr : f + 1 ≤ R.frames ∧ 8 + (2 + 11) + lo ≤ R.locals) (hf : cells ≤ R.cells ∧ slots ≤ R.slots) (hsz : ls.size = 4) (hW : (rest.map fun v => v.category).sum ≤ 8) (hdg : decode code pc = .ok (.invokevirtual 45, 3))
    (kk : ∀ (r : Int32) (g' : St) (H' : Heap) (locs' : List Loc), K r g' → lwd DC DM cI cZ aC aM A H0 g' gm H' locs' → W p l e R s m #[Value.ref b] below meth c H' locs' cells slots Q (F0 m (pc + 3) ls (.int r :: rest))) : W p l e R s m #[Value.ref b] below meth c H locs cells slots Q (F0 m pc ls (.int x1 :: .ref (aC 0) :: rest)) := by
  obtain ⟨hx, hb, hml, hown, hts, hX, hbl, hKC, hKM, hNC, hNM⟩ := F
  exact alC_I hlw (va_runV (As := [.int x1]) (rest := rest) ⟨hx, hb, hml, hown, hts⟩ (hM H.size) ⟨callB_of 1 hts (goodLC _ kC_246) rfl rfl rfl (hts _ lwt_0) (hts _ lwt_44) (by decide +kernel) hr, hts _ lwt_45, hts _ lwt_46⟩ (prC_V (k := 0) hKC hNC hlw.1 (show clC[0]? = some (R_BF, F_BF, 7) from rfl) rfl) rfl rfl hsz rfl (lv_room hW) hdg hf) kk
theorem lc_48 {x1 : Int32} {K : Int32 → St → Prop} {f lo : Nat} (F : lfx DC DM cI cZ p s m c b L xs) (hlw : lwd DC DM cI cZ aC aM A H0 gc gm H locs) (hM : ctMI l y_Mo_classOf b_Mo_classOf 2 f lo DM cI cZ aM [.ref (aM 0), .int x1] gm K) (hr : f + 1 ≤ R.frames ∧ 8 + (2 + 11) + lo ≤ R.locals) (hf : cells ≤ R.cells ∧ slots ≤ R.slots) (hsz : ls.size = 4) (hW : (rest.map fun v => v.category).sum ≤ 8) (hdg : decode code pc = .ok (.invokevirtual 48, 3))
    (kk : ∀ (r : Int32) (g' : St) (H' : Heap) (locs' : List Loc), K r g' → lwd DC DM cI cZ aC aM A H0 gc g' H' locs' → W p l e R s m #[Value.ref b] below meth c H' locs' cells slots Q (F0 m (pc + 3) ls (.int r :: rest))) : W p l e R s m #[Value.ref b] below meth c H locs cells slots Q (F0 m pc ls (.int x1 :: .ref (aM 0) :: rest)) := by
  obtain ⟨hx, hb, hml, hown, hts, hX, hbl, hKC, hKM, hNC, hNM⟩ := F
  exact alM_I hlw (va_runV (As := [.int x1]) (rest := rest) ⟨hx, hb, hml, hown, hts⟩ (hM H.size) ⟨callB_of 1 hts (goodLM _ kM_119) rfl rfl rfl (hts _ lwt_4) (hts _ lwt_47) (by decide +kernel) hr, hts _ lwt_48, hts _ lwt_49⟩ (prM_V (k := 0) hKM hNM hlw.2.1 (show clM[0]? = some (R_Mo, F_Mo, 29) from rfl) rfl) rfl rfl hsz rfl (lv_room hW) hdg hf) kk
theorem lc_49 {K : Int32 → St → Prop} {f lo : Nat} (F : lfx DC DM cI cZ p s m c b L xs) (hlw : lwd DC DM cI cZ aC aM A H0 gc gm H locs) (hM : ctCI l y_BF_classes b_BF_classes 1 f lo DC cI cZ aC [.ref (aC 0)] gc K) (hr : f + 1 ≤ R.frames ∧ 8 + (1 + 11) + lo ≤ R.locals) (hf : cells ≤ R.cells ∧ slots ≤ R.slots) (hsz : ls.size = 4) (hW : (rest.map fun v => v.category).sum ≤ 8) (hdg : decode code pc = .ok (.invokevirtual 49, 3))
    (kk : ∀ (r : Int32) (g' : St) (H' : Heap) (locs' : List Loc), K r g' → lwd DC DM cI cZ aC aM A H0 g' gm H' locs' → W p l e R s m #[Value.ref b] below meth c H' locs' cells slots Q (F0 m (pc + 3) ls (.int r :: rest))) : W p l e R s m #[Value.ref b] below meth c H locs cells slots Q (F0 m pc ls (.ref (aC 0) :: rest)) := by
  obtain ⟨hx, hb, hml, hown, hts, hX, hbl, hKC, hKM, hNC, hNM⟩ := F
  exact alC_I hlw (va_runV (As := []) (rest := rest) ⟨hx, hb, hml, hown, hts⟩ (hM H.size) ⟨callB_of 0 hts (goodLC _ kC_247) rfl rfl rfl (hts _ lwt_0) (hts _ lwt_50) (by decide +kernel) hr, hts _ lwt_51, hts _ lwt_52⟩ (prC_V (k := 0) hKC hNC hlw.1 (show clC[0]? = some (R_BF, F_BF, 7) from rfl) rfl) rfl rfl hsz rfl (lv_room hW) hdg hf) kk
theorem lc_52 {K : Int32 → St → Prop} {f lo : Nat} (F : lfx DC DM cI cZ p s m c b L xs) (hlw : lwd DC DM cI cZ aC aM A H0 gc gm H locs) (hM : ctMI l y_Mo_classes b_Mo_classes 1 f lo DM cI cZ aM [.ref (aM 0)] gm K) (hr : f + 1 ≤ R.frames ∧ 8 + (1 + 11) + lo ≤ R.locals) (hf : cells ≤ R.cells ∧ slots ≤ R.slots) (hsz : ls.size = 4) (hW : (rest.map fun v => v.category).sum ≤ 8) (hdg : decode code pc = .ok (.invokevirtual 52, 3))
    (kk : ∀ (r : Int32) (g' : St) (H' : Heap) (locs' : List Loc), K r g' → lwd DC DM cI cZ aC aM A H0 gc g' H' locs' → W p l e R s m #[Value.ref b] below meth c H' locs' cells slots Q (F0 m (pc + 3) ls (.int r :: rest))) : W p l e R s m #[Value.ref b] below meth c H locs cells slots Q (F0 m pc ls (.ref (aM 0) :: rest)) := by
  obtain ⟨hx, hb, hml, hown, hts, hX, hbl, hKC, hKM, hNC, hNM⟩ := F
  exact alM_I hlw (va_runV (As := []) (rest := rest) ⟨hx, hb, hml, hown, hts⟩ (hM H.size) ⟨callB_of 0 hts (goodLM _ kM_120) rfl rfl rfl (hts _ lwt_4) (hts _ lwt_53) (by decide +kernel) hr, hts _ lwt_54, hts _ lwt_55⟩ (prM_V (k := 0) hKM hNM hlw.2.1 (show clM[0]? = some (R_Mo, F_Mo, 29) from rfl) rfl) rfl rfl hsz rfl (lv_room hW) hdg hf) kk
theorem lc_53 {x1 : Int32} {K : Int32 → St → Prop} {f lo : Nat} (F : lfx DC DM cI cZ p s m c b L xs) (hlw : lwd DC DM cI cZ aC aM A H0 gc gm H locs) (hM : ctCI l y_BF_entries b_BF_entries 2 f lo DC cI cZ aC [.ref (aC 0), .int x1] gc K) (hr : f + 1 ≤ R.frames ∧ 8 + (2 + 11) + lo ≤ R.locals) (hf : cells ≤ R.cells ∧ slots ≤ R.slots) (hsz : ls.size = 4) (hW : (rest.map fun v => v.category).sum ≤ 8) (hdg : decode code pc = .ok (.invokevirtual 53, 3))
    (kk : ∀ (r : Int32) (g' : St) (H' : Heap) (locs' : List Loc), K r g' → lwd DC DM cI cZ aC aM A H0 g' gm H' locs' → W p l e R s m #[Value.ref b] below meth c H' locs' cells slots Q (F0 m (pc + 3) ls (.int r :: rest))) : W p l e R s m #[Value.ref b] below meth c H locs cells slots Q (F0 m pc ls (.int x1 :: .ref (aC 0) :: rest)) := by
  obtain ⟨hx, hb, hml, hown, hts, hX, hbl, hKC, hKM, hNC, hNM⟩ := F
  exact alC_I hlw (va_runV (As := [.int x1]) (rest := rest) ⟨hx, hb, hml, hown, hts⟩ (hM H.size) ⟨callB_of 1 hts (goodLC _ kC_248) rfl rfl rfl (hts _ lwt_0) (hts _ lwt_56) (by decide +kernel) hr, hts _ lwt_57, hts _ lwt_58⟩ (prC_V (k := 0) hKC hNC hlw.1 (show clC[0]? = some (R_BF, F_BF, 7) from rfl) rfl) rfl rfl hsz rfl (lv_room hW) hdg hf) kk
theorem lc_56 {x1 : Int32} {K : Int32 → St → Prop} {f lo : Nat} (F : lfx DC DM cI cZ p s m c b L xs) (hlw : lwd DC DM cI cZ aC aM A H0 gc gm H locs) (hM : ctMI l y_Mo_entries b_Mo_entries 2 f lo DM cI cZ aM [.ref (aM 0), .int x1] gm K) (hr : f + 1 ≤ R.frames ∧ 8 + (2 + 11) + lo ≤ R.locals) (hf : cells ≤ R.cells ∧ slots ≤ R.slots) (hsz : ls.size = 4) (hW : (rest.map fun v => v.category).sum ≤ 8) (hdg : decode code pc = .ok (.invokevirtual 56, 3))
    (kk : ∀ (r : Int32) (g' : St) (H' : Heap) (locs' : List Loc), K r g' → lwd DC DM cI cZ aC aM A H0 gc g' H' locs' → W p l e R s m #[Value.ref b] below meth c H' locs' cells slots Q (F0 m (pc + 3) ls (.int r :: rest))) : W p l e R s m #[Value.ref b] below meth c H locs cells slots Q (F0 m pc ls (.int x1 :: .ref (aM 0) :: rest)) := by
  obtain ⟨hx, hb, hml, hown, hts, hX, hbl, hKC, hKM, hNC, hNM⟩ := F
  exact alM_I hlw (va_runV (As := [.int x1]) (rest := rest) ⟨hx, hb, hml, hown, hts⟩ (hM H.size) ⟨callB_of 1 hts (goodLM _ kM_121) rfl rfl rfl (hts _ lwt_4) (hts _ lwt_59) (by decide +kernel) hr, hts _ lwt_60, hts _ lwt_61⟩ (prM_V (k := 0) hKM hNM hlw.2.1 (show clM[0]? = some (R_Mo, F_Mo, 29) from rfl) rfl) rfl rfl hsz rfl (lv_room hW) hdg hf) kk
theorem lc_57 {x1 x2 : Int32} {K : Int64 → St → Prop} {f lo : Nat} (F : lfx DC DM cI cZ p s m c b L xs) (hlw : lwd DC DM cI cZ aC aM A H0 gc gm H locs) (hM : ctCJ l y_BF_entry b_BF_entry 4 f lo DC cI cZ aC [.ref (aC 0), .int x1, .int x2] gc K) (hr : f + 1 ≤ R.frames ∧ 8 + (4 + 11) + lo ≤ R.locals) (hf : cells ≤ R.cells ∧ slots ≤ R.slots) (hsz : ls.size = 4) (hW : (rest.map fun v => v.category).sum ≤ 8) (hdg : decode code pc = .ok (.invokevirtual 57, 3))
    (kk : ∀ (r : Int64) (g' : St) (H' : Heap) (locs' : List Loc), K r g' → lwd DC DM cI cZ aC aM A H0 g' gm H' locs' → W p l e R s m #[Value.ref b] below meth c H' locs' cells slots Q (F0 m (pc + 3) ls (.long r :: rest))) : W p l e R s m #[Value.ref b] below meth c H locs cells slots Q (F0 m pc ls (.int x2 :: .int x1 :: .ref (aC 0) :: rest)) := by
  obtain ⟨hx, hb, hml, hown, hts, hX, hbl, hKC, hKM, hNC, hNM⟩ := F
  exact alC_J hlw (va_runV (As := [.int x1, .int x2]) (rest := rest) ⟨hx, hb, hml, hown, hts⟩ (hM H.size) ⟨callB_of 2 hts (goodLC _ kC_249) rfl rfl rfl (hts _ lwt_0) (hts _ lwt_62) (by decide +kernel) hr, hts _ lwt_63, hts _ lwt_64⟩ (prC_V (k := 0) hKC hNC hlw.1 (show clC[0]? = some (R_BF, F_BF, 7) from rfl) rfl) rfl rfl hsz rfl (lv_room hW) hdg hf) kk
theorem lc_61 {x1 x2 : Int32} {K : Int64 → St → Prop} {f lo : Nat} (F : lfx DC DM cI cZ p s m c b L xs) (hlw : lwd DC DM cI cZ aC aM A H0 gc gm H locs) (hM : ctMJ l y_Mo_entry b_Mo_entry 3 f lo DM cI cZ aM [.ref (aM 0), .int x1, .int x2] gm K) (hr : f + 1 ≤ R.frames ∧ 8 + (3 + 11) + lo ≤ R.locals) (hf : cells ≤ R.cells ∧ slots ≤ R.slots) (hsz : ls.size = 4) (hW : (rest.map fun v => v.category).sum ≤ 8) (hdg : decode code pc = .ok (.invokevirtual 61, 3))
    (kk : ∀ (r : Int64) (g' : St) (H' : Heap) (locs' : List Loc), K r g' → lwd DC DM cI cZ aC aM A H0 gc g' H' locs' → W p l e R s m #[Value.ref b] below meth c H' locs' cells slots Q (F0 m (pc + 3) ls (.long r :: rest))) : W p l e R s m #[Value.ref b] below meth c H locs cells slots Q (F0 m pc ls (.int x2 :: .int x1 :: .ref (aM 0) :: rest)) := by
  obtain ⟨hx, hb, hml, hown, hts, hX, hbl, hKC, hKM, hNC, hNM⟩ := F
  exact alM_J hlw (va_runV (As := [.int x1, .int x2]) (rest := rest) ⟨hx, hb, hml, hown, hts⟩ (hM H.size) ⟨callB_of 2 hts (goodLM _ kM_122) rfl rfl rfl (hts _ lwt_4) (hts _ lwt_65) (by decide +kernel) hr, hts _ lwt_66, hts _ lwt_67⟩ (prM_V (k := 0) hKM hNM hlw.2.1 (show clM[0]? = some (R_Mo, F_Mo, 29) from rfl) rfl) rfl rfl hsz rfl (lv_room hW) hdg hf) kk
theorem lc_62 {x1 x2 : Int32} {K : Int32 → St → Prop} {f lo : Nat} (F : lfx DC DM cI cZ p s m c b L xs) (hlw : lwd DC DM cI cZ aC aM A H0 gc gm H locs) (hM : ctCZ l y_BF_set b_BF_set 3 f lo DC cI cZ aC [.ref (aC 0), .int x1, .int x2] gc K) (hr : f + 1 ≤ R.frames ∧ 8 + (3 + 11) + lo ≤ R.locals) (hf : cells ≤ R.cells ∧ slots ≤ R.slots) (hsz : ls.size = 4) (hW : (rest.map fun v => v.category).sum ≤ 8) (hdg : decode code pc = .ok (.invokevirtual 62, 3))
    (kk : ∀ (r : Int32) (g' : St) (H' : Heap) (locs' : List Loc), K r g' → lwd DC DM cI cZ aC aM A H0 g' gm H' locs' → W p l e R s m #[Value.ref b] below meth c H' locs' cells slots Q (F0 m (pc + 3) ls (.int r :: rest))) : W p l e R s m #[Value.ref b] below meth c H locs cells slots Q (F0 m pc ls (.int x2 :: .int x1 :: .ref (aC 0) :: rest)) := by
  obtain ⟨hx, hb, hml, hown, hts, hX, hbl, hKC, hKM, hNC, hNM⟩ := F
  exact alC_I hlw (va_runV (As := [.int x1, .int x2]) (rest := rest) ⟨hx, hb, hml, hown, hts⟩ (hM H.size) ⟨callB_of 2 hts (goodLC _ kC_250) rfl rfl rfl (hts _ lwt_0) (hts _ lwt_68) (by decide +kernel) hr, hts _ lwt_69, hts _ lwt_70⟩ (prC_V (k := 0) hKC hNC hlw.1 (show clC[0]? = some (R_BF, F_BF, 7) from rfl) rfl) rfl rfl hsz rfl (lv_room hW) hdg hf) kk
theorem lc_66 {x1 x2 : Int32} {K : Int32 → St → Prop} {f lo : Nat} (F : lfx DC DM cI cZ p s m c b L xs) (hlw : lwd DC DM cI cZ aC aM A H0 gc gm H locs) (hM : ctMZ l y_Mo_set b_Mo_set 3 f lo DM cI cZ aM [.ref (aM 0), .int x1, .int x2] gm K) (hr : f + 1 ≤ R.frames ∧ 8 + (3 + 11) + lo ≤ R.locals) (hf : cells ≤ R.cells ∧ slots ≤ R.slots) (hsz : ls.size = 4) (hW : (rest.map fun v => v.category).sum ≤ 8) (hdg : decode code pc = .ok (.invokevirtual 66, 3))
    (kk : ∀ (r : Int32) (g' : St) (H' : Heap) (locs' : List Loc), K r g' → lwd DC DM cI cZ aC aM A H0 gc g' H' locs' → W p l e R s m #[Value.ref b] below meth c H' locs' cells slots Q (F0 m (pc + 3) ls (.int r :: rest))) : W p l e R s m #[Value.ref b] below meth c H locs cells slots Q (F0 m pc ls (.int x2 :: .int x1 :: .ref (aM 0) :: rest)) := by
  obtain ⟨hx, hb, hml, hown, hts, hX, hbl, hKC, hKM, hNC, hNM⟩ := F
  exact alM_I hlw (va_runV (As := [.int x1, .int x2]) (rest := rest) ⟨hx, hb, hml, hown, hts⟩ (hM H.size) ⟨callB_of 2 hts (goodLM _ kM_123) rfl rfl rfl (hts _ lwt_4) (hts _ lwt_71) (by decide +kernel) hr, hts _ lwt_72, hts _ lwt_73⟩ (prM_V (k := 0) hKM hNM hlw.2.1 (show clM[0]? = some (R_Mo, F_Mo, 29) from rfl) rfl) rfl rfl hsz rfl (lv_room hW) hdg hf) kk
theorem lc_67 {K : Int64 → St → Prop} {f lo : Nat} (F : lfx DC DM cI cZ p s m c b L xs) (hlw : lwd DC DM cI cZ aC aM A H0 gc gm H locs) (hM : ctCJ l y_BF_predict b_BF_predict 1 f lo DC cI cZ aC [.ref (aC 0)] gc K) (hr : f + 1 ≤ R.frames ∧ 8 + (1 + 11) + lo ≤ R.locals) (hf : cells ≤ R.cells ∧ slots ≤ R.slots) (hsz : ls.size = 4) (hW : (rest.map fun v => v.category).sum ≤ 8) (hdg : decode code pc = .ok (.invokevirtual 67, 3))
    (kk : ∀ (r : Int64) (g' : St) (H' : Heap) (locs' : List Loc), K r g' → lwd DC DM cI cZ aC aM A H0 g' gm H' locs' → W p l e R s m #[Value.ref b] below meth c H' locs' cells slots Q (F0 m (pc + 3) ls (.long r :: rest))) : W p l e R s m #[Value.ref b] below meth c H locs cells slots Q (F0 m pc ls (.ref (aC 0) :: rest)) := by
  obtain ⟨hx, hb, hml, hown, hts, hX, hbl, hKC, hKM, hNC, hNM⟩ := F
  exact alC_J hlw (va_runV (As := []) (rest := rest) ⟨hx, hb, hml, hown, hts⟩ (hM H.size) ⟨callB_of 0 hts (goodLC _ kC_251) rfl rfl rfl (hts _ lwt_0) (hts _ lwt_74) (by decide +kernel) hr, hts _ lwt_75, hts _ lwt_76⟩ (prC_V (k := 0) hKC hNC hlw.1 (show clC[0]? = some (R_BF, F_BF, 7) from rfl) rfl) rfl rfl hsz rfl (lv_room hW) hdg hf) kk
theorem lc_71 {K : Int64 → St → Prop} {f lo : Nat} (F : lfx DC DM cI cZ p s m c b L xs) (hlw : lwd DC DM cI cZ aC aM A H0 gc gm H locs) (hM : ctMJ l y_Mo_predict b_Mo_predict 5 f lo DM cI cZ aM [.ref (aM 0)] gm K) (hr : f + 1 ≤ R.frames ∧ 8 + (5 + 11) + lo ≤ R.locals) (hf : cells ≤ R.cells ∧ slots ≤ R.slots) (hsz : ls.size = 4) (hW : (rest.map fun v => v.category).sum ≤ 8) (hdg : decode code pc = .ok (.invokevirtual 71, 3))
    (kk : ∀ (r : Int64) (g' : St) (H' : Heap) (locs' : List Loc), K r g' → lwd DC DM cI cZ aC aM A H0 gc g' H' locs' → W p l e R s m #[Value.ref b] below meth c H' locs' cells slots Q (F0 m (pc + 3) ls (.long r :: rest))) : W p l e R s m #[Value.ref b] below meth c H locs cells slots Q (F0 m pc ls (.ref (aM 0) :: rest)) := by
  obtain ⟨hx, hb, hml, hown, hts, hX, hbl, hKC, hKM, hNC, hNM⟩ := F
  exact alM_J hlw (va_runV (As := []) (rest := rest) ⟨hx, hb, hml, hown, hts⟩ (hM H.size) ⟨callB_of 0 hts (goodLM _ kM_128) rfl rfl rfl (hts _ lwt_4) (hts _ lwt_77) (by decide +kernel) hr, hts _ lwt_78, hts _ lwt_79⟩ (prM_V (k := 0) hKM hNM hlw.2.1 (show clM[0]? = some (R_Mo, F_Mo, 29) from rfl) rfl) rfl rfl hsz rfl (lv_room hW) hdg hf) kk
theorem lc_72 {K : Int32 → St → Prop} {f lo : Nat} (F : lfx DC DM cI cZ p s m c b L xs) (hlw : lwd DC DM cI cZ aC aM A H0 gc gm H locs) (hM : ctCI l y_BF_steps b_BF_steps 1 f lo DC cI cZ aC [.ref (aC 0)] gc K) (hr : f + 1 ≤ R.frames ∧ 8 + (1 + 11) + lo ≤ R.locals) (hf : cells ≤ R.cells ∧ slots ≤ R.slots) (hsz : ls.size = 4) (hW : (rest.map fun v => v.category).sum ≤ 8) (hdg : decode code pc = .ok (.invokevirtual 72, 3))
    (kk : ∀ (r : Int32) (g' : St) (H' : Heap) (locs' : List Loc), K r g' → lwd DC DM cI cZ aC aM A H0 g' gm H' locs' → W p l e R s m #[Value.ref b] below meth c H' locs' cells slots Q (F0 m (pc + 3) ls (.int r :: rest))) : W p l e R s m #[Value.ref b] below meth c H locs cells slots Q (F0 m pc ls (.ref (aC 0) :: rest)) := by
  obtain ⟨hx, hb, hml, hown, hts, hX, hbl, hKC, hKM, hNC, hNM⟩ := F
  exact alC_I hlw (va_runV (As := []) (rest := rest) ⟨hx, hb, hml, hown, hts⟩ (hM H.size) ⟨callB_of 0 hts (goodLC _ kC_252) rfl rfl rfl (hts _ lwt_0) (hts _ lwt_80) (by decide +kernel) hr, hts _ lwt_81, hts _ lwt_82⟩ (prC_V (k := 0) hKC hNC hlw.1 (show clC[0]? = some (R_BF, F_BF, 7) from rfl) rfl) rfl rfl hsz rfl (lv_room hW) hdg hf) kk
theorem lc_75 {K : Int32 → St → Prop} {f lo : Nat} (F : lfx DC DM cI cZ p s m c b L xs) (hlw : lwd DC DM cI cZ aC aM A H0 gc gm H locs) (hM : ctMI l y_Mo_steps b_Mo_steps 1 f lo DM cI cZ aM [.ref (aM 0)] gm K) (hr : f + 1 ≤ R.frames ∧ 8 + (1 + 11) + lo ≤ R.locals) (hf : cells ≤ R.cells ∧ slots ≤ R.slots) (hsz : ls.size = 4) (hW : (rest.map fun v => v.category).sum ≤ 8) (hdg : decode code pc = .ok (.invokevirtual 75, 3))
    (kk : ∀ (r : Int32) (g' : St) (H' : Heap) (locs' : List Loc), K r g' → lwd DC DM cI cZ aC aM A H0 gc g' H' locs' → W p l e R s m #[Value.ref b] below meth c H' locs' cells slots Q (F0 m (pc + 3) ls (.int r :: rest))) : W p l e R s m #[Value.ref b] below meth c H locs cells slots Q (F0 m pc ls (.ref (aM 0) :: rest)) := by
  obtain ⟨hx, hb, hml, hown, hts, hX, hbl, hKC, hKM, hNC, hNM⟩ := F
  exact alM_I hlw (va_runV (As := []) (rest := rest) ⟨hx, hb, hml, hown, hts⟩ (hM H.size) ⟨callB_of 0 hts (goodLM _ kM_129) rfl rfl rfl (hts _ lwt_4) (hts _ lwt_83) (by decide +kernel) hr, hts _ lwt_84, hts _ lwt_85⟩ (prM_V (k := 0) hKM hNM hlw.2.1 (show clM[0]? = some (R_Mo, F_Mo, 29) from rfl) rfl) rfl rfl hsz rfl (lv_room hW) hdg hf) kk
theorem lc_76 {K : Int32 → St → Prop} {f lo : Nat} (F : lfx DC DM cI cZ p s m c b L xs) (hlw : lwd DC DM cI cZ aC aM A H0 gc gm H locs) (hM : ctCI l y_BF_calls b_BF_calls 1 f lo DC cI cZ aC [.ref (aC 0)] gc K) (hr : f + 1 ≤ R.frames ∧ 8 + (1 + 11) + lo ≤ R.locals) (hf : cells ≤ R.cells ∧ slots ≤ R.slots) (hsz : ls.size = 4) (hW : (rest.map fun v => v.category).sum ≤ 8) (hdg : decode code pc = .ok (.invokevirtual 76, 3))
    (kk : ∀ (r : Int32) (g' : St) (H' : Heap) (locs' : List Loc), K r g' → lwd DC DM cI cZ aC aM A H0 g' gm H' locs' → W p l e R s m #[Value.ref b] below meth c H' locs' cells slots Q (F0 m (pc + 3) ls (.int r :: rest))) : W p l e R s m #[Value.ref b] below meth c H locs cells slots Q (F0 m pc ls (.ref (aC 0) :: rest)) := by
  obtain ⟨hx, hb, hml, hown, hts, hX, hbl, hKC, hKM, hNC, hNM⟩ := F
  exact alC_I hlw (va_runV (As := []) (rest := rest) ⟨hx, hb, hml, hown, hts⟩ (hM H.size) ⟨callB_of 0 hts (goodLC _ kC_253) rfl rfl rfl (hts _ lwt_0) (hts _ lwt_86) (by decide +kernel) hr, hts _ lwt_87, hts _ lwt_88⟩ (prC_V (k := 0) hKC hNC hlw.1 (show clC[0]? = some (R_BF, F_BF, 7) from rfl) rfl) rfl rfl hsz rfl (lv_room hW) hdg hf) kk
theorem lc_79 {K : Int32 → St → Prop} {f lo : Nat} (F : lfx DC DM cI cZ p s m c b L xs) (hlw : lwd DC DM cI cZ aC aM A H0 gc gm H locs) (hM : ctMI l y_Mo_calls b_Mo_calls 1 f lo DM cI cZ aM [.ref (aM 0)] gm K) (hr : f + 1 ≤ R.frames ∧ 8 + (1 + 11) + lo ≤ R.locals) (hf : cells ≤ R.cells ∧ slots ≤ R.slots) (hsz : ls.size = 4) (hW : (rest.map fun v => v.category).sum ≤ 8) (hdg : decode code pc = .ok (.invokevirtual 79, 3))
    (kk : ∀ (r : Int32) (g' : St) (H' : Heap) (locs' : List Loc), K r g' → lwd DC DM cI cZ aC aM A H0 gc g' H' locs' → W p l e R s m #[Value.ref b] below meth c H' locs' cells slots Q (F0 m (pc + 3) ls (.int r :: rest))) : W p l e R s m #[Value.ref b] below meth c H locs cells slots Q (F0 m pc ls (.ref (aM 0) :: rest)) := by
  obtain ⟨hx, hb, hml, hown, hts, hX, hbl, hKC, hKM, hNC, hNM⟩ := F
  exact alM_I hlw (va_runV (As := []) (rest := rest) ⟨hx, hb, hml, hown, hts⟩ (hM H.size) ⟨callB_of 0 hts (goodLM _ kM_130) rfl rfl rfl (hts _ lwt_4) (hts _ lwt_89) (by decide +kernel) hr, hts _ lwt_90, hts _ lwt_91⟩ (prM_V (k := 0) hKM hNM hlw.2.1 (show clM[0]? = some (R_Mo, F_Mo, 29) from rfl) rfl) rfl rfl hsz rfl (lv_room hW) hdg hf) kk
theorem lc_80 {x1 : Int32} {K : Int32 → St → Prop} {f lo : Nat} (F : lfx DC DM cI cZ p s m c b L xs) (hlw : lwd DC DM cI cZ aC aM A H0 gc gm H locs) (hM : ctCI l y_BF_reach b_BF_reach 2 f lo DC cI cZ aC [.ref (aC 0), .int x1] gc K) (hr : f + 1 ≤ R.frames ∧ 8 + (2 + 11) + lo ≤ R.locals) (hf : cells ≤ R.cells ∧ slots ≤ R.slots) (hsz : ls.size = 4) (hW : (rest.map fun v => v.category).sum ≤ 8) (hdg : decode code pc = .ok (.invokevirtual 80, 3))
    (kk : ∀ (r : Int32) (g' : St) (H' : Heap) (locs' : List Loc), K r g' → lwd DC DM cI cZ aC aM A H0 g' gm H' locs' → W p l e R s m #[Value.ref b] below meth c H' locs' cells slots Q (F0 m (pc + 3) ls (.int r :: rest))) : W p l e R s m #[Value.ref b] below meth c H locs cells slots Q (F0 m pc ls (.int x1 :: .ref (aC 0) :: rest)) := by
  obtain ⟨hx, hb, hml, hown, hts, hX, hbl, hKC, hKM, hNC, hNM⟩ := F
  exact alC_I hlw (va_runV (As := [.int x1]) (rest := rest) ⟨hx, hb, hml, hown, hts⟩ (hM H.size) ⟨callB_of 1 hts (goodLC _ kC_254) rfl rfl rfl (hts _ lwt_0) (hts _ lwt_92) (by decide +kernel) hr, hts _ lwt_93, hts _ lwt_94⟩ (prC_V (k := 0) hKC hNC hlw.1 (show clC[0]? = some (R_BF, F_BF, 7) from rfl) rfl) rfl rfl hsz rfl (lv_room hW) hdg hf) kk
theorem lc_83 {x1 : Int32} {K : Int32 → St → Prop} {f lo : Nat} (F : lfx DC DM cI cZ p s m c b L xs) (hlw : lwd DC DM cI cZ aC aM A H0 gc gm H locs) (hM : ctMI l y_Mo_reach b_Mo_reach 3 f lo DM cI cZ aM [.ref (aM 0), .int x1] gm K) (hr : f + 1 ≤ R.frames ∧ 8 + (3 + 11) + lo ≤ R.locals) (hf : cells ≤ R.cells ∧ slots ≤ R.slots) (hsz : ls.size = 4) (hW : (rest.map fun v => v.category).sum ≤ 8) (hdg : decode code pc = .ok (.invokevirtual 83, 3))
    (kk : ∀ (r : Int32) (g' : St) (H' : Heap) (locs' : List Loc), K r g' → lwd DC DM cI cZ aC aM A H0 gc g' H' locs' → W p l e R s m #[Value.ref b] below meth c H' locs' cells slots Q (F0 m (pc + 3) ls (.int r :: rest))) : W p l e R s m #[Value.ref b] below meth c H locs cells slots Q (F0 m pc ls (.int x1 :: .ref (aM 0) :: rest)) := by
  obtain ⟨hx, hb, hml, hown, hts, hX, hbl, hKC, hKM, hNC, hNM⟩ := F
  exact alM_I hlw (va_runV (As := [.int x1]) (rest := rest) ⟨hx, hb, hml, hown, hts⟩ (hM H.size) ⟨callB_of 1 hts (goodLM _ kM_127) rfl rfl rfl (hts _ lwt_4) (hts _ lwt_95) (by decide +kernel) hr, hts _ lwt_96, hts _ lwt_97⟩ (prM_V (k := 0) hKM hNM hlw.2.1 (show clM[0]? = some (R_Mo, F_Mo, 29) from rfl) rfl) rfl rfl hsz rfl (lv_room hW) hdg hf) kk
set_option maxHeartbeats 4000000 in
theorem lb_0 {Rel : St → St → Prop} {i : Int32} (sim : ∀ (gc gm : St) (y1 : Int32), Rel gc gm → pc_BF_leaf y1 gc (fun r1 gc => pc_Mo_leaf y1 gm (fun r2 gm => r1 = r2 ∧ Rel gc gm))) (F : lfx DC DM cI cZ p s m c b L xs) (hbA : ¬ A b) (hR : Rel gc gm) (hlw : lwd DC DM cI cZ aC aM A s.heap gc gm H locs) (hl : lv_has ls 4 [(0, .ref b), (1, .ref (aC 0)), (2, .ref (aM 0)), (3, .int i)]) (hi : ∀ k : Nat, 1 ≤ k → k ≤ 5 → vp_in (i + nI k) L) (hf : cells ≤ R.cells ∧ slots ≤ R.slots) (hroom : 1 + 1 ≤ R.frames ∧ 8 + (2 + 11) + 25 ≤ R.locals) (hroom2 : 0 + 1 ≤ R.frames ∧ 8 + (2 + 11) + 0 ≤ R.locals)
    (kk : ∀ (gc gm : St) (H : Heap) (locs : List Loc), Rel gc gm → lwd DC DM cI cZ aC aM A s.heap gc gm H locs → W p l e R s m #[Value.ref b] below meth c H locs cells slots Q (F0 m 512 ls [])) : W p l e R s m #[Value.ref b] below meth c H locs cells slots Q (F0 m 112 ls []) := by
  obtain ⟨hx, hb, hml, hown, hts, hX, hbl, hKC, hKM, hNC, hNM⟩ := F
  have F : lfx DC DM cI cZ p s m c b L xs := ⟨hx, hb, hml, hown, hts, hX, hbl, hKC, hKM, hNC, hNM⟩
  refine lv_aload_n hx hb d_law_112 rfl (lv_at hl 1 rfl) ?_
  refine lv_aload_n hx hb d_law_113 rfl (lv_at hl 0 rfl) ?_
  refine lv_iload_n hx hb d_law_114 rfl (lv_at hl 3 rfl) ?_
  refine lv_iconst (v := 1) hx hb d_law_115 (by decide) ?_
  refine lv_iadd hx hb d_law_116 ?_
  refine va_sld hx hb hX hbl hbA hlw.1.2.2.1 (hi 1 (by decide) (by decide)) d_law_117 ?_
  refine lc_13 F hlw (ct_BF_leaf _ _ _ (sim gc gm (xs (i + 1).toNatClampNeg) hR)) hroom hf hl.1 (Nat.le_of_ble_eq_true rfl) d_law_118 (fun r1 gc H locs hw hlw => ?_)
  refine lv_aload_n hx hb d_law_121 rfl (lv_at hl 2 rfl) ?_
  refine lv_aload_n hx hb d_law_122 rfl (lv_at hl 0 rfl) ?_
  refine lv_iload_n hx hb d_law_123 rfl (lv_at hl 3 rfl) ?_
  refine lv_iconst (v := 1) hx hb d_law_124 (by decide) ?_
  refine lv_iadd hx hb d_law_125 ?_
  refine va_sld hx hb hX hbl hbA hlw.1.2.2.1 (hi 1 (by decide) (by decide)) d_law_126 ?_
  refine lc_17 F hlw (ct_Mo_leaf _ _ _ hw) hroom2 hf hl.1 (Nat.le_of_ble_eq_true rfl) d_law_127 (fun r2 gm H locs hw hlw => ?_)
  obtain ⟨h12, hR⟩ := hw
  exact lv_icmp_eq (tgt := 512) hx hb d_law_130 (by decide) (fun _ => kk gc gm H locs hR hlw) (fun hc => absurd h12 hc)
set_option maxHeartbeats 4000000 in
theorem lb_1 {Rel : St → St → Prop} {i : Int32} (sim : ∀ (gc gm : St) (y1 y2 y3 y4 y5 : Int32), Rel gc gm → pc_BF_split y1 y2 y3 y4 y5 gc (fun r1 gc => pc_Mo_split y1 y2 y3 y4 y5 gm (fun r2 gm => r1 = r2 ∧ Rel gc gm))) (F : lfx DC DM cI cZ p s m c b L xs) (hbA : ¬ A b) (hR : Rel gc gm) (hlw : lwd DC DM cI cZ aC aM A s.heap gc gm H locs) (hl : lv_has ls 4 [(0, .ref b), (1, .ref (aC 0)), (2, .ref (aM 0)), (3, .int i)]) (hi : ∀ k : Nat, 1 ≤ k → k ≤ 5 → vp_in (i + nI k) L) (hf : cells ≤ R.cells ∧ slots ≤ R.slots) (hroom : 2 + 1 ≤ R.frames ∧ 8 + (6 + 11) + 41 ≤ R.locals) (hroom2 : 1 + 1 ≤ R.frames ∧ 8 + (7 + 11) + 22 ≤ R.locals)
    (kk : ∀ (gc gm : St) (H : Heap) (locs : List Loc), Rel gc gm → lwd DC DM cI cZ aC aM A s.heap gc gm H locs → W p l e R s m #[Value.ref b] below meth c H locs cells slots Q (F0 m 512 ls [])) : W p l e R s m #[Value.ref b] below meth c H locs cells slots Q (F0 m 135 ls []) := by
  obtain ⟨hx, hb, hml, hown, hts, hX, hbl, hKC, hKM, hNC, hNM⟩ := F
  have F : lfx DC DM cI cZ p s m c b L xs := ⟨hx, hb, hml, hown, hts, hX, hbl, hKC, hKM, hNC, hNM⟩
  refine lv_aload_n hx hb d_law_135 rfl (lv_at hl 1 rfl) ?_
  refine lv_aload_n hx hb d_law_136 rfl (lv_at hl 0 rfl) ?_
  refine lv_iload_n hx hb d_law_137 rfl (lv_at hl 3 rfl) ?_
  refine lv_iconst (v := 1) hx hb d_law_138 (by decide) ?_
  refine lv_iadd hx hb d_law_139 ?_
  refine va_sld hx hb hX hbl hbA hlw.1.2.2.1 (hi 1 (by decide) (by decide)) d_law_140 ?_
  refine lv_aload_n hx hb d_law_141 rfl (lv_at hl 0 rfl) ?_
  refine lv_iload_n hx hb d_law_142 rfl (lv_at hl 3 rfl) ?_
  refine lv_iconst (v := 2) hx hb d_law_143 (by decide) ?_
  refine lv_iadd hx hb d_law_144 ?_
  refine va_sld hx hb hX hbl hbA hlw.1.2.2.1 (hi 2 (by decide) (by decide)) d_law_145 ?_
  refine lv_aload_n hx hb d_law_146 rfl (lv_at hl 0 rfl) ?_
  refine lv_iload_n hx hb d_law_147 rfl (lv_at hl 3 rfl) ?_
  refine lv_iconst (v := 3) hx hb d_law_148 (by decide) ?_
  refine lv_iadd hx hb d_law_149 ?_
  refine va_sld hx hb hX hbl hbA hlw.1.2.2.1 (hi 3 (by decide) (by decide)) d_law_150 ?_
  refine lv_aload_n hx hb d_law_151 rfl (lv_at hl 0 rfl) ?_
  refine lv_iload_n hx hb d_law_152 rfl (lv_at hl 3 rfl) ?_
  refine lv_iconst (v := 4) hx hb d_law_153 (by decide) ?_
  refine lv_iadd hx hb d_law_154 ?_
  refine va_sld hx hb hX hbl hbA hlw.1.2.2.1 (hi 4 (by decide) (by decide)) d_law_155 ?_
  refine lv_aload_n hx hb d_law_156 rfl (lv_at hl 0 rfl) ?_
  refine lv_iload_n hx hb d_law_157 rfl (lv_at hl 3 rfl) ?_
  refine lv_iconst (v := 5) hx hb d_law_158 (by decide) ?_
  refine lv_iadd hx hb d_law_159 ?_
  refine va_sld hx hb hX hbl hbA hlw.1.2.2.1 (hi 5 (by decide) (by decide)) d_law_160 ?_
  refine lc_18 F hlw (ct_BF_split _ _ _ _ _ _ _ (sim gc gm (xs (i + 1).toNatClampNeg) (xs (i + 2).toNatClampNeg) (xs (i + 3).toNatClampNeg) (xs (i + 4).toNatClampNeg) (xs (i + 5).toNatClampNeg) hR)) hroom hf hl.1 (Nat.le_of_ble_eq_true rfl) d_law_161 (fun r1 gc H locs hw hlw => ?_)
  refine lv_aload_n hx hb d_law_164 rfl (lv_at hl 2 rfl) ?_
  refine lv_aload_n hx hb d_law_165 rfl (lv_at hl 0 rfl) ?_
  refine lv_iload_n hx hb d_law_166 rfl (lv_at hl 3 rfl) ?_
  refine lv_iconst (v := 1) hx hb d_law_167 (by decide) ?_
  refine lv_iadd hx hb d_law_168 ?_
  refine va_sld hx hb hX hbl hbA hlw.1.2.2.1 (hi 1 (by decide) (by decide)) d_law_169 ?_
  refine lv_aload_n hx hb d_law_170 rfl (lv_at hl 0 rfl) ?_
  refine lv_iload_n hx hb d_law_171 rfl (lv_at hl 3 rfl) ?_
  refine lv_iconst (v := 2) hx hb d_law_172 (by decide) ?_
  refine lv_iadd hx hb d_law_173 ?_
  refine va_sld hx hb hX hbl hbA hlw.1.2.2.1 (hi 2 (by decide) (by decide)) d_law_174 ?_
  refine lv_aload_n hx hb d_law_175 rfl (lv_at hl 0 rfl) ?_
  refine lv_iload_n hx hb d_law_176 rfl (lv_at hl 3 rfl) ?_
  refine lv_iconst (v := 3) hx hb d_law_177 (by decide) ?_
  refine lv_iadd hx hb d_law_178 ?_
  refine va_sld hx hb hX hbl hbA hlw.1.2.2.1 (hi 3 (by decide) (by decide)) d_law_179 ?_
  refine lv_aload_n hx hb d_law_180 rfl (lv_at hl 0 rfl) ?_
  refine lv_iload_n hx hb d_law_181 rfl (lv_at hl 3 rfl) ?_
  refine lv_iconst (v := 4) hx hb d_law_182 (by decide) ?_
  refine lv_iadd hx hb d_law_183 ?_
  refine va_sld hx hb hX hbl hbA hlw.1.2.2.1 (hi 4 (by decide) (by decide)) d_law_184 ?_
  refine lv_aload_n hx hb d_law_185 rfl (lv_at hl 0 rfl) ?_
  refine lv_iload_n hx hb d_law_186 rfl (lv_at hl 3 rfl) ?_
  refine lv_iconst (v := 5) hx hb d_law_187 (by decide) ?_
  refine lv_iadd hx hb d_law_188 ?_
  refine va_sld hx hb hX hbl hbA hlw.1.2.2.1 (hi 5 (by decide) (by decide)) d_law_189 ?_
  refine lc_22 F hlw (ct_Mo_split _ _ _ _ _ _ _ hw) hroom2 hf hl.1 (Nat.le_of_ble_eq_true rfl) d_law_190 (fun r2 gm H locs hw hlw => ?_)
  obtain ⟨h12, hR⟩ := hw
  exact lv_icmp_eq (tgt := 512) hx hb d_law_193 (by decide) (fun _ => kk gc gm H locs hR hlw) (fun hc => absurd h12 hc)
set_option maxHeartbeats 4000000 in
theorem lb_2 {Rel : St → St → Prop} {i : Int32} (sim : ∀ (gc gm : St) (y1 : Int32), Rel gc gm → pc_BF_tree y1 gc (fun r1 gc => pc_Mo_tree y1 gm (fun r2 gm => r1 = r2 ∧ Rel gc gm))) (F : lfx DC DM cI cZ p s m c b L xs) (hbA : ¬ A b) (hR : Rel gc gm) (hlw : lwd DC DM cI cZ aC aM A s.heap gc gm H locs) (hl : lv_has ls 4 [(0, .ref b), (1, .ref (aC 0)), (2, .ref (aM 0)), (3, .int i)]) (hi : ∀ k : Nat, 1 ≤ k → k ≤ 5 → vp_in (i + nI k) L) (hf : cells ≤ R.cells ∧ slots ≤ R.slots) (hroom : 2 + 1 ≤ R.frames ∧ 8 + (2 + 11) + 42 ≤ R.locals) (hroom2 : 1 + 1 ≤ R.frames ∧ 8 + (2 + 11) + 22 ≤ R.locals)
    (kk : ∀ (gc gm : St) (H : Heap) (locs : List Loc), Rel gc gm → lwd DC DM cI cZ aC aM A s.heap gc gm H locs → W p l e R s m #[Value.ref b] below meth c H locs cells slots Q (F0 m 512 ls [])) : W p l e R s m #[Value.ref b] below meth c H locs cells slots Q (F0 m 198 ls []) := by
  obtain ⟨hx, hb, hml, hown, hts, hX, hbl, hKC, hKM, hNC, hNM⟩ := F
  have F : lfx DC DM cI cZ p s m c b L xs := ⟨hx, hb, hml, hown, hts, hX, hbl, hKC, hKM, hNC, hNM⟩
  refine lv_aload_n hx hb d_law_198 rfl (lv_at hl 1 rfl) ?_
  refine lv_aload_n hx hb d_law_199 rfl (lv_at hl 0 rfl) ?_
  refine lv_iload_n hx hb d_law_200 rfl (lv_at hl 3 rfl) ?_
  refine lv_iconst (v := 1) hx hb d_law_201 (by decide) ?_
  refine lv_iadd hx hb d_law_202 ?_
  refine va_sld hx hb hX hbl hbA hlw.1.2.2.1 (hi 1 (by decide) (by decide)) d_law_203 ?_
  refine lc_23 F hlw (ct_BF_tree _ _ _ (sim gc gm (xs (i + 1).toNatClampNeg) hR)) hroom hf hl.1 (Nat.le_of_ble_eq_true rfl) d_law_204 (fun r1 gc H locs hw hlw => ?_)
  refine lv_aload_n hx hb d_law_207 rfl (lv_at hl 2 rfl) ?_
  refine lv_aload_n hx hb d_law_208 rfl (lv_at hl 0 rfl) ?_
  refine lv_iload_n hx hb d_law_209 rfl (lv_at hl 3 rfl) ?_
  refine lv_iconst (v := 1) hx hb d_law_210 (by decide) ?_
  refine lv_iadd hx hb d_law_211 ?_
  refine va_sld hx hb hX hbl hbA hlw.1.2.2.1 (hi 1 (by decide) (by decide)) d_law_212 ?_
  refine lc_26 F hlw (ct_Mo_tree _ _ _ hw) hroom2 hf hl.1 (Nat.le_of_ble_eq_true rfl) d_law_213 (fun r2 gm H locs hw hlw => ?_)
  obtain ⟨h12, hR⟩ := hw
  exact lv_icmp_eq (tgt := 512) hx hb d_law_216 (by decide) (fun _ => kk gc gm H locs hR hlw) (fun hc => absurd h12 hc)
set_option maxHeartbeats 4000000 in
theorem lb_3 {Rel : St → St → Prop} {i : Int32} (sim : ∀ (gc gm : St) (y1 y2 : Int32), Rel gc gm → pc_BF_compile y1 y2 gc (fun r1 gc => pc_Mo_compile y1 y2 gm (fun r2 gm => r1 = r2 ∧ Rel gc gm))) (F : lfx DC DM cI cZ p s m c b L xs) (hbA : ¬ A b) (hR : Rel gc gm) (hlw : lwd DC DM cI cZ aC aM A s.heap gc gm H locs) (hl : lv_has ls 4 [(0, .ref b), (1, .ref (aC 0)), (2, .ref (aM 0)), (3, .int i)]) (hi : ∀ k : Nat, 1 ≤ k → k ≤ 5 → vp_in (i + nI k) L) (hf : cells ≤ R.cells ∧ slots ≤ R.slots) (hroom : 34 + 1 ≤ R.frames ∧ 8 + (4 + 11) + 779 ≤ R.locals) (hroom2 : 5 + 1 ≤ R.frames ∧ 8 + (5 + 11) + 112 ≤ R.locals)
    (kk : ∀ (gc gm : St) (H : Heap) (locs : List Loc), Rel gc gm → lwd DC DM cI cZ aC aM A s.heap gc gm H locs → W p l e R s m #[Value.ref b] below meth c H locs cells slots Q (F0 m 512 ls [])) : W p l e R s m #[Value.ref b] below meth c H locs cells slots Q (F0 m 221 ls []) := by
  obtain ⟨hx, hb, hml, hown, hts, hX, hbl, hKC, hKM, hNC, hNM⟩ := F
  have F : lfx DC DM cI cZ p s m c b L xs := ⟨hx, hb, hml, hown, hts, hX, hbl, hKC, hKM, hNC, hNM⟩
  refine lv_aload_n hx hb d_law_221 rfl (lv_at hl 1 rfl) ?_
  refine lv_aload_n hx hb d_law_222 rfl (lv_at hl 0 rfl) ?_
  refine lv_iload_n hx hb d_law_223 rfl (lv_at hl 3 rfl) ?_
  refine lv_iconst (v := 1) hx hb d_law_224 (by decide) ?_
  refine lv_iadd hx hb d_law_225 ?_
  refine va_sld hx hb hX hbl hbA hlw.1.2.2.1 (hi 1 (by decide) (by decide)) d_law_226 ?_
  refine lv_aload_n hx hb d_law_227 rfl (lv_at hl 0 rfl) ?_
  refine lv_iload_n hx hb d_law_228 rfl (lv_at hl 3 rfl) ?_
  refine lv_iconst (v := 2) hx hb d_law_229 (by decide) ?_
  refine lv_iadd hx hb d_law_230 ?_
  refine va_sld hx hb hX hbl hbA hlw.1.2.2.1 (hi 2 (by decide) (by decide)) d_law_231 ?_
  refine lc_27 F hlw (ct_BF_compile _ _ _ _ (sim gc gm (xs (i + 1).toNatClampNeg) (xs (i + 2).toNatClampNeg) hR)) hroom hf hl.1 (Nat.le_of_ble_eq_true rfl) d_law_232 (fun r1 gc H locs hw hlw => ?_)
  refine lv_aload_n hx hb d_law_235 rfl (lv_at hl 2 rfl) ?_
  refine lv_aload_n hx hb d_law_236 rfl (lv_at hl 0 rfl) ?_
  refine lv_iload_n hx hb d_law_237 rfl (lv_at hl 3 rfl) ?_
  refine lv_iconst (v := 1) hx hb d_law_238 (by decide) ?_
  refine lv_iadd hx hb d_law_239 ?_
  refine va_sld hx hb hX hbl hbA hlw.1.2.2.1 (hi 1 (by decide) (by decide)) d_law_240 ?_
  refine lv_aload_n hx hb d_law_241 rfl (lv_at hl 0 rfl) ?_
  refine lv_iload_n hx hb d_law_242 rfl (lv_at hl 3 rfl) ?_
  refine lv_iconst (v := 2) hx hb d_law_243 (by decide) ?_
  refine lv_iadd hx hb d_law_244 ?_
  refine va_sld hx hb hX hbl hbA hlw.1.2.2.1 (hi 2 (by decide) (by decide)) d_law_245 ?_
  refine lc_31 F hlw (ct_Mo_compile _ _ _ _ hw) hroom2 hf hl.1 (Nat.le_of_ble_eq_true rfl) d_law_246 (fun r2 gm H locs hw hlw => ?_)
  obtain ⟨h12, hR⟩ := hw
  exact lv_icmp_eq (tgt := 512) hx hb d_law_249 (by decide) (fun _ => kk gc gm H locs hR hlw) (fun hc => absurd h12 hc)
set_option maxHeartbeats 4000000 in
theorem lb_4 {Rel : St → St → Prop} {i : Int32} (sim : ∀ (gc gm : St), Rel gc gm → pc_BF_methods gc (fun r1 gc => pc_Mo_methods gm (fun r2 gm => r1 = r2 ∧ Rel gc gm))) (F : lfx DC DM cI cZ p s m c b L xs) (hbA : ¬ A b) (hR : Rel gc gm) (hlw : lwd DC DM cI cZ aC aM A s.heap gc gm H locs) (hl : lv_has ls 4 [(0, .ref b), (1, .ref (aC 0)), (2, .ref (aM 0)), (3, .int i)]) (hi : ∀ k : Nat, 1 ≤ k → k ≤ 5 → vp_in (i + nI k) L) (hf : cells ≤ R.cells ∧ slots ≤ R.slots) (hroom : 0 + 1 ≤ R.frames ∧ 8 + (1 + 11) + 0 ≤ R.locals) (hroom2 : 0 + 1 ≤ R.frames ∧ 8 + (1 + 11) + 0 ≤ R.locals)
    (kk : ∀ (gc gm : St) (H : Heap) (locs : List Loc), Rel gc gm → lwd DC DM cI cZ aC aM A s.heap gc gm H locs → W p l e R s m #[Value.ref b] below meth c H locs cells slots Q (F0 m 512 ls [])) : W p l e R s m #[Value.ref b] below meth c H locs cells slots Q (F0 m 254 ls []) := by
  obtain ⟨hx, hb, hml, hown, hts, hX, hbl, hKC, hKM, hNC, hNM⟩ := F
  have F : lfx DC DM cI cZ p s m c b L xs := ⟨hx, hb, hml, hown, hts, hX, hbl, hKC, hKM, hNC, hNM⟩
  refine lv_aload_n hx hb d_law_254 rfl (lv_at hl 1 rfl) ?_
  refine lc_32 F hlw (ct_BF_methods  _ _ (sim gc gm  hR)) hroom hf hl.1 (Nat.le_of_ble_eq_true rfl) d_law_255 (fun r1 gc H locs hw hlw => ?_)
  refine lv_aload_n hx hb d_law_258 rfl (lv_at hl 2 rfl) ?_
  refine lc_36 F hlw (ct_Mo_methods  _ _ hw) hroom2 hf hl.1 (Nat.le_of_ble_eq_true rfl) d_law_259 (fun r2 gm H locs hw hlw => ?_)
  obtain ⟨h12, hR⟩ := hw
  exact lv_icmp_eq (tgt := 512) hx hb d_law_262 (by decide) (fun _ => kk gc gm H locs hR hlw) (fun hc => absurd h12 hc)
set_option maxHeartbeats 4000000 in
theorem lb_5 {Rel : St → St → Prop} {i : Int32} (sim : ∀ (gc gm : St) (y1 : Int32), Rel gc gm → pc_BF_length y1 gc (fun r1 gc => pc_Mo_length y1 gm (fun r2 gm => r1 = r2 ∧ Rel gc gm))) (F : lfx DC DM cI cZ p s m c b L xs) (hbA : ¬ A b) (hR : Rel gc gm) (hlw : lwd DC DM cI cZ aC aM A s.heap gc gm H locs) (hl : lv_has ls 4 [(0, .ref b), (1, .ref (aC 0)), (2, .ref (aM 0)), (3, .int i)]) (hi : ∀ k : Nat, 1 ≤ k → k ≤ 5 → vp_in (i + nI k) L) (hf : cells ≤ R.cells ∧ slots ≤ R.slots) (hroom : 1 + 1 ≤ R.frames ∧ 8 + (2 + 11) + 21 ≤ R.locals) (hroom2 : 1 + 1 ≤ R.frames ∧ 8 + (2 + 11) + 21 ≤ R.locals)
    (kk : ∀ (gc gm : St) (H : Heap) (locs : List Loc), Rel gc gm → lwd DC DM cI cZ aC aM A s.heap gc gm H locs → W p l e R s m #[Value.ref b] below meth c H locs cells slots Q (F0 m 512 ls [])) : W p l e R s m #[Value.ref b] below meth c H locs cells slots Q (F0 m 267 ls []) := by
  obtain ⟨hx, hb, hml, hown, hts, hX, hbl, hKC, hKM, hNC, hNM⟩ := F
  have F : lfx DC DM cI cZ p s m c b L xs := ⟨hx, hb, hml, hown, hts, hX, hbl, hKC, hKM, hNC, hNM⟩
  refine lv_aload_n hx hb d_law_267 rfl (lv_at hl 1 rfl) ?_
  refine lv_aload_n hx hb d_law_268 rfl (lv_at hl 0 rfl) ?_
  refine lv_iload_n hx hb d_law_269 rfl (lv_at hl 3 rfl) ?_
  refine lv_iconst (v := 1) hx hb d_law_270 (by decide) ?_
  refine lv_iadd hx hb d_law_271 ?_
  refine va_sld hx hb hX hbl hbA hlw.1.2.2.1 (hi 1 (by decide) (by decide)) d_law_272 ?_
  refine lc_37 F hlw (ct_BF_length _ _ _ (sim gc gm (xs (i + 1).toNatClampNeg) hR)) hroom hf hl.1 (Nat.le_of_ble_eq_true rfl) d_law_273 (fun r1 gc H locs hw hlw => ?_)
  refine lv_aload_n hx hb d_law_276 rfl (lv_at hl 2 rfl) ?_
  refine lv_aload_n hx hb d_law_277 rfl (lv_at hl 0 rfl) ?_
  refine lv_iload_n hx hb d_law_278 rfl (lv_at hl 3 rfl) ?_
  refine lv_iconst (v := 1) hx hb d_law_279 (by decide) ?_
  refine lv_iadd hx hb d_law_280 ?_
  refine va_sld hx hb hX hbl hbA hlw.1.2.2.1 (hi 1 (by decide) (by decide)) d_law_281 ?_
  refine lc_40 F hlw (ct_Mo_length _ _ _ hw) hroom2 hf hl.1 (Nat.le_of_ble_eq_true rfl) d_law_282 (fun r2 gm H locs hw hlw => ?_)
  obtain ⟨h12, hR⟩ := hw
  exact lv_icmp_eq (tgt := 512) hx hb d_law_285 (by decide) (fun _ => kk gc gm H locs hR hlw) (fun hc => absurd h12 hc)
set_option maxHeartbeats 4000000 in
theorem lb_6 {Rel : St → St → Prop} {i : Int32} (sim : ∀ (gc gm : St) (y1 y2 : Int32), Rel gc gm → pc_BF_byteAt y1 y2 gc (fun r1 gc => pc_Mo_byteAt y1 y2 gm (fun r2 gm => r1 = r2 ∧ Rel gc gm))) (F : lfx DC DM cI cZ p s m c b L xs) (hbA : ¬ A b) (hR : Rel gc gm) (hlw : lwd DC DM cI cZ aC aM A s.heap gc gm H locs) (hl : lv_has ls 4 [(0, .ref b), (1, .ref (aC 0)), (2, .ref (aM 0)), (3, .int i)]) (hi : ∀ k : Nat, 1 ≤ k → k ≤ 5 → vp_in (i + nI k) L) (hf : cells ≤ R.cells ∧ slots ≤ R.slots) (hroom : 2 + 1 ≤ R.frames ∧ 8 + (3 + 11) + 42 ≤ R.locals) (hroom2 : 1 + 1 ≤ R.frames ∧ 8 + (3 + 11) + 21 ≤ R.locals)
    (kk : ∀ (gc gm : St) (H : Heap) (locs : List Loc), Rel gc gm → lwd DC DM cI cZ aC aM A s.heap gc gm H locs → W p l e R s m #[Value.ref b] below meth c H locs cells slots Q (F0 m 512 ls [])) : W p l e R s m #[Value.ref b] below meth c H locs cells slots Q (F0 m 290 ls []) := by
  obtain ⟨hx, hb, hml, hown, hts, hX, hbl, hKC, hKM, hNC, hNM⟩ := F
  have F : lfx DC DM cI cZ p s m c b L xs := ⟨hx, hb, hml, hown, hts, hX, hbl, hKC, hKM, hNC, hNM⟩
  refine lv_aload_n hx hb d_law_290 rfl (lv_at hl 1 rfl) ?_
  refine lv_aload_n hx hb d_law_291 rfl (lv_at hl 0 rfl) ?_
  refine lv_iload_n hx hb d_law_292 rfl (lv_at hl 3 rfl) ?_
  refine lv_iconst (v := 1) hx hb d_law_293 (by decide) ?_
  refine lv_iadd hx hb d_law_294 ?_
  refine va_sld hx hb hX hbl hbA hlw.1.2.2.1 (hi 1 (by decide) (by decide)) d_law_295 ?_
  refine lv_aload_n hx hb d_law_296 rfl (lv_at hl 0 rfl) ?_
  refine lv_iload_n hx hb d_law_297 rfl (lv_at hl 3 rfl) ?_
  refine lv_iconst (v := 2) hx hb d_law_298 (by decide) ?_
  refine lv_iadd hx hb d_law_299 ?_
  refine va_sld hx hb hX hbl hbA hlw.1.2.2.1 (hi 2 (by decide) (by decide)) d_law_300 ?_
  refine lc_41 F hlw (ct_BF_byteAt _ _ _ _ (sim gc gm (xs (i + 1).toNatClampNeg) (xs (i + 2).toNatClampNeg) hR)) hroom hf hl.1 (Nat.le_of_ble_eq_true rfl) d_law_301 (fun r1 gc H locs hw hlw => ?_)
  refine lv_aload_n hx hb d_law_304 rfl (lv_at hl 2 rfl) ?_
  refine lv_aload_n hx hb d_law_305 rfl (lv_at hl 0 rfl) ?_
  refine lv_iload_n hx hb d_law_306 rfl (lv_at hl 3 rfl) ?_
  refine lv_iconst (v := 1) hx hb d_law_307 (by decide) ?_
  refine lv_iadd hx hb d_law_308 ?_
  refine va_sld hx hb hX hbl hbA hlw.1.2.2.1 (hi 1 (by decide) (by decide)) d_law_309 ?_
  refine lv_aload_n hx hb d_law_310 rfl (lv_at hl 0 rfl) ?_
  refine lv_iload_n hx hb d_law_311 rfl (lv_at hl 3 rfl) ?_
  refine lv_iconst (v := 2) hx hb d_law_312 (by decide) ?_
  refine lv_iadd hx hb d_law_313 ?_
  refine va_sld hx hb hX hbl hbA hlw.1.2.2.1 (hi 2 (by decide) (by decide)) d_law_314 ?_
  refine lc_44 F hlw (ct_Mo_byteAt _ _ _ _ hw) hroom2 hf hl.1 (Nat.le_of_ble_eq_true rfl) d_law_315 (fun r2 gm H locs hw hlw => ?_)
  obtain ⟨h12, hR⟩ := hw
  exact lv_icmp_eq (tgt := 512) hx hb d_law_318 (by decide) (fun _ => kk gc gm H locs hR hlw) (fun hc => absurd h12 hc)
set_option maxHeartbeats 4000000 in
theorem lb_7 {Rel : St → St → Prop} {i : Int32} (sim : ∀ (gc gm : St) (y1 : Int32), Rel gc gm → pc_BF_classOf y1 gc (fun r1 gc => pc_Mo_classOf y1 gm (fun r2 gm => r1 = r2 ∧ Rel gc gm))) (F : lfx DC DM cI cZ p s m c b L xs) (hbA : ¬ A b) (hR : Rel gc gm) (hlw : lwd DC DM cI cZ aC aM A s.heap gc gm H locs) (hl : lv_has ls 4 [(0, .ref b), (1, .ref (aC 0)), (2, .ref (aM 0)), (3, .int i)]) (hi : ∀ k : Nat, 1 ≤ k → k ≤ 5 → vp_in (i + nI k) L) (hf : cells ≤ R.cells ∧ slots ≤ R.slots) (hroom : 1 + 1 ≤ R.frames ∧ 8 + (2 + 11) + 21 ≤ R.locals) (hroom2 : 1 + 1 ≤ R.frames ∧ 8 + (2 + 11) + 21 ≤ R.locals)
    (kk : ∀ (gc gm : St) (H : Heap) (locs : List Loc), Rel gc gm → lwd DC DM cI cZ aC aM A s.heap gc gm H locs → W p l e R s m #[Value.ref b] below meth c H locs cells slots Q (F0 m 512 ls [])) : W p l e R s m #[Value.ref b] below meth c H locs cells slots Q (F0 m 323 ls []) := by
  obtain ⟨hx, hb, hml, hown, hts, hX, hbl, hKC, hKM, hNC, hNM⟩ := F
  have F : lfx DC DM cI cZ p s m c b L xs := ⟨hx, hb, hml, hown, hts, hX, hbl, hKC, hKM, hNC, hNM⟩
  refine lv_aload_n hx hb d_law_323 rfl (lv_at hl 1 rfl) ?_
  refine lv_aload_n hx hb d_law_324 rfl (lv_at hl 0 rfl) ?_
  refine lv_iload_n hx hb d_law_325 rfl (lv_at hl 3 rfl) ?_
  refine lv_iconst (v := 1) hx hb d_law_326 (by decide) ?_
  refine lv_iadd hx hb d_law_327 ?_
  refine va_sld hx hb hX hbl hbA hlw.1.2.2.1 (hi 1 (by decide) (by decide)) d_law_328 ?_
  refine lc_45 F hlw (ct_BF_classOf _ _ _ (sim gc gm (xs (i + 1).toNatClampNeg) hR)) hroom hf hl.1 (Nat.le_of_ble_eq_true rfl) d_law_329 (fun r1 gc H locs hw hlw => ?_)
  refine lv_aload_n hx hb d_law_332 rfl (lv_at hl 2 rfl) ?_
  refine lv_aload_n hx hb d_law_333 rfl (lv_at hl 0 rfl) ?_
  refine lv_iload_n hx hb d_law_334 rfl (lv_at hl 3 rfl) ?_
  refine lv_iconst (v := 1) hx hb d_law_335 (by decide) ?_
  refine lv_iadd hx hb d_law_336 ?_
  refine va_sld hx hb hX hbl hbA hlw.1.2.2.1 (hi 1 (by decide) (by decide)) d_law_337 ?_
  refine lc_48 F hlw (ct_Mo_classOf _ _ _ hw) hroom2 hf hl.1 (Nat.le_of_ble_eq_true rfl) d_law_338 (fun r2 gm H locs hw hlw => ?_)
  obtain ⟨h12, hR⟩ := hw
  exact lv_icmp_eq (tgt := 512) hx hb d_law_341 (by decide) (fun _ => kk gc gm H locs hR hlw) (fun hc => absurd h12 hc)
set_option maxHeartbeats 4000000 in
theorem lb_8 {Rel : St → St → Prop} {i : Int32} (sim : ∀ (gc gm : St), Rel gc gm → pc_BF_classes gc (fun r1 gc => pc_Mo_classes gm (fun r2 gm => r1 = r2 ∧ Rel gc gm))) (F : lfx DC DM cI cZ p s m c b L xs) (hbA : ¬ A b) (hR : Rel gc gm) (hlw : lwd DC DM cI cZ aC aM A s.heap gc gm H locs) (hl : lv_has ls 4 [(0, .ref b), (1, .ref (aC 0)), (2, .ref (aM 0)), (3, .int i)]) (hi : ∀ k : Nat, 1 ≤ k → k ≤ 5 → vp_in (i + nI k) L) (hf : cells ≤ R.cells ∧ slots ≤ R.slots) (hroom : 0 + 1 ≤ R.frames ∧ 8 + (1 + 11) + 0 ≤ R.locals) (hroom2 : 0 + 1 ≤ R.frames ∧ 8 + (1 + 11) + 0 ≤ R.locals)
    (kk : ∀ (gc gm : St) (H : Heap) (locs : List Loc), Rel gc gm → lwd DC DM cI cZ aC aM A s.heap gc gm H locs → W p l e R s m #[Value.ref b] below meth c H locs cells slots Q (F0 m 512 ls [])) : W p l e R s m #[Value.ref b] below meth c H locs cells slots Q (F0 m 346 ls []) := by
  obtain ⟨hx, hb, hml, hown, hts, hX, hbl, hKC, hKM, hNC, hNM⟩ := F
  have F : lfx DC DM cI cZ p s m c b L xs := ⟨hx, hb, hml, hown, hts, hX, hbl, hKC, hKM, hNC, hNM⟩
  refine lv_aload_n hx hb d_law_346 rfl (lv_at hl 1 rfl) ?_
  refine lc_49 F hlw (ct_BF_classes  _ _ (sim gc gm  hR)) hroom hf hl.1 (Nat.le_of_ble_eq_true rfl) d_law_347 (fun r1 gc H locs hw hlw => ?_)
  refine lv_aload_n hx hb d_law_350 rfl (lv_at hl 2 rfl) ?_
  refine lc_52 F hlw (ct_Mo_classes  _ _ hw) hroom2 hf hl.1 (Nat.le_of_ble_eq_true rfl) d_law_351 (fun r2 gm H locs hw hlw => ?_)
  obtain ⟨h12, hR⟩ := hw
  exact lv_icmp_eq (tgt := 512) hx hb d_law_354 (by decide) (fun _ => kk gc gm H locs hR hlw) (fun hc => absurd h12 hc)
set_option maxHeartbeats 4000000 in
theorem lb_9 {Rel : St → St → Prop} {i : Int32} (sim : ∀ (gc gm : St) (y1 : Int32), Rel gc gm → pc_BF_entries y1 gc (fun r1 gc => pc_Mo_entries y1 gm (fun r2 gm => r1 = r2 ∧ Rel gc gm))) (F : lfx DC DM cI cZ p s m c b L xs) (hbA : ¬ A b) (hR : Rel gc gm) (hlw : lwd DC DM cI cZ aC aM A s.heap gc gm H locs) (hl : lv_has ls 4 [(0, .ref b), (1, .ref (aC 0)), (2, .ref (aM 0)), (3, .int i)]) (hi : ∀ k : Nat, 1 ≤ k → k ≤ 5 → vp_in (i + nI k) L) (hf : cells ≤ R.cells ∧ slots ≤ R.slots) (hroom : 1 + 1 ≤ R.frames ∧ 8 + (2 + 11) + 21 ≤ R.locals) (hroom2 : 0 + 1 ≤ R.frames ∧ 8 + (2 + 11) + 0 ≤ R.locals)
    (kk : ∀ (gc gm : St) (H : Heap) (locs : List Loc), Rel gc gm → lwd DC DM cI cZ aC aM A s.heap gc gm H locs → W p l e R s m #[Value.ref b] below meth c H locs cells slots Q (F0 m 512 ls [])) : W p l e R s m #[Value.ref b] below meth c H locs cells slots Q (F0 m 359 ls []) := by
  obtain ⟨hx, hb, hml, hown, hts, hX, hbl, hKC, hKM, hNC, hNM⟩ := F
  have F : lfx DC DM cI cZ p s m c b L xs := ⟨hx, hb, hml, hown, hts, hX, hbl, hKC, hKM, hNC, hNM⟩
  refine lv_aload_n hx hb d_law_359 rfl (lv_at hl 1 rfl) ?_
  refine lv_aload_n hx hb d_law_360 rfl (lv_at hl 0 rfl) ?_
  refine lv_iload_n hx hb d_law_361 rfl (lv_at hl 3 rfl) ?_
  refine lv_iconst (v := 1) hx hb d_law_362 (by decide) ?_
  refine lv_iadd hx hb d_law_363 ?_
  refine va_sld hx hb hX hbl hbA hlw.1.2.2.1 (hi 1 (by decide) (by decide)) d_law_364 ?_
  refine lc_53 F hlw (ct_BF_entries _ _ _ (sim gc gm (xs (i + 1).toNatClampNeg) hR)) hroom hf hl.1 (Nat.le_of_ble_eq_true rfl) d_law_365 (fun r1 gc H locs hw hlw => ?_)
  refine lv_aload_n hx hb d_law_368 rfl (lv_at hl 2 rfl) ?_
  refine lv_aload_n hx hb d_law_369 rfl (lv_at hl 0 rfl) ?_
  refine lv_iload_n hx hb d_law_370 rfl (lv_at hl 3 rfl) ?_
  refine lv_iconst (v := 1) hx hb d_law_371 (by decide) ?_
  refine lv_iadd hx hb d_law_372 ?_
  refine va_sld hx hb hX hbl hbA hlw.1.2.2.1 (hi 1 (by decide) (by decide)) d_law_373 ?_
  refine lc_56 F hlw (ct_Mo_entries _ _ _ hw) hroom2 hf hl.1 (Nat.le_of_ble_eq_true rfl) d_law_374 (fun r2 gm H locs hw hlw => ?_)
  obtain ⟨h12, hR⟩ := hw
  exact lv_icmp_eq (tgt := 512) hx hb d_law_377 (by decide) (fun _ => kk gc gm H locs hR hlw) (fun hc => absurd h12 hc)
set_option maxHeartbeats 4000000 in
theorem lb_10 {Rel : St → St → Prop} {i : Int32} (sim : ∀ (gc gm : St) (y1 y2 : Int32), Rel gc gm → pc_BF_entry y1 y2 gc (fun r1 gc => pc_Mo_entry y1 y2 gm (fun r2 gm => r1 = r2 ∧ Rel gc gm))) (F : lfx DC DM cI cZ p s m c b L xs) (hbA : ¬ A b) (hR : Rel gc gm) (hlw : lwd DC DM cI cZ aC aM A s.heap gc gm H locs) (hl : lv_has ls 4 [(0, .ref b), (1, .ref (aC 0)), (2, .ref (aM 0)), (3, .int i)]) (hi : ∀ k : Nat, 1 ≤ k → k ≤ 5 → vp_in (i + nI k) L) (hf : cells ≤ R.cells ∧ slots ≤ R.slots) (hroom : 2 + 1 ≤ R.frames ∧ 8 + (4 + 11) + 43 ≤ R.locals) (hroom2 : 0 + 1 ≤ R.frames ∧ 8 + (3 + 11) + 0 ≤ R.locals)
    (kk : ∀ (gc gm : St) (H : Heap) (locs : List Loc), Rel gc gm → lwd DC DM cI cZ aC aM A s.heap gc gm H locs → W p l e R s m #[Value.ref b] below meth c H locs cells slots Q (F0 m 512 ls [])) : W p l e R s m #[Value.ref b] below meth c H locs cells slots Q (F0 m 382 ls []) := by
  obtain ⟨hx, hb, hml, hown, hts, hX, hbl, hKC, hKM, hNC, hNM⟩ := F
  have F : lfx DC DM cI cZ p s m c b L xs := ⟨hx, hb, hml, hown, hts, hX, hbl, hKC, hKM, hNC, hNM⟩
  refine lv_aload_n hx hb d_law_382 rfl (lv_at hl 1 rfl) ?_
  refine lv_aload_n hx hb d_law_383 rfl (lv_at hl 0 rfl) ?_
  refine lv_iload_n hx hb d_law_384 rfl (lv_at hl 3 rfl) ?_
  refine lv_iconst (v := 1) hx hb d_law_385 (by decide) ?_
  refine lv_iadd hx hb d_law_386 ?_
  refine va_sld hx hb hX hbl hbA hlw.1.2.2.1 (hi 1 (by decide) (by decide)) d_law_387 ?_
  refine lv_aload_n hx hb d_law_388 rfl (lv_at hl 0 rfl) ?_
  refine lv_iload_n hx hb d_law_389 rfl (lv_at hl 3 rfl) ?_
  refine lv_iconst (v := 2) hx hb d_law_390 (by decide) ?_
  refine lv_iadd hx hb d_law_391 ?_
  refine va_sld hx hb hX hbl hbA hlw.1.2.2.1 (hi 2 (by decide) (by decide)) d_law_392 ?_
  refine lc_57 F hlw (ct_BF_entry _ _ _ _ (sim gc gm (xs (i + 1).toNatClampNeg) (xs (i + 2).toNatClampNeg) hR)) hroom hf hl.1 (Nat.le_of_ble_eq_true rfl) d_law_393 (fun r1 gc H locs hw hlw => ?_)
  refine lv_aload_n hx hb d_law_396 rfl (lv_at hl 2 rfl) ?_
  refine lv_aload_n hx hb d_law_397 rfl (lv_at hl 0 rfl) ?_
  refine lv_iload_n hx hb d_law_398 rfl (lv_at hl 3 rfl) ?_
  refine lv_iconst (v := 1) hx hb d_law_399 (by decide) ?_
  refine lv_iadd hx hb d_law_400 ?_
  refine va_sld hx hb hX hbl hbA hlw.1.2.2.1 (hi 1 (by decide) (by decide)) d_law_401 ?_
  refine lv_aload_n hx hb d_law_402 rfl (lv_at hl 0 rfl) ?_
  refine lv_iload_n hx hb d_law_403 rfl (lv_at hl 3 rfl) ?_
  refine lv_iconst (v := 2) hx hb d_law_404 (by decide) ?_
  refine lv_iadd hx hb d_law_405 ?_
  refine va_sld hx hb hX hbl hbA hlw.1.2.2.1 (hi 2 (by decide) (by decide)) d_law_406 ?_
  refine lc_61 F hlw (ct_Mo_entry _ _ _ _ hw) hroom2 hf hl.1 (Nat.le_of_ble_eq_true rfl) d_law_407 (fun r2 gm H locs hw hlw => ?_)
  obtain ⟨h12, hR⟩ := hw
  refine W.lcmp hx hb d_law_410 ?_
  exact lv_if_eq (tgt := 512) hx hb d_law_411 (by decide) (fun _ => kk gc gm H locs hR hlw) (fun hc => absurd (by rw [h12]; exact lg_self _) hc)
set_option maxHeartbeats 4000000 in
theorem lb_11 {Rel : St → St → Prop} {i : Int32} (sim : ∀ (gc gm : St) (y1 y2 : Int32), Rel gc gm → pc_BF_set y1 y2 gc (fun r1 gc => pc_Mo_set y1 y2 gm (fun r2 gm => r1 = r2 ∧ Rel gc gm))) (F : lfx DC DM cI cZ p s m c b L xs) (hbA : ¬ A b) (hR : Rel gc gm) (hlw : lwd DC DM cI cZ aC aM A s.heap gc gm H locs) (hl : lv_has ls 4 [(0, .ref b), (1, .ref (aC 0)), (2, .ref (aM 0)), (3, .int i)]) (hi : ∀ k : Nat, 1 ≤ k → k ≤ 5 → vp_in (i + nI k) L) (hf : cells ≤ R.cells ∧ slots ≤ R.slots) (hroom : 1 + 1 ≤ R.frames ∧ 8 + (3 + 11) + 20 ≤ R.locals) (hroom2 : 1 + 1 ≤ R.frames ∧ 8 + (3 + 11) + 22 ≤ R.locals)
    (kk : ∀ (gc gm : St) (H : Heap) (locs : List Loc), Rel gc gm → lwd DC DM cI cZ aC aM A s.heap gc gm H locs → W p l e R s m #[Value.ref b] below meth c H locs cells slots Q (F0 m 512 ls [])) : W p l e R s m #[Value.ref b] below meth c H locs cells slots Q (F0 m 416 ls []) := by
  obtain ⟨hx, hb, hml, hown, hts, hX, hbl, hKC, hKM, hNC, hNM⟩ := F
  have F : lfx DC DM cI cZ p s m c b L xs := ⟨hx, hb, hml, hown, hts, hX, hbl, hKC, hKM, hNC, hNM⟩
  refine lv_aload_n hx hb d_law_416 rfl (lv_at hl 1 rfl) ?_
  refine lv_aload_n hx hb d_law_417 rfl (lv_at hl 0 rfl) ?_
  refine lv_iload_n hx hb d_law_418 rfl (lv_at hl 3 rfl) ?_
  refine lv_iconst (v := 1) hx hb d_law_419 (by decide) ?_
  refine lv_iadd hx hb d_law_420 ?_
  refine va_sld hx hb hX hbl hbA hlw.1.2.2.1 (hi 1 (by decide) (by decide)) d_law_421 ?_
  refine lv_aload_n hx hb d_law_422 rfl (lv_at hl 0 rfl) ?_
  refine lv_iload_n hx hb d_law_423 rfl (lv_at hl 3 rfl) ?_
  refine lv_iconst (v := 2) hx hb d_law_424 (by decide) ?_
  refine lv_iadd hx hb d_law_425 ?_
  refine va_sld hx hb hX hbl hbA hlw.1.2.2.1 (hi 2 (by decide) (by decide)) d_law_426 ?_
  refine lc_62 F hlw (ct_BF_set _ _ _ _ (sim gc gm (xs (i + 1).toNatClampNeg) (xs (i + 2).toNatClampNeg) hR)) hroom hf hl.1 (Nat.le_of_ble_eq_true rfl) d_law_427 (fun r1 gc H locs hw hlw => ?_)
  refine lv_aload_n hx hb d_law_430 rfl (lv_at hl 2 rfl) ?_
  refine lv_aload_n hx hb d_law_431 rfl (lv_at hl 0 rfl) ?_
  refine lv_iload_n hx hb d_law_432 rfl (lv_at hl 3 rfl) ?_
  refine lv_iconst (v := 1) hx hb d_law_433 (by decide) ?_
  refine lv_iadd hx hb d_law_434 ?_
  refine va_sld hx hb hX hbl hbA hlw.1.2.2.1 (hi 1 (by decide) (by decide)) d_law_435 ?_
  refine lv_aload_n hx hb d_law_436 rfl (lv_at hl 0 rfl) ?_
  refine lv_iload_n hx hb d_law_437 rfl (lv_at hl 3 rfl) ?_
  refine lv_iconst (v := 2) hx hb d_law_438 (by decide) ?_
  refine lv_iadd hx hb d_law_439 ?_
  refine va_sld hx hb hX hbl hbA hlw.1.2.2.1 (hi 2 (by decide) (by decide)) d_law_440 ?_
  refine lc_66 F hlw (ct_Mo_set _ _ _ _ hw) hroom2 hf hl.1 (Nat.le_of_ble_eq_true rfl) d_law_441 (fun r2 gm H locs hw hlw => ?_)
  obtain ⟨h12, hR⟩ := hw
  exact lv_icmp_eq (tgt := 512) hx hb d_law_444 (by decide) (fun _ => kk gc gm H locs hR hlw) (fun hc => absurd h12 hc)
set_option maxHeartbeats 4000000 in
theorem lb_12 {Rel : St → St → Prop} {i : Int32} (sim : ∀ (gc gm : St), Rel gc gm → pc_BF_predict gc (fun r1 gc => pc_Mo_predict gm (fun r2 gm => r1 = r2 ∧ Rel gc gm))) (F : lfx DC DM cI cZ p s m c b L xs) (hbA : ¬ A b) (hR : Rel gc gm) (hlw : lwd DC DM cI cZ aC aM A s.heap gc gm H locs) (hl : lv_has ls 4 [(0, .ref b), (1, .ref (aC 0)), (2, .ref (aM 0)), (3, .int i)]) (hi : ∀ k : Nat, 1 ≤ k → k ≤ 5 → vp_in (i + nI k) L) (hf : cells ≤ R.cells ∧ slots ≤ R.slots) (hroom : 19 + 1 ≤ R.frames ∧ 8 + (1 + 11) + 501 ≤ R.locals) (hroom2 : 2 + 1 ≤ R.frames ∧ 8 + (5 + 11) + 46 ≤ R.locals)
    (kk : ∀ (gc gm : St) (H : Heap) (locs : List Loc), Rel gc gm → lwd DC DM cI cZ aC aM A s.heap gc gm H locs → W p l e R s m #[Value.ref b] below meth c H locs cells slots Q (F0 m 512 ls [])) : W p l e R s m #[Value.ref b] below meth c H locs cells slots Q (F0 m 449 ls []) := by
  obtain ⟨hx, hb, hml, hown, hts, hX, hbl, hKC, hKM, hNC, hNM⟩ := F
  have F : lfx DC DM cI cZ p s m c b L xs := ⟨hx, hb, hml, hown, hts, hX, hbl, hKC, hKM, hNC, hNM⟩
  refine lv_aload_n hx hb d_law_449 rfl (lv_at hl 1 rfl) ?_
  refine lc_67 F hlw (ct_BF_predict  _ _ (sim gc gm  hR)) hroom hf hl.1 (Nat.le_of_ble_eq_true rfl) d_law_450 (fun r1 gc H locs hw hlw => ?_)
  refine lv_aload_n hx hb d_law_453 rfl (lv_at hl 2 rfl) ?_
  refine lc_71 F hlw (ct_Mo_predict  _ _ hw) hroom2 hf hl.1 (Nat.le_of_ble_eq_true rfl) d_law_454 (fun r2 gm H locs hw hlw => ?_)
  obtain ⟨h12, hR⟩ := hw
  refine W.lcmp hx hb d_law_457 ?_
  exact lv_if_eq (tgt := 512) hx hb d_law_458 (by decide) (fun _ => kk gc gm H locs hR hlw) (fun hc => absurd (by rw [h12]; exact lg_self _) hc)
set_option maxHeartbeats 4000000 in
theorem lb_13 {Rel : St → St → Prop} {i : Int32} (sim : ∀ (gc gm : St), Rel gc gm → pc_BF_steps gc (fun r1 gc => pc_Mo_steps gm (fun r2 gm => r1 = r2 ∧ Rel gc gm))) (F : lfx DC DM cI cZ p s m c b L xs) (hbA : ¬ A b) (hR : Rel gc gm) (hlw : lwd DC DM cI cZ aC aM A s.heap gc gm H locs) (hl : lv_has ls 4 [(0, .ref b), (1, .ref (aC 0)), (2, .ref (aM 0)), (3, .int i)]) (hi : ∀ k : Nat, 1 ≤ k → k ≤ 5 → vp_in (i + nI k) L) (hf : cells ≤ R.cells ∧ slots ≤ R.slots) (hroom : 0 + 1 ≤ R.frames ∧ 8 + (1 + 11) + 0 ≤ R.locals) (hroom2 : 0 + 1 ≤ R.frames ∧ 8 + (1 + 11) + 0 ≤ R.locals)
    (kk : ∀ (gc gm : St) (H : Heap) (locs : List Loc), Rel gc gm → lwd DC DM cI cZ aC aM A s.heap gc gm H locs → W p l e R s m #[Value.ref b] below meth c H locs cells slots Q (F0 m 512 ls [])) : W p l e R s m #[Value.ref b] below meth c H locs cells slots Q (F0 m 463 ls []) := by
  obtain ⟨hx, hb, hml, hown, hts, hX, hbl, hKC, hKM, hNC, hNM⟩ := F
  have F : lfx DC DM cI cZ p s m c b L xs := ⟨hx, hb, hml, hown, hts, hX, hbl, hKC, hKM, hNC, hNM⟩
  refine lv_aload_n hx hb d_law_463 rfl (lv_at hl 1 rfl) ?_
  refine lc_72 F hlw (ct_BF_steps  _ _ (sim gc gm  hR)) hroom hf hl.1 (Nat.le_of_ble_eq_true rfl) d_law_464 (fun r1 gc H locs hw hlw => ?_)
  refine lv_aload_n hx hb d_law_467 rfl (lv_at hl 2 rfl) ?_
  refine lc_75 F hlw (ct_Mo_steps  _ _ hw) hroom2 hf hl.1 (Nat.le_of_ble_eq_true rfl) d_law_468 (fun r2 gm H locs hw hlw => ?_)
  obtain ⟨h12, hR⟩ := hw
  exact lv_icmp_eq (tgt := 512) hx hb d_law_471 (by decide) (fun _ => kk gc gm H locs hR hlw) (fun hc => absurd h12 hc)
set_option maxHeartbeats 4000000 in
theorem lb_14 {Rel : St → St → Prop} {i : Int32} (sim : ∀ (gc gm : St), Rel gc gm → pc_BF_calls gc (fun r1 gc => pc_Mo_calls gm (fun r2 gm => r1 = r2 ∧ Rel gc gm))) (F : lfx DC DM cI cZ p s m c b L xs) (hbA : ¬ A b) (hR : Rel gc gm) (hlw : lwd DC DM cI cZ aC aM A s.heap gc gm H locs) (hl : lv_has ls 4 [(0, .ref b), (1, .ref (aC 0)), (2, .ref (aM 0)), (3, .int i)]) (hi : ∀ k : Nat, 1 ≤ k → k ≤ 5 → vp_in (i + nI k) L) (hf : cells ≤ R.cells ∧ slots ≤ R.slots) (hroom : 0 + 1 ≤ R.frames ∧ 8 + (1 + 11) + 0 ≤ R.locals) (hroom2 : 0 + 1 ≤ R.frames ∧ 8 + (1 + 11) + 0 ≤ R.locals)
    (kk : ∀ (gc gm : St) (H : Heap) (locs : List Loc), Rel gc gm → lwd DC DM cI cZ aC aM A s.heap gc gm H locs → W p l e R s m #[Value.ref b] below meth c H locs cells slots Q (F0 m 512 ls [])) : W p l e R s m #[Value.ref b] below meth c H locs cells slots Q (F0 m 476 ls []) := by
  obtain ⟨hx, hb, hml, hown, hts, hX, hbl, hKC, hKM, hNC, hNM⟩ := F
  have F : lfx DC DM cI cZ p s m c b L xs := ⟨hx, hb, hml, hown, hts, hX, hbl, hKC, hKM, hNC, hNM⟩
  refine lv_aload_n hx hb d_law_476 rfl (lv_at hl 1 rfl) ?_
  refine lc_76 F hlw (ct_BF_calls  _ _ (sim gc gm  hR)) hroom hf hl.1 (Nat.le_of_ble_eq_true rfl) d_law_477 (fun r1 gc H locs hw hlw => ?_)
  refine lv_aload_n hx hb d_law_480 rfl (lv_at hl 2 rfl) ?_
  refine lc_79 F hlw (ct_Mo_calls  _ _ hw) hroom2 hf hl.1 (Nat.le_of_ble_eq_true rfl) d_law_481 (fun r2 gm H locs hw hlw => ?_)
  obtain ⟨h12, hR⟩ := hw
  exact lv_icmp_eq (tgt := 512) hx hb d_law_484 (by decide) (fun _ => kk gc gm H locs hR hlw) (fun hc => absurd h12 hc)
set_option maxHeartbeats 4000000 in
theorem lb_15 {Rel : St → St → Prop} {i : Int32} (sim : ∀ (gc gm : St) (y1 : Int32), Rel gc gm → pc_BF_reach y1 gc (fun r1 gc => pc_Mo_reach y1 gm (fun r2 gm => r1 = r2 ∧ Rel gc gm))) (F : lfx DC DM cI cZ p s m c b L xs) (hbA : ¬ A b) (hR : Rel gc gm) (hlw : lwd DC DM cI cZ aC aM A s.heap gc gm H locs) (hl : lv_has ls 4 [(0, .ref b), (1, .ref (aC 0)), (2, .ref (aM 0)), (3, .int i)]) (hi : ∀ k : Nat, 1 ≤ k → k ≤ 5 → vp_in (i + nI k) L) (hf : cells ≤ R.cells ∧ slots ≤ R.slots) (hroom : 3 + 1 ≤ R.frames ∧ 8 + (2 + 11) + 71 ≤ R.locals) (hroom2 : 2 + 1 ≤ R.frames ∧ 8 + (3 + 11) + 46 ≤ R.locals)
    (kk : ∀ (gc gm : St) (H : Heap) (locs : List Loc), Rel gc gm → lwd DC DM cI cZ aC aM A s.heap gc gm H locs → W p l e R s m #[Value.ref b] below meth c H locs cells slots Q (F0 m 512 ls [])) : W p l e R s m #[Value.ref b] below meth c H locs cells slots Q (F0 m 489 ls []) := by
  obtain ⟨hx, hb, hml, hown, hts, hX, hbl, hKC, hKM, hNC, hNM⟩ := F
  have F : lfx DC DM cI cZ p s m c b L xs := ⟨hx, hb, hml, hown, hts, hX, hbl, hKC, hKM, hNC, hNM⟩
  refine lv_aload_n hx hb d_law_489 rfl (lv_at hl 1 rfl) ?_
  refine lv_aload_n hx hb d_law_490 rfl (lv_at hl 0 rfl) ?_
  refine lv_iload_n hx hb d_law_491 rfl (lv_at hl 3 rfl) ?_
  refine lv_iconst (v := 1) hx hb d_law_492 (by decide) ?_
  refine lv_iadd hx hb d_law_493 ?_
  refine va_sld hx hb hX hbl hbA hlw.1.2.2.1 (hi 1 (by decide) (by decide)) d_law_494 ?_
  refine lc_80 F hlw (ct_BF_reach _ _ _ (sim gc gm (xs (i + 1).toNatClampNeg) hR)) hroom hf hl.1 (Nat.le_of_ble_eq_true rfl) d_law_495 (fun r1 gc H locs hw hlw => ?_)
  refine lv_aload_n hx hb d_law_498 rfl (lv_at hl 2 rfl) ?_
  refine lv_aload_n hx hb d_law_499 rfl (lv_at hl 0 rfl) ?_
  refine lv_iload_n hx hb d_law_500 rfl (lv_at hl 3 rfl) ?_
  refine lv_iconst (v := 1) hx hb d_law_501 (by decide) ?_
  refine lv_iadd hx hb d_law_502 ?_
  refine va_sld hx hb hX hbl hbA hlw.1.2.2.1 (hi 1 (by decide) (by decide)) d_law_503 ?_
  refine lc_83 F hlw (ct_Mo_reach _ _ _ hw) hroom2 hf hl.1 (Nat.le_of_ble_eq_true rfl) d_law_504 (fun r2 gm H locs hw hlw => ?_)
  obtain ⟨h12, hR⟩ := hw
  exact lv_icmp_eq (tgt := 512) hx hb d_law_507 (by decide) (fun _ => kk gc gm H locs hR hlw) (fun hc => absurd h12 hc)
end LAWR
