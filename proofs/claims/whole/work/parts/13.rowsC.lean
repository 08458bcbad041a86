def nwC (U : State) : Prop := (∀ q ∈ nfC, va_Nw (.fieldLinkNest q.1 q.2.1 q.2.2.1 q.2.2.2.1 q.2.2.2.2.1 q.2.2.2.2.2) U) ∧ ∀ q ∈ nmC, va_Nw (.methodLinkNest q.1 q.2.1 q.2.2.1 q.2.2.2) U
theorem nwC_warm {s U : State} (hW : s.WarmedH U.vm) (h : nwC s) : nwC U := ⟨fun q hq => va_Nw.warmF hW (h.1 q hq), fun q hq => va_Nw.warmM hW (h.2 q hq)⟩
theorem nwC_same {s U : State} (hv : s.vm = U.vm) (h : nwC s) : nwC U := ⟨fun q hq => va_Nw.same rfl hv (h.1 q hq), fun q hq => va_Nw.same rfl hv (h.2 q hq)⟩
theorem nwC_f {s : State} {a b n d h : String} {i : Nat} (hN : nwC s) (hm : (a, i, b, n, d, h) ∈ nfC) : va_Nw (.fieldLinkNest a i b n d h) s := hN.1 _ hm
theorem nwC_m {s : State} {a h : String} {i : Nat} {y : MethodName} (hN : nwC s) (hm : (a, i, y, h) ∈ nmC) : va_Nw (.methodLinkNest a i y h) s := hN.2 _ hm
theorem goodC (ws : List Cond) (h : ∀ w ∈ ws, w ∈ wGC) : GoodIn wGC ws := fun w hw => ⟨h w hw, good_of_word (goodwC w (h w hw))⟩
def fxC (D : va_G) (cI cZ : ClassId) (p : Program) (R : Room) (s : State) (m : MethodId) (args : Array Value) (c : Code) (cc : ByteArray) (nL : Nat) (own : String) (fr lr : Nat) : Prop :=
  p.tables.exec = Jvm.exec ∧ c.code = cc ∧ c.maxLocals = nL ∧ s.vm.findClass own = some m.cls ∧ (∀ w ∈ wGC, w.before args s = true) ∧ va_K D clC [(cI, .int), (cZ, .boolean)] s ∧ nwC s ∧ (fr ≤ R.frames ∧ lr ≤ R.locals)
def wdC (D : va_G) (cI cZ : ClassId) (ad : Nat → Nat) (A : Nat → Prop) (H0 : Heap) (g : St) (H : Heap) (locs : List Loc) : Prop :=
  va_P D clC (gwC cI cZ ad g) H ∧ va_D A (gwC cI cZ ad g) ∧ va_S A H0 H locs ∧ ∀ q, H0.size ≤ q → A q
def pwC (D : va_G) (cI cZ : ClassId) (ad : Nat → Nat) (g : St) (sz : Nat) (U : State) : Prop :=
  U.heap.size = sz ∧ va_P D clC (gwC cI cZ ad g) U.heap ∧ va_K D clC [(cI, .int), (cZ, .boolean)] U ∧ va_D (fun _ => True) (gwC cI cZ ad g) ∧ nwC U
def bwC (D : va_G) (cI cZ : ClassId) (ad : Nat → Nat) (g : St) (sz : Nat) (g' : St) (t : State) : Prop :=
  va_P D clC (gwC cI cZ ad g') t.heap ∧ va_K D clC [(cI, .int), (cZ, .boolean)] t ∧ va_D (va_A (gwC cI cZ ad g) sz) (gwC cI cZ ad g')
def ctCI (l : Launch) (y : MethodName) (b : ByteArray) (nL f lo : Nat) (D : va_G) (cI cZ : ClassId) (ad : Nat → Nat) (av : List Value) (g : St) (K : Int32 → St → Prop) : Prop :=
  ∀ sz : Nat, Met l y (.code y b nL (some .int) :: wGC) { frames := f, cells := 0, slots := 0, locals := lo } (va_Pc av (pwC D cI cZ ad g sz)) (va_Qi K (bwC D cI cZ ad g sz) (va_A (gwC cI cZ ad g) sz)) 0 0 (va_A (gwC cI cZ ad g) sz)
def ctCZ (l : Launch) (y : MethodName) (b : ByteArray) (nL f lo : Nat) (D : va_G) (cI cZ : ClassId) (ad : Nat → Nat) (av : List Value) (g : St) (K : Int32 → St → Prop) : Prop :=
  ∀ sz : Nat, Met l y (.code y b nL (some .boolean) :: wGC) { frames := f, cells := 0, slots := 0, locals := lo } (va_Pc av (pwC D cI cZ ad g sz)) (va_Qi K (bwC D cI cZ ad g sz) (va_A (gwC cI cZ ad g) sz)) 0 0 (va_A (gwC cI cZ ad g) sz)
def ctCJ (l : Launch) (y : MethodName) (b : ByteArray) (nL f lo : Nat) (D : va_G) (cI cZ : ClassId) (ad : Nat → Nat) (av : List Value) (g : St) (K : Int64 → St → Prop) : Prop :=
  ∀ sz : Nat, Met l y (.code y b nL (some .long) :: wGC) { frames := f, cells := 0, slots := 0, locals := lo } (va_Pc av (pwC D cI cZ ad g sz)) (va_Ql K (bwC D cI cZ ad g sz) (va_A (gwC cI cZ ad g) sz)) 0 0 (va_A (gwC cI cZ ad g) sz)
def ctCV (l : Launch) (y : MethodName) (b : ByteArray) (nL f lo : Nat) (D : va_G) (cI cZ : ClassId) (ad : Nat → Nat) (av : List Value) (g : St) (K : St → Prop) : Prop :=
  ∀ sz : Nat, Met l y (.code y b nL none :: wGC) { frames := f, cells := 0, slots := 0, locals := lo } (va_Pc av (pwC D cI cZ ad g sz)) (va_Qv K (bwC D cI cZ ad g sz) (va_A (gwC cI cZ ad g) sz)) 0 0 (va_A (gwC cI cZ ad g) sz)

section ROWSC
variable {p : Program} {l : Launch} {e : Env} {R : Room} {s : State} {m : MethodId} {args : Array Value} {below : List Frame} {meth : Method} {c : Code} {H : Heap} {locs : List Loc} {Q : State → Prop}
variable {D : va_G} {cI cZ : ClassId} {ad : Nat → Nat} {A : Nat → Prop} {H0 : Heap} {cc : ByteArray} {pc nL fr lr : Nat} {own : String} {ls : Array Slot} {rest : List Value} {g : St}

def rtCI (D : va_G) (cI cZ : ClassId) (ad : Nat → Nat) (p : Program) (l : Launch) (e : Env) (R : Room) (s : State) (m : MethodId) (args : Array Value) (below : List Frame) (meth : Method) (c : Code) (cc : ByteArray) (A : Nat → Prop) (H0 : Heap) (Q : State → Prop) (K : Int32 → St → Prop) : Prop :=
  ∀ (r : Int32) (g' : St) (H' : Heap) (locs' : List Loc), K r g' → wdC D cI cZ ad A H0 g' H' locs' → ∀ (pc' : Nat) (ls' : Array Slot), decode cc pc' = .ok (.ireturn, 1) → W p l e R s m args below meth c H' locs' 0 0 Q (F0 m pc' ls' [.int r])
def rtCZ (D : va_G) (cI cZ : ClassId) (ad : Nat → Nat) (p : Program) (l : Launch) (e : Env) (R : Room) (s : State) (m : MethodId) (args : Array Value) (below : List Frame) (meth : Method) (c : Code) (cc : ByteArray) (A : Nat → Prop) (H0 : Heap) (Q : State → Prop) (K : Int32 → St → Prop) : Prop :=
  ∀ (r : Int32) (g' : St) (H' : Heap) (locs' : List Loc), K r g' → (r = 0 ∨ r = 1) → wdC D cI cZ ad A H0 g' H' locs' → ∀ (pc' : Nat) (ls' : Array Slot), decode cc pc' = .ok (.ireturn, 1) → W p l e R s m args below meth c H' locs' 0 0 Q (F0 m pc' ls' [.int r])
def rtCJ (D : va_G) (cI cZ : ClassId) (ad : Nat → Nat) (p : Program) (l : Launch) (e : Env) (R : Room) (s : State) (m : MethodId) (args : Array Value) (below : List Frame) (meth : Method) (c : Code) (cc : ByteArray) (A : Nat → Prop) (H0 : Heap) (Q : State → Prop) (K : Int64 → St → Prop) : Prop :=
  ∀ (r : Int64) (g' : St) (H' : Heap) (locs' : List Loc), K r g' → wdC D cI cZ ad A H0 g' H' locs' → ∀ (pc' : Nat) (ls' : Array Slot), decode cc pc' = .ok (.lreturn, 1) → W p l e R s m args below meth c H' locs' 0 0 Q (F0 m pc' ls' [.long r])
def rtCV (D : va_G) (cI cZ : ClassId) (ad : Nat → Nat) (p : Program) (l : Launch) (e : Env) (R : Room) (s : State) (m : MethodId) (args : Array Value) (below : List Frame) (meth : Method) (c : Code) (cc : ByteArray) (A : Nat → Prop) (H0 : Heap) (Q : State → Prop) (K : St → Prop) : Prop :=
  ∀ (g' : St) (H' : Heap) (locs' : List Loc), K g' → wdC D cI cZ ad A H0 g' H' locs' → ∀ (pc' : Nat) (ls' : Array Slot), decode cc pc' = .ok (.return_, 1) → W p l e R s m args below meth c H' locs' 0 0 Q (F0 m pc' ls' [])

theorem prC_V {C : String} {T : u_T} {N ci k : Nat} {b : Nat} {fs As : List Value} (hK : va_K D clC [(cI, .int), (cZ, .boolean)] s) (hN : nwC s) (hwd : wdC D cI cZ ad A H0 g H locs) (hc : clC[ci]? = some (C, T, N)) (he : (gwC cI cZ ad g)[k]? = some (b, .inr (ci, fs))) : PreV s H C b (va_Pc (.ref b :: As) (pwC D cI cZ ad g H.size)) As :=
  ⟨fun a U g mk q => by
      obtain ⟨q0, q1, qP, qK, qD, qN⟩ := q
      exact ⟨q0, q1, qP, va_K.moved (u := U) (U := U.calling g mk a) (Vm.Alike.refl U.vm) qK, qD, nwC_same (s := U) (U := U.calling g mk a) rfl qN⟩,
    va_recv hK hwd.1 hc he,
    fun U hU hW => ⟨rfl, by rw [hU], by rw [hU]; exact hwd.1, va_K.moved hW.alike hK, hwd.2.1.weaken (fun _ _ _ _ => trivial), nwC_warm hW hN⟩⟩
theorem prC_S {As : List Value} (hK : va_K D clC [(cI, .int), (cZ, .boolean)] s) (hN : nwC s) (hwd : wdC D cI cZ ad A H0 g H locs) : PreS s H (va_Pc As (pwC D cI cZ ad g H.size)) As :=
  ⟨fun a U g mk q => by
      obtain ⟨q0, q1, qP, qK, qD, qN⟩ := q
      exact ⟨q0, q1, qP, va_K.moved (u := U) (U := U.calling g mk a) (Vm.Alike.refl U.vm) qK, qD, nwC_same (s := U) (U := U.calling g mk a) rfl qN⟩,
    fun U hU hW => ⟨rfl, by rw [hU], by rw [hU]; exact hwd.1, va_K.moved hW.alike hK, hwd.2.1.weaken (fun _ _ _ _ => trivial), nwC_warm hW hN⟩⟩
theorem wdC_free (hwd : wdC D cI cZ ad A H0 g H locs) : ∀ q, va_A (gwC cI cZ ad g) H.size q → A q := by
  obtain ⟨hP, hD, hS, hA⟩ := hwd
  rintro q (⟨k, e, h⟩ | h)
  · exact hD.2 k _ h
  · exact hA q (Nat.le_trans hS.1 h)
theorem afC_I {K : Int32 → St → Prop} {a : Array Value} {st0 : List Value} (hwd : wdC D cI cZ ad A H0 g H locs) (hr : va_Run p l e R s m args below meth c H locs 0 0 0 0 (F0 m pc ls st0) rest (va_Qi K (bwC D cI cZ ad g H.size) (va_A (gwC cI cZ ad g) H.size) a) (va_A (gwC cI cZ ad g) H.size))
    (kk : ∀ (r : Int32) (g' : St) (H' : Heap) (locs' : List Loc), K r g' → wdC D cI cZ ad A H0 g' H' locs' → W p l e R s m args below meth c H' locs' 0 0 Q (F0 m (pc + 3) ls (.int r :: rest))) : W p l e R s m args below meth c H locs 0 0 Q (F0 m pc ls st0) := by
  have hfc := wdC_free hwd
  obtain ⟨hP, hD, hS, hA⟩ := hwd
  refine va_calli hr hS (fun q _ h => hfc q h) hfc (fun r u t H1 locs1 ht hvm hw hB hz1 hk1 hS1 => ?_)
  obtain ⟨hP1, hK1, hD1⟩ := hB
  rw [ht] at hP1
  exact kk r u H1 locs1 hw ⟨hP1, hD1.weaken (fun _ _ _ h => hfc _ h), hS1, hA⟩
theorem afC_J {K : Int64 → St → Prop} {a : Array Value} {st0 : List Value} (hwd : wdC D cI cZ ad A H0 g H locs) (hr : va_Run p l e R s m args below meth c H locs 0 0 0 0 (F0 m pc ls st0) rest (va_Ql K (bwC D cI cZ ad g H.size) (va_A (gwC cI cZ ad g) H.size) a) (va_A (gwC cI cZ ad g) H.size))
    (kk : ∀ (r : Int64) (g' : St) (H' : Heap) (locs' : List Loc), K r g' → wdC D cI cZ ad A H0 g' H' locs' → W p l e R s m args below meth c H' locs' 0 0 Q (F0 m (pc + 3) ls (.long r :: rest))) : W p l e R s m args below meth c H locs 0 0 Q (F0 m pc ls st0) := by
  have hfc := wdC_free hwd
  obtain ⟨hP, hD, hS, hA⟩ := hwd
  refine va_calll hr hS (fun q _ h => hfc q h) hfc (fun r u t H1 locs1 ht hvm hw hB hz1 hk1 hS1 => ?_)
  obtain ⟨hP1, hK1, hD1⟩ := hB
  rw [ht] at hP1
  exact kk r u H1 locs1 hw ⟨hP1, hD1.weaken (fun _ _ _ h => hfc _ h), hS1, hA⟩
theorem afC_V {K : St → Prop} {a : Array Value} {st0 : List Value} (hwd : wdC D cI cZ ad A H0 g H locs) (hr : va_Run p l e R s m args below meth c H locs 0 0 0 0 (F0 m pc ls st0) rest (va_Qv K (bwC D cI cZ ad g H.size) (va_A (gwC cI cZ ad g) H.size) a) (va_A (gwC cI cZ ad g) H.size))
    (kk : ∀ (g' : St) (H' : Heap) (locs' : List Loc), K g' → wdC D cI cZ ad A H0 g' H' locs' → W p l e R s m args below meth c H' locs' 0 0 Q (F0 m (pc + 3) ls (rest))) : W p l e R s m args below meth c H locs 0 0 Q (F0 m pc ls st0) := by
  have hfc := wdC_free hwd
  obtain ⟨hP, hD, hS, hA⟩ := hwd
  refine va_callv hr hS (fun q _ h => hfc q h) hfc (fun u t H1 locs1 ht hvm hw hB hz1 hk1 hS1 => ?_)
  obtain ⟨hP1, hK1, hD1⟩ := hB
  rw [ht] at hP1
  exact kk u H1 locs1 hw ⟨hP1, hD1.weaken (fun _ _ _ h => hfc _ h), hS1, hA⟩
theorem gfC_Fo_30 (F : fxC D cI cZ p R s m args c cc nL R_Fo fr lr) (hwd : wdC D cI cZ ad A H0 g H locs) (hdg : decode cc pc = .ok (.getfield 30, 3)) (k : W p l e R s m args below meth c H locs 0 0 Q (F0 m (pc + 3) ls (.int (g 100 0) :: rest))) : W p l e R s m args below meth c H locs 0 0 Q (F0 m pc ls (.ref (ad 2) :: rest)) := by
  obtain ⟨hx, hb, hml, hown, hts, hK, hN, hR⟩ := F
  exact va_get (D := D) (ci := 1) (v := .int (g 100 0)) (C := R_Fo) (T := F_Fo) (N := 8) hx hb hts in_Fo hown hK hwd.1 2 rfl rfl 6 (by decide) (hts _ kC_84) (fun _ h9 => h9) rfl hdg k

theorem gfC_Fo_9 (F : fxC D cI cZ p R s m args c cc nL R_Fo fr lr) (hwd : wdC D cI cZ ad A H0 g H locs) (hdg : decode cc pc = .ok (.getfield 9, 3)) (k : W p l e R s m args below meth c H locs 0 0 Q (F0 m (pc + 3) ls (.ref (ad 3) :: rest))) : W p l e R s m args below meth c H locs 0 0 Q (F0 m pc ls (.ref (ad 2) :: rest)) := by
  obtain ⟨hx, hb, hml, hown, hts, hK, hN, hR⟩ := F
  exact va_get (D := D) (ci := 1) (v := .ref (ad 3)) (C := R_Fo) (T := F_Fo) (N := 8) hx hb hts in_Fo hown hK hwd.1 2 rfl rfl 0 (by decide) (hts _ kC_10) (fun _ h9 => h9) rfl hdg k

theorem gfC_Fo_15 (F : fxC D cI cZ p R s m args c cc nL R_Fo fr lr) (hwd : wdC D cI cZ ad A H0 g H locs) (hdg : decode cc pc = .ok (.getfield 15, 3)) (k : W p l e R s m args below meth c H locs 0 0 Q (F0 m (pc + 3) ls (.ref (ad 4) :: rest))) : W p l e R s m args below meth c H locs 0 0 Q (F0 m pc ls (.ref (ad 2) :: rest)) := by
  obtain ⟨hx, hb, hml, hown, hts, hK, hN, hR⟩ := F
  exact va_get (D := D) (ci := 1) (v := .ref (ad 4)) (C := R_Fo) (T := F_Fo) (N := 8) hx hb hts in_Fo hown hK hwd.1 2 rfl rfl 1 (by decide) (hts _ kC_11) (fun _ h9 => h9) rfl hdg k

theorem gfC_Fo_18 (F : fxC D cI cZ p R s m args c cc nL R_Fo fr lr) (hwd : wdC D cI cZ ad A H0 g H locs) (hdg : decode cc pc = .ok (.getfield 18, 3)) (k : W p l e R s m args below meth c H locs 0 0 Q (F0 m (pc + 3) ls (.ref (ad 5) :: rest))) : W p l e R s m args below meth c H locs 0 0 Q (F0 m pc ls (.ref (ad 2) :: rest)) := by
  obtain ⟨hx, hb, hml, hown, hts, hK, hN, hR⟩ := F
  exact va_get (D := D) (ci := 1) (v := .ref (ad 5)) (C := R_Fo) (T := F_Fo) (N := 8) hx hb hts in_Fo hown hK hwd.1 2 rfl rfl 2 (by decide) (hts _ kC_12) (fun _ h9 => h9) rfl hdg k

theorem gfC_Fo_21 (F : fxC D cI cZ p R s m args c cc nL R_Fo fr lr) (hwd : wdC D cI cZ ad A H0 g H locs) (hdg : decode cc pc = .ok (.getfield 21, 3)) (k : W p l e R s m args below meth c H locs 0 0 Q (F0 m (pc + 3) ls (.ref (ad 6) :: rest))) : W p l e R s m args below meth c H locs 0 0 Q (F0 m pc ls (.ref (ad 2) :: rest)) := by
  obtain ⟨hx, hb, hml, hown, hts, hK, hN, hR⟩ := F
  exact va_get (D := D) (ci := 1) (v := .ref (ad 6)) (C := R_Fo) (T := F_Fo) (N := 8) hx hb hts in_Fo hown hK hwd.1 2 rfl rfl 3 (by decide) (hts _ kC_13) (fun _ h9 => h9) rfl hdg k

theorem gfC_Fo_24 (F : fxC D cI cZ p R s m args c cc nL R_Fo fr lr) (hwd : wdC D cI cZ ad A H0 g H locs) (hdg : decode cc pc = .ok (.getfield 24, 3)) (k : W p l e R s m args below meth c H locs 0 0 Q (F0 m (pc + 3) ls (.ref (ad 7) :: rest))) : W p l e R s m args below meth c H locs 0 0 Q (F0 m pc ls (.ref (ad 2) :: rest)) := by
  obtain ⟨hx, hb, hml, hown, hts, hK, hN, hR⟩ := F
  exact va_get (D := D) (ci := 1) (v := .ref (ad 7)) (C := R_Fo) (T := F_Fo) (N := 8) hx hb hts in_Fo hown hK hwd.1 2 rfl rfl 4 (by decide) (hts _ kC_14) (fun _ h9 => h9) rfl hdg k

theorem gfC_BF_16 (F : fxC D cI cZ p R s m args c cc nL R_BF fr lr) (hwd : wdC D cI cZ ad A H0 g H locs) (hdg : decode cc pc = .ok (.getfield 16, 3)) (k : W p l e R s m args below meth c H locs 0 0 Q (F0 m (pc + 3) ls (.ref (ad 2) :: rest))) : W p l e R s m args below meth c H locs 0 0 Q (F0 m pc ls (.ref (ad 0) :: rest)) := by
  obtain ⟨hx, hb, hml, hown, hts, hK, hN, hR⟩ := F
  exact va_get (D := D) (ci := 0) (v := .ref (ad 2)) (C := R_BF) (T := F_BF) (N := 7) hx hb hts in_BF hown hK hwd.1 0 rfl rfl 1 (by decide) (hts _ kC_53) (fun _ h9 => h9) rfl hdg k

theorem gfC_Fo_34 (F : fxC D cI cZ p R s m args c cc nL R_Fo fr lr) (hwd : wdC D cI cZ ad A H0 g H locs) (hdg : decode cc pc = .ok (.getfield 34, 3)) (k : W p l e R s m args below meth c H locs 0 0 Q (F0 m (pc + 3) ls (.int (g 101 0) :: rest))) : W p l e R s m args below meth c H locs 0 0 Q (F0 m pc ls (.ref (ad 2) :: rest)) := by
  obtain ⟨hx, hb, hml, hown, hts, hK, hN, hR⟩ := F
  exact va_get (D := D) (ci := 1) (v := .int (g 101 0)) (C := R_Fo) (T := F_Fo) (N := 8) hx hb hts in_Fo hown hK hwd.1 2 rfl rfl 7 (by decide) (hts _ kC_85) (fun _ h9 => h9) rfl hdg k

theorem gfC_Fo_27 (F : fxC D cI cZ p R s m args c cc nL R_Fo fr lr) (hwd : wdC D cI cZ ad A H0 g H locs) (hdg : decode cc pc = .ok (.getfield 27, 3)) (k : W p l e R s m args below meth c H locs 0 0 Q (F0 m (pc + 3) ls (.ref (ad 8) :: rest))) : W p l e R s m args below meth c H locs 0 0 Q (F0 m pc ls (.ref (ad 2) :: rest)) := by
  obtain ⟨hx, hb, hml, hown, hts, hK, hN, hR⟩ := F
  exact va_get (D := D) (ci := 1) (v := .ref (ad 8)) (C := R_Fo) (T := F_Fo) (N := 8) hx hb hts in_Fo hown hK hwd.1 2 rfl rfl 5 (by decide) (hts _ kC_15) (fun _ h9 => h9) rfl hdg k

theorem gfC_Ch_15 (F : fxC D cI cZ p R s m args c cc nL R_Ch fr lr) (hwd : wdC D cI cZ ad A H0 g H locs) (hdg : decode cc pc = .ok (.getfield 15, 3)) (k : W p l e R s m args below meth c H locs 0 0 Q (F0 m (pc + 3) ls (.ref (ad 2) :: rest))) : W p l e R s m args below meth c H locs 0 0 Q (F0 m pc ls (.ref (ad 9) :: rest)) := by
  obtain ⟨hx, hb, hml, hown, hts, hK, hN, hR⟩ := F
  exact va_get (D := D) (ci := 2) (v := .ref (ad 2)) (C := R_Ch) (T := F_Ch) (N := 2) hx hb hts in_Ch hown hK hwd.1 9 rfl rfl 0 (by decide) (hts _ kC_20) (fun _ h9 => h9) rfl hdg k

theorem gfC_Ch_40 (F : fxC D cI cZ p R s m args c cc nL R_Ch fr lr) (hwd : wdC D cI cZ ad A H0 g H locs) (hdg : decode cc pc = .ok (.getfield 40, 3)) (k : W p l e R s m args below meth c H locs 0 0 Q (F0 m (pc + 3) ls (.ref (ad 6) :: rest))) : W p l e R s m args below meth c H locs 0 0 Q (F0 m pc ls (.ref (ad 2) :: rest)) := by
  obtain ⟨hx, hb, hml, hown, hts, hK, hN, hR⟩ := F
  exact va_getN (D := D) (ci := 1) (v := .ref (ad 6)) (C := R_Fo) (T := F_Fo) (N := 8) hx hb hts in_Fo hown hK hwd.1 2 rfl rfl 3 (by decide) (va_Nw.use rfl (show va_Nw (.fieldLinkNest R_Ch 40 "BranchForge$Forest" "yesOf" "[I" "BranchForge") s from nwC_f hN nkC_0)) (fun _ h9 => h9) rfl hdg k

theorem gfC_Ch_43 (F : fxC D cI cZ p R s m args c cc nL R_Ch fr lr) (hwd : wdC D cI cZ ad A H0 g H locs) (hdg : decode cc pc = .ok (.getfield 43, 3)) (k : W p l e R s m args below meth c H locs 0 0 Q (F0 m (pc + 3) ls (.ref (ad 7) :: rest))) : W p l e R s m args below meth c H locs 0 0 Q (F0 m pc ls (.ref (ad 2) :: rest)) := by
  obtain ⟨hx, hb, hml, hown, hts, hK, hN, hR⟩ := F
  exact va_getN (D := D) (ci := 1) (v := .ref (ad 7)) (C := R_Fo) (T := F_Fo) (N := 8) hx hb hts in_Fo hown hK hwd.1 2 rfl rfl 4 (by decide) (va_Nw.use rfl (show va_Nw (.fieldLinkNest R_Ch 43 "BranchForge$Forest" "noOf" "[I" "BranchForge") s from nwC_f hN nkC_1)) (fun _ h9 => h9) rfl hdg k

theorem gfC_Ch_9 (F : fxC D cI cZ p R s m args c cc nL R_Ch fr lr) (hwd : wdC D cI cZ ad A H0 g H locs) (hdg : decode cc pc = .ok (.getfield 9, 3)) (k : W p l e R s m args below meth c H locs 0 0 Q (F0 m (pc + 3) ls (.ref (ad 10) :: rest))) : W p l e R s m args below meth c H locs 0 0 Q (F0 m pc ls (.ref (ad 9) :: rest)) := by
  obtain ⟨hx, hb, hml, hown, hts, hK, hN, hR⟩ := F
  exact va_get (D := D) (ci := 2) (v := .ref (ad 10)) (C := R_Ch) (T := F_Ch) (N := 2) hx hb hts in_Ch hown hK hwd.1 9 rfl rfl 1 (by decide) (hts _ kC_19) (fun _ h9 => h9) rfl hdg k

theorem gfC_Ch_19 (F : fxC D cI cZ p R s m args c cc nL R_Ch fr lr) (hwd : wdC D cI cZ ad A H0 g H locs) (hdg : decode cc pc = .ok (.getfield 19, 3)) (k : W p l e R s m args below meth c H locs 0 0 Q (F0 m (pc + 3) ls (.int (g 101 0) :: rest))) : W p l e R s m args below meth c H locs 0 0 Q (F0 m pc ls (.ref (ad 2) :: rest)) := by
  obtain ⟨hx, hb, hml, hown, hts, hK, hN, hR⟩ := F
  exact va_getN (D := D) (ci := 1) (v := .int (g 101 0)) (C := R_Fo) (T := F_Fo) (N := 8) hx hb hts in_Fo hown hK hwd.1 2 rfl rfl 7 (by decide) (va_Nw.use rfl (show va_Nw (.fieldLinkNest R_Ch 19 "BranchForge$Forest" "treeCount" "I" "BranchForge") s from nwC_f hN nkC_2)) (fun _ h9 => h9) rfl hdg k

theorem gfC_Ch_25 (F : fxC D cI cZ p R s m args c cc nL R_Ch fr lr) (hwd : wdC D cI cZ ad A H0 g H locs) (hdg : decode cc pc = .ok (.getfield 25, 3)) (k : W p l e R s m args below meth c H locs 0 0 Q (F0 m (pc + 3) ls (.ref (ad 8) :: rest))) : W p l e R s m args below meth c H locs 0 0 Q (F0 m pc ls (.ref (ad 2) :: rest)) := by
  obtain ⟨hx, hb, hml, hown, hts, hK, hN, hR⟩ := F
  exact va_getN (D := D) (ci := 1) (v := .ref (ad 8)) (C := R_Fo) (T := F_Fo) (N := 8) hx hb hts in_Fo hown hK hwd.1 2 rfl rfl 5 (by decide) (va_Nw.use rfl (show va_Nw (.fieldLinkNest R_Ch 25 "BranchForge$Forest" "rootOf" "[I" "BranchForge") s from nwC_f hN nkC_3)) (fun _ h9 => h9) rfl hdg k

theorem gfC_Cu_15 (F : fxC D cI cZ p R s m args c cc nL R_Cu fr lr) (hwd : wdC D cI cZ ad A H0 g H locs) (hdg : decode cc pc = .ok (.getfield 15, 3)) (k : W p l e R s m args below meth c H locs 0 0 Q (F0 m (pc + 3) ls (.ref (ad 13) :: rest))) : W p l e R s m args below meth c H locs 0 0 Q (F0 m pc ls (.ref (ad 11) :: rest)) := by
  obtain ⟨hx, hb, hml, hown, hts, hK, hN, hR⟩ := F
  exact va_get (D := D) (ci := 3) (v := .ref (ad 13)) (C := R_Cu) (T := F_Cu) (N := 5) hx hb hts in_Cu hown hK hwd.1 11 rfl rfl 2 (by decide) (hts _ kC_24) (fun _ h9 => h9) rfl hdg k

theorem gfC_Cu_9 (F : fxC D cI cZ p R s m args c cc nL R_Cu fr lr) (hwd : wdC D cI cZ ad A H0 g H locs) (hdg : decode cc pc = .ok (.getfield 9, 3)) (k : W p l e R s m args below meth c H locs 0 0 Q (F0 m (pc + 3) ls (.ref (ad 12) :: rest))) : W p l e R s m args below meth c H locs 0 0 Q (F0 m pc ls (.ref (ad 11) :: rest)) := by
  obtain ⟨hx, hb, hml, hown, hts, hK, hN, hR⟩ := F
  exact va_get (D := D) (ci := 3) (v := .ref (ad 12)) (C := R_Cu) (T := F_Cu) (N := 5) hx hb hts in_Cu hown hK hwd.1 11 rfl rfl 1 (by decide) (hts _ kC_23) (fun _ h9 => h9) rfl hdg k

theorem gfC_Cu_21 (F : fxC D cI cZ p R s m args c cc nL R_Cu fr lr) (hwd : wdC D cI cZ ad A H0 g H locs) (hdg : decode cc pc = .ok (.getfield 21, 3)) (k : W p l e R s m args below meth c H locs 0 0 Q (F0 m (pc + 3) ls (.ref (ad 2) :: rest))) : W p l e R s m args below meth c H locs 0 0 Q (F0 m pc ls (.ref (ad 11) :: rest)) := by
  obtain ⟨hx, hb, hml, hown, hts, hK, hN, hR⟩ := F
  exact va_get (D := D) (ci := 3) (v := .ref (ad 2)) (C := R_Cu) (T := F_Cu) (N := 5) hx hb hts in_Cu hown hK hwd.1 11 rfl rfl 0 (by decide) (hts _ kC_26) (fun _ h9 => h9) rfl hdg k

theorem gfC_Cu_49 (F : fxC D cI cZ p R s m args c cc nL R_Cu fr lr) (hwd : wdC D cI cZ ad A H0 g H locs) (hdg : decode cc pc = .ok (.getfield 49, 3)) (k : W p l e R s m args below meth c H locs 0 0 Q (F0 m (pc + 3) ls (.ref (ad 6) :: rest))) : W p l e R s m args below meth c H locs 0 0 Q (F0 m pc ls (.ref (ad 2) :: rest)) := by
  obtain ⟨hx, hb, hml, hown, hts, hK, hN, hR⟩ := F
  exact va_getN (D := D) (ci := 1) (v := .ref (ad 6)) (C := R_Fo) (T := F_Fo) (N := 8) hx hb hts in_Fo hown hK hwd.1 2 rfl rfl 3 (by decide) (va_Nw.use rfl (show va_Nw (.fieldLinkNest R_Cu 49 "BranchForge$Forest" "yesOf" "[I" "BranchForge") s from nwC_f hN nkC_4)) (fun _ h9 => h9) rfl hdg k

theorem gfC_Cu_52 (F : fxC D cI cZ p R s m args c cc nL R_Cu fr lr) (hwd : wdC D cI cZ ad A H0 g H locs) (hdg : decode cc pc = .ok (.getfield 52, 3)) (k : W p l e R s m args below meth c H locs 0 0 Q (F0 m (pc + 3) ls (.ref (ad 7) :: rest))) : W p l e R s m args below meth c H locs 0 0 Q (F0 m pc ls (.ref (ad 2) :: rest)) := by
  obtain ⟨hx, hb, hml, hown, hts, hK, hN, hR⟩ := F
  exact va_getN (D := D) (ci := 1) (v := .ref (ad 7)) (C := R_Fo) (T := F_Fo) (N := 8) hx hb hts in_Fo hown hK hwd.1 2 rfl rfl 4 (by decide) (va_Nw.use rfl (show va_Nw (.fieldLinkNest R_Cu 52 "BranchForge$Forest" "noOf" "[I" "BranchForge") s from nwC_f hN nkC_5)) (fun _ h9 => h9) rfl hdg k

theorem gfC_Cu_25 (F : fxC D cI cZ p R s m args c cc nL R_Cu fr lr) (hwd : wdC D cI cZ ad A H0 g H locs) (hdg : decode cc pc = .ok (.getfield 25, 3)) (k : W p l e R s m args below meth c H locs 0 0 Q (F0 m (pc + 3) ls (.int (g 102 0) :: rest))) : W p l e R s m args below meth c H locs 0 0 Q (F0 m pc ls (.ref (ad 11) :: rest)) := by
  obtain ⟨hx, hb, hml, hown, hts, hK, hN, hR⟩ := F
  exact va_get (D := D) (ci := 3) (v := .int (g 102 0)) (C := R_Cu) (T := F_Cu) (N := 5) hx hb hts in_Cu hown hK hwd.1 11 rfl rfl 4 (by decide) (hts _ kC_86) (fun _ h9 => h9) rfl hdg k

theorem gfC_Cu_18 (F : fxC D cI cZ p R s m args c cc nL R_Cu fr lr) (hwd : wdC D cI cZ ad A H0 g H locs) (hdg : decode cc pc = .ok (.getfield 18, 3)) (k : W p l e R s m args below meth c H locs 0 0 Q (F0 m (pc + 3) ls (.ref (ad 14) :: rest))) : W p l e R s m args below meth c H locs 0 0 Q (F0 m pc ls (.ref (ad 11) :: rest)) := by
  obtain ⟨hx, hb, hml, hown, hts, hK, hN, hR⟩ := F
  exact va_get (D := D) (ci := 3) (v := .ref (ad 14)) (C := R_Cu) (T := F_Cu) (N := 5) hx hb hts in_Cu hown hK hwd.1 11 rfl rfl 3 (by decide) (hts _ kC_25) (fun _ h9 => h9) rfl hdg k

theorem gfC_Cu_29 (F : fxC D cI cZ p R s m args c cc nL R_Cu fr lr) (hwd : wdC D cI cZ ad A H0 g H locs) (hdg : decode cc pc = .ok (.getfield 29, 3)) (k : W p l e R s m args below meth c H locs 0 0 Q (F0 m (pc + 3) ls (.int (g 101 0) :: rest))) : W p l e R s m args below meth c H locs 0 0 Q (F0 m pc ls (.ref (ad 2) :: rest)) := by
  obtain ⟨hx, hb, hml, hown, hts, hK, hN, hR⟩ := F
  exact va_getN (D := D) (ci := 1) (v := .int (g 101 0)) (C := R_Fo) (T := F_Fo) (N := 8) hx hb hts in_Fo hown hK hwd.1 2 rfl rfl 7 (by decide) (va_Nw.use rfl (show va_Nw (.fieldLinkNest R_Cu 29 "BranchForge$Forest" "treeCount" "I" "BranchForge") s from nwC_f hN nkC_6)) (fun _ h9 => h9) rfl hdg k

theorem gfC_Cu_34 (F : fxC D cI cZ p R s m args c cc nL R_Cu fr lr) (hwd : wdC D cI cZ ad A H0 g H locs) (hdg : decode cc pc = .ok (.getfield 34, 3)) (k : W p l e R s m args below meth c H locs 0 0 Q (F0 m (pc + 3) ls (.ref (ad 8) :: rest))) : W p l e R s m args below meth c H locs 0 0 Q (F0 m pc ls (.ref (ad 2) :: rest)) := by
  obtain ⟨hx, hb, hml, hown, hts, hK, hN, hR⟩ := F
  exact va_getN (D := D) (ci := 1) (v := .ref (ad 8)) (C := R_Fo) (T := F_Fo) (N := 8) hx hb hts in_Fo hown hK hwd.1 2 rfl rfl 5 (by decide) (va_Nw.use rfl (show va_Nw (.fieldLinkNest R_Cu 34 "BranchForge$Forest" "rootOf" "[I" "BranchForge") s from nwC_f hN nkC_7)) (fun _ h9 => h9) rfl hdg k

theorem gfC_Ta_18 (F : fxC D cI cZ p R s m args c cc nL R_Ta fr lr) (hwd : wdC D cI cZ ad A H0 g H locs) (hdg : decode cc pc = .ok (.getfield 18, 3)) (k : W p l e R s m args below meth c H locs 0 0 Q (F0 m (pc + 3) ls (.ref (ad 18) :: rest))) : W p l e R s m args below meth c H locs 0 0 Q (F0 m pc ls (.ref (ad 15) :: rest)) := by
  obtain ⟨hx, hb, hml, hown, hts, hK, hN, hR⟩ := F
  exact va_get (D := D) (ci := 4) (v := .ref (ad 18)) (C := R_Ta) (T := F_Ta) (N := 4) hx hb hts in_Ta hown hK hwd.1 15 rfl rfl 2 (by decide) (hts _ kC_31) (fun _ h9 => h9) rfl hdg k

theorem gfC_Ta_21 (F : fxC D cI cZ p R s m args c cc nL R_Ta fr lr) (hwd : wdC D cI cZ ad A H0 g H locs) (hdg : decode cc pc = .ok (.getfield 21, 3)) (k : W p l e R s m args below meth c H locs 0 0 Q (F0 m (pc + 3) ls (.int (g 103 0) :: rest))) : W p l e R s m args below meth c H locs 0 0 Q (F0 m pc ls (.ref (ad 15) :: rest)) := by
  obtain ⟨hx, hb, hml, hown, hts, hK, hN, hR⟩ := F
  exact va_get (D := D) (ci := 4) (v := .int (g 103 0)) (C := R_Ta) (T := F_Ta) (N := 4) hx hb hts in_Ta hown hK hwd.1 15 rfl rfl 3 (by decide) (hts _ kC_87) (fun _ h9 => h9) rfl hdg k

theorem gfC_Co_40 (F : fxC D cI cZ p R s m args c cc nL R_Co fr lr) (hwd : wdC D cI cZ ad A H0 g H locs) (hdg : decode cc pc = .ok (.getfield 40, 3)) (k : W p l e R s m args below meth c H locs 0 0 Q (F0 m (pc + 3) ls (.int (g 104 0) :: rest))) : W p l e R s m args below meth c H locs 0 0 Q (F0 m pc ls (.ref (ad 19) :: rest)) := by
  obtain ⟨hx, hb, hml, hown, hts, hK, hN, hR⟩ := F
  exact va_get (D := D) (ci := 5) (v := .int (g 104 0)) (C := R_Co) (T := F_Co) (N := 10) hx hb hts in_Co hown hK hwd.1 19 rfl rfl 7 (by decide) (hts _ kC_88) (fun _ h9 => h9) rfl hdg k

theorem gfC_Co_9 (F : fxC D cI cZ p R s m args c cc nL R_Co fr lr) (hwd : wdC D cI cZ ad A H0 g H locs) (hdg : decode cc pc = .ok (.getfield 9, 3)) (k : W p l e R s m args below meth c H locs 0 0 Q (F0 m (pc + 3) ls (.ref (ad 20) :: rest))) : W p l e R s m args below meth c H locs 0 0 Q (F0 m pc ls (.ref (ad 19) :: rest)) := by
  obtain ⟨hx, hb, hml, hown, hts, hK, hN, hR⟩ := F
  exact va_get (D := D) (ci := 5) (v := .ref (ad 20)) (C := R_Co) (T := F_Co) (N := 10) hx hb hts in_Co hown hK hwd.1 19 rfl rfl 3 (by decide) (hts _ kC_34) (fun _ h9 => h9) rfl hdg k

theorem gfC_Ta_9 (F : fxC D cI cZ p R s m args c cc nL R_Ta fr lr) (hwd : wdC D cI cZ ad A H0 g H locs) (hdg : decode cc pc = .ok (.getfield 9, 3)) (k : W p l e R s m args below meth c H locs 0 0 Q (F0 m (pc + 3) ls (.ref (ad 16) :: rest))) : W p l e R s m args below meth c H locs 0 0 Q (F0 m pc ls (.ref (ad 15) :: rest)) := by
  obtain ⟨hx, hb, hml, hown, hts, hK, hN, hR⟩ := F
  exact va_get (D := D) (ci := 4) (v := .ref (ad 16)) (C := R_Ta) (T := F_Ta) (N := 4) hx hb hts in_Ta hown hK hwd.1 15 rfl rfl 0 (by decide) (hts _ kC_29) (fun _ h9 => h9) rfl hdg k

theorem gfC_Ta_15 (F : fxC D cI cZ p R s m args c cc nL R_Ta fr lr) (hwd : wdC D cI cZ ad A H0 g H locs) (hdg : decode cc pc = .ok (.getfield 15, 3)) (k : W p l e R s m args below meth c H locs 0 0 Q (F0 m (pc + 3) ls (.ref (ad 17) :: rest))) : W p l e R s m args below meth c H locs 0 0 Q (F0 m pc ls (.ref (ad 15) :: rest)) := by
  obtain ⟨hx, hb, hml, hown, hts, hK, hN, hR⟩ := F
  exact va_get (D := D) (ci := 4) (v := .ref (ad 17)) (C := R_Ta) (T := F_Ta) (N := 4) hx hb hts in_Ta hown hK hwd.1 15 rfl rfl 1 (by decide) (hts _ kC_30) (fun _ h9 => h9) rfl hdg k

theorem gfC_Co_28 (F : fxC D cI cZ p R s m args c cc nL R_Co fr lr) (hwd : wdC D cI cZ ad A H0 g H locs) (hdg : decode cc pc = .ok (.getfield 28, 3)) (k : W p l e R s m args below meth c H locs 0 0 Q (F0 m (pc + 3) ls (.ref (ad 11) :: rest))) : W p l e R s m args below meth c H locs 0 0 Q (F0 m pc ls (.ref (ad 19) :: rest)) := by
  obtain ⟨hx, hb, hml, hown, hts, hK, hN, hR⟩ := F
  exact va_get (D := D) (ci := 5) (v := .ref (ad 11)) (C := R_Co) (T := F_Co) (N := 10) hx hb hts in_Co hown hK hwd.1 19 rfl rfl 1 (by decide) (hts _ kC_39) (fun _ h9 => h9) rfl hdg k

theorem gfC_Co_64 (F : fxC D cI cZ p R s m args c cc nL R_Co fr lr) (hwd : wdC D cI cZ ad A H0 g H locs) (hdg : decode cc pc = .ok (.getfield 64, 3)) (k : W p l e R s m args below meth c H locs 0 0 Q (F0 m (pc + 3) ls (.ref (ad 13) :: rest))) : W p l e R s m args below meth c H locs 0 0 Q (F0 m pc ls (.ref (ad 11) :: rest)) := by
  obtain ⟨hx, hb, hml, hown, hts, hK, hN, hR⟩ := F
  exact va_getN (D := D) (ci := 3) (v := .ref (ad 13)) (C := R_Cu) (T := F_Cu) (N := 5) hx hb hts in_Cu hown hK hwd.1 11 rfl rfl 2 (by decide) (va_Nw.use rfl (show va_Nw (.fieldLinkNest R_Co 64 "BranchForge$Cutter" "methodOf" "[I" "BranchForge") s from nwC_f hN nkC_8)) (fun _ h9 => h9) rfl hdg k

theorem gfC_Co_32 (F : fxC D cI cZ p R s m args c cc nL R_Co fr lr) (hwd : wdC D cI cZ ad A H0 g H locs) (hdg : decode cc pc = .ok (.getfield 32, 3)) (k : W p l e R s m args below meth c H locs 0 0 Q (F0 m (pc + 3) ls (.ref (ad 15) :: rest))) : W p l e R s m args below meth c H locs 0 0 Q (F0 m pc ls (.ref (ad 19) :: rest)) := by
  obtain ⟨hx, hb, hml, hown, hts, hK, hN, hR⟩ := F
  exact va_get (D := D) (ci := 5) (v := .ref (ad 15)) (C := R_Co) (T := F_Co) (N := 10) hx hb hts in_Co hown hK hwd.1 19 rfl rfl 2 (by decide) (hts _ kC_40) (fun _ h9 => h9) rfl hdg k

theorem gfC_Co_24 (F : fxC D cI cZ p R s m args c cc nL R_Co fr lr) (hwd : wdC D cI cZ ad A H0 g H locs) (hdg : decode cc pc = .ok (.getfield 24, 3)) (k : W p l e R s m args below meth c H locs 0 0 Q (F0 m (pc + 3) ls (.ref (ad 2) :: rest))) : W p l e R s m args below meth c H locs 0 0 Q (F0 m pc ls (.ref (ad 19) :: rest)) := by
  obtain ⟨hx, hb, hml, hown, hts, hK, hN, hR⟩ := F
  exact va_get (D := D) (ci := 5) (v := .ref (ad 2)) (C := R_Co) (T := F_Co) (N := 10) hx hb hts in_Co hown hK hwd.1 19 rfl rfl 0 (by decide) (hts _ kC_38) (fun _ h9 => h9) rfl hdg k

theorem gfC_Co_101 (F : fxC D cI cZ p R s m args c cc nL R_Co fr lr) (hwd : wdC D cI cZ ad A H0 g H locs) (hdg : decode cc pc = .ok (.getfield 101, 3)) (k : W p l e R s m args below meth c H locs 0 0 Q (F0 m (pc + 3) ls (.ref (ad 5) :: rest))) : W p l e R s m args below meth c H locs 0 0 Q (F0 m pc ls (.ref (ad 2) :: rest)) := by
  obtain ⟨hx, hb, hml, hown, hts, hK, hN, hR⟩ := F
  exact va_getN (D := D) (ci := 1) (v := .ref (ad 5)) (C := R_Fo) (T := F_Fo) (N := 8) hx hb hts in_Fo hown hK hwd.1 2 rfl rfl 2 (by decide) (va_Nw.use rfl (show va_Nw (.fieldLinkNest R_Co 101 "BranchForge$Forest" "bitsOf" "[I" "BranchForge") s from nwC_f hN nkC_9)) (fun _ h9 => h9) rfl hdg k

theorem gfC_Co_111 (F : fxC D cI cZ p R s m args c cc nL R_Co fr lr) (hwd : wdC D cI cZ ad A H0 g H locs) (hdg : decode cc pc = .ok (.getfield 111, 3)) (k : W p l e R s m args below meth c H locs 0 0 Q (F0 m (pc + 3) ls (.ref (ad 3) :: rest))) : W p l e R s m args below meth c H locs 0 0 Q (F0 m pc ls (.ref (ad 2) :: rest)) := by
  obtain ⟨hx, hb, hml, hown, hts, hK, hN, hR⟩ := F
  exact va_getN (D := D) (ci := 1) (v := .ref (ad 3)) (C := R_Fo) (T := F_Fo) (N := 8) hx hb hts in_Fo hown hK hwd.1 2 rfl rfl 0 (by decide) (va_Nw.use rfl (show va_Nw (.fieldLinkNest R_Co 111 "BranchForge$Forest" "ruleOf" "[I" "BranchForge") s from nwC_f hN nkC_10)) (fun _ h9 => h9) rfl hdg k

theorem gfC_Co_114 (F : fxC D cI cZ p R s m args c cc nL R_Co fr lr) (hwd : wdC D cI cZ ad A H0 g H locs) (hdg : decode cc pc = .ok (.getfield 114, 3)) (k : W p l e R s m args below meth c H locs 0 0 Q (F0 m (pc + 3) ls (.ref (ad 6) :: rest))) : W p l e R s m args below meth c H locs 0 0 Q (F0 m pc ls (.ref (ad 2) :: rest)) := by
  obtain ⟨hx, hb, hml, hown, hts, hK, hN, hR⟩ := F
  exact va_getN (D := D) (ci := 1) (v := .ref (ad 6)) (C := R_Fo) (T := F_Fo) (N := 8) hx hb hts in_Fo hown hK hwd.1 2 rfl rfl 3 (by decide) (va_Nw.use rfl (show va_Nw (.fieldLinkNest R_Co 114 "BranchForge$Forest" "yesOf" "[I" "BranchForge") s from nwC_f hN nkC_11)) (fun _ h9 => h9) rfl hdg k

theorem gfC_Co_126 (F : fxC D cI cZ p R s m args c cc nL R_Co fr lr) (hwd : wdC D cI cZ ad A H0 g H locs) (hdg : decode cc pc = .ok (.getfield 126, 3)) (k : W p l e R s m args below meth c H locs 0 0 Q (F0 m (pc + 3) ls (.ref (ad 7) :: rest))) : W p l e R s m args below meth c H locs 0 0 Q (F0 m pc ls (.ref (ad 2) :: rest)) := by
  obtain ⟨hx, hb, hml, hown, hts, hK, hN, hR⟩ := F
  exact va_getN (D := D) (ci := 1) (v := .ref (ad 7)) (C := R_Fo) (T := F_Fo) (N := 8) hx hb hts in_Fo hown hK hwd.1 2 rfl rfl 4 (by decide) (va_Nw.use rfl (show va_Nw (.fieldLinkNest R_Co 126 "BranchForge$Forest" "noOf" "[I" "BranchForge") s from nwC_f hN nkC_12)) (fun _ h9 => h9) rfl hdg k

theorem gfC_Co_91 (F : fxC D cI cZ p R s m args c cc nL R_Co fr lr) (hwd : wdC D cI cZ ad A H0 g H locs) (hdg : decode cc pc = .ok (.getfield 91, 3)) (k : W p l e R s m args below meth c H locs 0 0 Q (F0 m (pc + 3) ls (.ref (ad 4) :: rest))) : W p l e R s m args below meth c H locs 0 0 Q (F0 m pc ls (.ref (ad 2) :: rest)) := by
  obtain ⟨hx, hb, hml, hown, hts, hK, hN, hR⟩ := F
  exact va_getN (D := D) (ci := 1) (v := .ref (ad 4)) (C := R_Fo) (T := F_Fo) (N := 8) hx hb hts in_Fo hown hK hwd.1 2 rfl rfl 1 (by decide) (va_Nw.use rfl (show va_Nw (.fieldLinkNest R_Co 91 "BranchForge$Forest" "featureOf" "[I" "BranchForge") s from nwC_f hN nkC_13)) (fun _ h9 => h9) rfl hdg k

theorem gfC_Co_15 (F : fxC D cI cZ p R s m args c cc nL R_Co fr lr) (hwd : wdC D cI cZ ad A H0 g H locs) (hdg : decode cc pc = .ok (.getfield 15, 3)) (k : W p l e R s m args below meth c H locs 0 0 Q (F0 m (pc + 3) ls (.ref (ad 21) :: rest))) : W p l e R s m args below meth c H locs 0 0 Q (F0 m pc ls (.ref (ad 19) :: rest)) := by
  obtain ⟨hx, hb, hml, hown, hts, hK, hN, hR⟩ := F
  exact va_get (D := D) (ci := 5) (v := .ref (ad 21)) (C := R_Co) (T := F_Co) (N := 10) hx hb hts in_Co hown hK hwd.1 19 rfl rfl 4 (by decide) (hts _ kC_35) (fun _ h9 => h9) rfl hdg k

theorem gfC_Co_18 (F : fxC D cI cZ p R s m args c cc nL R_Co fr lr) (hwd : wdC D cI cZ ad A H0 g H locs) (hdg : decode cc pc = .ok (.getfield 18, 3)) (k : W p l e R s m args below meth c H locs 0 0 Q (F0 m (pc + 3) ls (.ref (ad 22) :: rest))) : W p l e R s m args below meth c H locs 0 0 Q (F0 m pc ls (.ref (ad 19) :: rest)) := by
  obtain ⟨hx, hb, hml, hown, hts, hK, hN, hR⟩ := F
  exact va_get (D := D) (ci := 5) (v := .ref (ad 22)) (C := R_Co) (T := F_Co) (N := 10) hx hb hts in_Co hown hK hwd.1 19 rfl rfl 5 (by decide) (hts _ kC_36) (fun _ h9 => h9) rfl hdg k

theorem gfC_Co_84 (F : fxC D cI cZ p R s m args c cc nL R_Co fr lr) (hwd : wdC D cI cZ ad A H0 g H locs) (hdg : decode cc pc = .ok (.getfield 84, 3)) (k : W p l e R s m args below meth c H locs 0 0 Q (F0 m (pc + 3) ls (.int (g 103 0) :: rest))) : W p l e R s m args below meth c H locs 0 0 Q (F0 m pc ls (.ref (ad 15) :: rest)) := by
  obtain ⟨hx, hb, hml, hown, hts, hK, hN, hR⟩ := F
  exact va_getN (D := D) (ci := 4) (v := .int (g 103 0)) (C := R_Ta) (T := F_Ta) (N := 4) hx hb hts in_Ta hown hK hwd.1 15 rfl rfl 3 (by decide) (va_Nw.use rfl (show va_Nw (.fieldLinkNest R_Co 84 "BranchForge$Tables" "classCount" "I" "BranchForge") s from nwC_f hN nkC_14)) (fun _ h9 => h9) rfl hdg k

theorem gfC_Co_74 (F : fxC D cI cZ p R s m args c cc nL R_Co fr lr) (hwd : wdC D cI cZ ad A H0 g H locs) (hdg : decode cc pc = .ok (.getfield 74, 3)) (k : W p l e R s m args below meth c H locs 0 0 Q (F0 m (pc + 3) ls (.ref (ad 14) :: rest))) : W p l e R s m args below meth c H locs 0 0 Q (F0 m pc ls (.ref (ad 11) :: rest)) := by
  obtain ⟨hx, hb, hml, hown, hts, hK, hN, hR⟩ := F
  exact va_getN (D := D) (ci := 3) (v := .ref (ad 14)) (C := R_Cu) (T := F_Cu) (N := 5) hx hb hts in_Cu hown hK hwd.1 11 rfl rfl 3 (by decide) (va_Nw.use rfl (show va_Nw (.fieldLinkNest R_Co 74 "BranchForge$Cutter" "nodeOf" "[I" "BranchForge") s from nwC_f hN nkC_15)) (fun _ h9 => h9) rfl hdg k

theorem gfC_Co_63 (F : fxC D cI cZ p R s m args c cc nL R_Co fr lr) (hwd : wdC D cI cZ ad A H0 g H locs) (hdg : decode cc pc = .ok (.getfield 63, 3)) (k : W p l e R s m args below meth c H locs 0 0 Q (F0 m (pc + 3) ls (.int (g 106 0) :: rest))) : W p l e R s m args below meth c H locs 0 0 Q (F0 m pc ls (.ref (ad 19) :: rest)) := by
  obtain ⟨hx, hb, hml, hown, hts, hK, hN, hR⟩ := F
  exact va_get (D := D) (ci := 5) (v := .int (g 106 0)) (C := R_Co) (T := F_Co) (N := 10) hx hb hts in_Co hown hK hwd.1 19 rfl rfl 9 (by decide) (hts _ kC_89) (fun _ h9 => h9) rfl hdg k

theorem gfC_Co_21 (F : fxC D cI cZ p R s m args c cc nL R_Co fr lr) (hwd : wdC D cI cZ ad A H0 g H locs) (hdg : decode cc pc = .ok (.getfield 21, 3)) (k : W p l e R s m args below meth c H locs 0 0 Q (F0 m (pc + 3) ls (.ref (ad 23) :: rest))) : W p l e R s m args below meth c H locs 0 0 Q (F0 m pc ls (.ref (ad 19) :: rest)) := by
  obtain ⟨hx, hb, hml, hown, hts, hK, hN, hR⟩ := F
  exact va_get (D := D) (ci := 5) (v := .ref (ad 23)) (C := R_Co) (T := F_Co) (N := 10) hx hb hts in_Co hown hK hwd.1 19 rfl rfl 6 (by decide) (hts _ kC_37) (fun _ h9 => h9) rfl hdg k

theorem gfC_Co_67 (F : fxC D cI cZ p R s m args c cc nL R_Co fr lr) (hwd : wdC D cI cZ ad A H0 g H locs) (hdg : decode cc pc = .ok (.getfield 67, 3)) (k : W p l e R s m args below meth c H locs 0 0 Q (F0 m (pc + 3) ls (.ref (ad 8) :: rest))) : W p l e R s m args below meth c H locs 0 0 Q (F0 m pc ls (.ref (ad 2) :: rest)) := by
  obtain ⟨hx, hb, hml, hown, hts, hK, hN, hR⟩ := F
  exact va_getN (D := D) (ci := 1) (v := .ref (ad 8)) (C := R_Fo) (T := F_Fo) (N := 8) hx hb hts in_Fo hown hK hwd.1 2 rfl rfl 5 (by decide) (va_Nw.use rfl (show va_Nw (.fieldLinkNest R_Co 67 "BranchForge$Forest" "rootOf" "[I" "BranchForge") s from nwC_f hN nkC_16)) (fun _ h9 => h9) rfl hdg k

theorem gfC_Co_36 (F : fxC D cI cZ p R s m args c cc nL R_Co fr lr) (hwd : wdC D cI cZ ad A H0 g H locs) (hdg : decode cc pc = .ok (.getfield 36, 3)) (k : W p l e R s m args below meth c H locs 0 0 Q (F0 m (pc + 3) ls (.int (g 105 0) :: rest))) : W p l e R s m args below meth c H locs 0 0 Q (F0 m pc ls (.ref (ad 19) :: rest)) := by
  obtain ⟨hx, hb, hml, hown, hts, hK, hN, hR⟩ := F
  exact va_get (D := D) (ci := 5) (v := .int (g 105 0)) (C := R_Co) (T := F_Co) (N := 10) hx hb hts in_Co hown hK hwd.1 19 rfl rfl 8 (by decide) (hts _ kC_90) (fun _ h9 => h9) rfl hdg k

theorem gfC_Co_58 (F : fxC D cI cZ p R s m args c cc nL R_Co fr lr) (hwd : wdC D cI cZ ad A H0 g H locs) (hdg : decode cc pc = .ok (.getfield 58, 3)) (k : W p l e R s m args below meth c H locs 0 0 Q (F0 m (pc + 3) ls (.int (g 101 0) :: rest))) : W p l e R s m args below meth c H locs 0 0 Q (F0 m pc ls (.ref (ad 2) :: rest)) := by
  obtain ⟨hx, hb, hml, hown, hts, hK, hN, hR⟩ := F
  exact va_getN (D := D) (ci := 1) (v := .int (g 101 0)) (C := R_Fo) (T := F_Fo) (N := 8) hx hb hts in_Fo hown hK hwd.1 2 rfl rfl 7 (by decide) (va_Nw.use rfl (show va_Nw (.fieldLinkNest R_Co 58 "BranchForge$Forest" "treeCount" "I" "BranchForge") s from nwC_f hN nkC_17)) (fun _ h9 => h9) rfl hdg k

theorem gfC_Co_51 (F : fxC D cI cZ p R s m args c cc nL R_Co fr lr) (hwd : wdC D cI cZ ad A H0 g H locs) (hdg : decode cc pc = .ok (.getfield 51, 3)) (k : W p l e R s m args below meth c H locs 0 0 Q (F0 m (pc + 3) ls (.int (g 102 0) :: rest))) : W p l e R s m args below meth c H locs 0 0 Q (F0 m pc ls (.ref (ad 11) :: rest)) := by
  obtain ⟨hx, hb, hml, hown, hts, hK, hN, hR⟩ := F
  exact va_getN (D := D) (ci := 3) (v := .int (g 102 0)) (C := R_Cu) (T := F_Cu) (N := 5) hx hb hts in_Cu hown hK hwd.1 11 rfl rfl 4 (by decide) (va_Nw.use rfl (show va_Nw (.fieldLinkNest R_Co 51 "BranchForge$Cutter" "methodCount" "I" "BranchForge") s from nwC_f hN nkC_18)) (fun _ h9 => h9) rfl hdg k

theorem gfC_BF_85 (F : fxC D cI cZ p R s m args c cc nL R_BF fr lr) (hwd : wdC D cI cZ ad A H0 g H locs) (hdg : decode cc pc = .ok (.getfield 85, 3)) (k : W p l e R s m args below meth c H locs 0 0 Q (F0 m (pc + 3) ls (.int (g 101 0) :: rest))) : W p l e R s m args below meth c H locs 0 0 Q (F0 m pc ls (.ref (ad 2) :: rest)) := by
  obtain ⟨hx, hb, hml, hown, hts, hK, hN, hR⟩ := F
  exact va_getN (D := D) (ci := 1) (v := .int (g 101 0)) (C := R_Fo) (T := F_Fo) (N := 8) hx hb hts in_Fo hown hK hwd.1 2 rfl rfl 7 (by decide) (va_Nw.use rfl (show va_Nw (.fieldLinkNest R_BF 85 "BranchForge$Forest" "treeCount" "I" "BranchForge") s from nwC_f hN nkC_19)) (fun _ h9 => h9) rfl hdg k

theorem gfC_BF_25 (F : fxC D cI cZ p R s m args c cc nL R_BF fr lr) (hwd : wdC D cI cZ ad A H0 g H locs) (hdg : decode cc pc = .ok (.getfield 25, 3)) (k : W p l e R s m args below meth c H locs 0 0 Q (F0 m (pc + 3) ls (.ref (ad 9) :: rest))) : W p l e R s m args below meth c H locs 0 0 Q (F0 m pc ls (.ref (ad 0) :: rest)) := by
  obtain ⟨hx, hb, hml, hown, hts, hK, hN, hR⟩ := F
  exact va_get (D := D) (ci := 0) (v := .ref (ad 9)) (C := R_BF) (T := F_BF) (N := 7) hx hb hts in_BF hown hK hwd.1 0 rfl rfl 2 (by decide) (hts _ kC_59) (fun _ h9 => h9) rfl hdg k

theorem gfC_BF_32 (F : fxC D cI cZ p R s m args c cc nL R_BF fr lr) (hwd : wdC D cI cZ ad A H0 g H locs) (hdg : decode cc pc = .ok (.getfield 32, 3)) (k : W p l e R s m args below meth c H locs 0 0 Q (F0 m (pc + 3) ls (.ref (ad 11) :: rest))) : W p l e R s m args below meth c H locs 0 0 Q (F0 m pc ls (.ref (ad 0) :: rest)) := by
  obtain ⟨hx, hb, hml, hown, hts, hK, hN, hR⟩ := F
  exact va_get (D := D) (ci := 0) (v := .ref (ad 11)) (C := R_BF) (T := F_BF) (N := 7) hx hb hts in_BF hown hK hwd.1 0 rfl rfl 3 (by decide) (hts _ kC_65) (fun _ h9 => h9) rfl hdg k

theorem gfC_BF_48 (F : fxC D cI cZ p R s m args c cc nL R_BF fr lr) (hwd : wdC D cI cZ ad A H0 g H locs) (hdg : decode cc pc = .ok (.getfield 48, 3)) (k : W p l e R s m args below meth c H locs 0 0 Q (F0 m (pc + 3) ls (.ref (ad 19) :: rest))) : W p l e R s m args below meth c H locs 0 0 Q (F0 m pc ls (.ref (ad 0) :: rest)) := by
  obtain ⟨hx, hb, hml, hown, hts, hK, hN, hR⟩ := F
  exact va_get (D := D) (ci := 0) (v := .ref (ad 19)) (C := R_BF) (T := F_BF) (N := 7) hx hb hts in_BF hown hK hwd.1 0 rfl rfl 5 (by decide) (hts _ kC_76) (fun _ h9 => h9) rfl hdg k

theorem gfC_BF_100 (F : fxC D cI cZ p R s m args c cc nL R_BF fr lr) (hwd : wdC D cI cZ ad A H0 g H locs) (hdg : decode cc pc = .ok (.getfield 100, 3)) (k : W p l e R s m args below meth c H locs 0 0 Q (F0 m (pc + 3) ls (.int (g 105 0) :: rest))) : W p l e R s m args below meth c H locs 0 0 Q (F0 m pc ls (.ref (ad 19) :: rest)) := by
  obtain ⟨hx, hb, hml, hown, hts, hK, hN, hR⟩ := F
  exact va_getN (D := D) (ci := 5) (v := .int (g 105 0)) (C := R_Co) (T := F_Co) (N := 10) hx hb hts in_Co hown hK hwd.1 19 rfl rfl 8 (by decide) (va_Nw.use rfl (show va_Nw (.fieldLinkNest R_BF 100 "BranchForge$Code" "methodCount" "I" "BranchForge") s from nwC_f hN nkC_20)) (fun _ h9 => h9) rfl hdg k

theorem gfC_BF_106 (F : fxC D cI cZ p R s m args c cc nL R_BF fr lr) (hwd : wdC D cI cZ ad A H0 g H locs) (hdg : decode cc pc = .ok (.getfield 106, 3)) (k : W p l e R s m args below meth c H locs 0 0 Q (F0 m (pc + 3) ls (.ref (ad 21) :: rest))) : W p l e R s m args below meth c H locs 0 0 Q (F0 m pc ls (.ref (ad 19) :: rest)) := by
  obtain ⟨hx, hb, hml, hown, hts, hK, hN, hR⟩ := F
  exact va_getN (D := D) (ci := 5) (v := .ref (ad 21)) (C := R_Co) (T := F_Co) (N := 10) hx hb hts in_Co hown hK hwd.1 19 rfl rfl 4 (by decide) (va_Nw.use rfl (show va_Nw (.fieldLinkNest R_BF 106 "BranchForge$Code" "startOf" "[I" "BranchForge") s from nwC_f hN nkC_21)) (fun _ h9 => h9) rfl hdg k

theorem gfC_BF_112 (F : fxC D cI cZ p R s m args c cc nL R_BF fr lr) (hwd : wdC D cI cZ ad A H0 g H locs) (hdg : decode cc pc = .ok (.getfield 112, 3)) (k : W p l e R s m args below meth c H locs 0 0 Q (F0 m (pc + 3) ls (.ref (ad 20) :: rest))) : W p l e R s m args below meth c H locs 0 0 Q (F0 m pc ls (.ref (ad 19) :: rest)) := by
  obtain ⟨hx, hb, hml, hown, hts, hK, hN, hR⟩ := F
  exact va_getN (D := D) (ci := 5) (v := .ref (ad 20)) (C := R_Co) (T := F_Co) (N := 10) hx hb hts in_Co hown hK hwd.1 19 rfl rfl 3 (by decide) (va_Nw.use rfl (show va_Nw (.fieldLinkNest R_BF 112 "BranchForge$Code" "bytes" "[I" "BranchForge") s from nwC_f hN nkC_22)) (fun _ h9 => h9) rfl hdg k

theorem gfC_BF_115 (F : fxC D cI cZ p R s m args c cc nL R_BF fr lr) (hwd : wdC D cI cZ ad A H0 g H locs) (hdg : decode cc pc = .ok (.getfield 115, 3)) (k : W p l e R s m args below meth c H locs 0 0 Q (F0 m (pc + 3) ls (.ref (ad 22) :: rest))) : W p l e R s m args below meth c H locs 0 0 Q (F0 m pc ls (.ref (ad 19) :: rest)) := by
  obtain ⟨hx, hb, hml, hown, hts, hK, hN, hR⟩ := F
  exact va_getN (D := D) (ci := 5) (v := .ref (ad 22)) (C := R_Co) (T := F_Co) (N := 10) hx hb hts in_Co hown hK hwd.1 19 rfl rfl 5 (by decide) (va_Nw.use rfl (show va_Nw (.fieldLinkNest R_BF 115 "BranchForge$Code" "homeOf" "[I" "BranchForge") s from nwC_f hN nkC_23)) (fun _ h9 => h9) rfl hdg k

theorem gfC_BF_39 (F : fxC D cI cZ p R s m args c cc nL R_BF fr lr) (hwd : wdC D cI cZ ad A H0 g H locs) (hdg : decode cc pc = .ok (.getfield 39, 3)) (k : W p l e R s m args below meth c H locs 0 0 Q (F0 m (pc + 3) ls (.ref (ad 15) :: rest))) : W p l e R s m args below meth c H locs 0 0 Q (F0 m pc ls (.ref (ad 0) :: rest)) := by
  obtain ⟨hx, hb, hml, hown, hts, hK, hN, hR⟩ := F
  exact va_get (D := D) (ci := 0) (v := .ref (ad 15)) (C := R_BF) (T := F_BF) (N := 7) hx hb hts in_BF hown hK hwd.1 0 rfl rfl 4 (by decide) (hts _ kC_70) (fun _ h9 => h9) rfl hdg k

theorem gfC_BF_118 (F : fxC D cI cZ p R s m args c cc nL R_BF fr lr) (hwd : wdC D cI cZ ad A H0 g H locs) (hdg : decode cc pc = .ok (.getfield 118, 3)) (k : W p l e R s m args below meth c H locs 0 0 Q (F0 m (pc + 3) ls (.int (g 103 0) :: rest))) : W p l e R s m args below meth c H locs 0 0 Q (F0 m pc ls (.ref (ad 15) :: rest)) := by
  obtain ⟨hx, hb, hml, hown, hts, hK, hN, hR⟩ := F
  exact va_getN (D := D) (ci := 4) (v := .int (g 103 0)) (C := R_Ta) (T := F_Ta) (N := 4) hx hb hts in_Ta hown hK hwd.1 15 rfl rfl 3 (by decide) (va_Nw.use rfl (show va_Nw (.fieldLinkNest R_BF 118 "BranchForge$Tables" "classCount" "I" "BranchForge") s from nwC_f hN nkC_24)) (fun _ h9 => h9) rfl hdg k

theorem gfC_BF_132 (F : fxC D cI cZ p R s m args c cc nL R_BF fr lr) (hwd : wdC D cI cZ ad A H0 g H locs) (hdg : decode cc pc = .ok (.getfield 132, 3)) (k : W p l e R s m args below meth c H locs 0 0 Q (F0 m (pc + 3) ls (.ref (ad 18) :: rest))) : W p l e R s m args below meth c H locs 0 0 Q (F0 m pc ls (.ref (ad 15) :: rest)) := by
  obtain ⟨hx, hb, hml, hown, hts, hK, hN, hR⟩ := F
  exact va_getN (D := D) (ci := 4) (v := .ref (ad 18)) (C := R_Ta) (T := F_Ta) (N := 4) hx hb hts in_Ta hown hK hwd.1 15 rfl rfl 2 (by decide) (va_Nw.use rfl (show va_Nw (.fieldLinkNest R_BF 132 "BranchForge$Tables" "startOf" "[I" "BranchForge") s from nwC_f hN nkC_25)) (fun _ h9 => h9) rfl hdg k

theorem gfC_BF_133 (F : fxC D cI cZ p R s m args c cc nL R_BF fr lr) (hwd : wdC D cI cZ ad A H0 g H locs) (hdg : decode cc pc = .ok (.getfield 133, 3)) (k : W p l e R s m args below meth c H locs 0 0 Q (F0 m (pc + 3) ls (.ref (ad 16) :: rest))) : W p l e R s m args below meth c H locs 0 0 Q (F0 m pc ls (.ref (ad 15) :: rest)) := by
  obtain ⟨hx, hb, hml, hown, hts, hK, hN, hR⟩ := F
  exact va_getN (D := D) (ci := 4) (v := .ref (ad 16)) (C := R_Ta) (T := F_Ta) (N := 4) hx hb hts in_Ta hown hK hwd.1 15 rfl rfl 0 (by decide) (va_Nw.use rfl (show va_Nw (.fieldLinkNest R_BF 133 "BranchForge$Tables" "kindAt" "[I" "BranchForge") s from nwC_f hN nkC_26)) (fun _ h9 => h9) rfl hdg k

theorem gfC_BF_136 (F : fxC D cI cZ p R s m args c cc nL R_BF fr lr) (hwd : wdC D cI cZ ad A H0 g H locs) (hdg : decode cc pc = .ok (.getfield 136, 3)) (k : W p l e R s m args below meth c H locs 0 0 Q (F0 m (pc + 3) ls (.ref (ad 17) :: rest))) : W p l e R s m args below meth c H locs 0 0 Q (F0 m pc ls (.ref (ad 15) :: rest)) := by
  obtain ⟨hx, hb, hml, hown, hts, hK, hN, hR⟩ := F
  exact va_getN (D := D) (ci := 4) (v := .ref (ad 17)) (C := R_Ta) (T := F_Ta) (N := 4) hx hb hts in_Ta hown hK hwd.1 15 rfl rfl 1 (by decide) (va_Nw.use rfl (show va_Nw (.fieldLinkNest R_BF 136 "BranchForge$Tables" "bitsAt" "[I" "BranchForge") s from nwC_f hN nkC_27)) (fun _ h9 => h9) rfl hdg k

theorem gfC_BF_9 (F : fxC D cI cZ p R s m args c cc nL R_BF fr lr) (hwd : wdC D cI cZ ad A H0 g H locs) (hdg : decode cc pc = .ok (.getfield 9, 3)) (k : W p l e R s m args below meth c H locs 0 0 Q (F0 m (pc + 3) ls (.ref (ad 1) :: rest))) : W p l e R s m args below meth c H locs 0 0 Q (F0 m pc ls (.ref (ad 0) :: rest)) := by
  obtain ⟨hx, hb, hml, hown, hts, hK, hN, hR⟩ := F
  exact va_get (D := D) (ci := 0) (v := .ref (ad 1)) (C := R_BF) (T := F_BF) (N := 7) hx hb hts in_BF hown hK hwd.1 0 rfl rfl 0 (by decide) (hts _ kC_48) (fun _ h9 => h9) rfl hdg k

theorem gfC_Ma_9 (F : fxC D cI cZ p R s m args c cc nL R_Ma fr lr) (hwd : wdC D cI cZ ad A H0 g H locs) (hdg : decode cc pc = .ok (.getfield 9, 3)) (k : W p l e R s m args below meth c H locs 0 0 Q (F0 m (pc + 3) ls (.ref (ad 19) :: rest))) : W p l e R s m args below meth c H locs 0 0 Q (F0 m pc ls (.ref (ad 24) :: rest)) := by
  obtain ⟨hx, hb, hml, hown, hts, hK, hN, hR⟩ := F
  exact va_get (D := D) (ci := 6) (v := .ref (ad 19)) (C := R_Ma) (T := F_Ma) (N := 5) hx hb hts in_Ma hown hK hwd.1 24 rfl rfl 0 (by decide) (hts _ kC_43) (fun _ h9 => h9) rfl hdg k

theorem gfC_Ma_15 (F : fxC D cI cZ p R s m args c cc nL R_Ma fr lr) (hwd : wdC D cI cZ ad A H0 g H locs) (hdg : decode cc pc = .ok (.getfield 15, 3)) (k : W p l e R s m args below meth c H locs 0 0 Q (F0 m (pc + 3) ls (.ref (ad 15) :: rest))) : W p l e R s m args below meth c H locs 0 0 Q (F0 m pc ls (.ref (ad 24) :: rest)) := by
  obtain ⟨hx, hb, hml, hown, hts, hK, hN, hR⟩ := F
  exact va_get (D := D) (ci := 6) (v := .ref (ad 15)) (C := R_Ma) (T := F_Ma) (N := 5) hx hb hts in_Ma hown hK hwd.1 24 rfl rfl 1 (by decide) (hts _ kC_44) (fun _ h9 => h9) rfl hdg k

theorem gfC_Ma_72 (F : fxC D cI cZ p R s m args c cc nL R_Ma fr lr) (hwd : wdC D cI cZ ad A H0 g H locs) (hdg : decode cc pc = .ok (.getfield 72, 3)) (k : W p l e R s m args below meth c H locs 0 0 Q (F0 m (pc + 3) ls (.ref (ad 17) :: rest))) : W p l e R s m args below meth c H locs 0 0 Q (F0 m pc ls (.ref (ad 15) :: rest)) := by
  obtain ⟨hx, hb, hml, hown, hts, hK, hN, hR⟩ := F
  exact va_getN (D := D) (ci := 4) (v := .ref (ad 17)) (C := R_Ta) (T := F_Ta) (N := 4) hx hb hts in_Ta hown hK hwd.1 15 rfl rfl 1 (by decide) (va_Nw.use rfl (show va_Nw (.fieldLinkNest R_Ma 72 "BranchForge$Tables" "bitsAt" "[I" "BranchForge") s from nwC_f hN nkC_28)) (fun _ h9 => h9) rfl hdg k

theorem gfC_Ma_75 (F : fxC D cI cZ p R s m args c cc nL R_Ma fr lr) (hwd : wdC D cI cZ ad A H0 g H locs) (hdg : decode cc pc = .ok (.getfield 75, 3)) (k : W p l e R s m args below meth c H locs 0 0 Q (F0 m (pc + 3) ls (.ref (ad 18) :: rest))) : W p l e R s m args below meth c H locs 0 0 Q (F0 m pc ls (.ref (ad 15) :: rest)) := by
  obtain ⟨hx, hb, hml, hown, hts, hK, hN, hR⟩ := F
  exact va_getN (D := D) (ci := 4) (v := .ref (ad 18)) (C := R_Ta) (T := F_Ta) (N := 4) hx hb hts in_Ta hown hK hwd.1 15 rfl rfl 2 (by decide) (va_Nw.use rfl (show va_Nw (.fieldLinkNest R_Ma 75 "BranchForge$Tables" "startOf" "[I" "BranchForge") s from nwC_f hN nkC_29)) (fun _ h9 => h9) rfl hdg k

theorem gfC_Ma_19 (F : fxC D cI cZ p R s m args c cc nL R_Ma fr lr) (hwd : wdC D cI cZ ad A H0 g H locs) (hdg : decode cc pc = .ok (.getfield 19, 3)) (k : W p l e R s m args below meth c H locs 0 0 Q (F0 m (pc + 3) ls (.ref (ad 1) :: rest))) : W p l e R s m args below meth c H locs 0 0 Q (F0 m pc ls (.ref (ad 24) :: rest)) := by
  obtain ⟨hx, hb, hml, hown, hts, hK, hN, hR⟩ := F
  exact va_get (D := D) (ci := 6) (v := .ref (ad 1)) (C := R_Ma) (T := F_Ma) (N := 5) hx hb hts in_Ma hown hK hwd.1 24 rfl rfl 2 (by decide) (hts _ kC_45) (fun _ h9 => h9) rfl hdg k

theorem gfC_Ma_23 (F : fxC D cI cZ p R s m args c cc nL R_Ma fr lr) (hwd : wdC D cI cZ ad A H0 g H locs) (hdg : decode cc pc = .ok (.getfield 23, 3)) (k : W p l e R s m args below meth c H locs 0 0 Q (F0 m (pc + 3) ls (.int (g 107 0) :: rest))) : W p l e R s m args below meth c H locs 0 0 Q (F0 m pc ls (.ref (ad 24) :: rest)) := by
  obtain ⟨hx, hb, hml, hown, hts, hK, hN, hR⟩ := F
  exact va_get (D := D) (ci := 6) (v := .int (g 107 0)) (C := R_Ma) (T := F_Ma) (N := 5) hx hb hts in_Ma hown hK hwd.1 24 rfl rfl 3 (by decide) (hts _ kC_91) (fun _ h9 => h9) rfl hdg k

theorem gfC_Ma_57 (F : fxC D cI cZ p R s m args c cc nL R_Ma fr lr) (hwd : wdC D cI cZ ad A H0 g H locs) (hdg : decode cc pc = .ok (.getfield 57, 3)) (k : W p l e R s m args below meth c H locs 0 0 Q (F0 m (pc + 3) ls (.ref (ad 22) :: rest))) : W p l e R s m args below meth c H locs 0 0 Q (F0 m pc ls (.ref (ad 19) :: rest)) := by
  obtain ⟨hx, hb, hml, hown, hts, hK, hN, hR⟩ := F
  exact va_getN (D := D) (ci := 5) (v := .ref (ad 22)) (C := R_Co) (T := F_Co) (N := 10) hx hb hts in_Co hown hK hwd.1 19 rfl rfl 5 (by decide) (va_Nw.use rfl (show va_Nw (.fieldLinkNest R_Ma 57 "BranchForge$Code" "homeOf" "[I" "BranchForge") s from nwC_f hN nkC_30)) (fun _ h9 => h9) rfl hdg k

theorem gfC_Ma_27 (F : fxC D cI cZ p R s m args c cc nL R_Ma fr lr) (hwd : wdC D cI cZ ad A H0 g H locs) (hdg : decode cc pc = .ok (.getfield 27, 3)) (k : W p l e R s m args below meth c H locs 0 0 Q (F0 m (pc + 3) ls (.int (g 108 0) :: rest))) : W p l e R s m args below meth c H locs 0 0 Q (F0 m pc ls (.ref (ad 24) :: rest)) := by
  obtain ⟨hx, hb, hml, hown, hts, hK, hN, hR⟩ := F
  exact va_get (D := D) (ci := 6) (v := .int (g 108 0)) (C := R_Ma) (T := F_Ma) (N := 5) hx hb hts in_Ma hown hK hwd.1 24 rfl rfl 4 (by decide) (hts _ kC_92) (fun _ h9 => h9) rfl hdg k

theorem gfC_Ma_46 (F : fxC D cI cZ p R s m args c cc nL R_Ma fr lr) (hwd : wdC D cI cZ ad A H0 g H locs) (hdg : decode cc pc = .ok (.getfield 46, 3)) (k : W p l e R s m args below meth c H locs 0 0 Q (F0 m (pc + 3) ls (.ref (ad 21) :: rest))) : W p l e R s m args below meth c H locs 0 0 Q (F0 m pc ls (.ref (ad 19) :: rest)) := by
  obtain ⟨hx, hb, hml, hown, hts, hK, hN, hR⟩ := F
  exact va_getN (D := D) (ci := 5) (v := .ref (ad 21)) (C := R_Co) (T := F_Co) (N := 10) hx hb hts in_Co hown hK hwd.1 19 rfl rfl 4 (by decide) (va_Nw.use rfl (show va_Nw (.fieldLinkNest R_Ma 46 "BranchForge$Code" "startOf" "[I" "BranchForge") s from nwC_f hN nkC_31)) (fun _ h9 => h9) rfl hdg k

theorem gfC_Ma_30 (F : fxC D cI cZ p R s m args c cc nL R_Ma fr lr) (hwd : wdC D cI cZ ad A H0 g H locs) (hdg : decode cc pc = .ok (.getfield 30, 3)) (k : W p l e R s m args below meth c H locs 0 0 Q (F0 m (pc + 3) ls (.int (g 106 0) :: rest))) : W p l e R s m args below meth c H locs 0 0 Q (F0 m pc ls (.ref (ad 19) :: rest)) := by
  obtain ⟨hx, hb, hml, hown, hts, hK, hN, hR⟩ := F
  exact va_getN (D := D) (ci := 5) (v := .int (g 106 0)) (C := R_Co) (T := F_Co) (N := 10) hx hb hts in_Co hown hK hwd.1 19 rfl rfl 9 (by decide) (va_Nw.use rfl (show va_Nw (.fieldLinkNest R_Ma 30 "BranchForge$Code" "treeCount" "I" "BranchForge") s from nwC_f hN nkC_32)) (fun _ h9 => h9) rfl hdg k

theorem gfC_Ma_35 (F : fxC D cI cZ p R s m args c cc nL R_Ma fr lr) (hwd : wdC D cI cZ ad A H0 g H locs) (hdg : decode cc pc = .ok (.getfield 35, 3)) (k : W p l e R s m args below meth c H locs 0 0 Q (F0 m (pc + 3) ls (.ref (ad 23) :: rest))) : W p l e R s m args below meth c H locs 0 0 Q (F0 m pc ls (.ref (ad 19) :: rest)) := by
  obtain ⟨hx, hb, hml, hown, hts, hK, hN, hR⟩ := F
  exact va_getN (D := D) (ci := 5) (v := .ref (ad 23)) (C := R_Co) (T := F_Co) (N := 10) hx hb hts in_Co hown hK hwd.1 19 rfl rfl 6 (by decide) (va_Nw.use rfl (show va_Nw (.fieldLinkNest R_Ma 35 "BranchForge$Code" "rootMethodOf" "[I" "BranchForge") s from nwC_f hN nkC_33)) (fun _ h9 => h9) rfl hdg k

theorem gfC_BF_57 (F : fxC D cI cZ p R s m args c cc nL R_BF fr lr) (hwd : wdC D cI cZ ad A H0 g H locs) (hdg : decode cc pc = .ok (.getfield 57, 3)) (k : W p l e R s m args below meth c H locs 0 0 Q (F0 m (pc + 3) ls (.ref (ad 24) :: rest))) : W p l e R s m args below meth c H locs 0 0 Q (F0 m pc ls (.ref (ad 0) :: rest)) := by
  obtain ⟨hx, hb, hml, hown, hts, hK, hN, hR⟩ := F
  exact va_get (D := D) (ci := 0) (v := .ref (ad 24)) (C := R_BF) (T := F_BF) (N := 7) hx hb hts in_BF hown hK hwd.1 0 rfl rfl 6 (by decide) (hts _ kC_82) (fun _ h9 => h9) rfl hdg k

theorem gfC_BF_145 (F : fxC D cI cZ p R s m args c cc nL R_BF fr lr) (hwd : wdC D cI cZ ad A H0 g H locs) (hdg : decode cc pc = .ok (.getfield 145, 3)) (k : W p l e R s m args below meth c H locs 0 0 Q (F0 m (pc + 3) ls (.int (g 107 0) :: rest))) : W p l e R s m args below meth c H locs 0 0 Q (F0 m pc ls (.ref (ad 24) :: rest)) := by
  obtain ⟨hx, hb, hml, hown, hts, hK, hN, hR⟩ := F
  exact va_getN (D := D) (ci := 6) (v := .int (g 107 0)) (C := R_Ma) (T := F_Ma) (N := 5) hx hb hts in_Ma hown hK hwd.1 24 rfl rfl 3 (by decide) (va_Nw.use rfl (show va_Nw (.fieldLinkNest R_BF 145 "BranchForge$Machine" "stepCount" "I" "BranchForge") s from nwC_f hN nkC_34)) (fun _ h9 => h9) rfl hdg k

theorem gfC_BF_148 (F : fxC D cI cZ p R s m args c cc nL R_BF fr lr) (hwd : wdC D cI cZ ad A H0 g H locs) (hdg : decode cc pc = .ok (.getfield 148, 3)) (k : W p l e R s m args below meth c H locs 0 0 Q (F0 m (pc + 3) ls (.int (g 108 0) :: rest))) : W p l e R s m args below meth c H locs 0 0 Q (F0 m pc ls (.ref (ad 24) :: rest)) := by
  obtain ⟨hx, hb, hml, hown, hts, hK, hN, hR⟩ := F
  exact va_getN (D := D) (ci := 6) (v := .int (g 108 0)) (C := R_Ma) (T := F_Ma) (N := 5) hx hb hts in_Ma hown hK hwd.1 24 rfl rfl 4 (by decide) (va_Nw.use rfl (show va_Nw (.fieldLinkNest R_BF 148 "BranchForge$Machine" "callCount" "I" "BranchForge") s from nwC_f hN nkC_35)) (fun _ h9 => h9) rfl hdg k

theorem gfC_BF_151 (F : fxC D cI cZ p R s m args c cc nL R_BF fr lr) (hwd : wdC D cI cZ ad A H0 g H locs) (hdg : decode cc pc = .ok (.getfield 151, 3)) (k : W p l e R s m args below meth c H locs 0 0 Q (F0 m (pc + 3) ls (.int (g 106 0) :: rest))) : W p l e R s m args below meth c H locs 0 0 Q (F0 m pc ls (.ref (ad 19) :: rest)) := by
  obtain ⟨hx, hb, hml, hown, hts, hK, hN, hR⟩ := F
  exact va_getN (D := D) (ci := 5) (v := .int (g 106 0)) (C := R_Co) (T := F_Co) (N := 10) hx hb hts in_Co hown hK hwd.1 19 rfl rfl 9 (by decide) (va_Nw.use rfl (show va_Nw (.fieldLinkNest R_BF 151 "BranchForge$Code" "treeCount" "I" "BranchForge") s from nwC_f hN nkC_36)) (fun _ h9 => h9) rfl hdg k

theorem gfC_BF_152 (F : fxC D cI cZ p R s m args c cc nL R_BF fr lr) (hwd : wdC D cI cZ ad A H0 g H locs) (hdg : decode cc pc = .ok (.getfield 152, 3)) (k : W p l e R s m args below meth c H locs 0 0 Q (F0 m (pc + 3) ls (.ref (ad 8) :: rest))) : W p l e R s m args below meth c H locs 0 0 Q (F0 m pc ls (.ref (ad 2) :: rest)) := by
  obtain ⟨hx, hb, hml, hown, hts, hK, hN, hR⟩ := F
  exact va_getN (D := D) (ci := 1) (v := .ref (ad 8)) (C := R_Fo) (T := F_Fo) (N := 8) hx hb hts in_Fo hown hK hwd.1 2 rfl rfl 5 (by decide) (va_Nw.use rfl (show va_Nw (.fieldLinkNest R_BF 152 "BranchForge$Forest" "rootOf" "[I" "BranchForge") s from nwC_f hN nkC_37)) (fun _ h9 => h9) rfl hdg k

theorem pfC_Fo_30 {v : Int32} (F : fxC D cI cZ p R s m args c cc nL R_Fo fr lr) (hwd : wdC D cI cZ ad A H0 g H locs) (hdg : decode cc pc = .ok (.putfield 30, 3)) (k : ∀ (H : Heap) (locs : List Loc), wdC D cI cZ ad A H0 (sc g 100 v) H locs → W p l e R s m args below meth c H locs 0 0 Q (F0 m (pc + 3) ls rest)) : W p l e R s m args below meth c H locs 0 0 Q (F0 m pc ls (.int v :: .ref (ad 2) :: rest)) := by
  obtain ⟨hx, hb, hml, hown, hts, hK, hN, hR⟩ := F
  obtain ⟨hP, hD, hS, hA⟩ := hwd
  exact va_put (D := D) (ci := 1) (v := .int v) (ty := .int) (C := R_Fo) (T := F_Fo) (N := 8) hx hb hts in_Fo t_Fo t_Fo_ok n_Fo hown hK hP hD hS 2 rfl rfl 6 (by decide) (hts _ kC_84) (fun _ h9 => h9) rfl (by decide +kernel) rfl rfl (Nat.le_of_ble_eq_true rfl) hdg (fun H locs h1 h2 h3 => k H locs ⟨h1, h2, h3, hA⟩)

theorem pfC_Fo_34 {v : Int32} (F : fxC D cI cZ p R s m args c cc nL R_Fo fr lr) (hwd : wdC D cI cZ ad A H0 g H locs) (hdg : decode cc pc = .ok (.putfield 34, 3)) (k : ∀ (H : Heap) (locs : List Loc), wdC D cI cZ ad A H0 (sc g 101 v) H locs → W p l e R s m args below meth c H locs 0 0 Q (F0 m (pc + 3) ls rest)) : W p l e R s m args below meth c H locs 0 0 Q (F0 m pc ls (.int v :: .ref (ad 2) :: rest)) := by
  obtain ⟨hx, hb, hml, hown, hts, hK, hN, hR⟩ := F
  obtain ⟨hP, hD, hS, hA⟩ := hwd
  exact va_put (D := D) (ci := 1) (v := .int v) (ty := .int) (C := R_Fo) (T := F_Fo) (N := 8) hx hb hts in_Fo t_Fo t_Fo_ok n_Fo hown hK hP hD hS 2 rfl rfl 7 (by decide) (hts _ kC_85) (fun _ h9 => h9) rfl (by decide +kernel) rfl rfl (Nat.le_of_ble_eq_true rfl) hdg (fun H locs h1 h2 h3 => k H locs ⟨h1, h2, h3, hA⟩)

theorem pfC_Cu_25 {v : Int32} (F : fxC D cI cZ p R s m args c cc nL R_Cu fr lr) (hwd : wdC D cI cZ ad A H0 g H locs) (hdg : decode cc pc = .ok (.putfield 25, 3)) (k : ∀ (H : Heap) (locs : List Loc), wdC D cI cZ ad A H0 (sc g 102 v) H locs → W p l e R s m args below meth c H locs 0 0 Q (F0 m (pc + 3) ls rest)) : W p l e R s m args below meth c H locs 0 0 Q (F0 m pc ls (.int v :: .ref (ad 11) :: rest)) := by
  obtain ⟨hx, hb, hml, hown, hts, hK, hN, hR⟩ := F
  obtain ⟨hP, hD, hS, hA⟩ := hwd
  exact va_put (D := D) (ci := 3) (v := .int v) (ty := .int) (C := R_Cu) (T := F_Cu) (N := 5) hx hb hts in_Cu t_Cu t_Cu_ok n_Cu hown hK hP hD hS 11 rfl rfl 4 (by decide) (hts _ kC_86) (fun _ h9 => h9) rfl (by decide +kernel) rfl rfl (Nat.le_of_ble_eq_true rfl) hdg (fun H locs h1 h2 h3 => k H locs ⟨h1, h2, h3, hA⟩)

theorem pfC_Ta_21 {v : Int32} (F : fxC D cI cZ p R s m args c cc nL R_Ta fr lr) (hwd : wdC D cI cZ ad A H0 g H locs) (hdg : decode cc pc = .ok (.putfield 21, 3)) (k : ∀ (H : Heap) (locs : List Loc), wdC D cI cZ ad A H0 (sc g 103 v) H locs → W p l e R s m args below meth c H locs 0 0 Q (F0 m (pc + 3) ls rest)) : W p l e R s m args below meth c H locs 0 0 Q (F0 m pc ls (.int v :: .ref (ad 15) :: rest)) := by
  obtain ⟨hx, hb, hml, hown, hts, hK, hN, hR⟩ := F
  obtain ⟨hP, hD, hS, hA⟩ := hwd
  exact va_put (D := D) (ci := 4) (v := .int v) (ty := .int) (C := R_Ta) (T := F_Ta) (N := 4) hx hb hts in_Ta t_Ta t_Ta_ok n_Ta hown hK hP hD hS 15 rfl rfl 3 (by decide) (hts _ kC_87) (fun _ h9 => h9) rfl (by decide +kernel) rfl rfl (Nat.le_of_ble_eq_true rfl) hdg (fun H locs h1 h2 h3 => k H locs ⟨h1, h2, h3, hA⟩)

theorem pfC_Co_40 {v : Int32} (F : fxC D cI cZ p R s m args c cc nL R_Co fr lr) (hwd : wdC D cI cZ ad A H0 g H locs) (hdg : decode cc pc = .ok (.putfield 40, 3)) (k : ∀ (H : Heap) (locs : List Loc), wdC D cI cZ ad A H0 (sc g 104 v) H locs → W p l e R s m args below meth c H locs 0 0 Q (F0 m (pc + 3) ls rest)) : W p l e R s m args below meth c H locs 0 0 Q (F0 m pc ls (.int v :: .ref (ad 19) :: rest)) := by
  obtain ⟨hx, hb, hml, hown, hts, hK, hN, hR⟩ := F
  obtain ⟨hP, hD, hS, hA⟩ := hwd
  exact va_put (D := D) (ci := 5) (v := .int v) (ty := .int) (C := R_Co) (T := F_Co) (N := 10) hx hb hts in_Co t_Co t_Co_ok n_Co hown hK hP hD hS 19 rfl rfl 7 (by decide) (hts _ kC_88) (fun _ h9 => h9) rfl (by decide +kernel) rfl rfl (Nat.le_of_ble_eq_true rfl) hdg (fun H locs h1 h2 h3 => k H locs ⟨h1, h2, h3, hA⟩)

theorem pfC_Co_63 {v : Int32} (F : fxC D cI cZ p R s m args c cc nL R_Co fr lr) (hwd : wdC D cI cZ ad A H0 g H locs) (hdg : decode cc pc = .ok (.putfield 63, 3)) (k : ∀ (H : Heap) (locs : List Loc), wdC D cI cZ ad A H0 (sc g 106 v) H locs → W p l e R s m args below meth c H locs 0 0 Q (F0 m (pc + 3) ls rest)) : W p l e R s m args below meth c H locs 0 0 Q (F0 m pc ls (.int v :: .ref (ad 19) :: rest)) := by
  obtain ⟨hx, hb, hml, hown, hts, hK, hN, hR⟩ := F
  obtain ⟨hP, hD, hS, hA⟩ := hwd
  exact va_put (D := D) (ci := 5) (v := .int v) (ty := .int) (C := R_Co) (T := F_Co) (N := 10) hx hb hts in_Co t_Co t_Co_ok n_Co hown hK hP hD hS 19 rfl rfl 9 (by decide) (hts _ kC_89) (fun _ h9 => h9) rfl (by decide +kernel) rfl rfl (Nat.le_of_ble_eq_true rfl) hdg (fun H locs h1 h2 h3 => k H locs ⟨h1, h2, h3, hA⟩)

theorem pfC_Co_36 {v : Int32} (F : fxC D cI cZ p R s m args c cc nL R_Co fr lr) (hwd : wdC D cI cZ ad A H0 g H locs) (hdg : decode cc pc = .ok (.putfield 36, 3)) (k : ∀ (H : Heap) (locs : List Loc), wdC D cI cZ ad A H0 (sc g 105 v) H locs → W p l e R s m args below meth c H locs 0 0 Q (F0 m (pc + 3) ls rest)) : W p l e R s m args below meth c H locs 0 0 Q (F0 m pc ls (.int v :: .ref (ad 19) :: rest)) := by
  obtain ⟨hx, hb, hml, hown, hts, hK, hN, hR⟩ := F
  obtain ⟨hP, hD, hS, hA⟩ := hwd
  exact va_put (D := D) (ci := 5) (v := .int v) (ty := .int) (C := R_Co) (T := F_Co) (N := 10) hx hb hts in_Co t_Co t_Co_ok n_Co hown hK hP hD hS 19 rfl rfl 8 (by decide) (hts _ kC_90) (fun _ h9 => h9) rfl (by decide +kernel) rfl rfl (Nat.le_of_ble_eq_true rfl) hdg (fun H locs h1 h2 h3 => k H locs ⟨h1, h2, h3, hA⟩)

theorem pfC_Ma_23 {v : Int32} (F : fxC D cI cZ p R s m args c cc nL R_Ma fr lr) (hwd : wdC D cI cZ ad A H0 g H locs) (hdg : decode cc pc = .ok (.putfield 23, 3)) (k : ∀ (H : Heap) (locs : List Loc), wdC D cI cZ ad A H0 (sc g 107 v) H locs → W p l e R s m args below meth c H locs 0 0 Q (F0 m (pc + 3) ls rest)) : W p l e R s m args below meth c H locs 0 0 Q (F0 m pc ls (.int v :: .ref (ad 24) :: rest)) := by
  obtain ⟨hx, hb, hml, hown, hts, hK, hN, hR⟩ := F
  obtain ⟨hP, hD, hS, hA⟩ := hwd
  exact va_put (D := D) (ci := 6) (v := .int v) (ty := .int) (C := R_Ma) (T := F_Ma) (N := 5) hx hb hts in_Ma t_Ma t_Ma_ok n_Ma hown hK hP hD hS 24 rfl rfl 3 (by decide) (hts _ kC_91) (fun _ h9 => h9) rfl (by decide +kernel) rfl rfl (Nat.le_of_ble_eq_true rfl) hdg (fun H locs h1 h2 h3 => k H locs ⟨h1, h2, h3, hA⟩)

theorem pfC_Ma_27 {v : Int32} (F : fxC D cI cZ p R s m args c cc nL R_Ma fr lr) (hwd : wdC D cI cZ ad A H0 g H locs) (hdg : decode cc pc = .ok (.putfield 27, 3)) (k : ∀ (H : Heap) (locs : List Loc), wdC D cI cZ ad A H0 (sc g 108 v) H locs → W p l e R s m args below meth c H locs 0 0 Q (F0 m (pc + 3) ls rest)) : W p l e R s m args below meth c H locs 0 0 Q (F0 m pc ls (.int v :: .ref (ad 24) :: rest)) := by
  obtain ⟨hx, hb, hml, hown, hts, hK, hN, hR⟩ := F
  obtain ⟨hP, hD, hS, hA⟩ := hwd
  exact va_put (D := D) (ci := 6) (v := .int v) (ty := .int) (C := R_Ma) (T := F_Ma) (N := 5) hx hb hts in_Ma t_Ma t_Ma_ok n_Ma hown hK hP hD hS 24 rfl rfl 4 (by decide) (hts _ kC_92) (fun _ h9 => h9) rfl (by decide +kernel) rfl rfl (Nat.le_of_ble_eq_true rfl) hdg (fun H locs h1 h2 h3 => k H locs ⟨h1, h2, h3, hA⟩)

theorem rdC_1 {i : Int32} (F : fxC D cI cZ p R s m args c cc nL own fr lr) (hwd : wdC D cI cZ ad A H0 g H locs) (hi : vp_in i 8) (hdg : decode cc pc = .ok (.iaload, 1)) (k : W p l e R s m args below meth c H locs 0 0 Q (F0 m (pc + 1) ls (.int (g 1 i.toNatClampNeg) :: rest))) : W p l e R s m args below meth c H locs 0 0 Q (F0 m pc ls (.int i :: .ref (ad 1) :: rest)) := by
  obtain ⟨hx, hb, hml, hown, hts, hK, hN, hR⟩ := F
  exact va_iald hx hb hK hwd.1 1 0 rfl rfl hi hdg k

theorem wrC_1 {i v : Int32} (F : fxC D cI cZ p R s m args c cc nL own fr lr) (hwd : wdC D cI cZ ad A H0 g H locs) (hi : vp_in i 8) (hdg : decode cc pc = .ok (.iastore, 1)) (k : ∀ (H : Heap) (locs : List Loc), wdC D cI cZ ad A H0 (ar g 1 i v) H locs → W p l e R s m args below meth c H locs 0 0 Q (F0 m (pc + 1) ls rest)) : W p l e R s m args below meth c H locs 0 0 Q (F0 m pc ls (.int v :: .int i :: .ref (ad 1) :: rest)) := by
  obtain ⟨hx, hb, hml, hown, hts, hK, hN, hR⟩ := F
  obtain ⟨hP, hD, hS, hA⟩ := hwd
  refine va_iast hx hb hK hP hD hS 1 0 rfl rfl hi hdg (fun H locs h1 h2 h3 => ?_)
  exact k H locs ⟨h1, h2, h3, hA⟩

theorem rdC_3 {i : Int32} (F : fxC D cI cZ p R s m args c cc nL own fr lr) (hwd : wdC D cI cZ ad A H0 g H locs) (hi : vp_in i 60) (hdg : decode cc pc = .ok (.iaload, 1)) (k : W p l e R s m args below meth c H locs 0 0 Q (F0 m (pc + 1) ls (.int (g 3 i.toNatClampNeg) :: rest))) : W p l e R s m args below meth c H locs 0 0 Q (F0 m pc ls (.int i :: .ref (ad 3) :: rest)) := by
  obtain ⟨hx, hb, hml, hown, hts, hK, hN, hR⟩ := F
  exact va_iald hx hb hK hwd.1 3 0 rfl rfl hi hdg k

theorem wrC_3 {i v : Int32} (F : fxC D cI cZ p R s m args c cc nL own fr lr) (hwd : wdC D cI cZ ad A H0 g H locs) (hi : vp_in i 60) (hdg : decode cc pc = .ok (.iastore, 1)) (k : ∀ (H : Heap) (locs : List Loc), wdC D cI cZ ad A H0 (ar g 3 i v) H locs → W p l e R s m args below meth c H locs 0 0 Q (F0 m (pc + 1) ls rest)) : W p l e R s m args below meth c H locs 0 0 Q (F0 m pc ls (.int v :: .int i :: .ref (ad 3) :: rest)) := by
  obtain ⟨hx, hb, hml, hown, hts, hK, hN, hR⟩ := F
  obtain ⟨hP, hD, hS, hA⟩ := hwd
  refine va_iast hx hb hK hP hD hS 3 0 rfl rfl hi hdg (fun H locs h1 h2 h3 => ?_)
  exact k H locs ⟨h1, h2, h3, hA⟩

theorem rdC_4 {i : Int32} (F : fxC D cI cZ p R s m args c cc nL own fr lr) (hwd : wdC D cI cZ ad A H0 g H locs) (hi : vp_in i 60) (hdg : decode cc pc = .ok (.iaload, 1)) (k : W p l e R s m args below meth c H locs 0 0 Q (F0 m (pc + 1) ls (.int (g 4 i.toNatClampNeg) :: rest))) : W p l e R s m args below meth c H locs 0 0 Q (F0 m pc ls (.int i :: .ref (ad 4) :: rest)) := by
  obtain ⟨hx, hb, hml, hown, hts, hK, hN, hR⟩ := F
  exact va_iald hx hb hK hwd.1 4 0 rfl rfl hi hdg k

theorem wrC_4 {i v : Int32} (F : fxC D cI cZ p R s m args c cc nL own fr lr) (hwd : wdC D cI cZ ad A H0 g H locs) (hi : vp_in i 60) (hdg : decode cc pc = .ok (.iastore, 1)) (k : ∀ (H : Heap) (locs : List Loc), wdC D cI cZ ad A H0 (ar g 4 i v) H locs → W p l e R s m args below meth c H locs 0 0 Q (F0 m (pc + 1) ls rest)) : W p l e R s m args below meth c H locs 0 0 Q (F0 m pc ls (.int v :: .int i :: .ref (ad 4) :: rest)) := by
  obtain ⟨hx, hb, hml, hown, hts, hK, hN, hR⟩ := F
  obtain ⟨hP, hD, hS, hA⟩ := hwd
  refine va_iast hx hb hK hP hD hS 4 0 rfl rfl hi hdg (fun H locs h1 h2 h3 => ?_)
  exact k H locs ⟨h1, h2, h3, hA⟩

theorem rdC_5 {i : Int32} (F : fxC D cI cZ p R s m args c cc nL own fr lr) (hwd : wdC D cI cZ ad A H0 g H locs) (hi : vp_in i 60) (hdg : decode cc pc = .ok (.iaload, 1)) (k : W p l e R s m args below meth c H locs 0 0 Q (F0 m (pc + 1) ls (.int (g 5 i.toNatClampNeg) :: rest))) : W p l e R s m args below meth c H locs 0 0 Q (F0 m pc ls (.int i :: .ref (ad 5) :: rest)) := by
  obtain ⟨hx, hb, hml, hown, hts, hK, hN, hR⟩ := F
  exact va_iald hx hb hK hwd.1 5 0 rfl rfl hi hdg k

theorem wrC_5 {i v : Int32} (F : fxC D cI cZ p R s m args c cc nL own fr lr) (hwd : wdC D cI cZ ad A H0 g H locs) (hi : vp_in i 60) (hdg : decode cc pc = .ok (.iastore, 1)) (k : ∀ (H : Heap) (locs : List Loc), wdC D cI cZ ad A H0 (ar g 5 i v) H locs → W p l e R s m args below meth c H locs 0 0 Q (F0 m (pc + 1) ls rest)) : W p l e R s m args below meth c H locs 0 0 Q (F0 m pc ls (.int v :: .int i :: .ref (ad 5) :: rest)) := by
  obtain ⟨hx, hb, hml, hown, hts, hK, hN, hR⟩ := F
  obtain ⟨hP, hD, hS, hA⟩ := hwd
  refine va_iast hx hb hK hP hD hS 5 0 rfl rfl hi hdg (fun H locs h1 h2 h3 => ?_)
  exact k H locs ⟨h1, h2, h3, hA⟩

theorem rdC_6 {i : Int32} (F : fxC D cI cZ p R s m args c cc nL own fr lr) (hwd : wdC D cI cZ ad A H0 g H locs) (hi : vp_in i 60) (hdg : decode cc pc = .ok (.iaload, 1)) (k : W p l e R s m args below meth c H locs 0 0 Q (F0 m (pc + 1) ls (.int (g 6 i.toNatClampNeg) :: rest))) : W p l e R s m args below meth c H locs 0 0 Q (F0 m pc ls (.int i :: .ref (ad 6) :: rest)) := by
  obtain ⟨hx, hb, hml, hown, hts, hK, hN, hR⟩ := F
  exact va_iald hx hb hK hwd.1 6 0 rfl rfl hi hdg k

theorem wrC_6 {i v : Int32} (F : fxC D cI cZ p R s m args c cc nL own fr lr) (hwd : wdC D cI cZ ad A H0 g H locs) (hi : vp_in i 60) (hdg : decode cc pc = .ok (.iastore, 1)) (k : ∀ (H : Heap) (locs : List Loc), wdC D cI cZ ad A H0 (ar g 6 i v) H locs → W p l e R s m args below meth c H locs 0 0 Q (F0 m (pc + 1) ls rest)) : W p l e R s m args below meth c H locs 0 0 Q (F0 m pc ls (.int v :: .int i :: .ref (ad 6) :: rest)) := by
  obtain ⟨hx, hb, hml, hown, hts, hK, hN, hR⟩ := F
  obtain ⟨hP, hD, hS, hA⟩ := hwd
  refine va_iast hx hb hK hP hD hS 6 0 rfl rfl hi hdg (fun H locs h1 h2 h3 => ?_)
  exact k H locs ⟨h1, h2, h3, hA⟩

theorem rdC_7 {i : Int32} (F : fxC D cI cZ p R s m args c cc nL own fr lr) (hwd : wdC D cI cZ ad A H0 g H locs) (hi : vp_in i 60) (hdg : decode cc pc = .ok (.iaload, 1)) (k : W p l e R s m args below meth c H locs 0 0 Q (F0 m (pc + 1) ls (.int (g 7 i.toNatClampNeg) :: rest))) : W p l e R s m args below meth c H locs 0 0 Q (F0 m pc ls (.int i :: .ref (ad 7) :: rest)) := by
  obtain ⟨hx, hb, hml, hown, hts, hK, hN, hR⟩ := F
  exact va_iald hx hb hK hwd.1 7 0 rfl rfl hi hdg k

theorem wrC_7 {i v : Int32} (F : fxC D cI cZ p R s m args c cc nL own fr lr) (hwd : wdC D cI cZ ad A H0 g H locs) (hi : vp_in i 60) (hdg : decode cc pc = .ok (.iastore, 1)) (k : ∀ (H : Heap) (locs : List Loc), wdC D cI cZ ad A H0 (ar g 7 i v) H locs → W p l e R s m args below meth c H locs 0 0 Q (F0 m (pc + 1) ls rest)) : W p l e R s m args below meth c H locs 0 0 Q (F0 m pc ls (.int v :: .int i :: .ref (ad 7) :: rest)) := by
  obtain ⟨hx, hb, hml, hown, hts, hK, hN, hR⟩ := F
  obtain ⟨hP, hD, hS, hA⟩ := hwd
  refine va_iast hx hb hK hP hD hS 7 0 rfl rfl hi hdg (fun H locs h1 h2 h3 => ?_)
  exact k H locs ⟨h1, h2, h3, hA⟩

theorem rdC_8 {i : Int32} (F : fxC D cI cZ p R s m args c cc nL own fr lr) (hwd : wdC D cI cZ ad A H0 g H locs) (hi : vp_in i 8) (hdg : decode cc pc = .ok (.iaload, 1)) (k : W p l e R s m args below meth c H locs 0 0 Q (F0 m (pc + 1) ls (.int (g 8 i.toNatClampNeg) :: rest))) : W p l e R s m args below meth c H locs 0 0 Q (F0 m pc ls (.int i :: .ref (ad 8) :: rest)) := by
  obtain ⟨hx, hb, hml, hown, hts, hK, hN, hR⟩ := F
  exact va_iald hx hb hK hwd.1 8 0 rfl rfl hi hdg k

theorem wrC_8 {i v : Int32} (F : fxC D cI cZ p R s m args c cc nL own fr lr) (hwd : wdC D cI cZ ad A H0 g H locs) (hi : vp_in i 8) (hdg : decode cc pc = .ok (.iastore, 1)) (k : ∀ (H : Heap) (locs : List Loc), wdC D cI cZ ad A H0 (ar g 8 i v) H locs → W p l e R s m args below meth c H locs 0 0 Q (F0 m (pc + 1) ls rest)) : W p l e R s m args below meth c H locs 0 0 Q (F0 m pc ls (.int v :: .int i :: .ref (ad 8) :: rest)) := by
  obtain ⟨hx, hb, hml, hown, hts, hK, hN, hR⟩ := F
  obtain ⟨hP, hD, hS, hA⟩ := hwd
  refine va_iast hx hb hK hP hD hS 8 0 rfl rfl hi hdg (fun H locs h1 h2 h3 => ?_)
  exact k H locs ⟨h1, h2, h3, hA⟩

theorem rdC_10 {i : Int32} (F : fxC D cI cZ p R s m args c cc nL own fr lr) (hwd : wdC D cI cZ ad A H0 g H locs) (hi : vp_in i 60) (hdg : decode cc pc = .ok (.baload, 1)) (k : W p l e R s m args below meth c H locs 0 0 Q (F0 m (pc + 1) ls (.int (g 10 i.toNatClampNeg) :: rest))) : W p l e R s m args below meth c H locs 0 0 Q (F0 m pc ls (.int i :: .ref (ad 10) :: rest)) := by
  obtain ⟨hx, hb, hml, hown, hts, hK, hN, hR⟩ := F
  exact va_zald hx hb hK hwd.1 10 1 rfl rfl hi hdg k

theorem wrC_10 {i v : Int32} (F : fxC D cI cZ p R s m args c cc nL own fr lr) (hwd : wdC D cI cZ ad A H0 g H locs) (hi : vp_in i 60) (hz : vp_nar .boolean v = v) (hdg : decode cc pc = .ok (.bastore, 1)) (k : ∀ (H : Heap) (locs : List Loc), wdC D cI cZ ad A H0 (ar g 10 i v) H locs → W p l e R s m args below meth c H locs 0 0 Q (F0 m (pc + 1) ls rest)) : W p l e R s m args below meth c H locs 0 0 Q (F0 m pc ls (.int v :: .int i :: .ref (ad 10) :: rest)) := by
  obtain ⟨hx, hb, hml, hown, hts, hK, hN, hR⟩ := F
  obtain ⟨hP, hD, hS, hA⟩ := hwd
  refine va_zast hx hb hK hP hD hS 10 1 rfl rfl hi hdg (fun H locs h1 h2 h3 => ?_)
  rw [hz] at h1 h2
  exact k H locs ⟨h1, h2, h3, hA⟩

theorem rdC_12 {i : Int32} (F : fxC D cI cZ p R s m args c cc nL own fr lr) (hwd : wdC D cI cZ ad A H0 g H locs) (hi : vp_in i 60) (hdg : decode cc pc = .ok (.iaload, 1)) (k : W p l e R s m args below meth c H locs 0 0 Q (F0 m (pc + 1) ls (.int (g 12 i.toNatClampNeg) :: rest))) : W p l e R s m args below meth c H locs 0 0 Q (F0 m pc ls (.int i :: .ref (ad 12) :: rest)) := by
  obtain ⟨hx, hb, hml, hown, hts, hK, hN, hR⟩ := F
  exact va_iald hx hb hK hwd.1 12 0 rfl rfl hi hdg k

theorem wrC_12 {i v : Int32} (F : fxC D cI cZ p R s m args c cc nL own fr lr) (hwd : wdC D cI cZ ad A H0 g H locs) (hi : vp_in i 60) (hdg : decode cc pc = .ok (.iastore, 1)) (k : ∀ (H : Heap) (locs : List Loc), wdC D cI cZ ad A H0 (ar g 12 i v) H locs → W p l e R s m args below meth c H locs 0 0 Q (F0 m (pc + 1) ls rest)) : W p l e R s m args below meth c H locs 0 0 Q (F0 m pc ls (.int v :: .int i :: .ref (ad 12) :: rest)) := by
  obtain ⟨hx, hb, hml, hown, hts, hK, hN, hR⟩ := F
  obtain ⟨hP, hD, hS, hA⟩ := hwd
  refine va_iast hx hb hK hP hD hS 12 0 rfl rfl hi hdg (fun H locs h1 h2 h3 => ?_)
  exact k H locs ⟨h1, h2, h3, hA⟩

theorem rdC_13 {i : Int32} (F : fxC D cI cZ p R s m args c cc nL own fr lr) (hwd : wdC D cI cZ ad A H0 g H locs) (hi : vp_in i 60) (hdg : decode cc pc = .ok (.iaload, 1)) (k : W p l e R s m args below meth c H locs 0 0 Q (F0 m (pc + 1) ls (.int (g 13 i.toNatClampNeg) :: rest))) : W p l e R s m args below meth c H locs 0 0 Q (F0 m pc ls (.int i :: .ref (ad 13) :: rest)) := by
  obtain ⟨hx, hb, hml, hown, hts, hK, hN, hR⟩ := F
  exact va_iald hx hb hK hwd.1 13 0 rfl rfl hi hdg k

theorem wrC_13 {i v : Int32} (F : fxC D cI cZ p R s m args c cc nL own fr lr) (hwd : wdC D cI cZ ad A H0 g H locs) (hi : vp_in i 60) (hdg : decode cc pc = .ok (.iastore, 1)) (k : ∀ (H : Heap) (locs : List Loc), wdC D cI cZ ad A H0 (ar g 13 i v) H locs → W p l e R s m args below meth c H locs 0 0 Q (F0 m (pc + 1) ls rest)) : W p l e R s m args below meth c H locs 0 0 Q (F0 m pc ls (.int v :: .int i :: .ref (ad 13) :: rest)) := by
  obtain ⟨hx, hb, hml, hown, hts, hK, hN, hR⟩ := F
  obtain ⟨hP, hD, hS, hA⟩ := hwd
  refine va_iast hx hb hK hP hD hS 13 0 rfl rfl hi hdg (fun H locs h1 h2 h3 => ?_)
  exact k H locs ⟨h1, h2, h3, hA⟩

theorem rdC_14 {i : Int32} (F : fxC D cI cZ p R s m args c cc nL own fr lr) (hwd : wdC D cI cZ ad A H0 g H locs) (hi : vp_in i 60) (hdg : decode cc pc = .ok (.iaload, 1)) (k : W p l e R s m args below meth c H locs 0 0 Q (F0 m (pc + 1) ls (.int (g 14 i.toNatClampNeg) :: rest))) : W p l e R s m args below meth c H locs 0 0 Q (F0 m pc ls (.int i :: .ref (ad 14) :: rest)) := by
  obtain ⟨hx, hb, hml, hown, hts, hK, hN, hR⟩ := F
  exact va_iald hx hb hK hwd.1 14 0 rfl rfl hi hdg k

theorem wrC_14 {i v : Int32} (F : fxC D cI cZ p R s m args c cc nL own fr lr) (hwd : wdC D cI cZ ad A H0 g H locs) (hi : vp_in i 60) (hdg : decode cc pc = .ok (.iastore, 1)) (k : ∀ (H : Heap) (locs : List Loc), wdC D cI cZ ad A H0 (ar g 14 i v) H locs → W p l e R s m args below meth c H locs 0 0 Q (F0 m (pc + 1) ls rest)) : W p l e R s m args below meth c H locs 0 0 Q (F0 m pc ls (.int v :: .int i :: .ref (ad 14) :: rest)) := by
  obtain ⟨hx, hb, hml, hown, hts, hK, hN, hR⟩ := F
  obtain ⟨hP, hD, hS, hA⟩ := hwd
  refine va_iast hx hb hK hP hD hS 14 0 rfl rfl hi hdg (fun H locs h1 h2 h3 => ?_)
  exact k H locs ⟨h1, h2, h3, hA⟩

theorem rdC_16 {i : Int32} (F : fxC D cI cZ p R s m args c cc nL own fr lr) (hwd : wdC D cI cZ ad A H0 g H locs) (hi : vp_in i 120) (hdg : decode cc pc = .ok (.iaload, 1)) (k : W p l e R s m args below meth c H locs 0 0 Q (F0 m (pc + 1) ls (.int (g 16 i.toNatClampNeg) :: rest))) : W p l e R s m args below meth c H locs 0 0 Q (F0 m pc ls (.int i :: .ref (ad 16) :: rest)) := by
  obtain ⟨hx, hb, hml, hown, hts, hK, hN, hR⟩ := F
  exact va_iald hx hb hK hwd.1 16 0 rfl rfl hi hdg k

theorem wrC_16 {i v : Int32} (F : fxC D cI cZ p R s m args c cc nL own fr lr) (hwd : wdC D cI cZ ad A H0 g H locs) (hi : vp_in i 120) (hdg : decode cc pc = .ok (.iastore, 1)) (k : ∀ (H : Heap) (locs : List Loc), wdC D cI cZ ad A H0 (ar g 16 i v) H locs → W p l e R s m args below meth c H locs 0 0 Q (F0 m (pc + 1) ls rest)) : W p l e R s m args below meth c H locs 0 0 Q (F0 m pc ls (.int v :: .int i :: .ref (ad 16) :: rest)) := by
  obtain ⟨hx, hb, hml, hown, hts, hK, hN, hR⟩ := F
  obtain ⟨hP, hD, hS, hA⟩ := hwd
  refine va_iast hx hb hK hP hD hS 16 0 rfl rfl hi hdg (fun H locs h1 h2 h3 => ?_)
  exact k H locs ⟨h1, h2, h3, hA⟩

theorem rdC_17 {i : Int32} (F : fxC D cI cZ p R s m args c cc nL own fr lr) (hwd : wdC D cI cZ ad A H0 g H locs) (hi : vp_in i 120) (hdg : decode cc pc = .ok (.iaload, 1)) (k : W p l e R s m args below meth c H locs 0 0 Q (F0 m (pc + 1) ls (.int (g 17 i.toNatClampNeg) :: rest))) : W p l e R s m args below meth c H locs 0 0 Q (F0 m pc ls (.int i :: .ref (ad 17) :: rest)) := by
  obtain ⟨hx, hb, hml, hown, hts, hK, hN, hR⟩ := F
  exact va_iald hx hb hK hwd.1 17 0 rfl rfl hi hdg k

theorem wrC_17 {i v : Int32} (F : fxC D cI cZ p R s m args c cc nL own fr lr) (hwd : wdC D cI cZ ad A H0 g H locs) (hi : vp_in i 120) (hdg : decode cc pc = .ok (.iastore, 1)) (k : ∀ (H : Heap) (locs : List Loc), wdC D cI cZ ad A H0 (ar g 17 i v) H locs → W p l e R s m args below meth c H locs 0 0 Q (F0 m (pc + 1) ls rest)) : W p l e R s m args below meth c H locs 0 0 Q (F0 m pc ls (.int v :: .int i :: .ref (ad 17) :: rest)) := by
  obtain ⟨hx, hb, hml, hown, hts, hK, hN, hR⟩ := F
  obtain ⟨hP, hD, hS, hA⟩ := hwd
  refine va_iast hx hb hK hP hD hS 17 0 rfl rfl hi hdg (fun H locs h1 h2 h3 => ?_)
  exact k H locs ⟨h1, h2, h3, hA⟩

theorem rdC_18 {i : Int32} (F : fxC D cI cZ p R s m args c cc nL own fr lr) (hwd : wdC D cI cZ ad A H0 g H locs) (hi : vp_in i 61) (hdg : decode cc pc = .ok (.iaload, 1)) (k : W p l e R s m args below meth c H locs 0 0 Q (F0 m (pc + 1) ls (.int (g 18 i.toNatClampNeg) :: rest))) : W p l e R s m args below meth c H locs 0 0 Q (F0 m pc ls (.int i :: .ref (ad 18) :: rest)) := by
  obtain ⟨hx, hb, hml, hown, hts, hK, hN, hR⟩ := F
  exact va_iald hx hb hK hwd.1 18 0 rfl rfl hi hdg k

theorem wrC_18 {i v : Int32} (F : fxC D cI cZ p R s m args c cc nL own fr lr) (hwd : wdC D cI cZ ad A H0 g H locs) (hi : vp_in i 61) (hdg : decode cc pc = .ok (.iastore, 1)) (k : ∀ (H : Heap) (locs : List Loc), wdC D cI cZ ad A H0 (ar g 18 i v) H locs → W p l e R s m args below meth c H locs 0 0 Q (F0 m (pc + 1) ls rest)) : W p l e R s m args below meth c H locs 0 0 Q (F0 m pc ls (.int v :: .int i :: .ref (ad 18) :: rest)) := by
  obtain ⟨hx, hb, hml, hown, hts, hK, hN, hR⟩ := F
  obtain ⟨hP, hD, hS, hA⟩ := hwd
  refine va_iast hx hb hK hP hD hS 18 0 rfl rfl hi hdg (fun H locs h1 h2 h3 => ?_)
  exact k H locs ⟨h1, h2, h3, hA⟩

theorem rdC_20 {i : Int32} (F : fxC D cI cZ p R s m args c cc nL own fr lr) (hwd : wdC D cI cZ ad A H0 g H locs) (hi : vp_in i 600) (hdg : decode cc pc = .ok (.iaload, 1)) (k : W p l e R s m args below meth c H locs 0 0 Q (F0 m (pc + 1) ls (.int (g 20 i.toNatClampNeg) :: rest))) : W p l e R s m args below meth c H locs 0 0 Q (F0 m pc ls (.int i :: .ref (ad 20) :: rest)) := by
  obtain ⟨hx, hb, hml, hown, hts, hK, hN, hR⟩ := F
  exact va_iald hx hb hK hwd.1 20 0 rfl rfl hi hdg k

theorem wrC_20 {i v : Int32} (F : fxC D cI cZ p R s m args c cc nL own fr lr) (hwd : wdC D cI cZ ad A H0 g H locs) (hi : vp_in i 600) (hdg : decode cc pc = .ok (.iastore, 1)) (k : ∀ (H : Heap) (locs : List Loc), wdC D cI cZ ad A H0 (ar g 20 i v) H locs → W p l e R s m args below meth c H locs 0 0 Q (F0 m (pc + 1) ls rest)) : W p l e R s m args below meth c H locs 0 0 Q (F0 m pc ls (.int v :: .int i :: .ref (ad 20) :: rest)) := by
  obtain ⟨hx, hb, hml, hown, hts, hK, hN, hR⟩ := F
  obtain ⟨hP, hD, hS, hA⟩ := hwd
  refine va_iast hx hb hK hP hD hS 20 0 rfl rfl hi hdg (fun H locs h1 h2 h3 => ?_)
  exact k H locs ⟨h1, h2, h3, hA⟩

theorem rdC_21 {i : Int32} (F : fxC D cI cZ p R s m args c cc nL own fr lr) (hwd : wdC D cI cZ ad A H0 g H locs) (hi : vp_in i 61) (hdg : decode cc pc = .ok (.iaload, 1)) (k : W p l e R s m args below meth c H locs 0 0 Q (F0 m (pc + 1) ls (.int (g 21 i.toNatClampNeg) :: rest))) : W p l e R s m args below meth c H locs 0 0 Q (F0 m pc ls (.int i :: .ref (ad 21) :: rest)) := by
  obtain ⟨hx, hb, hml, hown, hts, hK, hN, hR⟩ := F
  exact va_iald hx hb hK hwd.1 21 0 rfl rfl hi hdg k

theorem wrC_21 {i v : Int32} (F : fxC D cI cZ p R s m args c cc nL own fr lr) (hwd : wdC D cI cZ ad A H0 g H locs) (hi : vp_in i 61) (hdg : decode cc pc = .ok (.iastore, 1)) (k : ∀ (H : Heap) (locs : List Loc), wdC D cI cZ ad A H0 (ar g 21 i v) H locs → W p l e R s m args below meth c H locs 0 0 Q (F0 m (pc + 1) ls rest)) : W p l e R s m args below meth c H locs 0 0 Q (F0 m pc ls (.int v :: .int i :: .ref (ad 21) :: rest)) := by
  obtain ⟨hx, hb, hml, hown, hts, hK, hN, hR⟩ := F
  obtain ⟨hP, hD, hS, hA⟩ := hwd
  refine va_iast hx hb hK hP hD hS 21 0 rfl rfl hi hdg (fun H locs h1 h2 h3 => ?_)
  exact k H locs ⟨h1, h2, h3, hA⟩

theorem rdC_22 {i : Int32} (F : fxC D cI cZ p R s m args c cc nL own fr lr) (hwd : wdC D cI cZ ad A H0 g H locs) (hi : vp_in i 60) (hdg : decode cc pc = .ok (.iaload, 1)) (k : W p l e R s m args below meth c H locs 0 0 Q (F0 m (pc + 1) ls (.int (g 22 i.toNatClampNeg) :: rest))) : W p l e R s m args below meth c H locs 0 0 Q (F0 m pc ls (.int i :: .ref (ad 22) :: rest)) := by
  obtain ⟨hx, hb, hml, hown, hts, hK, hN, hR⟩ := F
  exact va_iald hx hb hK hwd.1 22 0 rfl rfl hi hdg k

theorem wrC_22 {i v : Int32} (F : fxC D cI cZ p R s m args c cc nL own fr lr) (hwd : wdC D cI cZ ad A H0 g H locs) (hi : vp_in i 60) (hdg : decode cc pc = .ok (.iastore, 1)) (k : ∀ (H : Heap) (locs : List Loc), wdC D cI cZ ad A H0 (ar g 22 i v) H locs → W p l e R s m args below meth c H locs 0 0 Q (F0 m (pc + 1) ls rest)) : W p l e R s m args below meth c H locs 0 0 Q (F0 m pc ls (.int v :: .int i :: .ref (ad 22) :: rest)) := by
  obtain ⟨hx, hb, hml, hown, hts, hK, hN, hR⟩ := F
  obtain ⟨hP, hD, hS, hA⟩ := hwd
  refine va_iast hx hb hK hP hD hS 22 0 rfl rfl hi hdg (fun H locs h1 h2 h3 => ?_)
  exact k H locs ⟨h1, h2, h3, hA⟩

theorem rdC_23 {i : Int32} (F : fxC D cI cZ p R s m args c cc nL own fr lr) (hwd : wdC D cI cZ ad A H0 g H locs) (hi : vp_in i 8) (hdg : decode cc pc = .ok (.iaload, 1)) (k : W p l e R s m args below meth c H locs 0 0 Q (F0 m (pc + 1) ls (.int (g 23 i.toNatClampNeg) :: rest))) : W p l e R s m args below meth c H locs 0 0 Q (F0 m pc ls (.int i :: .ref (ad 23) :: rest)) := by
  obtain ⟨hx, hb, hml, hown, hts, hK, hN, hR⟩ := F
  exact va_iald hx hb hK hwd.1 23 0 rfl rfl hi hdg k

theorem wrC_23 {i v : Int32} (F : fxC D cI cZ p R s m args c cc nL own fr lr) (hwd : wdC D cI cZ ad A H0 g H locs) (hi : vp_in i 8) (hdg : decode cc pc = .ok (.iastore, 1)) (k : ∀ (H : Heap) (locs : List Loc), wdC D cI cZ ad A H0 (ar g 23 i v) H locs → W p l e R s m args below meth c H locs 0 0 Q (F0 m (pc + 1) ls rest)) : W p l e R s m args below meth c H locs 0 0 Q (F0 m pc ls (.int v :: .int i :: .ref (ad 23) :: rest)) := by
  obtain ⟨hx, hb, hml, hown, hts, hK, hN, hR⟩ := F
  obtain ⟨hP, hD, hS, hA⟩ := hwd
  refine va_iast hx hb hK hP hD hS 23 0 rfl rfl hi hdg (fun H locs h1 h2 h3 => ?_)
  exact k H locs ⟨h1, h2, h3, hA⟩

theorem mcC_BF_61 {x1 x2 x3 x4 x5 : Int32} {K : Int32 → St → Prop} {f lo : Nat} (F : fxC D cI cZ p R s m args c cc nL R_BF fr lr) (hwd : wdC D cI cZ ad A H0 g H locs) (hM : ctCI l y_Fo_addNode b_Fo_addNode 6 f lo D cI cZ ad [.ref (ad 2), .int x1, .int x2, .int x3, .int x4, .int x5] g K) (hr : f + 1 ≤ R.frames ∧ 8 + (6 + 11) + lo ≤ R.locals) (hsz : ls.size = nL) (hW : (rest.map fun v => v.category).sum ≤ 8) (hdg : decode cc pc = .ok (.invokevirtual 61, 3)) (kk : ∀ (r : Int32) (g' : St) (H : Heap) (locs : List Loc), K r g' → wdC D cI cZ ad A H0 g' H locs → W p l e R s m args below meth c H locs 0 0 Q (F0 m (pc + 3) ls (.int r :: rest))) : W p l e R s m args below meth c H locs 0 0 Q (F0 m pc ls (.int x5 :: .int x4 :: .int x3 :: .int x2 :: .int x1 :: .ref (ad 2) :: rest)) := by
  obtain ⟨hx, hb, hml, hown, hts, hK, hN, hR⟩ := F
  exact afC_I hwd (va_runV (As := [.int x1, .int x2, .int x3, .int x4, .int x5]) (rest := rest) ⟨hx, hb, hml, hown, hts⟩ (hM H.size) ⟨callB_of 5 hts (goodC _ (List.forall_mem_cons.mpr ⟨kC_258, fun _ h => h⟩)) rfl rfl rfl (hts _ kC_51) (hts _ kC_93) (by decide +kernel) hr, (hts _ kC_94), (hts _ kC_95)⟩ (prC_V (k := 2) hK hN hwd (show clC[1]? = some (R_Fo, F_Fo, 8) from rfl) rfl) rfl rfl hsz rfl (lv_room hW) hdg ⟨Nat.zero_le _, Nat.zero_le _⟩) kk

theorem mcC_Ru_9 {x1 : Int32} {K : Int32 → St → Prop} {f lo : Nat} (F : fxC D cI cZ p R s m args c cc nL R_Ru fr lr) (hwd : wdC D cI cZ ad A H0 g H locs) (hM : ctCZ l y_Ru_isBitRule b_Ru_isBitRule 1 f lo D cI cZ ad [.int x1] g K) (hr : f + 1 ≤ R.frames ∧ 8 + (1 + 11) + lo ≤ R.locals) (hsz : ls.size = nL) (hW : (rest.map fun v => v.category).sum ≤ 8) (hdg : decode cc pc = .ok (.invokestatic 9, 3)) (kk : ∀ (r : Int32) (g' : St) (H : Heap) (locs : List Loc), K r g' → wdC D cI cZ ad A H0 g' H locs → W p l e R s m args below meth c H locs 0 0 Q (F0 m (pc + 3) ls (.int r :: rest))) : W p l e R s m args below meth c H locs 0 0 Q (F0 m pc ls (.int x1 :: rest)) := by
  obtain ⟨hx, hb, hml, hown, hts, hK, hN, hR⟩ := F
  exact afC_I hwd (va_runS (As := [.int x1]) (rest := rest) ⟨hx, hb, hml, hown, hts⟩ (hM H.size) ⟨callB_of 1 hts (goodC _ (List.forall_mem_cons.mpr ⟨kC_297, fun _ h => h⟩)) rfl rfl rfl (hts _ kC_98) (hts _ kC_96) (by decide +kernel) hr, (hts _ kC_97)⟩ (prC_S hK hN hwd) rfl rfl hsz rfl (lv_room hW) hdg ⟨Nat.zero_le _, Nat.zero_le _⟩) kk

theorem mcC_BF_65 {x1 : Int32} {K : Int32 → St → Prop} {f lo : Nat} (F : fxC D cI cZ p R s m args c cc nL R_BF fr lr) (hwd : wdC D cI cZ ad A H0 g H locs) (hM : ctCZ l y_BF_isFeature b_BF_isFeature 1 f lo D cI cZ ad [.int x1] g K) (hr : f + 1 ≤ R.frames ∧ 8 + (1 + 11) + lo ≤ R.locals) (hsz : ls.size = nL) (hW : (rest.map fun v => v.category).sum ≤ 8) (hdg : decode cc pc = .ok (.invokestatic 65, 3)) (kk : ∀ (r : Int32) (g' : St) (H : Heap) (locs : List Loc), K r g' → wdC D cI cZ ad A H0 g' H locs → W p l e R s m args below meth c H locs 0 0 Q (F0 m (pc + 3) ls (.int r :: rest))) : W p l e R s m args below meth c H locs 0 0 Q (F0 m pc ls (.int x1 :: rest)) := by
  obtain ⟨hx, hb, hml, hown, hts, hK, hN, hR⟩ := F
  exact afC_I hwd (va_runS (As := [.int x1]) (rest := rest) ⟨hx, hb, hml, hown, hts⟩ (hM H.size) ⟨callB_of 1 hts (goodC _ (List.forall_mem_cons.mpr ⟨kC_255, fun _ h => h⟩)) rfl rfl rfl (hts _ kC_101) (hts _ kC_99) (by decide +kernel) hr, (hts _ kC_100)⟩ (prC_S hK hN hwd) rfl rfl hsz rfl (lv_room hW) hdg ⟨Nat.zero_le _, Nat.zero_le _⟩) kk

theorem mcC_BF_69 {x1 x2 : Int32} {K : Int32 → St → Prop} {f lo : Nat} (F : fxC D cI cZ p R s m args c cc nL R_BF fr lr) (hwd : wdC D cI cZ ad A H0 g H locs) (hM : ctCZ l y_Ru_takesMark b_Ru_takesMark 2 f lo D cI cZ ad [.int x1, .int x2] g K) (hr : f + 1 ≤ R.frames ∧ 8 + (2 + 11) + lo ≤ R.locals) (hsz : ls.size = nL) (hW : (rest.map fun v => v.category).sum ≤ 8) (hdg : decode cc pc = .ok (.invokestatic 69, 3)) (kk : ∀ (r : Int32) (g' : St) (H : Heap) (locs : List Loc), K r g' → wdC D cI cZ ad A H0 g' H locs → W p l e R s m args below meth c H locs 0 0 Q (F0 m (pc + 3) ls (.int r :: rest))) : W p l e R s m args below meth c H locs 0 0 Q (F0 m pc ls (.int x2 :: .int x1 :: rest)) := by
  obtain ⟨hx, hb, hml, hown, hts, hK, hN, hR⟩ := F
  exact afC_I hwd (va_runS (As := [.int x1, .int x2]) (rest := rest) ⟨hx, hb, hml, hown, hts⟩ (hM H.size) ⟨callB_of 2 hts (goodC _ (List.forall_mem_cons.mpr ⟨kC_296, fun _ h => h⟩)) rfl rfl rfl (hts _ kC_98) (hts _ kC_102) (by decide +kernel) hr, (hts _ kC_103)⟩ (prC_S hK hN hwd) rfl rfl hsz rfl (lv_room hW) hdg ⟨Nat.zero_le _, Nat.zero_le _⟩) kk

theorem mcC_BF_75 {x1 : Int32} {K : Int32 → St → Prop} {f lo : Nat} (F : fxC D cI cZ p R s m args c cc nL R_BF fr lr) (hwd : wdC D cI cZ ad A H0 g H locs) (hM : ctCZ l y_BF_isNodeNumber b_BF_isNodeNumber 1 f lo D cI cZ ad [.int x1] g K) (hr : f + 1 ≤ R.frames ∧ 8 + (1 + 11) + lo ≤ R.locals) (hsz : ls.size = nL) (hW : (rest.map fun v => v.category).sum ≤ 8) (hdg : decode cc pc = .ok (.invokestatic 75, 3)) (kk : ∀ (r : Int32) (g' : St) (H : Heap) (locs : List Loc), K r g' → wdC D cI cZ ad A H0 g' H locs → W p l e R s m args below meth c H locs 0 0 Q (F0 m (pc + 3) ls (.int r :: rest))) : W p l e R s m args below meth c H locs 0 0 Q (F0 m pc ls (.int x1 :: rest)) := by
  obtain ⟨hx, hb, hml, hown, hts, hK, hN, hR⟩ := F
  exact afC_I hwd (va_runS (As := [.int x1]) (rest := rest) ⟨hx, hb, hml, hown, hts⟩ (hM H.size) ⟨callB_of 1 hts (goodC _ (List.forall_mem_cons.mpr ⟨kC_256, fun _ h => h⟩)) rfl rfl rfl (hts _ kC_101) (hts _ kC_104) (by decide +kernel) hr, (hts _ kC_105)⟩ (prC_S hK hN hwd) rfl rfl hsz rfl (lv_room hW) hdg ⟨Nat.zero_le _, Nat.zero_le _⟩) kk

theorem mcC_Fo_37 {x1 : Int32} {K : Int32 → St → Prop} {f lo : Nat} (F : fxC D cI cZ p R s m args c cc nL R_Fo fr lr) (hwd : wdC D cI cZ ad A H0 g H locs) (hM : ctCZ l y_Fo_isNode b_Fo_isNode 2 f lo D cI cZ ad [.ref (ad 2), .int x1] g K) (hr : f + 1 ≤ R.frames ∧ 8 + (2 + 11) + lo ≤ R.locals) (hsz : ls.size = nL) (hW : (rest.map fun v => v.category).sum ≤ 8) (hdg : decode cc pc = .ok (.invokevirtual 37, 3)) (kk : ∀ (r : Int32) (g' : St) (H : Heap) (locs : List Loc), K r g' → wdC D cI cZ ad A H0 g' H locs → W p l e R s m args below meth c H locs 0 0 Q (F0 m (pc + 3) ls (.int r :: rest))) : W p l e R s m args below meth c H locs 0 0 Q (F0 m pc ls (.int x1 :: .ref (ad 2) :: rest)) := by
  obtain ⟨hx, hb, hml, hown, hts, hK, hN, hR⟩ := F
  exact afC_I hwd (va_runV (As := [.int x1]) (rest := rest) ⟨hx, hb, hml, hown, hts⟩ (hM H.size) ⟨callB_of 1 hts (goodC _ (List.forall_mem_cons.mpr ⟨kC_260, fun _ h => h⟩)) rfl rfl rfl (hts _ kC_51) (hts _ kC_106) (by decide +kernel) hr, (hts _ kC_107), (hts _ kC_108)⟩ (prC_V (k := 2) hK hN hwd (show clC[1]? = some (R_Fo, F_Fo, 8) from rfl) rfl) rfl rfl hsz rfl (lv_room hW) hdg ⟨Nat.zero_le _, Nat.zero_le _⟩) kk

theorem mcC_BF_78 {x1 : Int32} {K : Int32 → St → Prop} {f lo : Nat} (F : fxC D cI cZ p R s m args c cc nL R_BF fr lr) (hwd : wdC D cI cZ ad A H0 g H locs) (hM : ctCI l y_Fo_addTree b_Fo_addTree 2 f lo D cI cZ ad [.ref (ad 2), .int x1] g K) (hr : f + 1 ≤ R.frames ∧ 8 + (2 + 11) + lo ≤ R.locals) (hsz : ls.size = nL) (hW : (rest.map fun v => v.category).sum ≤ 8) (hdg : decode cc pc = .ok (.invokevirtual 78, 3)) (kk : ∀ (r : Int32) (g' : St) (H : Heap) (locs : List Loc), K r g' → wdC D cI cZ ad A H0 g' H locs → W p l e R s m args below meth c H locs 0 0 Q (F0 m (pc + 3) ls (.int r :: rest))) : W p l e R s m args below meth c H locs 0 0 Q (F0 m pc ls (.int x1 :: .ref (ad 2) :: rest)) := by
  obtain ⟨hx, hb, hml, hown, hts, hK, hN, hR⟩ := F
  exact afC_I hwd (va_runV (As := [.int x1]) (rest := rest) ⟨hx, hb, hml, hown, hts⟩ (hM H.size) ⟨callB_of 1 hts (goodC _ (List.forall_mem_cons.mpr ⟨kC_259, fun _ h => h⟩)) rfl rfl rfl (hts _ kC_51) (hts _ kC_109) (by decide +kernel) hr, (hts _ kC_110), (hts _ kC_111)⟩ (prC_V (k := 2) hK hN hwd (show clC[1]? = some (R_Fo, F_Fo, 8) from rfl) rfl) rfl rfl hsz rfl (lv_room hW) hdg ⟨Nat.zero_le _, Nat.zero_le _⟩) kk

theorem mcC_Ch_36 {x1 : Int32} {K : Int32 → St → Prop} {f lo : Nat} (F : fxC D cI cZ p R s m args c cc nL R_Ch fr lr) (hwd : wdC D cI cZ ad A H0 g H locs) (hM : ctCZ l y_Fo_isLeaf b_Fo_isLeaf 2 f lo D cI cZ ad [.ref (ad 2), .int x1] g K) (hr : f + 1 ≤ R.frames ∧ 8 + (2 + 11) + lo ≤ R.locals) (hsz : ls.size = nL) (hW : (rest.map fun v => v.category).sum ≤ 8) (hdg : decode cc pc = .ok (.invokevirtual 36, 3)) (kk : ∀ (r : Int32) (g' : St) (H : Heap) (locs : List Loc), K r g' → wdC D cI cZ ad A H0 g' H locs → W p l e R s m args below meth c H locs 0 0 Q (F0 m (pc + 3) ls (.int r :: rest))) : W p l e R s m args below meth c H locs 0 0 Q (F0 m pc ls (.int x1 :: .ref (ad 2) :: rest)) := by
  obtain ⟨hx, hb, hml, hown, hts, hK, hN, hR⟩ := F
  exact afC_I hwd (va_runV (As := [.int x1]) (rest := rest) ⟨hx, hb, hml, hown, hts⟩ (hM H.size) ⟨callB_of 1 hts (goodC _ (List.forall_mem_cons.mpr ⟨kC_261, fun _ h => h⟩)) rfl rfl rfl (hts _ kC_51) (hts _ kC_112) (by decide +kernel) hr, (hts _ kC_113), (hts _ kC_114)⟩ (prC_V (k := 2) hK hN hwd (show clC[1]? = some (R_Fo, F_Fo, 8) from rfl) rfl) rfl rfl hsz rfl (lv_room hW) hdg ⟨Nat.zero_le _, Nat.zero_le _⟩) kk

theorem mcC_Ch_49 {x1 : Int32} {K : Int32 → St → Prop} {f lo : Nat} (F : fxC D cI cZ p R s m args c cc nL R_Ch fr lr) (hwd : wdC D cI cZ ad A H0 g H locs) (hM : ctCZ l y_Fo_isNode b_Fo_isNode 2 f lo D cI cZ ad [.ref (ad 2), .int x1] g K) (hr : f + 1 ≤ R.frames ∧ 8 + (2 + 11) + lo ≤ R.locals) (hsz : ls.size = nL) (hW : (rest.map fun v => v.category).sum ≤ 8) (hdg : decode cc pc = .ok (.invokevirtual 49, 3)) (kk : ∀ (r : Int32) (g' : St) (H : Heap) (locs : List Loc), K r g' → wdC D cI cZ ad A H0 g' H locs → W p l e R s m args below meth c H locs 0 0 Q (F0 m (pc + 3) ls (.int r :: rest))) : W p l e R s m args below meth c H locs 0 0 Q (F0 m pc ls (.int x1 :: .ref (ad 2) :: rest)) := by
  obtain ⟨hx, hb, hml, hown, hts, hK, hN, hR⟩ := F
  exact afC_I hwd (va_runV (As := [.int x1]) (rest := rest) ⟨hx, hb, hml, hown, hts⟩ (hM H.size) ⟨callB_of 1 hts (goodC _ (List.forall_mem_cons.mpr ⟨kC_260, fun _ h => h⟩)) rfl rfl rfl (hts _ kC_51) (hts _ kC_115) (by decide +kernel) hr, (hts _ kC_107), (hts _ kC_108)⟩ (prC_V (k := 2) hK hN hwd (show clC[1]? = some (R_Fo, F_Fo, 8) from rfl) rfl) rfl rfl hsz rfl (lv_room hW) hdg ⟨Nat.zero_le _, Nat.zero_le _⟩) kk

theorem mcC_Ch_46 {x1 : Int32} {K : Int32 → St → Prop} {f lo : Nat} (F : fxC D cI cZ p R s m args c cc nL R_Ch fr lr) (hwd : wdC D cI cZ ad A H0 g H locs) (hM : ctCZ l y_Ch_isDangling b_Ch_isDangling 2 f lo D cI cZ ad [.ref (ad 9), .int x1] g K) (hr : f + 1 ≤ R.frames ∧ 8 + (2 + 11) + lo ≤ R.locals) (hsz : ls.size = nL) (hW : (rest.map fun v => v.category).sum ≤ 8) (hdg : decode cc pc = .ok (.invokevirtual 46, 3)) (kk : ∀ (r : Int32) (g' : St) (H : Heap) (locs : List Loc), K r g' → wdC D cI cZ ad A H0 g' H locs → W p l e R s m args below meth c H locs 0 0 Q (F0 m (pc + 3) ls (.int r :: rest))) : W p l e R s m args below meth c H locs 0 0 Q (F0 m pc ls (.int x1 :: .ref (ad 9) :: rest)) := by
  obtain ⟨hx, hb, hml, hown, hts, hK, hN, hR⟩ := F
  exact afC_I hwd (va_runV (As := [.int x1]) (rest := rest) ⟨hx, hb, hml, hown, hts⟩ (hM H.size) ⟨callB_of 1 hts (goodC _ (List.forall_mem_cons.mpr ⟨kC_267, fun _ h => h⟩)) rfl rfl rfl (hts _ kC_56) (hts _ kC_116) (by decide +kernel) hr, (hts _ kC_117), (hts _ kC_118)⟩ (prC_V (k := 9) hK hN hwd (show clC[2]? = some (R_Ch, F_Ch, 2) from rfl) rfl) rfl rfl hsz rfl (lv_room hW) hdg ⟨Nat.zero_le _, Nat.zero_le _⟩) kk

theorem mcC_Ch_33 {x1 x2 : Int32} {K : Int32 → St → Prop} {f lo : Nat} (F : fxC D cI cZ p R s m args c cc nL R_Ch fr lr) (hwd : wdC D cI cZ ad A H0 g H locs) (hM : ctCI l y_Ch_faultAt b_Ch_faultAt 3 f lo D cI cZ ad [.ref (ad 9), .int x1, .int x2] g K) (hr : f + 1 ≤ R.frames ∧ 8 + (3 + 11) + lo ≤ R.locals) (hsz : ls.size = nL) (hW : (rest.map fun v => v.category).sum ≤ 8) (hdg : decode cc pc = .ok (.invokevirtual 33, 3)) (kk : ∀ (r : Int32) (g' : St) (H : Heap) (locs : List Loc), K r g' → wdC D cI cZ ad A H0 g' H locs → W p l e R s m args below meth c H locs 0 0 Q (F0 m (pc + 3) ls (.int r :: rest))) : W p l e R s m args below meth c H locs 0 0 Q (F0 m pc ls (.int x2 :: .int x1 :: .ref (ad 9) :: rest)) := by
  obtain ⟨hx, hb, hml, hown, hts, hK, hN, hR⟩ := F
  exact afC_I hwd (va_runV (As := [.int x1, .int x2]) (rest := rest) ⟨hx, hb, hml, hown, hts⟩ (hM H.size) ⟨callB_of 2 hts (goodC _ (List.forall_mem_cons.mpr ⟨kC_266, fun _ h => h⟩)) rfl rfl rfl (hts _ kC_56) (hts _ kC_119) (by decide +kernel) hr, (hts _ kC_120), (hts _ kC_121)⟩ (prC_V (k := 9) hK hN hwd (show clC[2]? = some (R_Ch, F_Ch, 2) from rfl) rfl) rfl rfl hsz rfl (lv_room hW) hdg ⟨Nat.zero_le _, Nat.zero_le _⟩) kk

theorem mcC_Ch_29 {x1 x2 : Int32} {K : Int32 → St → Prop} {f lo : Nat} (F : fxC D cI cZ p R s m args c cc nL R_Ch fr lr) (hwd : wdC D cI cZ ad A H0 g H locs) (hM : ctCI l y_Ch_faultFrom b_Ch_faultFrom 4 f lo D cI cZ ad [.ref (ad 9), .int x1, .int x2] g K) (hr : f + 1 ≤ R.frames ∧ 8 + (4 + 11) + lo ≤ R.locals) (hsz : ls.size = nL) (hW : (rest.map fun v => v.category).sum ≤ 8) (hdg : decode cc pc = .ok (.invokevirtual 29, 3)) (kk : ∀ (r : Int32) (g' : St) (H : Heap) (locs : List Loc), K r g' → wdC D cI cZ ad A H0 g' H locs → W p l e R s m args below meth c H locs 0 0 Q (F0 m (pc + 3) ls (.int r :: rest))) : W p l e R s m args below meth c H locs 0 0 Q (F0 m pc ls (.int x2 :: .int x1 :: .ref (ad 9) :: rest)) := by
  obtain ⟨hx, hb, hml, hown, hts, hK, hN, hR⟩ := F
  exact afC_I hwd (va_runV (As := [.int x1, .int x2]) (rest := rest) ⟨hx, hb, hml, hown, hts⟩ (hM H.size) ⟨callB_of 2 hts (goodC _ (List.forall_mem_cons.mpr ⟨kC_265, fun _ h => h⟩)) rfl rfl rfl (hts _ kC_56) (hts _ kC_122) (by decide +kernel) hr, (hts _ kC_123), (hts _ kC_124)⟩ (prC_V (k := 9) hK hN hwd (show clC[2]? = some (R_Ch, F_Ch, 2) from rfl) rfl) rfl rfl hsz rfl (lv_room hW) hdg ⟨Nat.zero_le _, Nat.zero_le _⟩) kk

theorem mcC_Cu_63 {x1 : Int32} {K : Int32 → St → Prop} {f lo : Nat} (F : fxC D cI cZ p R s m args c cc nL R_Cu fr lr) (hwd : wdC D cI cZ ad A H0 g H locs) (hM : ctCI l y_Cu_partLength b_Cu_partLength 2 f lo D cI cZ ad [.ref (ad 11), .int x1] g K) (hr : f + 1 ≤ R.frames ∧ 8 + (2 + 11) + lo ≤ R.locals) (hsz : ls.size = nL) (hW : (rest.map fun v => v.category).sum ≤ 8) (hdg : decode cc pc = .ok (.invokevirtual 63, 3)) (kk : ∀ (r : Int32) (g' : St) (H : Heap) (locs : List Loc), K r g' → wdC D cI cZ ad A H0 g' H locs → W p l e R s m args below meth c H locs 0 0 Q (F0 m (pc + 3) ls (.int r :: rest))) : W p l e R s m args below meth c H locs 0 0 Q (F0 m pc ls (.int x1 :: .ref (ad 11) :: rest)) := by
  obtain ⟨hx, hb, hml, hown, hts, hK, hN, hR⟩ := F
  exact afC_I hwd (va_runV (As := [.int x1]) (rest := rest) ⟨hx, hb, hml, hown, hts⟩ (hM H.size) ⟨callB_of 1 hts (goodC _ (List.forall_mem_cons.mpr ⟨kC_273, fun _ h => h⟩)) rfl rfl rfl (hts _ kC_62) (hts _ kC_125) (by decide +kernel) hr, (hts _ kC_126), (hts _ kC_127)⟩ (prC_V (k := 11) hK hN hwd (show clC[3]? = some (R_Cu, F_Cu, 5) from rfl) rfl) rfl rfl hsz rfl (lv_room hW) hdg ⟨Nat.zero_le _, Nat.zero_le _⟩) kk

theorem mcC_Cu_66 {x1 : Int32} {K : Int32 → St → Prop} {f lo : Nat} (F : fxC D cI cZ p R s m args c cc nL R_Cu fr lr) (hwd : wdC D cI cZ ad A H0 g H locs) (hM : ctCI l y_Cu_testLength b_Cu_testLength 1 f lo D cI cZ ad [.int x1] g K) (hr : f + 1 ≤ R.frames ∧ 8 + (1 + 11) + lo ≤ R.locals) (hsz : ls.size = nL) (hW : (rest.map fun v => v.category).sum ≤ 8) (hdg : decode cc pc = .ok (.invokestatic 66, 3)) (kk : ∀ (r : Int32) (g' : St) (H : Heap) (locs : List Loc), K r g' → wdC D cI cZ ad A H0 g' H locs → W p l e R s m args below meth c H locs 0 0 Q (F0 m (pc + 3) ls (.int r :: rest))) : W p l e R s m args below meth c H locs 0 0 Q (F0 m pc ls (.int x1 :: rest)) := by
  obtain ⟨hx, hb, hml, hown, hts, hK, hN, hR⟩ := F
  exact afC_I hwd (va_runS (As := [.int x1]) (rest := rest) ⟨hx, hb, hml, hown, hts⟩ (hM H.size) ⟨callB_of 1 hts (goodC _ (List.forall_mem_cons.mpr ⟨kC_274, fun _ h => h⟩)) rfl rfl rfl (hts _ kC_62) (hts _ kC_128) (by decide +kernel) hr, (hts _ kC_129)⟩ (prC_S hK hN hwd) rfl rfl hsz rfl (lv_room hW) hdg ⟨Nat.zero_le _, Nat.zero_le _⟩) kk

theorem mcC_Cu_41 {x1 : Int32} {K : St → Prop} {f lo : Nat} (F : fxC D cI cZ p R s m args c cc nL R_Cu fr lr) (hwd : wdC D cI cZ ad A H0 g H locs) (hM : ctCV l y_Cu_cutOut b_Cu_cutOut 2 f lo D cI cZ ad [.ref (ad 11), .int x1] g K) (hr : f + 1 ≤ R.frames ∧ 8 + (2 + 11) + lo ≤ R.locals) (hsz : ls.size = nL) (hW : (rest.map fun v => v.category).sum ≤ 8) (hdg : decode cc pc = .ok (.invokevirtual 41, 3)) (kk : ∀ (g' : St) (H : Heap) (locs : List Loc), K g' → wdC D cI cZ ad A H0 g' H locs → W p l e R s m args below meth c H locs 0 0 Q (F0 m (pc + 3) ls (rest))) : W p l e R s m args below meth c H locs 0 0 Q (F0 m pc ls (.int x1 :: .ref (ad 11) :: rest)) := by
  obtain ⟨hx, hb, hml, hown, hts, hK, hN, hR⟩ := F
  exact afC_V hwd (va_runV (As := [.int x1]) (rest := rest) ⟨hx, hb, hml, hown, hts⟩ (hM H.size) ⟨callB_of 1 hts (goodC _ (List.forall_mem_cons.mpr ⟨kC_271, fun _ h => h⟩)) rfl rfl rfl (hts _ kC_62) (hts _ kC_130) (by decide +kernel) hr, (hts _ kC_131), (hts _ kC_132)⟩ (prC_V (k := 11) hK hN hwd (show clC[3]? = some (R_Cu, F_Cu, 5) from rfl) rfl) rfl rfl hsz rfl (lv_room hW) hdg ⟨Nat.zero_le _, Nat.zero_le _⟩) kk

theorem mcC_Cu_59 {x1 : Int32} {K : Int32 → St → Prop} {f lo : Nat} (F : fxC D cI cZ p R s m args c cc nL R_Cu fr lr) (hwd : wdC D cI cZ ad A H0 g H locs) (hM : ctCI l y_Cu_splitLength b_Cu_splitLength 3 f lo D cI cZ ad [.ref (ad 11), .int x1] g K) (hr : f + 1 ≤ R.frames ∧ 8 + (3 + 11) + lo ≤ R.locals) (hsz : ls.size = nL) (hW : (rest.map fun v => v.category).sum ≤ 8) (hdg : decode cc pc = .ok (.invokevirtual 59, 3)) (kk : ∀ (r : Int32) (g' : St) (H : Heap) (locs : List Loc), K r g' → wdC D cI cZ ad A H0 g' H locs → W p l e R s m args below meth c H locs 0 0 Q (F0 m (pc + 3) ls (.int r :: rest))) : W p l e R s m args below meth c H locs 0 0 Q (F0 m pc ls (.int x1 :: .ref (ad 11) :: rest)) := by
  obtain ⟨hx, hb, hml, hown, hts, hK, hN, hR⟩ := F
  exact afC_I hwd (va_runV (As := [.int x1]) (rest := rest) ⟨hx, hb, hml, hown, hts⟩ (hM H.size) ⟨callB_of 1 hts (goodC _ (List.forall_mem_cons.mpr ⟨kC_272, fun _ h => h⟩)) rfl rfl rfl (hts _ kC_62) (hts _ kC_133) (by decide +kernel) hr, (hts _ kC_134), (hts _ kC_135)⟩ (prC_V (k := 11) hK hN hwd (show clC[3]? = some (R_Cu, F_Cu, 5) from rfl) rfl) rfl rfl hsz rfl (lv_room hW) hdg ⟨Nat.zero_le _, Nat.zero_le _⟩) kk

theorem mcC_Cu_45 {x1 : Int32} {K : Int32 → St → Prop} {f lo : Nat} (F : fxC D cI cZ p R s m args c cc nL R_Cu fr lr) (hwd : wdC D cI cZ ad A H0 g H locs) (hM : ctCZ l y_Fo_isLeaf b_Fo_isLeaf 2 f lo D cI cZ ad [.ref (ad 2), .int x1] g K) (hr : f + 1 ≤ R.frames ∧ 8 + (2 + 11) + lo ≤ R.locals) (hsz : ls.size = nL) (hW : (rest.map fun v => v.category).sum ≤ 8) (hdg : decode cc pc = .ok (.invokevirtual 45, 3)) (kk : ∀ (r : Int32) (g' : St) (H : Heap) (locs : List Loc), K r g' → wdC D cI cZ ad A H0 g' H locs → W p l e R s m args below meth c H locs 0 0 Q (F0 m (pc + 3) ls (.int r :: rest))) : W p l e R s m args below meth c H locs 0 0 Q (F0 m pc ls (.int x1 :: .ref (ad 2) :: rest)) := by
  obtain ⟨hx, hb, hml, hown, hts, hK, hN, hR⟩ := F
  exact afC_I hwd (va_runV (As := [.int x1]) (rest := rest) ⟨hx, hb, hml, hown, hts⟩ (hM H.size) ⟨callB_of 1 hts (goodC _ (List.forall_mem_cons.mpr ⟨kC_261, fun _ h => h⟩)) rfl rfl rfl (hts _ kC_51) (hts _ kC_136) (by decide +kernel) hr, (hts _ kC_113), (hts _ kC_114)⟩ (prC_V (k := 2) hK hN hwd (show clC[1]? = some (R_Fo, F_Fo, 8) from rfl) rfl) rfl rfl hsz rfl (lv_room hW) hdg ⟨Nat.zero_le _, Nat.zero_le _⟩) kk

theorem mcC_Cu_37 {x1 x2 x3 : Int32} {K : St → Prop} {f lo : Nat} (F : fxC D cI cZ p R s m args c cc nL R_Cu fr lr) (hwd : wdC D cI cZ ad A H0 g H locs) (hM : ctCV l y_Cu_cutFrom b_Cu_cutFrom 4 f lo D cI cZ ad [.ref (ad 11), .int x1, .int x2, .int x3] g K) (hr : f + 1 ≤ R.frames ∧ 8 + (4 + 11) + lo ≤ R.locals) (hsz : ls.size = nL) (hW : (rest.map fun v => v.category).sum ≤ 8) (hdg : decode cc pc = .ok (.invokevirtual 37, 3)) (kk : ∀ (g' : St) (H : Heap) (locs : List Loc), K g' → wdC D cI cZ ad A H0 g' H locs → W p l e R s m args below meth c H locs 0 0 Q (F0 m (pc + 3) ls (rest))) : W p l e R s m args below meth c H locs 0 0 Q (F0 m pc ls (.int x3 :: .int x2 :: .int x1 :: .ref (ad 11) :: rest)) := by
  obtain ⟨hx, hb, hml, hown, hts, hK, hN, hR⟩ := F
  exact afC_V hwd (va_runV (As := [.int x1, .int x2, .int x3]) (rest := rest) ⟨hx, hb, hml, hown, hts⟩ (hM H.size) ⟨callB_of 3 hts (goodC _ (List.forall_mem_cons.mpr ⟨kC_269, fun _ h => h⟩)) rfl rfl rfl (hts _ kC_62) (hts _ kC_137) (by decide +kernel) hr, (hts _ kC_138), (hts _ kC_139)⟩ (prC_V (k := 11) hK hN hwd (show clC[3]? = some (R_Cu, F_Cu, 5) from rfl) rfl) rfl rfl hsz rfl (lv_room hW) hdg ⟨Nat.zero_le _, Nat.zero_le _⟩) kk

theorem mcC_Cu_55 {x1 x2 : Int32} {K : St → Prop} {f lo : Nat} (F : fxC D cI cZ p R s m args c cc nL R_Cu fr lr) (hwd : wdC D cI cZ ad A H0 g H locs) (hM : ctCV l y_Cu_cutChildren b_Cu_cutChildren 6 f lo D cI cZ ad [.ref (ad 11), .int x1, .int x2] g K) (hr : f + 1 ≤ R.frames ∧ 8 + (6 + 11) + lo ≤ R.locals) (hsz : ls.size = nL) (hW : (rest.map fun v => v.category).sum ≤ 8) (hdg : decode cc pc = .ok (.invokevirtual 55, 3)) (kk : ∀ (g' : St) (H : Heap) (locs : List Loc), K g' → wdC D cI cZ ad A H0 g' H locs → W p l e R s m args below meth c H locs 0 0 Q (F0 m (pc + 3) ls (rest))) : W p l e R s m args below meth c H locs 0 0 Q (F0 m pc ls (.int x2 :: .int x1 :: .ref (ad 11) :: rest)) := by
  obtain ⟨hx, hb, hml, hown, hts, hK, hN, hR⟩ := F
  exact afC_V hwd (va_runV (As := [.int x1, .int x2]) (rest := rest) ⟨hx, hb, hml, hown, hts⟩ (hM H.size) ⟨callB_of 2 hts (goodC _ (List.forall_mem_cons.mpr ⟨kC_270, fun _ h => h⟩)) rfl rfl rfl (hts _ kC_62) (hts _ kC_140) (by decide +kernel) hr, (hts _ kC_141), (hts _ kC_142)⟩ (prC_V (k := 11) hK hN hwd (show clC[3]? = some (R_Cu, F_Cu, 5) from rfl) rfl) rfl rfl hsz rfl (lv_room hW) hdg ⟨Nat.zero_le _, Nat.zero_le _⟩) kk

theorem mcC_Ta_29 {x1 : Int32} {K : Int32 → St → Prop} {f lo : Nat} (F : fxC D cI cZ p R s m args c cc nL R_Ta fr lr) (hwd : wdC D cI cZ ad A H0 g H locs) (hM : ctCI l y_Ta_sizeOf b_Ta_sizeOf 2 f lo D cI cZ ad [.ref (ad 15), .int x1] g K) (hr : f + 1 ≤ R.frames ∧ 8 + (2 + 11) + lo ≤ R.locals) (hsz : ls.size = nL) (hW : (rest.map fun v => v.category).sum ≤ 8) (hdg : decode cc pc = .ok (.invokevirtual 29, 3)) (kk : ∀ (r : Int32) (g' : St) (H : Heap) (locs : List Loc), K r g' → wdC D cI cZ ad A H0 g' H locs → W p l e R s m args below meth c H locs 0 0 Q (F0 m (pc + 3) ls (.int r :: rest))) : W p l e R s m args below meth c H locs 0 0 Q (F0 m pc ls (.int x1 :: .ref (ad 15) :: rest)) := by
  obtain ⟨hx, hb, hml, hown, hts, hK, hN, hR⟩ := F
  exact afC_I hwd (va_runV (As := [.int x1]) (rest := rest) ⟨hx, hb, hml, hown, hts⟩ (hM H.size) ⟨callB_of 1 hts (goodC _ (List.forall_mem_cons.mpr ⟨kC_278, fun _ h => h⟩)) rfl rfl rfl (hts _ kC_68) (hts _ kC_143) (by decide +kernel) hr, (hts _ kC_144), (hts _ kC_145)⟩ (prC_V (k := 15) hK hN hwd (show clC[4]? = some (R_Ta, F_Ta, 4) from rfl) rfl) rfl rfl hsz rfl (lv_room hW) hdg ⟨Nat.zero_le _, Nat.zero_le _⟩) kk

theorem mcC_Co_108 {x1 : Int32} {K : St → Prop} {f lo : Nat} (F : fxC D cI cZ p R s m args c cc nL R_Co fr lr) (hwd : wdC D cI cZ ad A H0 g H locs) (hM : ctCV l y_Co_writeByte b_Co_writeByte 2 f lo D cI cZ ad [.ref (ad 19), .int x1] g K) (hr : f + 1 ≤ R.frames ∧ 8 + (2 + 11) + lo ≤ R.locals) (hsz : ls.size = nL) (hW : (rest.map fun v => v.category).sum ≤ 8) (hdg : decode cc pc = .ok (.invokevirtual 108, 3)) (kk : ∀ (g' : St) (H : Heap) (locs : List Loc), K g' → wdC D cI cZ ad A H0 g' H locs → W p l e R s m args below meth c H locs 0 0 Q (F0 m (pc + 3) ls (rest))) : W p l e R s m args below meth c H locs 0 0 Q (F0 m pc ls (.int x1 :: .ref (ad 19) :: rest)) := by
  obtain ⟨hx, hb, hml, hown, hts, hK, hN, hR⟩ := F
  exact afC_V hwd (va_runV (As := [.int x1]) (rest := rest) ⟨hx, hb, hml, hown, hts⟩ (hM H.size) ⟨callB_of 1 hts (goodC _ (List.forall_mem_cons.mpr ⟨kC_290, fun _ h => h⟩)) rfl rfl rfl (hts _ kC_73) (hts _ kC_146) (by decide +kernel) hr, (hts _ kC_147), (hts _ kC_148)⟩ (prC_V (k := 19) hK hN hwd (show clC[5]? = some (R_Co, F_Co, 10) from rfl) rfl) rfl rfl hsz rfl (lv_room hW) hdg ⟨Nat.zero_le _, Nat.zero_le _⟩) kk

theorem mcC_Fo_41 {x1 : Int32} {K : Int32 → St → Prop} {f lo : Nat} (F : fxC D cI cZ p R s m args c cc nL R_Fo fr lr) (hwd : wdC D cI cZ ad A H0 g H locs) (hM : ctCZ l y_Fo_isLeaf b_Fo_isLeaf 2 f lo D cI cZ ad [.ref (ad 2), .int x1] g K) (hr : f + 1 ≤ R.frames ∧ 8 + (2 + 11) + lo ≤ R.locals) (hsz : ls.size = nL) (hW : (rest.map fun v => v.category).sum ≤ 8) (hdg : decode cc pc = .ok (.invokevirtual 41, 3)) (kk : ∀ (r : Int32) (g' : St) (H : Heap) (locs : List Loc), K r g' → wdC D cI cZ ad A H0 g' H locs → W p l e R s m args below meth c H locs 0 0 Q (F0 m (pc + 3) ls (.int r :: rest))) : W p l e R s m args below meth c H locs 0 0 Q (F0 m pc ls (.int x1 :: .ref (ad 2) :: rest)) := by
  obtain ⟨hx, hb, hml, hown, hts, hK, hN, hR⟩ := F
  exact afC_I hwd (va_runV (As := [.int x1]) (rest := rest) ⟨hx, hb, hml, hown, hts⟩ (hM H.size) ⟨callB_of 1 hts (goodC _ (List.forall_mem_cons.mpr ⟨kC_261, fun _ h => h⟩)) rfl rfl rfl (hts _ kC_51) (hts _ kC_149) (by decide +kernel) hr, (hts _ kC_113), (hts _ kC_114)⟩ (prC_V (k := 2) hK hN hwd (show clC[1]? = some (R_Fo, F_Fo, 8) from rfl) rfl) rfl rfl hsz rfl (lv_room hW) hdg ⟨Nat.zero_le _, Nat.zero_le _⟩) kk

theorem mcC_Fo_44 {x1 : Int32} {K : Int32 → St → Prop} {f lo : Nat} (F : fxC D cI cZ p R s m args c cc nL R_Fo fr lr) (hwd : wdC D cI cZ ad A H0 g H locs) (hM : ctCZ l y_Ru_isBitRule b_Ru_isBitRule 1 f lo D cI cZ ad [.int x1] g K) (hr : f + 1 ≤ R.frames ∧ 8 + (1 + 11) + lo ≤ R.locals) (hsz : ls.size = nL) (hW : (rest.map fun v => v.category).sum ≤ 8) (hdg : decode cc pc = .ok (.invokestatic 44, 3)) (kk : ∀ (r : Int32) (g' : St) (H : Heap) (locs : List Loc), K r g' → wdC D cI cZ ad A H0 g' H locs → W p l e R s m args below meth c H locs 0 0 Q (F0 m (pc + 3) ls (.int r :: rest))) : W p l e R s m args below meth c H locs 0 0 Q (F0 m pc ls (.int x1 :: rest)) := by
  obtain ⟨hx, hb, hml, hown, hts, hK, hN, hR⟩ := F
  exact afC_I hwd (va_runS (As := [.int x1]) (rest := rest) ⟨hx, hb, hml, hown, hts⟩ (hM H.size) ⟨callB_of 1 hts (goodC _ (List.forall_mem_cons.mpr ⟨kC_297, fun _ h => h⟩)) rfl rfl rfl (hts _ kC_98) (hts _ kC_150) (by decide +kernel) hr, (hts _ kC_97)⟩ (prC_S hK hN hwd) rfl rfl hsz rfl (lv_room hW) hdg ⟨Nat.zero_le _, Nat.zero_le _⟩) kk

theorem mcC_Co_129 {x1 : Int32} {K : Int32 → St → Prop} {f lo : Nat} (F : fxC D cI cZ p R s m args c cc nL R_Co fr lr) (hwd : wdC D cI cZ ad A H0 g H locs) (hM : ctCI l y_Cu_testLength b_Cu_testLength 1 f lo D cI cZ ad [.int x1] g K) (hr : f + 1 ≤ R.frames ∧ 8 + (1 + 11) + lo ≤ R.locals) (hsz : ls.size = nL) (hW : (rest.map fun v => v.category).sum ≤ 8) (hdg : decode cc pc = .ok (.invokestatic 129, 3)) (kk : ∀ (r : Int32) (g' : St) (H : Heap) (locs : List Loc), K r g' → wdC D cI cZ ad A H0 g' H locs → W p l e R s m args below meth c H locs 0 0 Q (F0 m (pc + 3) ls (.int r :: rest))) : W p l e R s m args below meth c H locs 0 0 Q (F0 m pc ls (.int x1 :: rest)) := by
  obtain ⟨hx, hb, hml, hown, hts, hK, hN, hR⟩ := F
  exact afC_I hwd (va_runS (As := [.int x1]) (rest := rest) ⟨hx, hb, hml, hown, hts⟩ (hM H.size) ⟨callB_of 1 hts (goodC _ (List.forall_mem_cons.mpr ⟨kC_274, fun _ h => h⟩)) rfl rfl rfl (hts _ kC_62) (hts _ kC_151) (by decide +kernel) hr, (hts _ kC_129)⟩ (prC_S hK hN hwd) rfl rfl hsz rfl (lv_room hW) hdg ⟨Nat.zero_le _, Nat.zero_le _⟩) kk

theorem mcC_Co_94 {x1 x2 : Int32} {K : St → Prop} {f lo : Nat} (F : fxC D cI cZ p R s m args c cc nL R_Co fr lr) (hwd : wdC D cI cZ ad A H0 g H locs) (hM : ctCV l y_Co_writePair b_Co_writePair 3 f lo D cI cZ ad [.ref (ad 19), .int x1, .int x2] g K) (hr : f + 1 ≤ R.frames ∧ 8 + (3 + 11) + lo ≤ R.locals) (hsz : ls.size = nL) (hW : (rest.map fun v => v.category).sum ≤ 8) (hdg : decode cc pc = .ok (.invokevirtual 94, 3)) (kk : ∀ (g' : St) (H : Heap) (locs : List Loc), K g' → wdC D cI cZ ad A H0 g' H locs → W p l e R s m args below meth c H locs 0 0 Q (F0 m (pc + 3) ls (rest))) : W p l e R s m args below meth c H locs 0 0 Q (F0 m pc ls (.int x2 :: .int x1 :: .ref (ad 19) :: rest)) := by
  obtain ⟨hx, hb, hml, hown, hts, hK, hN, hR⟩ := F
  exact afC_V hwd (va_runV (As := [.int x1, .int x2]) (rest := rest) ⟨hx, hb, hml, hown, hts⟩ (hM H.size) ⟨callB_of 2 hts (goodC _ (List.forall_mem_cons.mpr ⟨kC_289, fun _ h => h⟩)) rfl rfl rfl (hts _ kC_73) (hts _ kC_152) (by decide +kernel) hr, (hts _ kC_153), (hts _ kC_154)⟩ (prC_V (k := 19) hK hN hwd (show clC[5]? = some (R_Co, F_Co, 10) from rfl) rfl) rfl rfl hsz rfl (lv_room hW) hdg ⟨Nat.zero_le _, Nat.zero_le _⟩) kk

theorem mcC_Co_104 {x1 x2 : Int32} {K : Int32 → St → Prop} {f lo : Nat} (F : fxC D cI cZ p R s m args c cc nL R_Co fr lr) (hwd : wdC D cI cZ ad A H0 g H locs) (hM : ctCI l y_Ta_numberFor b_Ta_numberFor 6 f lo D cI cZ ad [.ref (ad 15), .int x1, .int x2] g K) (hr : f + 1 ≤ R.frames ∧ 8 + (6 + 11) + lo ≤ R.locals) (hsz : ls.size = nL) (hW : (rest.map fun v => v.category).sum ≤ 8) (hdg : decode cc pc = .ok (.invokevirtual 104, 3)) (kk : ∀ (r : Int32) (g' : St) (H : Heap) (locs : List Loc), K r g' → wdC D cI cZ ad A H0 g' H locs → W p l e R s m args below meth c H locs 0 0 Q (F0 m (pc + 3) ls (.int r :: rest))) : W p l e R s m args below meth c H locs 0 0 Q (F0 m pc ls (.int x2 :: .int x1 :: .ref (ad 15) :: rest)) := by
  obtain ⟨hx, hb, hml, hown, hts, hK, hN, hR⟩ := F
  exact afC_I hwd (va_runV (As := [.int x1, .int x2]) (rest := rest) ⟨hx, hb, hml, hown, hts⟩ (hM H.size) ⟨callB_of 2 hts (goodC _ (List.forall_mem_cons.mpr ⟨kC_282, fun _ h => h⟩)) rfl rfl rfl (hts _ kC_68) (hts _ kC_155) (by decide +kernel) hr, (hts _ kC_156), (hts _ kC_157)⟩ (prC_V (k := 15) hK hN hwd (show clC[4]? = some (R_Ta, F_Ta, 4) from rfl) rfl) rfl rfl hsz rfl (lv_room hW) hdg ⟨Nat.zero_le _, Nat.zero_le _⟩) kk

theorem mcC_Co_77 {x1 x2 : Int32} {K : St → Prop} {f lo : Nat} (F : fxC D cI cZ p R s m args c cc nL R_Co fr lr) (hwd : wdC D cI cZ ad A H0 g H locs) (hM : ctCV l y_Co_writeCode b_Co_writeCode 4 f lo D cI cZ ad [.ref (ad 19), .int x1, .int x2] g K) (hr : f + 1 ≤ R.frames ∧ 8 + (4 + 11) + lo ≤ R.locals) (hsz : ls.size = nL) (hW : (rest.map fun v => v.category).sum ≤ 8) (hdg : decode cc pc = .ok (.invokevirtual 77, 3)) (kk : ∀ (g' : St) (H : Heap) (locs : List Loc), K g' → wdC D cI cZ ad A H0 g' H locs → W p l e R s m args below meth c H locs 0 0 Q (F0 m (pc + 3) ls (rest))) : W p l e R s m args below meth c H locs 0 0 Q (F0 m pc ls (.int x2 :: .int x1 :: .ref (ad 19) :: rest)) := by
  obtain ⟨hx, hb, hml, hown, hts, hK, hN, hR⟩ := F
  exact afC_V hwd (va_runV (As := [.int x1, .int x2]) (rest := rest) ⟨hx, hb, hml, hown, hts⟩ (hM H.size) ⟨callB_of 2 hts (goodC _ (List.forall_mem_cons.mpr ⟨kC_286, fun _ h => h⟩)) rfl rfl rfl (hts _ kC_73) (hts _ kC_158) (by decide +kernel) hr, (hts _ kC_159), (hts _ kC_160)⟩ (prC_V (k := 19) hK hN hwd (show clC[5]? = some (R_Co, F_Co, 10) from rfl) rfl) rfl rfl hsz rfl (lv_room hW) hdg ⟨Nat.zero_le _, Nat.zero_le _⟩) kk

theorem mcC_Co_97 {x1 : Int32} {K : Int32 → St → Prop} {f lo : Nat} (F : fxC D cI cZ p R s m args c cc nL R_Co fr lr) (hwd : wdC D cI cZ ad A H0 g H locs) (hM : ctCI l y_Fo_kindOfEntry b_Fo_kindOfEntry 2 f lo D cI cZ ad [.ref (ad 2), .int x1] g K) (hr : f + 1 ≤ R.frames ∧ 8 + (2 + 11) + lo ≤ R.locals) (hsz : ls.size = nL) (hW : (rest.map fun v => v.category).sum ≤ 8) (hdg : decode cc pc = .ok (.invokevirtual 97, 3)) (kk : ∀ (r : Int32) (g' : St) (H : Heap) (locs : List Loc), K r g' → wdC D cI cZ ad A H0 g' H locs → W p l e R s m args below meth c H locs 0 0 Q (F0 m (pc + 3) ls (.int r :: rest))) : W p l e R s m args below meth c H locs 0 0 Q (F0 m pc ls (.int x1 :: .ref (ad 2) :: rest)) := by
  obtain ⟨hx, hb, hml, hown, hts, hK, hN, hR⟩ := F
  exact afC_I hwd (va_runV (As := [.int x1]) (rest := rest) ⟨hx, hb, hml, hown, hts⟩ (hM H.size) ⟨callB_of 1 hts (goodC _ (List.forall_mem_cons.mpr ⟨kC_262, fun _ h => h⟩)) rfl rfl rfl (hts _ kC_51) (hts _ kC_161) (by decide +kernel) hr, (hts _ kC_162), (hts _ kC_163)⟩ (prC_V (k := 2) hK hN hwd (show clC[1]? = some (R_Fo, F_Fo, 8) from rfl) rfl) rfl rfl hsz rfl (lv_room hW) hdg ⟨Nat.zero_le _, Nat.zero_le _⟩) kk

theorem mcC_Co_117 {x1 : Int32} {K : Int32 → St → Prop} {f lo : Nat} (F : fxC D cI cZ p R s m args c cc nL R_Co fr lr) (hwd : wdC D cI cZ ad A H0 g H locs) (hM : ctCI l y_Cu_partLength b_Cu_partLength 2 f lo D cI cZ ad [.ref (ad 11), .int x1] g K) (hr : f + 1 ≤ R.frames ∧ 8 + (2 + 11) + lo ≤ R.locals) (hsz : ls.size = nL) (hW : (rest.map fun v => v.category).sum ≤ 8) (hdg : decode cc pc = .ok (.invokevirtual 117, 3)) (kk : ∀ (r : Int32) (g' : St) (H : Heap) (locs : List Loc), K r g' → wdC D cI cZ ad A H0 g' H locs → W p l e R s m args below meth c H locs 0 0 Q (F0 m (pc + 3) ls (.int r :: rest))) : W p l e R s m args below meth c H locs 0 0 Q (F0 m pc ls (.int x1 :: .ref (ad 11) :: rest)) := by
  obtain ⟨hx, hb, hml, hown, hts, hK, hN, hR⟩ := F
  exact afC_I hwd (va_runV (As := [.int x1]) (rest := rest) ⟨hx, hb, hml, hown, hts⟩ (hM H.size) ⟨callB_of 1 hts (goodC _ (List.forall_mem_cons.mpr ⟨kC_273, fun _ h => h⟩)) rfl rfl rfl (hts _ kC_62) (hts _ kC_164) (by decide +kernel) hr, (hts _ kC_126), (hts _ kC_127)⟩ (prC_V (k := 11) hK hN hwd (show clC[3]? = some (R_Cu, F_Cu, 5) from rfl) rfl) rfl rfl hsz rfl (lv_room hW) hdg ⟨Nat.zero_le _, Nat.zero_le _⟩) kk

theorem mcC_Co_120 {x1 x2 : Int32} {K : St → Prop} {f lo : Nat} (F : fxC D cI cZ p R s m args c cc nL R_Co fr lr) (hwd : wdC D cI cZ ad A H0 g H locs) (hM : ctCV l y_Co_writeTest b_Co_writeTest 5 f lo D cI cZ ad [.ref (ad 19), .int x1, .int x2] g K) (hr : f + 1 ≤ R.frames ∧ 8 + (5 + 11) + lo ≤ R.locals) (hsz : ls.size = nL) (hW : (rest.map fun v => v.category).sum ≤ 8) (hdg : decode cc pc = .ok (.invokevirtual 120, 3)) (kk : ∀ (g' : St) (H : Heap) (locs : List Loc), K g' → wdC D cI cZ ad A H0 g' H locs → W p l e R s m args below meth c H locs 0 0 Q (F0 m (pc + 3) ls (rest))) : W p l e R s m args below meth c H locs 0 0 Q (F0 m pc ls (.int x2 :: .int x1 :: .ref (ad 19) :: rest)) := by
  obtain ⟨hx, hb, hml, hown, hts, hK, hN, hR⟩ := F
  exact afC_V hwd (va_runV (As := [.int x1, .int x2]) (rest := rest) ⟨hx, hb, hml, hown, hts⟩ (hM H.size) ⟨callB_of 2 hts (goodC _ (List.forall_mem_cons.mpr ⟨kC_288, fun _ h => h⟩)) rfl rfl rfl (hts _ kC_73) (hts _ kC_165) (by decide +kernel) hr, (hts _ kC_166), (hts _ kC_167)⟩ (prC_V (k := 19) hK hN hwd (show clC[5]? = some (R_Co, F_Co, 10) from rfl) rfl) rfl rfl hsz rfl (lv_room hW) hdg ⟨Nat.zero_le _, Nat.zero_le _⟩) kk

theorem mcC_Co_123 {x1 x2 : Int32} {K : St → Prop} {f lo : Nat} (F : fxC D cI cZ p R s m args c cc nL R_Co fr lr) (hwd : wdC D cI cZ ad A H0 g H locs) (hM : ctCV l y_Co_writePart b_Co_writePart 4 f lo D cI cZ ad [.ref (ad 19), .int x1, .int x2] g K) (hr : f + 1 ≤ R.frames ∧ 8 + (4 + 11) + lo ≤ R.locals) (hsz : ls.size = nL) (hW : (rest.map fun v => v.category).sum ≤ 8) (hdg : decode cc pc = .ok (.invokevirtual 123, 3)) (kk : ∀ (g' : St) (H : Heap) (locs : List Loc), K g' → wdC D cI cZ ad A H0 g' H locs → W p l e R s m args below meth c H locs 0 0 Q (F0 m (pc + 3) ls (rest))) : W p l e R s m args below meth c H locs 0 0 Q (F0 m pc ls (.int x2 :: .int x1 :: .ref (ad 19) :: rest)) := by
  obtain ⟨hx, hb, hml, hown, hts, hK, hN, hR⟩ := F
  exact afC_V hwd (va_runV (As := [.int x1, .int x2]) (rest := rest) ⟨hx, hb, hml, hown, hts⟩ (hM H.size) ⟨callB_of 2 hts (goodC _ (List.forall_mem_cons.mpr ⟨kC_287, fun _ h => h⟩)) rfl rfl rfl (hts _ kC_73) (hts _ kC_168) (by decide +kernel) hr, (hts _ kC_169), (hts _ kC_170)⟩ (prC_V (k := 19) hK hN hwd (show clC[5]? = some (R_Co, F_Co, 10) from rfl) rfl) rfl rfl hsz rfl (lv_room hW) hdg ⟨Nat.zero_le _, Nat.zero_le _⟩) kk

theorem mcC_Co_87 {x1 : Int32} {K : Int32 → St → Prop} {f lo : Nat} (F : fxC D cI cZ p R s m args c cc nL R_Co fr lr) (hwd : wdC D cI cZ ad A H0 g H locs) (hM : ctCZ l y_Fo_isLeaf b_Fo_isLeaf 2 f lo D cI cZ ad [.ref (ad 2), .int x1] g K) (hr : f + 1 ≤ R.frames ∧ 8 + (2 + 11) + lo ≤ R.locals) (hsz : ls.size = nL) (hW : (rest.map fun v => v.category).sum ≤ 8) (hdg : decode cc pc = .ok (.invokevirtual 87, 3)) (kk : ∀ (r : Int32) (g' : St) (H : Heap) (locs : List Loc), K r g' → wdC D cI cZ ad A H0 g' H locs → W p l e R s m args below meth c H locs 0 0 Q (F0 m (pc + 3) ls (.int r :: rest))) : W p l e R s m args below meth c H locs 0 0 Q (F0 m pc ls (.int x1 :: .ref (ad 2) :: rest)) := by
  obtain ⟨hx, hb, hml, hown, hts, hK, hN, hR⟩ := F
  exact afC_I hwd (va_runV (As := [.int x1]) (rest := rest) ⟨hx, hb, hml, hown, hts⟩ (hM H.size) ⟨callB_of 1 hts (goodC _ (List.forall_mem_cons.mpr ⟨kC_261, fun _ h => h⟩)) rfl rfl rfl (hts _ kC_51) (hts _ kC_171) (by decide +kernel) hr, (hts _ kC_113), (hts _ kC_114)⟩ (prC_V (k := 2) hK hN hwd (show clC[1]? = some (R_Fo, F_Fo, 8) from rfl) rfl) rfl rfl hsz rfl (lv_room hW) hdg ⟨Nat.zero_le _, Nat.zero_le _⟩) kk

theorem mcC_Co_70 {K : Int32 → St → Prop} {f lo : Nat} (F : fxC D cI cZ p R s m args c cc nL R_Co fr lr) (hwd : wdC D cI cZ ad A H0 g H locs) (hM : ctCI l y_Ta_latestSize b_Ta_latestSize 1 f lo D cI cZ ad [.ref (ad 15)] g K) (hr : f + 1 ≤ R.frames ∧ 8 + (1 + 11) + lo ≤ R.locals) (hsz : ls.size = nL) (hW : (rest.map fun v => v.category).sum ≤ 8) (hdg : decode cc pc = .ok (.invokevirtual 70, 3)) (kk : ∀ (r : Int32) (g' : St) (H : Heap) (locs : List Loc), K r g' → wdC D cI cZ ad A H0 g' H locs → W p l e R s m args below meth c H locs 0 0 Q (F0 m (pc + 3) ls (.int r :: rest))) : W p l e R s m args below meth c H locs 0 0 Q (F0 m pc ls (.ref (ad 15) :: rest)) := by
  obtain ⟨hx, hb, hml, hown, hts, hK, hN, hR⟩ := F
  exact afC_I hwd (va_runV (As := []) (rest := rest) ⟨hx, hb, hml, hown, hts⟩ (hM H.size) ⟨callB_of 0 hts (goodC _ (List.forall_mem_cons.mpr ⟨kC_280, fun _ h => h⟩)) rfl rfl rfl (hts _ kC_68) (hts _ kC_172) (by decide +kernel) hr, (hts _ kC_173), (hts _ kC_174)⟩ (prC_V (k := 15) hK hN hwd (show clC[4]? = some (R_Ta, F_Ta, 4) from rfl) rfl) rfl rfl hsz rfl (lv_room hW) hdg ⟨Nat.zero_le _, Nat.zero_le _⟩) kk

theorem mcC_Co_80 {x1 : Int32} {K : St → Prop} {f lo : Nat} (F : fxC D cI cZ p R s m args c cc nL R_Co fr lr) (hwd : wdC D cI cZ ad A H0 g H locs) (hM : ctCV l y_Ta_shrinkLatest b_Ta_shrinkLatest 2 f lo D cI cZ ad [.ref (ad 15), .int x1] g K) (hr : f + 1 ≤ R.frames ∧ 8 + (2 + 11) + lo ≤ R.locals) (hsz : ls.size = nL) (hW : (rest.map fun v => v.category).sum ≤ 8) (hdg : decode cc pc = .ok (.invokevirtual 80, 3)) (kk : ∀ (g' : St) (H : Heap) (locs : List Loc), K g' → wdC D cI cZ ad A H0 g' H locs → W p l e R s m args below meth c H locs 0 0 Q (F0 m (pc + 3) ls (rest))) : W p l e R s m args below meth c H locs 0 0 Q (F0 m pc ls (.int x1 :: .ref (ad 15) :: rest)) := by
  obtain ⟨hx, hb, hml, hown, hts, hK, hN, hR⟩ := F
  exact afC_V hwd (va_runV (As := [.int x1]) (rest := rest) ⟨hx, hb, hml, hown, hts⟩ (hM H.size) ⟨callB_of 1 hts (goodC _ (List.forall_mem_cons.mpr ⟨kC_281, fun _ h => h⟩)) rfl rfl rfl (hts _ kC_68) (hts _ kC_175) (by decide +kernel) hr, (hts _ kC_176), (hts _ kC_177)⟩ (prC_V (k := 15) hK hN hwd (show clC[4]? = some (R_Ta, F_Ta, 4) from rfl) rfl) rfl rfl hsz rfl (lv_room hW) hdg ⟨Nat.zero_le _, Nat.zero_le _⟩) kk

theorem mcC_Co_48 {K : St → Prop} {f lo : Nat} (F : fxC D cI cZ p R s m args c cc nL R_Co fr lr) (hwd : wdC D cI cZ ad A H0 g H locs) (hM : ctCV l y_Ta_openClass b_Ta_openClass 1 f lo D cI cZ ad [.ref (ad 15)] g K) (hr : f + 1 ≤ R.frames ∧ 8 + (1 + 11) + lo ≤ R.locals) (hsz : ls.size = nL) (hW : (rest.map fun v => v.category).sum ≤ 8) (hdg : decode cc pc = .ok (.invokevirtual 48, 3)) (kk : ∀ (g' : St) (H : Heap) (locs : List Loc), K g' → wdC D cI cZ ad A H0 g' H locs → W p l e R s m args below meth c H locs 0 0 Q (F0 m (pc + 3) ls (rest))) : W p l e R s m args below meth c H locs 0 0 Q (F0 m pc ls (.ref (ad 15) :: rest)) := by
  obtain ⟨hx, hb, hml, hown, hts, hK, hN, hR⟩ := F
  exact afC_V hwd (va_runV (As := []) (rest := rest) ⟨hx, hb, hml, hown, hts⟩ (hM H.size) ⟨callB_of 0 hts (goodC _ (List.forall_mem_cons.mpr ⟨kC_276, fun _ h => h⟩)) rfl rfl rfl (hts _ kC_68) (hts _ kC_178) (by decide +kernel) hr, (hts _ kC_179), (hts _ kC_180)⟩ (prC_V (k := 15) hK hN hwd (show clC[4]? = some (R_Ta, F_Ta, 4) from rfl) rfl) rfl rfl hsz rfl (lv_room hW) hdg ⟨Nat.zero_le _, Nat.zero_le _⟩) kk

theorem mcC_Co_54 {x1 x2 : Int32} {K : St → Prop} {f lo : Nat} (F : fxC D cI cZ p R s m args c cc nL R_Co fr lr) (hwd : wdC D cI cZ ad A H0 g H locs) (hM : ctCV l y_Co_writeMethod b_Co_writeMethod 4 f lo D cI cZ ad [.ref (ad 19), .int x1, .int x2] g K) (hr : f + 1 ≤ R.frames ∧ 8 + (4 + 11) + lo ≤ R.locals) (hsz : ls.size = nL) (hW : (rest.map fun v => v.category).sum ≤ 8) (hdg : decode cc pc = .ok (.invokevirtual 54, 3)) (kk : ∀ (g' : St) (H : Heap) (locs : List Loc), K g' → wdC D cI cZ ad A H0 g' H locs → W p l e R s m args below meth c H locs 0 0 Q (F0 m (pc + 3) ls (rest))) : W p l e R s m args below meth c H locs 0 0 Q (F0 m pc ls (.int x2 :: .int x1 :: .ref (ad 19) :: rest)) := by
  obtain ⟨hx, hb, hml, hown, hts, hK, hN, hR⟩ := F
  exact afC_V hwd (va_runV (As := [.int x1, .int x2]) (rest := rest) ⟨hx, hb, hml, hown, hts⟩ (hM H.size) ⟨callB_of 2 hts (goodC _ (List.forall_mem_cons.mpr ⟨kC_285, fun _ h => h⟩)) rfl rfl rfl (hts _ kC_73) (hts _ kC_181) (by decide +kernel) hr, (hts _ kC_182), (hts _ kC_183)⟩ (prC_V (k := 19) hK hN hwd (show clC[5]? = some (R_Co, F_Co, 10) from rfl) rfl) rfl rfl hsz rfl (lv_room hW) hdg ⟨Nat.zero_le _, Nat.zero_le _⟩) kk

theorem mcC_Co_43 {K : St → Prop} {f lo : Nat} (F : fxC D cI cZ p R s m args c cc nL R_Co fr lr) (hwd : wdC D cI cZ ad A H0 g H locs) (hM : ctCV l y_Ta_forgetAll b_Ta_forgetAll 1 f lo D cI cZ ad [.ref (ad 15)] g K) (hr : f + 1 ≤ R.frames ∧ 8 + (1 + 11) + lo ≤ R.locals) (hsz : ls.size = nL) (hW : (rest.map fun v => v.category).sum ≤ 8) (hdg : decode cc pc = .ok (.invokevirtual 43, 3)) (kk : ∀ (g' : St) (H : Heap) (locs : List Loc), K g' → wdC D cI cZ ad A H0 g' H locs → W p l e R s m args below meth c H locs 0 0 Q (F0 m (pc + 3) ls (rest))) : W p l e R s m args below meth c H locs 0 0 Q (F0 m pc ls (.ref (ad 15) :: rest)) := by
  obtain ⟨hx, hb, hml, hown, hts, hK, hN, hR⟩ := F
  exact afC_V hwd (va_runV (As := []) (rest := rest) ⟨hx, hb, hml, hown, hts⟩ (hM H.size) ⟨callB_of 0 hts (goodC _ (List.forall_mem_cons.mpr ⟨kC_275, fun _ h => h⟩)) rfl rfl rfl (hts _ kC_68) (hts _ kC_184) (by decide +kernel) hr, (hts _ kC_185), (hts _ kC_186)⟩ (prC_V (k := 15) hK hN hwd (show clC[4]? = some (R_Ta, F_Ta, 4) from rfl) rfl) rfl rfl hsz rfl (lv_room hW) hdg ⟨Nat.zero_le _, Nat.zero_le _⟩) kk

theorem mcC_BF_82 {x1 x2 : Int32} {K : Int32 → St → Prop} {f lo : Nat} (F : fxC D cI cZ p R s m args c cc nL R_BF fr lr) (hwd : wdC D cI cZ ad A H0 g H locs) (hM : ctCZ l y_BF_isTableSize b_BF_isTableSize 2 f lo D cI cZ ad [.int x1, .int x2] g K) (hr : f + 1 ≤ R.frames ∧ 8 + (2 + 11) + lo ≤ R.locals) (hsz : ls.size = nL) (hW : (rest.map fun v => v.category).sum ≤ 8) (hdg : decode cc pc = .ok (.invokestatic 82, 3)) (kk : ∀ (r : Int32) (g' : St) (H : Heap) (locs : List Loc), K r g' → wdC D cI cZ ad A H0 g' H locs → W p l e R s m args below meth c H locs 0 0 Q (F0 m (pc + 3) ls (.int r :: rest))) : W p l e R s m args below meth c H locs 0 0 Q (F0 m pc ls (.int x2 :: .int x1 :: rest)) := by
  obtain ⟨hx, hb, hml, hown, hts, hK, hN, hR⟩ := F
  exact afC_I hwd (va_runS (As := [.int x1, .int x2]) (rest := rest) ⟨hx, hb, hml, hown, hts⟩ (hM H.size) ⟨callB_of 2 hts (goodC _ (List.forall_mem_cons.mpr ⟨kC_257, fun _ h => h⟩)) rfl rfl rfl (hts _ kC_101) (hts _ kC_187) (by decide +kernel) hr, (hts _ kC_188)⟩ (prC_S hK hN hwd) rfl rfl hsz rfl (lv_room hW) hdg ⟨Nat.zero_le _, Nat.zero_le _⟩) kk

theorem mcC_BF_89 {K : Int32 → St → Prop} {f lo : Nat} (F : fxC D cI cZ p R s m args c cc nL R_BF fr lr) (hwd : wdC D cI cZ ad A H0 g H locs) (hM : ctCI l y_Ch_firstFault b_Ch_firstFault 3 f lo D cI cZ ad [.ref (ad 9)] g K) (hr : f + 1 ≤ R.frames ∧ 8 + (3 + 11) + lo ≤ R.locals) (hsz : ls.size = nL) (hW : (rest.map fun v => v.category).sum ≤ 8) (hdg : decode cc pc = .ok (.invokevirtual 89, 3)) (kk : ∀ (r : Int32) (g' : St) (H : Heap) (locs : List Loc), K r g' → wdC D cI cZ ad A H0 g' H locs → W p l e R s m args below meth c H locs 0 0 Q (F0 m (pc + 3) ls (.int r :: rest))) : W p l e R s m args below meth c H locs 0 0 Q (F0 m pc ls (.ref (ad 9) :: rest)) := by
  obtain ⟨hx, hb, hml, hown, hts, hK, hN, hR⟩ := F
  exact afC_I hwd (va_runV (As := []) (rest := rest) ⟨hx, hb, hml, hown, hts⟩ (hM H.size) ⟨callB_of 0 hts (goodC _ (List.forall_mem_cons.mpr ⟨kC_264, fun _ h => h⟩)) rfl rfl rfl (hts _ kC_56) (hts _ kC_189) (by decide +kernel) hr, (hts _ kC_190), (hts _ kC_191)⟩ (prC_V (k := 9) hK hN hwd (show clC[2]? = some (R_Ch, F_Ch, 2) from rfl) rfl) rfl rfl hsz rfl (lv_room hW) hdg ⟨Nat.zero_le _, Nat.zero_le _⟩) kk

theorem mcC_BF_93 {x1 : Int32} {K : St → Prop} {f lo : Nat} (F : fxC D cI cZ p R s m args c cc nL R_BF fr lr) (hwd : wdC D cI cZ ad A H0 g H locs) (hM : ctCV l y_Cu_cutTrees b_Cu_cutTrees 3 f lo D cI cZ ad [.ref (ad 11), .int x1] g K) (hr : f + 1 ≤ R.frames ∧ 8 + (3 + 11) + lo ≤ R.locals) (hsz : ls.size = nL) (hW : (rest.map fun v => v.category).sum ≤ 8) (hdg : decode cc pc = .ok (.invokevirtual 93, 3)) (kk : ∀ (g' : St) (H : Heap) (locs : List Loc), K g' → wdC D cI cZ ad A H0 g' H locs → W p l e R s m args below meth c H locs 0 0 Q (F0 m (pc + 3) ls (rest))) : W p l e R s m args below meth c H locs 0 0 Q (F0 m pc ls (.int x1 :: .ref (ad 11) :: rest)) := by
  obtain ⟨hx, hb, hml, hown, hts, hK, hN, hR⟩ := F
  exact afC_V hwd (va_runV (As := [.int x1]) (rest := rest) ⟨hx, hb, hml, hown, hts⟩ (hM H.size) ⟨callB_of 1 hts (goodC _ (List.forall_mem_cons.mpr ⟨kC_268, fun _ h => h⟩)) rfl rfl rfl (hts _ kC_62) (hts _ kC_192) (by decide +kernel) hr, (hts _ kC_193), (hts _ kC_194)⟩ (prC_V (k := 11) hK hN hwd (show clC[3]? = some (R_Cu, F_Cu, 5) from rfl) rfl) rfl rfl hsz rfl (lv_room hW) hdg ⟨Nat.zero_le _, Nat.zero_le _⟩) kk

theorem mcC_BF_97 {x1 : Int32} {K : St → Prop} {f lo : Nat} (F : fxC D cI cZ p R s m args c cc nL R_BF fr lr) (hwd : wdC D cI cZ ad A H0 g H locs) (hM : ctCV l y_Co_writeMethods b_Co_writeMethods 3 f lo D cI cZ ad [.ref (ad 19), .int x1] g K) (hr : f + 1 ≤ R.frames ∧ 8 + (3 + 11) + lo ≤ R.locals) (hsz : ls.size = nL) (hW : (rest.map fun v => v.category).sum ≤ 8) (hdg : decode cc pc = .ok (.invokevirtual 97, 3)) (kk : ∀ (g' : St) (H : Heap) (locs : List Loc), K g' → wdC D cI cZ ad A H0 g' H locs → W p l e R s m args below meth c H locs 0 0 Q (F0 m (pc + 3) ls (rest))) : W p l e R s m args below meth c H locs 0 0 Q (F0 m pc ls (.int x1 :: .ref (ad 19) :: rest)) := by
  obtain ⟨hx, hb, hml, hown, hts, hK, hN, hR⟩ := F
  exact afC_V hwd (va_runV (As := [.int x1]) (rest := rest) ⟨hx, hb, hml, hown, hts⟩ (hM H.size) ⟨callB_of 1 hts (goodC _ (List.forall_mem_cons.mpr ⟨kC_284, fun _ h => h⟩)) rfl rfl rfl (hts _ kC_73) (hts _ kC_195) (by decide +kernel) hr, (hts _ kC_196), (hts _ kC_197)⟩ (prC_V (k := 19) hK hN hwd (show clC[5]? = some (R_Co, F_Co, 10) from rfl) rfl) rfl rfl hsz rfl (lv_room hW) hdg ⟨Nat.zero_le _, Nat.zero_le _⟩) kk

theorem mcC_BF_103 {x1 : Int32} {K : Int32 → St → Prop} {f lo : Nat} (F : fxC D cI cZ p R s m args c cc nL R_BF fr lr) (hwd : wdC D cI cZ ad A H0 g H locs) (hM : ctCZ l y_Co_isMethod b_Co_isMethod 2 f lo D cI cZ ad [.ref (ad 19), .int x1] g K) (hr : f + 1 ≤ R.frames ∧ 8 + (2 + 11) + lo ≤ R.locals) (hsz : ls.size = nL) (hW : (rest.map fun v => v.category).sum ≤ 8) (hdg : decode cc pc = .ok (.invokevirtual 103, 3)) (kk : ∀ (r : Int32) (g' : St) (H : Heap) (locs : List Loc), K r g' → wdC D cI cZ ad A H0 g' H locs → W p l e R s m args below meth c H locs 0 0 Q (F0 m (pc + 3) ls (.int r :: rest))) : W p l e R s m args below meth c H locs 0 0 Q (F0 m pc ls (.int x1 :: .ref (ad 19) :: rest)) := by
  obtain ⟨hx, hb, hml, hown, hts, hK, hN, hR⟩ := F
  exact afC_I hwd (va_runV (As := [.int x1]) (rest := rest) ⟨hx, hb, hml, hown, hts⟩ (hM H.size) ⟨callB_of 1 hts (goodC _ (List.forall_mem_cons.mpr ⟨kC_283, fun _ h => h⟩)) rfl rfl rfl (hts _ kC_73) (hts _ kC_198) (by decide +kernel) hr, (hts _ kC_199), (hts _ kC_200)⟩ (prC_V (k := 19) hK hN hwd (show clC[5]? = some (R_Co, F_Co, 10) from rfl) rfl) rfl rfl hsz rfl (lv_room hW) hdg ⟨Nat.zero_le _, Nat.zero_le _⟩) kk

theorem mcC_BF_109 {x1 : Int32} {K : Int32 → St → Prop} {f lo : Nat} (F : fxC D cI cZ p R s m args c cc nL R_BF fr lr) (hwd : wdC D cI cZ ad A H0 g H locs) (hM : ctCI l y_BF_length b_BF_length 2 f lo D cI cZ ad [.ref (ad 0), .int x1] g K) (hr : f + 1 ≤ R.frames ∧ 8 + (2 + 11) + lo ≤ R.locals) (hsz : ls.size = nL) (hW : (rest.map fun v => v.category).sum ≤ 8) (hdg : decode cc pc = .ok (.invokevirtual 109, 3)) (kk : ∀ (r : Int32) (g' : St) (H : Heap) (locs : List Loc), K r g' → wdC D cI cZ ad A H0 g' H locs → W p l e R s m args below meth c H locs 0 0 Q (F0 m (pc + 3) ls (.int r :: rest))) : W p l e R s m args below meth c H locs 0 0 Q (F0 m pc ls (.int x1 :: .ref (ad 0) :: rest)) := by
  obtain ⟨hx, hb, hml, hown, hts, hK, hN, hR⟩ := F
  exact afC_I hwd (va_runV (As := [.int x1]) (rest := rest) ⟨hx, hb, hml, hown, hts⟩ (hM H.size) ⟨callB_of 1 hts (goodC _ (List.forall_mem_cons.mpr ⟨kC_244, fun _ h => h⟩)) rfl rfl rfl (hts _ kC_101) (hts _ kC_201) (by decide +kernel) hr, (hts _ kC_202), (hts _ kC_203)⟩ (prC_V (k := 0) hK hN hwd (show clC[0]? = some (R_BF, F_BF, 7) from rfl) rfl) rfl rfl hsz rfl (lv_room hW) hdg ⟨Nat.zero_le _, Nat.zero_le _⟩) kk

theorem mcC_BF_121 {x1 : Int32} {K : Int32 → St → Prop} {f lo : Nat} (F : fxC D cI cZ p R s m args c cc nL R_BF fr lr) (hwd : wdC D cI cZ ad A H0 g H locs) (hM : ctCZ l y_Ta_isClass b_Ta_isClass 2 f lo D cI cZ ad [.ref (ad 15), .int x1] g K) (hr : f + 1 ≤ R.frames ∧ 8 + (2 + 11) + lo ≤ R.locals) (hsz : ls.size = nL) (hW : (rest.map fun v => v.category).sum ≤ 8) (hdg : decode cc pc = .ok (.invokevirtual 121, 3)) (kk : ∀ (r : Int32) (g' : St) (H : Heap) (locs : List Loc), K r g' → wdC D cI cZ ad A H0 g' H locs → W p l e R s m args below meth c H locs 0 0 Q (F0 m (pc + 3) ls (.int r :: rest))) : W p l e R s m args below meth c H locs 0 0 Q (F0 m pc ls (.int x1 :: .ref (ad 15) :: rest)) := by
  obtain ⟨hx, hb, hml, hown, hts, hK, hN, hR⟩ := F
  exact afC_I hwd (va_runV (As := [.int x1]) (rest := rest) ⟨hx, hb, hml, hown, hts⟩ (hM H.size) ⟨callB_of 1 hts (goodC _ (List.forall_mem_cons.mpr ⟨kC_277, fun _ h => h⟩)) rfl rfl rfl (hts _ kC_68) (hts _ kC_204) (by decide +kernel) hr, (hts _ kC_205), (hts _ kC_206)⟩ (prC_V (k := 15) hK hN hwd (show clC[4]? = some (R_Ta, F_Ta, 4) from rfl) rfl) rfl rfl hsz rfl (lv_room hW) hdg ⟨Nat.zero_le _, Nat.zero_le _⟩) kk

theorem mcC_BF_124 {x1 : Int32} {K : Int32 → St → Prop} {f lo : Nat} (F : fxC D cI cZ p R s m args c cc nL R_BF fr lr) (hwd : wdC D cI cZ ad A H0 g H locs) (hM : ctCI l y_Ta_sizeOf b_Ta_sizeOf 2 f lo D cI cZ ad [.ref (ad 15), .int x1] g K) (hr : f + 1 ≤ R.frames ∧ 8 + (2 + 11) + lo ≤ R.locals) (hsz : ls.size = nL) (hW : (rest.map fun v => v.category).sum ≤ 8) (hdg : decode cc pc = .ok (.invokevirtual 124, 3)) (kk : ∀ (r : Int32) (g' : St) (H : Heap) (locs : List Loc), K r g' → wdC D cI cZ ad A H0 g' H locs → W p l e R s m args below meth c H locs 0 0 Q (F0 m (pc + 3) ls (.int r :: rest))) : W p l e R s m args below meth c H locs 0 0 Q (F0 m pc ls (.int x1 :: .ref (ad 15) :: rest)) := by
  obtain ⟨hx, hb, hml, hown, hts, hK, hN, hR⟩ := F
  exact afC_I hwd (va_runV (As := [.int x1]) (rest := rest) ⟨hx, hb, hml, hown, hts⟩ (hM H.size) ⟨callB_of 1 hts (goodC _ (List.forall_mem_cons.mpr ⟨kC_278, fun _ h => h⟩)) rfl rfl rfl (hts _ kC_68) (hts _ kC_207) (by decide +kernel) hr, (hts _ kC_144), (hts _ kC_145)⟩ (prC_V (k := 15) hK hN hwd (show clC[4]? = some (R_Ta, F_Ta, 4) from rfl) rfl) rfl rfl hsz rfl (lv_room hW) hdg ⟨Nat.zero_le _, Nat.zero_le _⟩) kk

theorem mcC_Ta_25 {x1 : Int32} {K : Int32 → St → Prop} {f lo : Nat} (F : fxC D cI cZ p R s m args c cc nL R_Ta fr lr) (hwd : wdC D cI cZ ad A H0 g H locs) (hM : ctCZ l y_Ta_isClass b_Ta_isClass 2 f lo D cI cZ ad [.ref (ad 15), .int x1] g K) (hr : f + 1 ≤ R.frames ∧ 8 + (2 + 11) + lo ≤ R.locals) (hsz : ls.size = nL) (hW : (rest.map fun v => v.category).sum ≤ 8) (hdg : decode cc pc = .ok (.invokevirtual 25, 3)) (kk : ∀ (r : Int32) (g' : St) (H : Heap) (locs : List Loc), K r g' → wdC D cI cZ ad A H0 g' H locs → W p l e R s m args below meth c H locs 0 0 Q (F0 m (pc + 3) ls (.int r :: rest))) : W p l e R s m args below meth c H locs 0 0 Q (F0 m pc ls (.int x1 :: .ref (ad 15) :: rest)) := by
  obtain ⟨hx, hb, hml, hown, hts, hK, hN, hR⟩ := F
  exact afC_I hwd (va_runV (As := [.int x1]) (rest := rest) ⟨hx, hb, hml, hown, hts⟩ (hM H.size) ⟨callB_of 1 hts (goodC _ (List.forall_mem_cons.mpr ⟨kC_277, fun _ h => h⟩)) rfl rfl rfl (hts _ kC_68) (hts _ kC_208) (by decide +kernel) hr, (hts _ kC_205), (hts _ kC_206)⟩ (prC_V (k := 15) hK hN hwd (show clC[4]? = some (R_Ta, F_Ta, 4) from rfl) rfl) rfl rfl hsz rfl (lv_room hW) hdg ⟨Nat.zero_le _, Nat.zero_le _⟩) kk

theorem mcC_BF_127 {x1 x2 : Int32} {K : Int32 → St → Prop} {f lo : Nat} (F : fxC D cI cZ p R s m args c cc nL R_BF fr lr) (hwd : wdC D cI cZ ad A H0 g H locs) (hM : ctCZ l y_Ta_holds b_Ta_holds 3 f lo D cI cZ ad [.ref (ad 15), .int x1, .int x2] g K) (hr : f + 1 ≤ R.frames ∧ 8 + (3 + 11) + lo ≤ R.locals) (hsz : ls.size = nL) (hW : (rest.map fun v => v.category).sum ≤ 8) (hdg : decode cc pc = .ok (.invokevirtual 127, 3)) (kk : ∀ (r : Int32) (g' : St) (H : Heap) (locs : List Loc), K r g' → wdC D cI cZ ad A H0 g' H locs → W p l e R s m args below meth c H locs 0 0 Q (F0 m (pc + 3) ls (.int r :: rest))) : W p l e R s m args below meth c H locs 0 0 Q (F0 m pc ls (.int x2 :: .int x1 :: .ref (ad 15) :: rest)) := by
  obtain ⟨hx, hb, hml, hown, hts, hK, hN, hR⟩ := F
  exact afC_I hwd (va_runV (As := [.int x1, .int x2]) (rest := rest) ⟨hx, hb, hml, hown, hts⟩ (hM H.size) ⟨callB_of 2 hts (goodC _ (List.forall_mem_cons.mpr ⟨kC_279, fun _ h => h⟩)) rfl rfl rfl (hts _ kC_68) (hts _ kC_209) (by decide +kernel) hr, (hts _ kC_210), (hts _ kC_211)⟩ (prC_V (k := 15) hK hN hwd (show clC[4]? = some (R_Ta, F_Ta, 4) from rfl) rfl) rfl rfl hsz rfl (lv_room hW) hdg ⟨Nat.zero_le _, Nat.zero_le _⟩) kk

theorem mcC_Ru_21 {x1 : Int32} {K : Int32 → St → Prop} {f lo : Nat} (F : fxC D cI cZ p R s m args c cc nL R_Ru fr lr) (hwd : wdC D cI cZ ad A H0 g H locs) (hM : ctCI l y_Ru_orderOf b_Ru_orderOf 1 f lo D cI cZ ad [.int x1] g K) (hr : f + 1 ≤ R.frames ∧ 8 + (1 + 11) + lo ≤ R.locals) (hsz : ls.size = nL) (hW : (rest.map fun v => v.category).sum ≤ 8) (hdg : decode cc pc = .ok (.invokestatic 21, 3)) (kk : ∀ (r : Int32) (g' : St) (H : Heap) (locs : List Loc), K r g' → wdC D cI cZ ad A H0 g' H locs → W p l e R s m args below meth c H locs 0 0 Q (F0 m (pc + 3) ls (.int r :: rest))) : W p l e R s m args below meth c H locs 0 0 Q (F0 m pc ls (.int x1 :: rest)) := by
  obtain ⟨hx, hb, hml, hown, hts, hK, hN, hR⟩ := F
  exact afC_I hwd (va_runS (As := [.int x1]) (rest := rest) ⟨hx, hb, hml, hown, hts⟩ (hM H.size) ⟨callB_of 1 hts (goodC _ (List.forall_mem_cons.mpr ⟨kC_299, fun _ h => h⟩)) rfl rfl rfl (hts _ kC_98) (hts _ kC_212) (by decide +kernel) hr, (hts _ kC_213)⟩ (prC_S hK hN hwd) rfl rfl hsz rfl (lv_room hW) hdg ⟨Nat.zero_le _, Nat.zero_le _⟩) kk

theorem mcC_Ru_17 {x1 : Int32} {K : Int32 → St → Prop} {f lo : Nat} (F : fxC D cI cZ p R s m args c cc nL R_Ru fr lr) (hwd : wdC D cI cZ ad A H0 g H locs) (hM : ctCI l y_Ru_wholeOf b_Ru_wholeOf 4 f lo D cI cZ ad [.int x1] g K) (hr : f + 1 ≤ R.frames ∧ 8 + (4 + 11) + lo ≤ R.locals) (hsz : ls.size = nL) (hW : (rest.map fun v => v.category).sum ≤ 8) (hdg : decode cc pc = .ok (.invokestatic 17, 3)) (kk : ∀ (r : Int32) (g' : St) (H : Heap) (locs : List Loc), K r g' → wdC D cI cZ ad A H0 g' H locs → W p l e R s m args below meth c H locs 0 0 Q (F0 m (pc + 3) ls (.int r :: rest))) : W p l e R s m args below meth c H locs 0 0 Q (F0 m pc ls (.int x1 :: rest)) := by
  obtain ⟨hx, hb, hml, hown, hts, hK, hN, hR⟩ := F
  exact afC_I hwd (va_runS (As := [.int x1]) (rest := rest) ⟨hx, hb, hml, hown, hts⟩ (hM H.size) ⟨callB_of 1 hts (goodC _ (List.forall_mem_cons.mpr ⟨kC_300, fun _ h => h⟩)) rfl rfl rfl (hts _ kC_98) (hts _ kC_214) (by decide +kernel) hr, (hts _ kC_215)⟩ (prC_S hK hN hwd) rfl rfl hsz rfl (lv_room hW) hdg ⟨Nat.zero_le _, Nat.zero_le _⟩) kk

theorem mcC_Ma_76 {x1 x2 x3 : Int32} {K : Int32 → St → Prop} {f lo : Nat} (F : fxC D cI cZ p R s m args c cc nL R_Ma fr lr) (hwd : wdC D cI cZ ad A H0 g H locs) (hM : ctCZ l y_Ru_goesToYes b_Ru_goesToYes 4 f lo D cI cZ ad [.int x1, .int x2, .int x3] g K) (hr : f + 1 ≤ R.frames ∧ 8 + (4 + 11) + lo ≤ R.locals) (hsz : ls.size = nL) (hW : (rest.map fun v => v.category).sum ≤ 8) (hdg : decode cc pc = .ok (.invokestatic 76, 3)) (kk : ∀ (r : Int32) (g' : St) (H : Heap) (locs : List Loc), K r g' → wdC D cI cZ ad A H0 g' H locs → W p l e R s m args below meth c H locs 0 0 Q (F0 m (pc + 3) ls (.int r :: rest))) : W p l e R s m args below meth c H locs 0 0 Q (F0 m pc ls (.int x3 :: .int x2 :: .int x1 :: rest)) := by
  obtain ⟨hx, hb, hml, hown, hts, hK, hN, hR⟩ := F
  exact afC_I hwd (va_runS (As := [.int x1, .int x2, .int x3]) (rest := rest) ⟨hx, hb, hml, hown, hts⟩ (hM H.size) ⟨callB_of 3 hts (goodC _ (List.forall_mem_cons.mpr ⟨kC_298, fun _ h => h⟩)) rfl rfl rfl (hts _ kC_98) (hts _ kC_216) (by decide +kernel) hr, (hts _ kC_217)⟩ (prC_S hK hN hwd) rfl rfl hsz rfl (lv_room hW) hdg ⟨Nat.zero_le _, Nat.zero_le _⟩) kk

theorem mcC_Ma_49 {x1 : Int32} {K : Int32 → St → Prop} {f lo : Nat} (F : fxC D cI cZ p R s m args c cc nL R_Ma fr lr) (hwd : wdC D cI cZ ad A H0 g H locs) (hM : ctCI l y_Co_byteOfAll b_Co_byteOfAll 2 f lo D cI cZ ad [.ref (ad 19), .int x1] g K) (hr : f + 1 ≤ R.frames ∧ 8 + (2 + 11) + lo ≤ R.locals) (hsz : ls.size = nL) (hW : (rest.map fun v => v.category).sum ≤ 8) (hdg : decode cc pc = .ok (.invokevirtual 49, 3)) (kk : ∀ (r : Int32) (g' : St) (H : Heap) (locs : List Loc), K r g' → wdC D cI cZ ad A H0 g' H locs → W p l e R s m args below meth c H locs 0 0 Q (F0 m (pc + 3) ls (.int r :: rest))) : W p l e R s m args below meth c H locs 0 0 Q (F0 m pc ls (.int x1 :: .ref (ad 19) :: rest)) := by
  obtain ⟨hx, hb, hml, hown, hts, hK, hN, hR⟩ := F
  exact afC_I hwd (va_runV (As := [.int x1]) (rest := rest) ⟨hx, hb, hml, hown, hts⟩ (hM H.size) ⟨callB_of 1 hts (goodC _ (List.forall_mem_cons.mpr ⟨kC_291, fun _ h => h⟩)) rfl rfl rfl (hts _ kC_73) (hts _ kC_218) (by decide +kernel) hr, (hts _ kC_219), (hts _ kC_220)⟩ (prC_V (k := 19) hK hN hwd (show clC[5]? = some (R_Co, F_Co, 10) from rfl) rfl) rfl rfl hsz rfl (lv_room hW) hdg ⟨Nat.zero_le _, Nat.zero_le _⟩) kk

theorem mcC_Ma_66 {x1 x2 : Int32} {K : Int32 → St → Prop} {f lo : Nat} (F : fxC D cI cZ p R s m args c cc nL R_Ma fr lr) (hwd : wdC D cI cZ ad A H0 g H locs) (hM : ctCZ l y_Ta_holds b_Ta_holds 3 f lo D cI cZ ad [.ref (ad 15), .int x1, .int x2] g K) (hr : f + 1 ≤ R.frames ∧ 8 + (3 + 11) + lo ≤ R.locals) (hsz : ls.size = nL) (hW : (rest.map fun v => v.category).sum ≤ 8) (hdg : decode cc pc = .ok (.invokevirtual 66, 3)) (kk : ∀ (r : Int32) (g' : St) (H : Heap) (locs : List Loc), K r g' → wdC D cI cZ ad A H0 g' H locs → W p l e R s m args below meth c H locs 0 0 Q (F0 m (pc + 3) ls (.int r :: rest))) : W p l e R s m args below meth c H locs 0 0 Q (F0 m pc ls (.int x2 :: .int x1 :: .ref (ad 15) :: rest)) := by
  obtain ⟨hx, hb, hml, hown, hts, hK, hN, hR⟩ := F
  exact afC_I hwd (va_runV (As := [.int x1, .int x2]) (rest := rest) ⟨hx, hb, hml, hown, hts⟩ (hM H.size) ⟨callB_of 2 hts (goodC _ (List.forall_mem_cons.mpr ⟨kC_279, fun _ h => h⟩)) rfl rfl rfl (hts _ kC_68) (hts _ kC_221) (by decide +kernel) hr, (hts _ kC_210), (hts _ kC_211)⟩ (prC_V (k := 15) hK hN hwd (show clC[4]? = some (R_Ta, F_Ta, 4) from rfl) rfl) rfl rfl hsz rfl (lv_room hW) hdg ⟨Nat.zero_le _, Nat.zero_le _⟩) kk

theorem mcC_Ma_63 {x1 : Int32} {K : Int32 → St → Prop} {f lo : Nat} (F : fxC D cI cZ p R s m args c cc nL R_Ma fr lr) (hwd : wdC D cI cZ ad A H0 g H locs) (hM : ctCZ l y_BF_isFeature b_BF_isFeature 1 f lo D cI cZ ad [.int x1] g K) (hr : f + 1 ≤ R.frames ∧ 8 + (1 + 11) + lo ≤ R.locals) (hsz : ls.size = nL) (hW : (rest.map fun v => v.category).sum ≤ 8) (hdg : decode cc pc = .ok (.invokestatic 63, 3)) (kk : ∀ (r : Int32) (g' : St) (H : Heap) (locs : List Loc), K r g' → wdC D cI cZ ad A H0 g' H locs → W p l e R s m args below meth c H locs 0 0 Q (F0 m (pc + 3) ls (.int r :: rest))) : W p l e R s m args below meth c H locs 0 0 Q (F0 m pc ls (.int x1 :: rest)) := by
  obtain ⟨hx, hb, hml, hown, hts, hK, hN, hR⟩ := F
  exact afC_I hwd (va_runSN (As := [.int x1]) (rest := rest) ⟨hx, hb, hml, hown, hts⟩ (hM H.size) ⟨va_cnB 1 hts (goodC _ (List.forall_mem_cons.mpr ⟨kC_255, fun _ h => h⟩)) rfl rfl rfl (show va_Nw (.methodLinkNest R_Ma 63 y_BF_isFeature "BranchForge") s from nwC_m hN nyC_2) (hts _ kC_101) (by decide +kernel) hr, (hts _ kC_100), trivial⟩ (prC_S hK hN hwd) rfl rfl hsz rfl (lv_room hW) hdg ⟨Nat.zero_le _, Nat.zero_le _⟩) kk

theorem mcC_Ma_60 {x1 x2 x3 : Int32} {K : Int32 → St → Prop} {f lo : Nat} (F : fxC D cI cZ p R s m args c cc nL R_Ma fr lr) (hwd : wdC D cI cZ ad A H0 g H locs) (hM : ctCI l y_Ma_operand b_Ma_operand 4 f lo D cI cZ ad [.ref (ad 24), .int x1, .int x2, .int x3] g K) (hr : f + 1 ≤ R.frames ∧ 8 + (4 + 11) + lo ≤ R.locals) (hsz : ls.size = nL) (hW : (rest.map fun v => v.category).sum ≤ 8) (hdg : decode cc pc = .ok (.invokevirtual 60, 3)) (kk : ∀ (r : Int32) (g' : St) (H : Heap) (locs : List Loc), K r g' → wdC D cI cZ ad A H0 g' H locs → W p l e R s m args below meth c H locs 0 0 Q (F0 m (pc + 3) ls (.int r :: rest))) : W p l e R s m args below meth c H locs 0 0 Q (F0 m pc ls (.int x3 :: .int x2 :: .int x1 :: .ref (ad 24) :: rest)) := by
  obtain ⟨hx, hb, hml, hown, hts, hK, hN, hR⟩ := F
  exact afC_I hwd (va_runV (As := [.int x1, .int x2, .int x3]) (rest := rest) ⟨hx, hb, hml, hown, hts⟩ (hM H.size) ⟨callB_of 3 hts (goodC _ (List.forall_mem_cons.mpr ⟨kC_294, fun _ h => h⟩)) rfl rfl rfl (hts _ kC_79) (hts _ kC_222) (by decide +kernel) hr, (hts _ kC_223), (hts _ kC_224)⟩ (prC_V (k := 24) hK hN hwd (show clC[6]? = some (R_Ma, F_Ma, 5) from rfl) rfl) rfl rfl hsz rfl (lv_room hW) hdg ⟨Nat.zero_le _, Nat.zero_le _⟩) kk

theorem mcC_Ma_38 {x1 x2 : Int32} {K : Int32 → St → Prop} {f lo : Nat} (F : fxC D cI cZ p R s m args c cc nL R_Ma fr lr) (hwd : wdC D cI cZ ad A H0 g H locs) (hM : ctCI l y_Ma_runMethod b_Ma_runMethod 8 f lo D cI cZ ad [.ref (ad 24), .int x1, .int x2] g K) (hr : f + 1 ≤ R.frames ∧ 8 + (8 + 11) + lo ≤ R.locals) (hsz : ls.size = nL) (hW : (rest.map fun v => v.category).sum ≤ 8) (hdg : decode cc pc = .ok (.invokevirtual 38, 3)) (kk : ∀ (r : Int32) (g' : St) (H : Heap) (locs : List Loc), K r g' → wdC D cI cZ ad A H0 g' H locs → W p l e R s m args below meth c H locs 0 0 Q (F0 m (pc + 3) ls (.int r :: rest))) : W p l e R s m args below meth c H locs 0 0 Q (F0 m pc ls (.int x2 :: .int x1 :: .ref (ad 24) :: rest)) := by
  obtain ⟨hx, hb, hml, hown, hts, hK, hN, hR⟩ := F
  exact afC_I hwd (va_runV (As := [.int x1, .int x2]) (rest := rest) ⟨hx, hb, hml, hown, hts⟩ (hM H.size) ⟨callB_of 2 hts (goodC _ (List.forall_mem_cons.mpr ⟨kC_293, fun _ h => h⟩)) rfl rfl rfl (hts _ kC_79) (hts _ kC_225) (by decide +kernel) hr, (hts _ kC_226), (hts _ kC_227)⟩ (prC_V (k := 24) hK hN hwd (show clC[6]? = some (R_Ma, F_Ma, 5) from rfl) rfl) rfl rfl hsz rfl (lv_room hW) hdg ⟨Nat.zero_le _, Nat.zero_le _⟩) kk

theorem mcC_Ma_53 {x1 x2 x3 : Int32} {K : Int32 → St → Prop} {f lo : Nat} (F : fxC D cI cZ p R s m args c cc nL R_Ma fr lr) (hwd : wdC D cI cZ ad A H0 g H locs) (hM : ctCI l y_Ma_testMove b_Ma_testMove 8 f lo D cI cZ ad [.ref (ad 24), .int x1, .int x2, .int x3] g K) (hr : f + 1 ≤ R.frames ∧ 8 + (8 + 11) + lo ≤ R.locals) (hsz : ls.size = nL) (hW : (rest.map fun v => v.category).sum ≤ 8) (hdg : decode cc pc = .ok (.invokevirtual 53, 3)) (kk : ∀ (r : Int32) (g' : St) (H : Heap) (locs : List Loc), K r g' → wdC D cI cZ ad A H0 g' H locs → W p l e R s m args below meth c H locs 0 0 Q (F0 m (pc + 3) ls (.int r :: rest))) : W p l e R s m args below meth c H locs 0 0 Q (F0 m pc ls (.int x3 :: .int x2 :: .int x1 :: .ref (ad 24) :: rest)) := by
  obtain ⟨hx, hb, hml, hown, hts, hK, hN, hR⟩ := F
  exact afC_I hwd (va_runV (As := [.int x1, .int x2, .int x3]) (rest := rest) ⟨hx, hb, hml, hown, hts⟩ (hM H.size) ⟨callB_of 3 hts (goodC _ (List.forall_mem_cons.mpr ⟨kC_295, fun _ h => h⟩)) rfl rfl rfl (hts _ kC_79) (hts _ kC_228) (by decide +kernel) hr, (hts _ kC_229), (hts _ kC_230)⟩ (prC_V (k := 24) hK hN hwd (show clC[6]? = some (R_Ma, F_Ma, 5) from rfl) rfl) rfl rfl hsz rfl (lv_room hW) hdg ⟨Nat.zero_le _, Nat.zero_le _⟩) kk

theorem mcC_Ma_42 {x1 : Int32} {K : Int32 → St → Prop} {f lo : Nat} (F : fxC D cI cZ p R s m args c cc nL R_Ma fr lr) (hwd : wdC D cI cZ ad A H0 g H locs) (hM : ctCZ l y_Co_isMethod b_Co_isMethod 2 f lo D cI cZ ad [.ref (ad 19), .int x1] g K) (hr : f + 1 ≤ R.frames ∧ 8 + (2 + 11) + lo ≤ R.locals) (hsz : ls.size = nL) (hW : (rest.map fun v => v.category).sum ≤ 8) (hdg : decode cc pc = .ok (.invokevirtual 42, 3)) (kk : ∀ (r : Int32) (g' : St) (H : Heap) (locs : List Loc), K r g' → wdC D cI cZ ad A H0 g' H locs → W p l e R s m args below meth c H locs 0 0 Q (F0 m (pc + 3) ls (.int r :: rest))) : W p l e R s m args below meth c H locs 0 0 Q (F0 m pc ls (.int x1 :: .ref (ad 19) :: rest)) := by
  obtain ⟨hx, hb, hml, hown, hts, hK, hN, hR⟩ := F
  exact afC_I hwd (va_runV (As := [.int x1]) (rest := rest) ⟨hx, hb, hml, hown, hts⟩ (hM H.size) ⟨callB_of 1 hts (goodC _ (List.forall_mem_cons.mpr ⟨kC_283, fun _ h => h⟩)) rfl rfl rfl (hts _ kC_73) (hts _ kC_231) (by decide +kernel) hr, (hts _ kC_199), (hts _ kC_200)⟩ (prC_V (k := 19) hK hN hwd (show clC[5]? = some (R_Co, F_Co, 10) from rfl) rfl) rfl rfl hsz rfl (lv_room hW) hdg ⟨Nat.zero_le _, Nat.zero_le _⟩) kk

theorem mcC_BF_141 {K : Int64 → St → Prop} {f lo : Nat} (F : fxC D cI cZ p R s m args c cc nL R_BF fr lr) (hwd : wdC D cI cZ ad A H0 g H locs) (hM : ctCJ l y_Ma_runTrees b_Ma_runTrees 4 f lo D cI cZ ad [.ref (ad 24)] g K) (hr : f + 1 ≤ R.frames ∧ 8 + (4 + 11) + lo ≤ R.locals) (hsz : ls.size = nL) (hW : (rest.map fun v => v.category).sum ≤ 8) (hdg : decode cc pc = .ok (.invokevirtual 141, 3)) (kk : ∀ (r : Int64) (g' : St) (H : Heap) (locs : List Loc), K r g' → wdC D cI cZ ad A H0 g' H locs → W p l e R s m args below meth c H locs 0 0 Q (F0 m (pc + 3) ls (.long r :: rest))) : W p l e R s m args below meth c H locs 0 0 Q (F0 m pc ls (.ref (ad 24) :: rest)) := by
  obtain ⟨hx, hb, hml, hown, hts, hK, hN, hR⟩ := F
  exact afC_J hwd (va_runV (As := []) (rest := rest) ⟨hx, hb, hml, hown, hts⟩ (hM H.size) ⟨callB_of 0 hts (goodC _ (List.forall_mem_cons.mpr ⟨kC_292, fun _ h => h⟩)) rfl rfl rfl (hts _ kC_79) (hts _ kC_232) (by decide +kernel) hr, (hts _ kC_233), (hts _ kC_234)⟩ (prC_V (k := 24) hK hN hwd (show clC[6]? = some (R_Ma, F_Ma, 5) from rfl) rfl) rfl rfl hsz rfl (lv_room hW) hdg ⟨Nat.zero_le _, Nat.zero_le _⟩) kk

theorem mcC_Fo_49 {x1 x2 x3 : Int32} {K : Int32 → St → Prop} {f lo : Nat} (F : fxC D cI cZ p R s m args c cc nL R_Fo fr lr) (hwd : wdC D cI cZ ad A H0 g H locs) (hM : ctCZ l y_Ru_goesToYes b_Ru_goesToYes 4 f lo D cI cZ ad [.int x1, .int x2, .int x3] g K) (hr : f + 1 ≤ R.frames ∧ 8 + (4 + 11) + lo ≤ R.locals) (hsz : ls.size = nL) (hW : (rest.map fun v => v.category).sum ≤ 8) (hdg : decode cc pc = .ok (.invokestatic 49, 3)) (kk : ∀ (r : Int32) (g' : St) (H : Heap) (locs : List Loc), K r g' → wdC D cI cZ ad A H0 g' H locs → W p l e R s m args below meth c H locs 0 0 Q (F0 m (pc + 3) ls (.int r :: rest))) : W p l e R s m args below meth c H locs 0 0 Q (F0 m pc ls (.int x3 :: .int x2 :: .int x1 :: rest)) := by
  obtain ⟨hx, hb, hml, hown, hts, hK, hN, hR⟩ := F
  exact afC_I hwd (va_runS (As := [.int x1, .int x2, .int x3]) (rest := rest) ⟨hx, hb, hml, hown, hts⟩ (hM H.size) ⟨callB_of 3 hts (goodC _ (List.forall_mem_cons.mpr ⟨kC_298, fun _ h => h⟩)) rfl rfl rfl (hts _ kC_98) (hts _ kC_235) (by decide +kernel) hr, (hts _ kC_217)⟩ (prC_S hK hN hwd) rfl rfl hsz rfl (lv_room hW) hdg ⟨Nat.zero_le _, Nat.zero_le _⟩) kk

theorem mcC_BF_155 {x1 : Int32} {K : Int32 → St → Prop} {f lo : Nat} (F : fxC D cI cZ p R s m args c cc nL R_BF fr lr) (hwd : wdC D cI cZ ad A H0 g H locs) (hM : ctCI l y_Fo_leafFor b_Fo_leafFor 6 f lo D cI cZ ad [.ref (ad 2), .int x1, .ref (ad 1)] g K) (hr : f + 1 ≤ R.frames ∧ 8 + (6 + 11) + lo ≤ R.locals) (hsz : ls.size = nL) (hW : (rest.map fun v => v.category).sum ≤ 8) (hdg : decode cc pc = .ok (.invokevirtual 155, 3)) (kk : ∀ (r : Int32) (g' : St) (H : Heap) (locs : List Loc), K r g' → wdC D cI cZ ad A H0 g' H locs → W p l e R s m args below meth c H locs 0 0 Q (F0 m (pc + 3) ls (.int r :: rest))) : W p l e R s m args below meth c H locs 0 0 Q (F0 m pc ls (.ref (ad 1) :: .int x1 :: .ref (ad 2) :: rest)) := by
  obtain ⟨hx, hb, hml, hown, hts, hK, hN, hR⟩ := F
  exact afC_I hwd (va_runV (As := [.int x1, .ref (ad 1)]) (rest := rest) ⟨hx, hb, hml, hown, hts⟩ (hM H.size) ⟨callB_of 2 hts (goodC _ (List.forall_mem_cons.mpr ⟨kC_263, fun _ h => h⟩)) rfl rfl rfl (hts _ kC_51) (hts _ kC_236) (by decide +kernel) hr, (hts _ kC_237), (hts _ kC_238)⟩ (prC_V (k := 2) hK hN hwd (show clC[1]? = some (R_Fo, F_Fo, 8) from rfl) rfl) rfl rfl hsz rfl (lv_room hW) hdg ⟨Nat.zero_le _, Nat.zero_le _⟩) kk
end ROWSC
theorem enCI {l : Launch} {y : MethodName} {cc : ByteArray} {nL f lo : Nat} {D : va_G} {cI cZ : ClassId} {ad : Nat → Nat} {av : List Value} {g : St} {K : Int32 → St → Prop} (hy : plainName y.cls = true) (hlen : (lg_sl av).length ≤ nL)
    (body : ∀ (p : Program) (e : Env) (s : State) (m : MethodId) (args : Array Value) (below : List Frame) (meth : Method) (c : Code) (A : Nat → Prop) (H0 : Heap) (ls : Array Slot) (Q : State → Prop), fxC D cI cZ p { frames := f, cells := 0, slots := 0, locals := lo } s m args c cc nL y.cls f lo → wdC D cI cZ ad A H0 g H0 [] → lv_has ls nL (lv_args 0 av) → rtCI D cI cZ ad p l e { frames := f, cells := 0, slots := 0, locals := lo } s m args below meth c cc A H0 Q K → W p l e { frames := f, cells := 0, slots := 0, locals := lo } s m args below meth c H0 [] 0 0 Q (F0 m 0 ls [])) : ctCI l y cc nL f lo D cI cZ ad av g K := by
  intro sz
  refine Met.ofW (cc := cc) (maxL := nL) (ret := (some .int)) hy rfl ?_
  intro p e s m args below meth c s₁ B hml hv
  obtain ⟨rfl, hsz, hP, hK, hD0, hN⟩ := hv
  have hx := B.exec
  have hb := B.bytes
  have hr := B.returns
  have hts := atoms_spec (ws := .code y cc nL (some .int) :: wGC) B.pre
  have hown : s.vm.findClass y.cls = some m.cls := findClass_of_methodNamed B.named
  have hlocks := B.notSynchronized
  subst hsz
  have hD := hD0.self (sz := s.heap.size)
  have hl := lv_entry av (n := nL) hlen
  rw [lg_entry_eq]
  refine body p e s m _ below meth c _ s.heap _ _ ⟨hx, hb, hml, hown, fun w h => hts w (List.mem_cons_of_mem _ h), hK, hN, Nat.le_refl _, Nat.le_refl _⟩ ⟨hP, hD, va_S.rf, fun q h => Or.inr h⟩ hl ?_
  intro r g' H' locs' hk hwd pc' ls' hdg
  obtain ⟨hP9, hD9, hS9, -⟩ := hwd
  exact W.iret (v := r) hx hb hr (fun t ht hW => ⟨⟨r, g', rfl, hk, by rw [ht]; exact hP9, va_K.moved hW.alike hK, hD9⟩, hS9.F ht⟩) hS9.2.2 hdg
theorem enCZ {l : Launch} {y : MethodName} {cc : ByteArray} {nL f lo : Nat} {D : va_G} {cI cZ : ClassId} {ad : Nat → Nat} {av : List Value} {g : St} {K : Int32 → St → Prop} (hy : plainName y.cls = true) (hlen : (lg_sl av).length ≤ nL)
    (body : ∀ (p : Program) (e : Env) (s : State) (m : MethodId) (args : Array Value) (below : List Frame) (meth : Method) (c : Code) (A : Nat → Prop) (H0 : Heap) (ls : Array Slot) (Q : State → Prop), fxC D cI cZ p { frames := f, cells := 0, slots := 0, locals := lo } s m args c cc nL y.cls f lo → wdC D cI cZ ad A H0 g H0 [] → lv_has ls nL (lv_args 0 av) → rtCZ D cI cZ ad p l e { frames := f, cells := 0, slots := 0, locals := lo } s m args below meth c cc A H0 Q K → W p l e { frames := f, cells := 0, slots := 0, locals := lo } s m args below meth c H0 [] 0 0 Q (F0 m 0 ls [])) : ctCZ l y cc nL f lo D cI cZ ad av g K := by
  intro sz
  refine Met.ofW (cc := cc) (maxL := nL) (ret := (some .boolean)) hy rfl ?_
  intro p e s m args below meth c s₁ B hml hv
  obtain ⟨rfl, hsz, hP, hK, hD0, hN⟩ := hv
  have hx := B.exec
  have hb := B.bytes
  have hr := B.returns
  have hts := atoms_spec (ws := .code y cc nL (some .boolean) :: wGC) B.pre
  have hown : s.vm.findClass y.cls = some m.cls := findClass_of_methodNamed B.named
  have hlocks := B.notSynchronized
  subst hsz
  have hD := hD0.self (sz := s.heap.size)
  have hl := lv_entry av (n := nL) hlen
  rw [lg_entry_eq]
  refine body p e s m _ below meth c _ s.heap _ _ ⟨hx, hb, hml, hown, fun w h => hts w (List.mem_cons_of_mem _ h), hK, hN, Nat.le_refl _, Nat.le_refl _⟩ ⟨hP, hD, va_S.rf, fun q h => Or.inr h⟩ hl ?_
  intro r g' H' locs' hk h01 hwd pc' ls' hdg
  obtain ⟨hP9, hD9, hS9, -⟩ := hwd
  exact W.zret (v := r) hx hb hr (by rcases h01 with rfl | rfl <;> rfl) (fun t ht hW => ⟨⟨r, g', rfl, hk, by rw [ht]; exact hP9, va_K.moved hW.alike hK, hD9⟩, hS9.F ht⟩) hS9.2.2 hdg
theorem enCJ {l : Launch} {y : MethodName} {cc : ByteArray} {nL f lo : Nat} {D : va_G} {cI cZ : ClassId} {ad : Nat → Nat} {av : List Value} {g : St} {K : Int64 → St → Prop} (hy : plainName y.cls = true) (hlen : (lg_sl av).length ≤ nL)
    (body : ∀ (p : Program) (e : Env) (s : State) (m : MethodId) (args : Array Value) (below : List Frame) (meth : Method) (c : Code) (A : Nat → Prop) (H0 : Heap) (ls : Array Slot) (Q : State → Prop), fxC D cI cZ p { frames := f, cells := 0, slots := 0, locals := lo } s m args c cc nL y.cls f lo → wdC D cI cZ ad A H0 g H0 [] → lv_has ls nL (lv_args 0 av) → rtCJ D cI cZ ad p l e { frames := f, cells := 0, slots := 0, locals := lo } s m args below meth c cc A H0 Q K → W p l e { frames := f, cells := 0, slots := 0, locals := lo } s m args below meth c H0 [] 0 0 Q (F0 m 0 ls [])) : ctCJ l y cc nL f lo D cI cZ ad av g K := by
  intro sz
  refine Met.ofW (cc := cc) (maxL := nL) (ret := (some .long)) hy rfl ?_
  intro p e s m args below meth c s₁ B hml hv
  obtain ⟨rfl, hsz, hP, hK, hD0, hN⟩ := hv
  have hx := B.exec
  have hb := B.bytes
  have hr := B.returns
  have hts := atoms_spec (ws := .code y cc nL (some .long) :: wGC) B.pre
  have hown : s.vm.findClass y.cls = some m.cls := findClass_of_methodNamed B.named
  have hlocks := B.notSynchronized
  subst hsz
  have hD := hD0.self (sz := s.heap.size)
  have hl := lv_entry av (n := nL) hlen
  rw [lg_entry_eq]
  refine body p e s m _ below meth c _ s.heap _ _ ⟨hx, hb, hml, hown, fun w h => hts w (List.mem_cons_of_mem _ h), hK, hN, Nat.le_refl _, Nat.le_refl _⟩ ⟨hP, hD, va_S.rf, fun q h => Or.inr h⟩ hl ?_
  intro r g' H' locs' hk hwd pc' ls' hdg
  obtain ⟨hP9, hD9, hS9, -⟩ := hwd
  exact W.lret (v := r) hx hb hr (fun t ht hW => ⟨⟨r, g', rfl, hk, by rw [ht]; exact hP9, va_K.moved hW.alike hK, hD9⟩, hS9.F ht⟩) hS9.2.2 hdg
theorem enCV {l : Launch} {y : MethodName} {cc : ByteArray} {nL f lo : Nat} {D : va_G} {cI cZ : ClassId} {ad : Nat → Nat} {av : List Value} {g : St} {K : St → Prop} (hy : plainName y.cls = true) (hlen : (lg_sl av).length ≤ nL)
    (body : ∀ (p : Program) (e : Env) (s : State) (m : MethodId) (args : Array Value) (below : List Frame) (meth : Method) (c : Code) (A : Nat → Prop) (H0 : Heap) (ls : Array Slot) (Q : State → Prop), fxC D cI cZ p { frames := f, cells := 0, slots := 0, locals := lo } s m args c cc nL y.cls f lo → wdC D cI cZ ad A H0 g H0 [] → lv_has ls nL (lv_args 0 av) → rtCV D cI cZ ad p l e { frames := f, cells := 0, slots := 0, locals := lo } s m args below meth c cc A H0 Q K → W p l e { frames := f, cells := 0, slots := 0, locals := lo } s m args below meth c H0 [] 0 0 Q (F0 m 0 ls [])) : ctCV l y cc nL f lo D cI cZ ad av g K := by
  intro sz
  refine Met.ofW (cc := cc) (maxL := nL) (ret := none) hy rfl ?_
  intro p e s m args below meth c s₁ B hml hv
  obtain ⟨rfl, hsz, hP, hK, hD0, hN⟩ := hv
  have hx := B.exec
  have hb := B.bytes
  have hr := B.returns
  have hts := atoms_spec (ws := .code y cc nL none :: wGC) B.pre
  have hown : s.vm.findClass y.cls = some m.cls := findClass_of_methodNamed B.named
  have hlocks := B.notSynchronized
  subst hsz
  have hD := hD0.self (sz := s.heap.size)
  have hl := lv_entry av (n := nL) hlen
  rw [lg_entry_eq]
  refine body p e s m _ below meth c _ s.heap _ _ ⟨hx, hb, hml, hown, fun w h => hts w (List.mem_cons_of_mem _ h), hK, hN, Nat.le_refl _, Nat.le_refl _⟩ ⟨hP, hD, va_S.rf, fun q h => Or.inr h⟩ hl ?_
  intro g' H' locs' hk hwd pc' ls' hdg
  obtain ⟨hP9, hD9, hS9, -⟩ := hwd
  exact W.vret hx hb hr (fun t ht hW => ⟨⟨g', rfl, hk, by rw [ht]; exact hP9, va_K.moved hW.alike hK, hD9⟩, hS9.F ht⟩) hS9.2.2 hdg
