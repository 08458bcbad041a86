def nwM (U : State) : Prop := (∀ q ∈ nfM, va_Nw (.fieldLinkNest q.1 q.2.1 q.2.2.1 q.2.2.2.1 q.2.2.2.2.1 q.2.2.2.2.2) U) ∧ ∀ q ∈ nmM, va_Nw (.methodLinkNest q.1 q.2.1 q.2.2.1 q.2.2.2) U
theorem nwM_warm {s U : State} (hW : s.WarmedH U.vm) (h : nwM s) : nwM U := ⟨fun q hq => va_Nw.warmF hW (h.1 q hq), fun q hq => va_Nw.warmM hW (h.2 q hq)⟩
theorem nwM_same {s U : State} (hv : s.vm = U.vm) (h : nwM s) : nwM U := ⟨fun q hq => va_Nw.same rfl hv (h.1 q hq), fun q hq => va_Nw.same rfl hv (h.2 q hq)⟩
theorem nwM_f {s : State} {a b n d h : String} {i : Nat} (hN : nwM s) (hm : (a, i, b, n, d, h) ∈ nfM) : va_Nw (.fieldLinkNest a i b n d h) s := hN.1 _ hm
theorem nwM_m {s : State} {a h : String} {i : Nat} {y : MethodName} (hN : nwM s) (hm : (a, i, y, h) ∈ nmM) : va_Nw (.methodLinkNest a i y h) s := hN.2 _ hm
theorem goodM (ws : List Cond) (h : ∀ w ∈ ws, w ∈ wGM) : GoodIn wGM ws := fun w hw => ⟨h w hw, good_of_word (goodwM w (h w hw))⟩
def fxM (D : va_G) (cI cZ : ClassId) (p : Program) (R : Room) (s : State) (m : MethodId) (args : Array Value) (c : Code) (cc : ByteArray) (nL : Nat) (own : String) (fr lr : Nat) : Prop :=
  p.tables.exec = Jvm.exec ∧ c.code = cc ∧ c.maxLocals = nL ∧ s.vm.findClass own = some m.cls ∧ (∀ w ∈ wGM, w.before args s = true) ∧ va_K D clM [(cI, .int), (cZ, .boolean)] s ∧ nwM s ∧ (fr ≤ R.frames ∧ lr ≤ R.locals)
def wdM (D : va_G) (cI cZ : ClassId) (ad : Nat → Nat) (A : Nat → Prop) (H0 : Heap) (g : St) (H : Heap) (locs : List Loc) : Prop :=
  va_P D clM (gwM cI cZ ad g) H ∧ va_D A (gwM cI cZ ad g) ∧ va_S A H0 H locs ∧ ∀ q, H0.size ≤ q → A q
def pwM (D : va_G) (cI cZ : ClassId) (ad : Nat → Nat) (g : St) (sz : Nat) (U : State) : Prop :=
  U.heap.size = sz ∧ va_P D clM (gwM cI cZ ad g) U.heap ∧ va_K D clM [(cI, .int), (cZ, .boolean)] U ∧ va_D (fun _ => True) (gwM cI cZ ad g) ∧ nwM U
def bwM (D : va_G) (cI cZ : ClassId) (ad : Nat → Nat) (g : St) (sz : Nat) (g' : St) (t : State) : Prop :=
  va_P D clM (gwM cI cZ ad g') t.heap ∧ va_K D clM [(cI, .int), (cZ, .boolean)] t ∧ va_D (va_A (gwM cI cZ ad g) sz) (gwM cI cZ ad g')
def ctMI (l : Launch) (y : MethodName) (b : ByteArray) (nL f lo : Nat) (D : va_G) (cI cZ : ClassId) (ad : Nat → Nat) (av : List Value) (g : St) (K : Int32 → St → Prop) : Prop :=
  ∀ sz : Nat, Met l y (.code y b nL (some .int) :: wGM) { frames := f, cells := 0, slots := 0, locals := lo } (va_Pc av (pwM D cI cZ ad g sz)) (va_Qi K (bwM D cI cZ ad g sz) (va_A (gwM cI cZ ad g) sz)) 0 0 (va_A (gwM cI cZ ad g) sz)
def ctMZ (l : Launch) (y : MethodName) (b : ByteArray) (nL f lo : Nat) (D : va_G) (cI cZ : ClassId) (ad : Nat → Nat) (av : List Value) (g : St) (K : Int32 → St → Prop) : Prop :=
  ∀ sz : Nat, Met l y (.code y b nL (some .boolean) :: wGM) { frames := f, cells := 0, slots := 0, locals := lo } (va_Pc av (pwM D cI cZ ad g sz)) (va_Qi K (bwM D cI cZ ad g sz) (va_A (gwM cI cZ ad g) sz)) 0 0 (va_A (gwM cI cZ ad g) sz)
def ctMJ (l : Launch) (y : MethodName) (b : ByteArray) (nL f lo : Nat) (D : va_G) (cI cZ : ClassId) (ad : Nat → Nat) (av : List Value) (g : St) (K : Int64 → St → Prop) : Prop :=
  ∀ sz : Nat, Met l y (.code y b nL (some .long) :: wGM) { frames := f, cells := 0, slots := 0, locals := lo } (va_Pc av (pwM D cI cZ ad g sz)) (va_Ql K (bwM D cI cZ ad g sz) (va_A (gwM cI cZ ad g) sz)) 0 0 (va_A (gwM cI cZ ad g) sz)
def ctMV (l : Launch) (y : MethodName) (b : ByteArray) (nL f lo : Nat) (D : va_G) (cI cZ : ClassId) (ad : Nat → Nat) (av : List Value) (g : St) (K : St → Prop) : Prop :=
  ∀ sz : Nat, Met l y (.code y b nL none :: wGM) { frames := f, cells := 0, slots := 0, locals := lo } (va_Pc av (pwM D cI cZ ad g sz)) (va_Qv K (bwM D cI cZ ad g sz) (va_A (gwM cI cZ ad g) sz)) 0 0 (va_A (gwM cI cZ ad g) sz)

section ROWSM
variable {p : Program} {l : Launch} {e : Env} {R : Room} {s : State} {m : MethodId} {args : Array Value} {below : List Frame} {meth : Method} {c : Code} {H : Heap} {locs : List Loc} {Q : State → Prop}
variable {D : va_G} {cI cZ : ClassId} {ad : Nat → Nat} {A : Nat → Prop} {H0 : Heap} {cc : ByteArray} {pc nL fr lr : Nat} {own : String} {ls : Array Slot} {rest : List Value} {g : St}

def rtMI (D : va_G) (cI cZ : ClassId) (ad : Nat → Nat) (p : Program) (l : Launch) (e : Env) (R : Room) (s : State) (m : MethodId) (args : Array Value) (below : List Frame) (meth : Method) (c : Code) (cc : ByteArray) (A : Nat → Prop) (H0 : Heap) (Q : State → Prop) (K : Int32 → St → Prop) : Prop :=
  ∀ (r : Int32) (g' : St) (H' : Heap) (locs' : List Loc), K r g' → wdM D cI cZ ad A H0 g' H' locs' → ∀ (pc' : Nat) (ls' : Array Slot), decode cc pc' = .ok (.ireturn, 1) → W p l e R s m args below meth c H' locs' 0 0 Q (F0 m pc' ls' [.int r])
def rtMZ (D : va_G) (cI cZ : ClassId) (ad : Nat → Nat) (p : Program) (l : Launch) (e : Env) (R : Room) (s : State) (m : MethodId) (args : Array Value) (below : List Frame) (meth : Method) (c : Code) (cc : ByteArray) (A : Nat → Prop) (H0 : Heap) (Q : State → Prop) (K : Int32 → St → Prop) : Prop :=
  ∀ (r : Int32) (g' : St) (H' : Heap) (locs' : List Loc), K r g' → (r = 0 ∨ r = 1) → wdM D cI cZ ad A H0 g' H' locs' → ∀ (pc' : Nat) (ls' : Array Slot), decode cc pc' = .ok (.ireturn, 1) → W p l e R s m args below meth c H' locs' 0 0 Q (F0 m pc' ls' [.int r])
def rtMJ (D : va_G) (cI cZ : ClassId) (ad : Nat → Nat) (p : Program) (l : Launch) (e : Env) (R : Room) (s : State) (m : MethodId) (args : Array Value) (below : List Frame) (meth : Method) (c : Code) (cc : ByteArray) (A : Nat → Prop) (H0 : Heap) (Q : State → Prop) (K : Int64 → St → Prop) : Prop :=
  ∀ (r : Int64) (g' : St) (H' : Heap) (locs' : List Loc), K r g' → wdM D cI cZ ad A H0 g' H' locs' → ∀ (pc' : Nat) (ls' : Array Slot), decode cc pc' = .ok (.lreturn, 1) → W p l e R s m args below meth c H' locs' 0 0 Q (F0 m pc' ls' [.long r])
def rtMV (D : va_G) (cI cZ : ClassId) (ad : Nat → Nat) (p : Program) (l : Launch) (e : Env) (R : Room) (s : State) (m : MethodId) (args : Array Value) (below : List Frame) (meth : Method) (c : Code) (cc : ByteArray) (A : Nat → Prop) (H0 : Heap) (Q : State → Prop) (K : St → Prop) : Prop :=
  ∀ (g' : St) (H' : Heap) (locs' : List Loc), K g' → wdM D cI cZ ad A H0 g' H' locs' → ∀ (pc' : Nat) (ls' : Array Slot), decode cc pc' = .ok (.return_, 1) → W p l e R s m args below meth c H' locs' 0 0 Q (F0 m pc' ls' [])

theorem prM_V {C : String} {T : u_T} {N ci k : Nat} {b : Nat} {fs As : List Value} (hK : va_K D clM [(cI, .int), (cZ, .boolean)] s) (hN : nwM s) (hwd : wdM D cI cZ ad A H0 g H locs) (hc : clM[ci]? = some (C, T, N)) (he : (gwM cI cZ ad g)[k]? = some (b, .inr (ci, fs))) : PreV s H C b (va_Pc (.ref b :: As) (pwM D cI cZ ad g H.size)) As :=
  ⟨fun a U g mk q => by
      obtain ⟨q0, q1, qP, qK, qD, qN⟩ := q
      exact ⟨q0, q1, qP, va_K.moved (u := U) (U := U.calling g mk a) (Vm.Alike.refl U.vm) qK, qD, nwM_same (s := U) (U := U.calling g mk a) rfl qN⟩,
    va_recv hK hwd.1 hc he,
    fun U hU hW => ⟨rfl, by rw [hU], by rw [hU]; exact hwd.1, va_K.moved hW.alike hK, hwd.2.1.weaken (fun _ _ _ _ => trivial), nwM_warm hW hN⟩⟩
theorem prM_S {As : List Value} (hK : va_K D clM [(cI, .int), (cZ, .boolean)] s) (hN : nwM s) (hwd : wdM D cI cZ ad A H0 g H locs) : PreS s H (va_Pc As (pwM D cI cZ ad g H.size)) As :=
  ⟨fun a U g mk q => by
      obtain ⟨q0, q1, qP, qK, qD, qN⟩ := q
      exact ⟨q0, q1, qP, va_K.moved (u := U) (U := U.calling g mk a) (Vm.Alike.refl U.vm) qK, qD, nwM_same (s := U) (U := U.calling g mk a) rfl qN⟩,
    fun U hU hW => ⟨rfl, by rw [hU], by rw [hU]; exact hwd.1, va_K.moved hW.alike hK, hwd.2.1.weaken (fun _ _ _ _ => trivial), nwM_warm hW hN⟩⟩
theorem wdM_free (hwd : wdM D cI cZ ad A H0 g H locs) : ∀ q, va_A (gwM cI cZ ad g) H.size q → A q := by
  obtain ⟨hP, hD, hS, hA⟩ := hwd
  rintro q (⟨k, e, h⟩ | h)
  · exact hD.2 k _ h
  · exact hA q (Nat.le_trans hS.1 h)
theorem afM_I {K : Int32 → St → Prop} {a : Array Value} {st0 : List Value} (hwd : wdM D cI cZ ad A H0 g H locs) (hr : va_Run p l e R s m args below meth c H locs 0 0 0 0 (F0 m pc ls st0) rest (va_Qi K (bwM D cI cZ ad g H.size) (va_A (gwM cI cZ ad g) H.size) a) (va_A (gwM cI cZ ad g) H.size))
    (kk : ∀ (r : Int32) (g' : St) (H' : Heap) (locs' : List Loc), K r g' → wdM D cI cZ ad A H0 g' H' locs' → W p l e R s m args below meth c H' locs' 0 0 Q (F0 m (pc + 3) ls (.int r :: rest))) : W p l e R s m args below meth c H locs 0 0 Q (F0 m pc ls st0) := by
  have hfc := wdM_free hwd
  obtain ⟨hP, hD, hS, hA⟩ := hwd
  refine va_calli hr hS (fun q _ h => hfc q h) hfc (fun r u t H1 locs1 ht hvm hw hB hz1 hk1 hS1 => ?_)
  obtain ⟨hP1, hK1, hD1⟩ := hB
  rw [ht] at hP1
  exact kk r u H1 locs1 hw ⟨hP1, hD1.weaken (fun _ _ _ h => hfc _ h), hS1, hA⟩
theorem afM_J {K : Int64 → St → Prop} {a : Array Value} {st0 : List Value} (hwd : wdM D cI cZ ad A H0 g H locs) (hr : va_Run p l e R s m args below meth c H locs 0 0 0 0 (F0 m pc ls st0) rest (va_Ql K (bwM D cI cZ ad g H.size) (va_A (gwM cI cZ ad g) H.size) a) (va_A (gwM cI cZ ad g) H.size))
    (kk : ∀ (r : Int64) (g' : St) (H' : Heap) (locs' : List Loc), K r g' → wdM D cI cZ ad A H0 g' H' locs' → W p l e R s m args below meth c H' locs' 0 0 Q (F0 m (pc + 3) ls (.long r :: rest))) : W p l e R s m args below meth c H locs 0 0 Q (F0 m pc ls st0) := by
  have hfc := wdM_free hwd
  obtain ⟨hP, hD, hS, hA⟩ := hwd
  refine va_calll hr hS (fun q _ h => hfc q h) hfc (fun r u t H1 locs1 ht hvm hw hB hz1 hk1 hS1 => ?_)
  obtain ⟨hP1, hK1, hD1⟩ := hB
  rw [ht] at hP1
  exact kk r u H1 locs1 hw ⟨hP1, hD1.weaken (fun _ _ _ h => hfc _ h), hS1, hA⟩
theorem afM_V {K : St → Prop} {a : Array Value} {st0 : List Value} (hwd : wdM D cI cZ ad A H0 g H locs) (hr : va_Run p l e R s m args below meth c H locs 0 0 0 0 (F0 m pc ls st0) rest (va_Qv K (bwM D cI cZ ad g H.size) (va_A (gwM cI cZ ad g) H.size) a) (va_A (gwM cI cZ ad g) H.size))
    (kk : ∀ (g' : St) (H' : Heap) (locs' : List Loc), K g' → wdM D cI cZ ad A H0 g' H' locs' → W p l e R s m args below meth c H' locs' 0 0 Q (F0 m (pc + 3) ls (rest))) : W p l e R s m args below meth c H locs 0 0 Q (F0 m pc ls st0) := by
  have hfc := wdM_free hwd
  obtain ⟨hP, hD, hS, hA⟩ := hwd
  refine va_callv hr hS (fun q _ h => hfc q h) hfc (fun u t H1 locs1 ht hvm hw hB hz1 hk1 hS1 => ?_)
  obtain ⟨hP1, hK1, hD1⟩ := hB
  rw [ht] at hP1
  exact kk u H1 locs1 hw ⟨hP1, hD1.weaken (fun _ _ _ h => hfc _ h), hS1, hA⟩
theorem gfM_Mo_71 (F : fxM D cI cZ p R s m args c cc nL R_Mo fr lr) (hwd : wdM D cI cZ ad A H0 g H locs) (hdg : decode cc pc = .ok (.getfield 71, 3)) (k : W p l e R s m args below meth c H locs 0 0 Q (F0 m (pc + 3) ls (.int (g 100 0) :: rest))) : W p l e R s m args below meth c H locs 0 0 Q (F0 m pc ls (.ref (ad 0) :: rest)) := by
  obtain ⟨hx, hb, hml, hown, hts, hK, hN, hR⟩ := F
  exact va_get (D := D) (ci := 0) (v := .int (g 100 0)) (C := R_Mo) (T := F_Mo) (N := 29) hx hb hts in_Mo hown hK hwd.1 0 rfl rfl 0 (by decide) (hts _ kM_32) (fun _ h9 => h9) rfl hdg k

theorem gfM_Mo_7 (F : fxM D cI cZ p R s m args c cc nL R_Mo fr lr) (hwd : wdM D cI cZ ad A H0 g H locs) (hdg : decode cc pc = .ok (.getfield 7, 3)) (k : W p l e R s m args below meth c H locs 0 0 Q (F0 m (pc + 3) ls (.ref (ad 1) :: rest))) : W p l e R s m args below meth c H locs 0 0 Q (F0 m pc ls (.ref (ad 0) :: rest)) := by
  obtain ⟨hx, hb, hml, hown, hts, hK, hN, hR⟩ := F
  exact va_get (D := D) (ci := 0) (v := .ref (ad 1)) (C := R_Mo) (T := F_Mo) (N := 29) hx hb hts in_Mo hown hK hwd.1 0 rfl rfl 1 (by decide) (hts _ kM_10) (fun _ h9 => h9) rfl hdg k

theorem gfM_Mo_16 (F : fxM D cI cZ p R s m args c cc nL R_Mo fr lr) (hwd : wdM D cI cZ ad A H0 g H locs) (hdg : decode cc pc = .ok (.getfield 16, 3)) (k : W p l e R s m args below meth c H locs 0 0 Q (F0 m (pc + 3) ls (.ref (ad 3) :: rest))) : W p l e R s m args below meth c H locs 0 0 Q (F0 m pc ls (.ref (ad 0) :: rest)) := by
  obtain ⟨hx, hb, hml, hown, hts, hK, hN, hR⟩ := F
  exact va_get (D := D) (ci := 0) (v := .ref (ad 3)) (C := R_Mo) (T := F_Mo) (N := 29) hx hb hts in_Mo hown hK hwd.1 0 rfl rfl 3 (by decide) (hts _ kM_12) (fun _ h9 => h9) rfl hdg k

theorem gfM_Mo_13 (F : fxM D cI cZ p R s m args c cc nL R_Mo fr lr) (hwd : wdM D cI cZ ad A H0 g H locs) (hdg : decode cc pc = .ok (.getfield 13, 3)) (k : W p l e R s m args below meth c H locs 0 0 Q (F0 m (pc + 3) ls (.ref (ad 2) :: rest))) : W p l e R s m args below meth c H locs 0 0 Q (F0 m pc ls (.ref (ad 0) :: rest)) := by
  obtain ⟨hx, hb, hml, hown, hts, hK, hN, hR⟩ := F
  exact va_get (D := D) (ci := 0) (v := .ref (ad 2)) (C := R_Mo) (T := F_Mo) (N := 29) hx hb hts in_Mo hown hK hwd.1 0 rfl rfl 2 (by decide) (hts _ kM_11) (fun _ h9 => h9) rfl hdg k

theorem gfM_Mo_19 (F : fxM D cI cZ p R s m args c cc nL R_Mo fr lr) (hwd : wdM D cI cZ ad A H0 g H locs) (hdg : decode cc pc = .ok (.getfield 19, 3)) (k : W p l e R s m args below meth c H locs 0 0 Q (F0 m (pc + 3) ls (.ref (ad 4) :: rest))) : W p l e R s m args below meth c H locs 0 0 Q (F0 m pc ls (.ref (ad 0) :: rest)) := by
  obtain ⟨hx, hb, hml, hown, hts, hK, hN, hR⟩ := F
  exact va_get (D := D) (ci := 0) (v := .ref (ad 4)) (C := R_Mo) (T := F_Mo) (N := 29) hx hb hts in_Mo hown hK hwd.1 0 rfl rfl 4 (by decide) (hts _ kM_13) (fun _ h9 => h9) rfl hdg k

theorem gfM_Mo_22 (F : fxM D cI cZ p R s m args c cc nL R_Mo fr lr) (hwd : wdM D cI cZ ad A H0 g H locs) (hdg : decode cc pc = .ok (.getfield 22, 3)) (k : W p l e R s m args below meth c H locs 0 0 Q (F0 m (pc + 3) ls (.ref (ad 5) :: rest))) : W p l e R s m args below meth c H locs 0 0 Q (F0 m pc ls (.ref (ad 0) :: rest)) := by
  obtain ⟨hx, hb, hml, hown, hts, hK, hN, hR⟩ := F
  exact va_get (D := D) (ci := 0) (v := .ref (ad 5)) (C := R_Mo) (T := F_Mo) (N := 29) hx hb hts in_Mo hown hK hwd.1 0 rfl rfl 5 (by decide) (hts _ kM_14) (fun _ h9 => h9) rfl hdg k

theorem gfM_Mo_81 (F : fxM D cI cZ p R s m args c cc nL R_Mo fr lr) (hwd : wdM D cI cZ ad A H0 g H locs) (hdg : decode cc pc = .ok (.getfield 81, 3)) (k : W p l e R s m args below meth c H locs 0 0 Q (F0 m (pc + 3) ls (.int (g 101 0) :: rest))) : W p l e R s m args below meth c H locs 0 0 Q (F0 m pc ls (.ref (ad 0) :: rest)) := by
  obtain ⟨hx, hb, hml, hown, hts, hK, hN, hR⟩ := F
  exact va_get (D := D) (ci := 0) (v := .int (g 101 0)) (C := R_Mo) (T := F_Mo) (N := 29) hx hb hts in_Mo hown hK hwd.1 0 rfl rfl 6 (by decide) (hts _ kM_33) (fun _ h9 => h9) rfl hdg k

theorem gfM_Mo_25 (F : fxM D cI cZ p R s m args c cc nL R_Mo fr lr) (hwd : wdM D cI cZ ad A H0 g H locs) (hdg : decode cc pc = .ok (.getfield 25, 3)) (k : W p l e R s m args below meth c H locs 0 0 Q (F0 m (pc + 3) ls (.ref (ad 6) :: rest))) : W p l e R s m args below meth c H locs 0 0 Q (F0 m pc ls (.ref (ad 0) :: rest)) := by
  obtain ⟨hx, hb, hml, hown, hts, hK, hN, hR⟩ := F
  exact va_get (D := D) (ci := 0) (v := .ref (ad 6)) (C := R_Mo) (T := F_Mo) (N := 29) hx hb hts in_Mo hown hK hwd.1 0 rfl rfl 7 (by decide) (hts _ kM_15) (fun _ h9 => h9) rfl hdg k

theorem gfM_Mo_31 (F : fxM D cI cZ p R s m args c cc nL R_Mo fr lr) (hwd : wdM D cI cZ ad A H0 g H locs) (hdg : decode cc pc = .ok (.getfield 31, 3)) (k : W p l e R s m args below meth c H locs 0 0 Q (F0 m (pc + 3) ls (.ref (ad 8) :: rest))) : W p l e R s m args below meth c H locs 0 0 Q (F0 m pc ls (.ref (ad 0) :: rest)) := by
  obtain ⟨hx, hb, hml, hown, hts, hK, hN, hR⟩ := F
  exact va_get (D := D) (ci := 0) (v := .ref (ad 8)) (C := R_Mo) (T := F_Mo) (N := 29) hx hb hts in_Mo hown hK hwd.1 0 rfl rfl 9 (by decide) (hts _ kM_18) (fun _ h9 => h9) rfl hdg k

theorem gfM_Mo_35 (F : fxM D cI cZ p R s m args c cc nL R_Mo fr lr) (hwd : wdM D cI cZ ad A H0 g H locs) (hdg : decode cc pc = .ok (.getfield 35, 3)) (k : W p l e R s m args below meth c H locs 0 0 Q (F0 m (pc + 3) ls (.ref (ad 9) :: rest))) : W p l e R s m args below meth c H locs 0 0 Q (F0 m pc ls (.ref (ad 0) :: rest)) := by
  obtain ⟨hx, hb, hml, hown, hts, hK, hN, hR⟩ := F
  exact va_get (D := D) (ci := 0) (v := .ref (ad 9)) (C := R_Mo) (T := F_Mo) (N := 29) hx hb hts in_Mo hown hK hwd.1 0 rfl rfl 10 (by decide) (hts _ kM_19) (fun _ h9 => h9) rfl hdg k

theorem gfM_Mo_38 (F : fxM D cI cZ p R s m args c cc nL R_Mo fr lr) (hwd : wdM D cI cZ ad A H0 g H locs) (hdg : decode cc pc = .ok (.getfield 38, 3)) (k : W p l e R s m args below meth c H locs 0 0 Q (F0 m (pc + 3) ls (.ref (ad 10) :: rest))) : W p l e R s m args below meth c H locs 0 0 Q (F0 m pc ls (.ref (ad 0) :: rest)) := by
  obtain ⟨hx, hb, hml, hown, hts, hK, hN, hR⟩ := F
  exact va_get (D := D) (ci := 0) (v := .ref (ad 10)) (C := R_Mo) (T := F_Mo) (N := 29) hx hb hts in_Mo hown hK hwd.1 0 rfl rfl 11 (by decide) (hts _ kM_20) (fun _ h9 => h9) rfl hdg k

theorem gfM_Mo_47 (F : fxM D cI cZ p R s m args c cc nL R_Mo fr lr) (hwd : wdM D cI cZ ad A H0 g H locs) (hdg : decode cc pc = .ok (.getfield 47, 3)) (k : W p l e R s m args below meth c H locs 0 0 Q (F0 m (pc + 3) ls (.ref (ad 13) :: rest))) : W p l e R s m args below meth c H locs 0 0 Q (F0 m pc ls (.ref (ad 0) :: rest)) := by
  obtain ⟨hx, hb, hml, hown, hts, hK, hN, hR⟩ := F
  exact va_get (D := D) (ci := 0) (v := .ref (ad 13)) (C := R_Mo) (T := F_Mo) (N := 29) hx hb hts in_Mo hown hK hwd.1 0 rfl rfl 15 (by decide) (hts _ kM_23) (fun _ h9 => h9) rfl hdg k

theorem gfM_Mo_44 (F : fxM D cI cZ p R s m args c cc nL R_Mo fr lr) (hwd : wdM D cI cZ ad A H0 g H locs) (hdg : decode cc pc = .ok (.getfield 44, 3)) (k : W p l e R s m args below meth c H locs 0 0 Q (F0 m (pc + 3) ls (.ref (ad 12) :: rest))) : W p l e R s m args below meth c H locs 0 0 Q (F0 m pc ls (.ref (ad 0) :: rest)) := by
  obtain ⟨hx, hb, hml, hown, hts, hK, hN, hR⟩ := F
  exact va_get (D := D) (ci := 0) (v := .ref (ad 12)) (C := R_Mo) (T := F_Mo) (N := 29) hx hb hts in_Mo hown hK hwd.1 0 rfl rfl 14 (by decide) (hts _ kM_22) (fun _ h9 => h9) rfl hdg k

theorem gfM_Mo_56 (F : fxM D cI cZ p R s m args c cc nL R_Mo fr lr) (hwd : wdM D cI cZ ad A H0 g H locs) (hdg : decode cc pc = .ok (.getfield 56, 3)) (k : W p l e R s m args below meth c H locs 0 0 Q (F0 m (pc + 3) ls (.ref (ad 16) :: rest))) : W p l e R s m args below meth c H locs 0 0 Q (F0 m pc ls (.ref (ad 0) :: rest)) := by
  obtain ⟨hx, hb, hml, hown, hts, hK, hN, hR⟩ := F
  exact va_get (D := D) (ci := 0) (v := .ref (ad 16)) (C := R_Mo) (T := F_Mo) (N := 29) hx hb hts in_Mo hown hK hwd.1 0 rfl rfl 19 (by decide) (hts _ kM_26) (fun _ h9 => h9) rfl hdg k

theorem gfM_Mo_95 (F : fxM D cI cZ p R s m args c cc nL R_Mo fr lr) (hwd : wdM D cI cZ ad A H0 g H locs) (hdg : decode cc pc = .ok (.getfield 95, 3)) (k : W p l e R s m args below meth c H locs 0 0 Q (F0 m (pc + 3) ls (.int (g 103 0) :: rest))) : W p l e R s m args below meth c H locs 0 0 Q (F0 m pc ls (.ref (ad 0) :: rest)) := by
  obtain ⟨hx, hb, hml, hown, hts, hK, hN, hR⟩ := F
  exact va_get (D := D) (ci := 0) (v := .int (g 103 0)) (C := R_Mo) (T := F_Mo) (N := 29) hx hb hts in_Mo hown hK hwd.1 0 rfl rfl 16 (by decide) (hts _ kM_34) (fun _ h9 => h9) rfl hdg k

theorem gfM_Mo_41 (F : fxM D cI cZ p R s m args c cc nL R_Mo fr lr) (hwd : wdM D cI cZ ad A H0 g H locs) (hdg : decode cc pc = .ok (.getfield 41, 3)) (k : W p l e R s m args below meth c H locs 0 0 Q (F0 m (pc + 3) ls (.ref (ad 11) :: rest))) : W p l e R s m args below meth c H locs 0 0 Q (F0 m pc ls (.ref (ad 0) :: rest)) := by
  obtain ⟨hx, hb, hml, hown, hts, hK, hN, hR⟩ := F
  exact va_get (D := D) (ci := 0) (v := .ref (ad 11)) (C := R_Mo) (T := F_Mo) (N := 29) hx hb hts in_Mo hown hK hwd.1 0 rfl rfl 12 (by decide) (hts _ kM_21) (fun _ h9 => h9) rfl hdg k

theorem gfM_Mo_59 (F : fxM D cI cZ p R s m args c cc nL R_Mo fr lr) (hwd : wdM D cI cZ ad A H0 g H locs) (hdg : decode cc pc = .ok (.getfield 59, 3)) (k : W p l e R s m args below meth c H locs 0 0 Q (F0 m (pc + 3) ls (.ref (ad 17) :: rest))) : W p l e R s m args below meth c H locs 0 0 Q (F0 m pc ls (.ref (ad 0) :: rest)) := by
  obtain ⟨hx, hb, hml, hown, hts, hK, hN, hR⟩ := F
  exact va_get (D := D) (ci := 0) (v := .ref (ad 17)) (C := R_Mo) (T := F_Mo) (N := 29) hx hb hts in_Mo hown hK hwd.1 0 rfl rfl 20 (by decide) (hts _ kM_27) (fun _ h9 => h9) rfl hdg k

theorem gfM_Mo_112 (F : fxM D cI cZ p R s m args c cc nL R_Mo fr lr) (hwd : wdM D cI cZ ad A H0 g H locs) (hdg : decode cc pc = .ok (.getfield 112, 3)) (k : W p l e R s m args below meth c H locs 0 0 Q (F0 m (pc + 3) ls (.int (g 104 0) :: rest))) : W p l e R s m args below meth c H locs 0 0 Q (F0 m pc ls (.ref (ad 0) :: rest)) := by
  obtain ⟨hx, hb, hml, hown, hts, hK, hN, hR⟩ := F
  exact va_get (D := D) (ci := 0) (v := .int (g 104 0)) (C := R_Mo) (T := F_Mo) (N := 29) hx hb hts in_Mo hown hK hwd.1 0 rfl rfl 21 (by decide) (hts _ kM_35) (fun _ h9 => h9) rfl hdg k

theorem gfM_Mo_115 (F : fxM D cI cZ p R s m args c cc nL R_Mo fr lr) (hwd : wdM D cI cZ ad A H0 g H locs) (hdg : decode cc pc = .ok (.getfield 115, 3)) (k : W p l e R s m args below meth c H locs 0 0 Q (F0 m (pc + 3) ls (.int (g 106 0) :: rest))) : W p l e R s m args below meth c H locs 0 0 Q (F0 m pc ls (.ref (ad 0) :: rest)) := by
  obtain ⟨hx, hb, hml, hown, hts, hK, hN, hR⟩ := F
  exact va_get (D := D) (ci := 0) (v := .int (g 106 0)) (C := R_Mo) (T := F_Mo) (N := 29) hx hb hts in_Mo hown hK hwd.1 0 rfl rfl 26 (by decide) (hts _ kM_36) (fun _ h9 => h9) rfl hdg k

theorem gfM_Mo_65 (F : fxM D cI cZ p R s m args c cc nL R_Mo fr lr) (hwd : wdM D cI cZ ad A H0 g H locs) (hdg : decode cc pc = .ok (.getfield 65, 3)) (k : W p l e R s m args below meth c H locs 0 0 Q (F0 m (pc + 3) ls (.ref (ad 19) :: rest))) : W p l e R s m args below meth c H locs 0 0 Q (F0 m pc ls (.ref (ad 0) :: rest)) := by
  obtain ⟨hx, hb, hml, hown, hts, hK, hN, hR⟩ := F
  exact va_get (D := D) (ci := 0) (v := .ref (ad 19)) (C := R_Mo) (T := F_Mo) (N := 29) hx hb hts in_Mo hown hK hwd.1 0 rfl rfl 24 (by decide) (hts _ kM_29) (fun _ h9 => h9) rfl hdg k

theorem gfM_Mo_68 (F : fxM D cI cZ p R s m args c cc nL R_Mo fr lr) (hwd : wdM D cI cZ ad A H0 g H locs) (hdg : decode cc pc = .ok (.getfield 68, 3)) (k : W p l e R s m args below meth c H locs 0 0 Q (F0 m (pc + 3) ls (.ref (ad 20) :: rest))) : W p l e R s m args below meth c H locs 0 0 Q (F0 m pc ls (.ref (ad 0) :: rest)) := by
  obtain ⟨hx, hb, hml, hown, hts, hK, hN, hR⟩ := F
  exact va_get (D := D) (ci := 0) (v := .ref (ad 20)) (C := R_Mo) (T := F_Mo) (N := 29) hx hb hts in_Mo hown hK hwd.1 0 rfl rfl 25 (by decide) (hts _ kM_30) (fun _ h9 => h9) rfl hdg k

theorem gfM_Mo_53 (F : fxM D cI cZ p R s m args c cc nL R_Mo fr lr) (hwd : wdM D cI cZ ad A H0 g H locs) (hdg : decode cc pc = .ok (.getfield 53, 3)) (k : W p l e R s m args below meth c H locs 0 0 Q (F0 m (pc + 3) ls (.ref (ad 15) :: rest))) : W p l e R s m args below meth c H locs 0 0 Q (F0 m pc ls (.ref (ad 0) :: rest)) := by
  obtain ⟨hx, hb, hml, hown, hts, hK, hN, hR⟩ := F
  exact va_get (D := D) (ci := 0) (v := .ref (ad 15)) (C := R_Mo) (T := F_Mo) (N := 29) hx hb hts in_Mo hown hK hwd.1 0 rfl rfl 18 (by decide) (hts _ kM_25) (fun _ h9 => h9) rfl hdg k

theorem gfM_Mo_129 (F : fxM D cI cZ p R s m args c cc nL R_Mo fr lr) (hwd : wdM D cI cZ ad A H0 g H locs) (hdg : decode cc pc = .ok (.getfield 129, 3)) (k : W p l e R s m args below meth c H locs 0 0 Q (F0 m (pc + 3) ls (.int (g 105 0) :: rest))) : W p l e R s m args below meth c H locs 0 0 Q (F0 m pc ls (.ref (ad 0) :: rest)) := by
  obtain ⟨hx, hb, hml, hown, hts, hK, hN, hR⟩ := F
  exact va_get (D := D) (ci := 0) (v := .int (g 105 0)) (C := R_Mo) (T := F_Mo) (N := 29) hx hb hts in_Mo hown hK hwd.1 0 rfl rfl 22 (by decide) (hts _ kM_37) (fun _ h9 => h9) rfl hdg k

theorem gfM_Mo_50 (F : fxM D cI cZ p R s m args c cc nL R_Mo fr lr) (hwd : wdM D cI cZ ad A H0 g H locs) (hdg : decode cc pc = .ok (.getfield 50, 3)) (k : W p l e R s m args below meth c H locs 0 0 Q (F0 m (pc + 3) ls (.ref (ad 14) :: rest))) : W p l e R s m args below meth c H locs 0 0 Q (F0 m pc ls (.ref (ad 0) :: rest)) := by
  obtain ⟨hx, hb, hml, hown, hts, hK, hN, hR⟩ := F
  exact va_get (D := D) (ci := 0) (v := .ref (ad 14)) (C := R_Mo) (T := F_Mo) (N := 29) hx hb hts in_Mo hown hK hwd.1 0 rfl rfl 17 (by decide) (hts _ kM_24) (fun _ h9 => h9) rfl hdg k

theorem gfM_Mo_62 (F : fxM D cI cZ p R s m args c cc nL R_Mo fr lr) (hwd : wdM D cI cZ ad A H0 g H locs) (hdg : decode cc pc = .ok (.getfield 62, 3)) (k : W p l e R s m args below meth c H locs 0 0 Q (F0 m (pc + 3) ls (.ref (ad 18) :: rest))) : W p l e R s m args below meth c H locs 0 0 Q (F0 m pc ls (.ref (ad 0) :: rest)) := by
  obtain ⟨hx, hb, hml, hown, hts, hK, hN, hR⟩ := F
  exact va_get (D := D) (ci := 0) (v := .ref (ad 18)) (C := R_Mo) (T := F_Mo) (N := 29) hx hb hts in_Mo hown hK hwd.1 0 rfl rfl 23 (by decide) (hts _ kM_28) (fun _ h9 => h9) rfl hdg k

theorem gfM_Mo_28 (F : fxM D cI cZ p R s m args c cc nL R_Mo fr lr) (hwd : wdM D cI cZ ad A H0 g H locs) (hdg : decode cc pc = .ok (.getfield 28, 3)) (k : W p l e R s m args below meth c H locs 0 0 Q (F0 m (pc + 3) ls (.ref (ad 7) :: rest))) : W p l e R s m args below meth c H locs 0 0 Q (F0 m pc ls (.ref (ad 0) :: rest)) := by
  obtain ⟨hx, hb, hml, hown, hts, hK, hN, hR⟩ := F
  exact va_get (D := D) (ci := 0) (v := .ref (ad 7)) (C := R_Mo) (T := F_Mo) (N := 29) hx hb hts in_Mo hown hK hwd.1 0 rfl rfl 8 (by decide) (hts _ kM_16) (fun _ h9 => h9) rfl hdg k

theorem gfM_Mo_142 (F : fxM D cI cZ p R s m args c cc nL R_Mo fr lr) (hwd : wdM D cI cZ ad A H0 g H locs) (hdg : decode cc pc = .ok (.getfield 142, 3)) (k : W p l e R s m args below meth c H locs 0 0 Q (F0 m (pc + 3) ls (.int (g 102 0) :: rest))) : W p l e R s m args below meth c H locs 0 0 Q (F0 m pc ls (.ref (ad 0) :: rest)) := by
  obtain ⟨hx, hb, hml, hown, hts, hK, hN, hR⟩ := F
  exact va_get (D := D) (ci := 0) (v := .int (g 102 0)) (C := R_Mo) (T := F_Mo) (N := 29) hx hb hts in_Mo hown hK hwd.1 0 rfl rfl 13 (by decide) (hts _ kM_38) (fun _ h9 => h9) rfl hdg k

theorem gfM_Mo_171 (F : fxM D cI cZ p R s m args c cc nL R_Mo fr lr) (hwd : wdM D cI cZ ad A H0 g H locs) (hdg : decode cc pc = .ok (.getfield 171, 3)) (k : W p l e R s m args below meth c H locs 0 0 Q (F0 m (pc + 3) ls (.int (g 108 0) :: rest))) : W p l e R s m args below meth c H locs 0 0 Q (F0 m pc ls (.ref (ad 0) :: rest)) := by
  obtain ⟨hx, hb, hml, hown, hts, hK, hN, hR⟩ := F
  exact va_get (D := D) (ci := 0) (v := .int (g 108 0)) (C := R_Mo) (T := F_Mo) (N := 29) hx hb hts in_Mo hown hK hwd.1 0 rfl rfl 28 (by decide) (hts _ kM_39) (fun _ h9 => h9) rfl hdg k

theorem gfM_Mo_168 (F : fxM D cI cZ p R s m args c cc nL R_Mo fr lr) (hwd : wdM D cI cZ ad A H0 g H locs) (hdg : decode cc pc = .ok (.getfield 168, 3)) (k : W p l e R s m args below meth c H locs 0 0 Q (F0 m (pc + 3) ls (.int (g 107 0) :: rest))) : W p l e R s m args below meth c H locs 0 0 Q (F0 m pc ls (.ref (ad 0) :: rest)) := by
  obtain ⟨hx, hb, hml, hown, hts, hK, hN, hR⟩ := F
  exact va_get (D := D) (ci := 0) (v := .int (g 107 0)) (C := R_Mo) (T := F_Mo) (N := 29) hx hb hts in_Mo hown hK hwd.1 0 rfl rfl 27 (by decide) (hts _ kM_40) (fun _ h9 => h9) rfl hdg k

theorem pfM_Mo_71 {v : Int32} (F : fxM D cI cZ p R s m args c cc nL R_Mo fr lr) (hwd : wdM D cI cZ ad A H0 g H locs) (hdg : decode cc pc = .ok (.putfield 71, 3)) (k : ∀ (H : Heap) (locs : List Loc), wdM D cI cZ ad A H0 (sc g 100 v) H locs → W p l e R s m args below meth c H locs 0 0 Q (F0 m (pc + 3) ls rest)) : W p l e R s m args below meth c H locs 0 0 Q (F0 m pc ls (.int v :: .ref (ad 0) :: rest)) := by
  obtain ⟨hx, hb, hml, hown, hts, hK, hN, hR⟩ := F
  obtain ⟨hP, hD, hS, hA⟩ := hwd
  exact va_put (D := D) (ci := 0) (v := .int v) (ty := .int) (C := R_Mo) (T := F_Mo) (N := 29) hx hb hts in_Mo t_Mo t_Mo_ok n_Mo hown hK hP hD hS 0 rfl rfl 0 (by decide) (hts _ kM_32) (fun _ h9 => h9) rfl (by decide +kernel) rfl rfl (Nat.le_of_ble_eq_true rfl) hdg (fun H locs h1 h2 h3 => k H locs ⟨h1, h2, h3, hA⟩)

theorem pfM_Mo_81 {v : Int32} (F : fxM D cI cZ p R s m args c cc nL R_Mo fr lr) (hwd : wdM D cI cZ ad A H0 g H locs) (hdg : decode cc pc = .ok (.putfield 81, 3)) (k : ∀ (H : Heap) (locs : List Loc), wdM D cI cZ ad A H0 (sc g 101 v) H locs → W p l e R s m args below meth c H locs 0 0 Q (F0 m (pc + 3) ls rest)) : W p l e R s m args below meth c H locs 0 0 Q (F0 m pc ls (.int v :: .ref (ad 0) :: rest)) := by
  obtain ⟨hx, hb, hml, hown, hts, hK, hN, hR⟩ := F
  obtain ⟨hP, hD, hS, hA⟩ := hwd
  exact va_put (D := D) (ci := 0) (v := .int v) (ty := .int) (C := R_Mo) (T := F_Mo) (N := 29) hx hb hts in_Mo t_Mo t_Mo_ok n_Mo hown hK hP hD hS 0 rfl rfl 6 (by decide) (hts _ kM_33) (fun _ h9 => h9) rfl (by decide +kernel) rfl rfl (Nat.le_of_ble_eq_true rfl) hdg (fun H locs h1 h2 h3 => k H locs ⟨h1, h2, h3, hA⟩)

theorem pfM_Mo_95 {v : Int32} (F : fxM D cI cZ p R s m args c cc nL R_Mo fr lr) (hwd : wdM D cI cZ ad A H0 g H locs) (hdg : decode cc pc = .ok (.putfield 95, 3)) (k : ∀ (H : Heap) (locs : List Loc), wdM D cI cZ ad A H0 (sc g 103 v) H locs → W p l e R s m args below meth c H locs 0 0 Q (F0 m (pc + 3) ls rest)) : W p l e R s m args below meth c H locs 0 0 Q (F0 m pc ls (.int v :: .ref (ad 0) :: rest)) := by
  obtain ⟨hx, hb, hml, hown, hts, hK, hN, hR⟩ := F
  obtain ⟨hP, hD, hS, hA⟩ := hwd
  exact va_put (D := D) (ci := 0) (v := .int v) (ty := .int) (C := R_Mo) (T := F_Mo) (N := 29) hx hb hts in_Mo t_Mo t_Mo_ok n_Mo hown hK hP hD hS 0 rfl rfl 16 (by decide) (hts _ kM_34) (fun _ h9 => h9) rfl (by decide +kernel) rfl rfl (Nat.le_of_ble_eq_true rfl) hdg (fun H locs h1 h2 h3 => k H locs ⟨h1, h2, h3, hA⟩)

theorem pfM_Mo_112 {v : Int32} (F : fxM D cI cZ p R s m args c cc nL R_Mo fr lr) (hwd : wdM D cI cZ ad A H0 g H locs) (hdg : decode cc pc = .ok (.putfield 112, 3)) (k : ∀ (H : Heap) (locs : List Loc), wdM D cI cZ ad A H0 (sc g 104 v) H locs → W p l e R s m args below meth c H locs 0 0 Q (F0 m (pc + 3) ls rest)) : W p l e R s m args below meth c H locs 0 0 Q (F0 m pc ls (.int v :: .ref (ad 0) :: rest)) := by
  obtain ⟨hx, hb, hml, hown, hts, hK, hN, hR⟩ := F
  obtain ⟨hP, hD, hS, hA⟩ := hwd
  exact va_put (D := D) (ci := 0) (v := .int v) (ty := .int) (C := R_Mo) (T := F_Mo) (N := 29) hx hb hts in_Mo t_Mo t_Mo_ok n_Mo hown hK hP hD hS 0 rfl rfl 21 (by decide) (hts _ kM_35) (fun _ h9 => h9) rfl (by decide +kernel) rfl rfl (Nat.le_of_ble_eq_true rfl) hdg (fun H locs h1 h2 h3 => k H locs ⟨h1, h2, h3, hA⟩)

theorem pfM_Mo_115 {v : Int32} (F : fxM D cI cZ p R s m args c cc nL R_Mo fr lr) (hwd : wdM D cI cZ ad A H0 g H locs) (hdg : decode cc pc = .ok (.putfield 115, 3)) (k : ∀ (H : Heap) (locs : List Loc), wdM D cI cZ ad A H0 (sc g 106 v) H locs → W p l e R s m args below meth c H locs 0 0 Q (F0 m (pc + 3) ls rest)) : W p l e R s m args below meth c H locs 0 0 Q (F0 m pc ls (.int v :: .ref (ad 0) :: rest)) := by
  obtain ⟨hx, hb, hml, hown, hts, hK, hN, hR⟩ := F
  obtain ⟨hP, hD, hS, hA⟩ := hwd
  exact va_put (D := D) (ci := 0) (v := .int v) (ty := .int) (C := R_Mo) (T := F_Mo) (N := 29) hx hb hts in_Mo t_Mo t_Mo_ok n_Mo hown hK hP hD hS 0 rfl rfl 26 (by decide) (hts _ kM_36) (fun _ h9 => h9) rfl (by decide +kernel) rfl rfl (Nat.le_of_ble_eq_true rfl) hdg (fun H locs h1 h2 h3 => k H locs ⟨h1, h2, h3, hA⟩)

theorem pfM_Mo_129 {v : Int32} (F : fxM D cI cZ p R s m args c cc nL R_Mo fr lr) (hwd : wdM D cI cZ ad A H0 g H locs) (hdg : decode cc pc = .ok (.putfield 129, 3)) (k : ∀ (H : Heap) (locs : List Loc), wdM D cI cZ ad A H0 (sc g 105 v) H locs → W p l e R s m args below meth c H locs 0 0 Q (F0 m (pc + 3) ls rest)) : W p l e R s m args below meth c H locs 0 0 Q (F0 m pc ls (.int v :: .ref (ad 0) :: rest)) := by
  obtain ⟨hx, hb, hml, hown, hts, hK, hN, hR⟩ := F
  obtain ⟨hP, hD, hS, hA⟩ := hwd
  exact va_put (D := D) (ci := 0) (v := .int v) (ty := .int) (C := R_Mo) (T := F_Mo) (N := 29) hx hb hts in_Mo t_Mo t_Mo_ok n_Mo hown hK hP hD hS 0 rfl rfl 22 (by decide) (hts _ kM_37) (fun _ h9 => h9) rfl (by decide +kernel) rfl rfl (Nat.le_of_ble_eq_true rfl) hdg (fun H locs h1 h2 h3 => k H locs ⟨h1, h2, h3, hA⟩)

theorem pfM_Mo_142 {v : Int32} (F : fxM D cI cZ p R s m args c cc nL R_Mo fr lr) (hwd : wdM D cI cZ ad A H0 g H locs) (hdg : decode cc pc = .ok (.putfield 142, 3)) (k : ∀ (H : Heap) (locs : List Loc), wdM D cI cZ ad A H0 (sc g 102 v) H locs → W p l e R s m args below meth c H locs 0 0 Q (F0 m (pc + 3) ls rest)) : W p l e R s m args below meth c H locs 0 0 Q (F0 m pc ls (.int v :: .ref (ad 0) :: rest)) := by
  obtain ⟨hx, hb, hml, hown, hts, hK, hN, hR⟩ := F
  obtain ⟨hP, hD, hS, hA⟩ := hwd
  exact va_put (D := D) (ci := 0) (v := .int v) (ty := .int) (C := R_Mo) (T := F_Mo) (N := 29) hx hb hts in_Mo t_Mo t_Mo_ok n_Mo hown hK hP hD hS 0 rfl rfl 13 (by decide) (hts _ kM_38) (fun _ h9 => h9) rfl (by decide +kernel) rfl rfl (Nat.le_of_ble_eq_true rfl) hdg (fun H locs h1 h2 h3 => k H locs ⟨h1, h2, h3, hA⟩)

theorem pfM_Mo_171 {v : Int32} (F : fxM D cI cZ p R s m args c cc nL R_Mo fr lr) (hwd : wdM D cI cZ ad A H0 g H locs) (hdg : decode cc pc = .ok (.putfield 171, 3)) (k : ∀ (H : Heap) (locs : List Loc), wdM D cI cZ ad A H0 (sc g 108 v) H locs → W p l e R s m args below meth c H locs 0 0 Q (F0 m (pc + 3) ls rest)) : W p l e R s m args below meth c H locs 0 0 Q (F0 m pc ls (.int v :: .ref (ad 0) :: rest)) := by
  obtain ⟨hx, hb, hml, hown, hts, hK, hN, hR⟩ := F
  obtain ⟨hP, hD, hS, hA⟩ := hwd
  exact va_put (D := D) (ci := 0) (v := .int v) (ty := .int) (C := R_Mo) (T := F_Mo) (N := 29) hx hb hts in_Mo t_Mo t_Mo_ok n_Mo hown hK hP hD hS 0 rfl rfl 28 (by decide) (hts _ kM_39) (fun _ h9 => h9) rfl (by decide +kernel) rfl rfl (Nat.le_of_ble_eq_true rfl) hdg (fun H locs h1 h2 h3 => k H locs ⟨h1, h2, h3, hA⟩)

theorem pfM_Mo_168 {v : Int32} (F : fxM D cI cZ p R s m args c cc nL R_Mo fr lr) (hwd : wdM D cI cZ ad A H0 g H locs) (hdg : decode cc pc = .ok (.putfield 168, 3)) (k : ∀ (H : Heap) (locs : List Loc), wdM D cI cZ ad A H0 (sc g 107 v) H locs → W p l e R s m args below meth c H locs 0 0 Q (F0 m (pc + 3) ls rest)) : W p l e R s m args below meth c H locs 0 0 Q (F0 m pc ls (.int v :: .ref (ad 0) :: rest)) := by
  obtain ⟨hx, hb, hml, hown, hts, hK, hN, hR⟩ := F
  obtain ⟨hP, hD, hS, hA⟩ := hwd
  exact va_put (D := D) (ci := 0) (v := .int v) (ty := .int) (C := R_Mo) (T := F_Mo) (N := 29) hx hb hts in_Mo t_Mo t_Mo_ok n_Mo hown hK hP hD hS 0 rfl rfl 27 (by decide) (hts _ kM_40) (fun _ h9 => h9) rfl (by decide +kernel) rfl rfl (Nat.le_of_ble_eq_true rfl) hdg (fun H locs h1 h2 h3 => k H locs ⟨h1, h2, h3, hA⟩)

theorem rdM_1 {i : Int32} (F : fxM D cI cZ p R s m args c cc nL own fr lr) (hwd : wdM D cI cZ ad A H0 g H locs) (hi : vp_in i 60) (hdg : decode cc pc = .ok (.iaload, 1)) (k : W p l e R s m args below meth c H locs 0 0 Q (F0 m (pc + 1) ls (.int (g 1 i.toNatClampNeg) :: rest))) : W p l e R s m args below meth c H locs 0 0 Q (F0 m pc ls (.int i :: .ref (ad 1) :: rest)) := by
  obtain ⟨hx, hb, hml, hown, hts, hK, hN, hR⟩ := F
  exact va_iald hx hb hK hwd.1 1 0 rfl rfl hi hdg k

theorem wrM_1 {i v : Int32} (F : fxM D cI cZ p R s m args c cc nL own fr lr) (hwd : wdM D cI cZ ad A H0 g H locs) (hi : vp_in i 60) (hdg : decode cc pc = .ok (.iastore, 1)) (k : ∀ (H : Heap) (locs : List Loc), wdM D cI cZ ad A H0 (ar g 1 i v) H locs → W p l e R s m args below meth c H locs 0 0 Q (F0 m (pc + 1) ls rest)) : W p l e R s m args below meth c H locs 0 0 Q (F0 m pc ls (.int v :: .int i :: .ref (ad 1) :: rest)) := by
  obtain ⟨hx, hb, hml, hown, hts, hK, hN, hR⟩ := F
  obtain ⟨hP, hD, hS, hA⟩ := hwd
  refine va_iast hx hb hK hP hD hS 1 0 rfl rfl hi hdg (fun H locs h1 h2 h3 => ?_)
  exact k H locs ⟨h1, h2, h3, hA⟩

theorem rdM_2 {i : Int32} (F : fxM D cI cZ p R s m args c cc nL own fr lr) (hwd : wdM D cI cZ ad A H0 g H locs) (hi : vp_in i 60) (hdg : decode cc pc = .ok (.iaload, 1)) (k : W p l e R s m args below meth c H locs 0 0 Q (F0 m (pc + 1) ls (.int (g 2 i.toNatClampNeg) :: rest))) : W p l e R s m args below meth c H locs 0 0 Q (F0 m pc ls (.int i :: .ref (ad 2) :: rest)) := by
  obtain ⟨hx, hb, hml, hown, hts, hK, hN, hR⟩ := F
  exact va_iald hx hb hK hwd.1 2 0 rfl rfl hi hdg k

theorem wrM_2 {i v : Int32} (F : fxM D cI cZ p R s m args c cc nL own fr lr) (hwd : wdM D cI cZ ad A H0 g H locs) (hi : vp_in i 60) (hdg : decode cc pc = .ok (.iastore, 1)) (k : ∀ (H : Heap) (locs : List Loc), wdM D cI cZ ad A H0 (ar g 2 i v) H locs → W p l e R s m args below meth c H locs 0 0 Q (F0 m (pc + 1) ls rest)) : W p l e R s m args below meth c H locs 0 0 Q (F0 m pc ls (.int v :: .int i :: .ref (ad 2) :: rest)) := by
  obtain ⟨hx, hb, hml, hown, hts, hK, hN, hR⟩ := F
  obtain ⟨hP, hD, hS, hA⟩ := hwd
  refine va_iast hx hb hK hP hD hS 2 0 rfl rfl hi hdg (fun H locs h1 h2 h3 => ?_)
  exact k H locs ⟨h1, h2, h3, hA⟩

theorem rdM_3 {i : Int32} (F : fxM D cI cZ p R s m args c cc nL own fr lr) (hwd : wdM D cI cZ ad A H0 g H locs) (hi : vp_in i 60) (hdg : decode cc pc = .ok (.iaload, 1)) (k : W p l e R s m args below meth c H locs 0 0 Q (F0 m (pc + 1) ls (.int (g 3 i.toNatClampNeg) :: rest))) : W p l e R s m args below meth c H locs 0 0 Q (F0 m pc ls (.int i :: .ref (ad 3) :: rest)) := by
  obtain ⟨hx, hb, hml, hown, hts, hK, hN, hR⟩ := F
  exact va_iald hx hb hK hwd.1 3 0 rfl rfl hi hdg k

theorem wrM_3 {i v : Int32} (F : fxM D cI cZ p R s m args c cc nL own fr lr) (hwd : wdM D cI cZ ad A H0 g H locs) (hi : vp_in i 60) (hdg : decode cc pc = .ok (.iastore, 1)) (k : ∀ (H : Heap) (locs : List Loc), wdM D cI cZ ad A H0 (ar g 3 i v) H locs → W p l e R s m args below meth c H locs 0 0 Q (F0 m (pc + 1) ls rest)) : W p l e R s m args below meth c H locs 0 0 Q (F0 m pc ls (.int v :: .int i :: .ref (ad 3) :: rest)) := by
  obtain ⟨hx, hb, hml, hown, hts, hK, hN, hR⟩ := F
  obtain ⟨hP, hD, hS, hA⟩ := hwd
  refine va_iast hx hb hK hP hD hS 3 0 rfl rfl hi hdg (fun H locs h1 h2 h3 => ?_)
  exact k H locs ⟨h1, h2, h3, hA⟩

theorem rdM_4 {i : Int32} (F : fxM D cI cZ p R s m args c cc nL own fr lr) (hwd : wdM D cI cZ ad A H0 g H locs) (hi : vp_in i 60) (hdg : decode cc pc = .ok (.iaload, 1)) (k : W p l e R s m args below meth c H locs 0 0 Q (F0 m (pc + 1) ls (.int (g 4 i.toNatClampNeg) :: rest))) : W p l e R s m args below meth c H locs 0 0 Q (F0 m pc ls (.int i :: .ref (ad 4) :: rest)) := by
  obtain ⟨hx, hb, hml, hown, hts, hK, hN, hR⟩ := F
  exact va_iald hx hb hK hwd.1 4 0 rfl rfl hi hdg k

theorem wrM_4 {i v : Int32} (F : fxM D cI cZ p R s m args c cc nL own fr lr) (hwd : wdM D cI cZ ad A H0 g H locs) (hi : vp_in i 60) (hdg : decode cc pc = .ok (.iastore, 1)) (k : ∀ (H : Heap) (locs : List Loc), wdM D cI cZ ad A H0 (ar g 4 i v) H locs → W p l e R s m args below meth c H locs 0 0 Q (F0 m (pc + 1) ls rest)) : W p l e R s m args below meth c H locs 0 0 Q (F0 m pc ls (.int v :: .int i :: .ref (ad 4) :: rest)) := by
  obtain ⟨hx, hb, hml, hown, hts, hK, hN, hR⟩ := F
  obtain ⟨hP, hD, hS, hA⟩ := hwd
  refine va_iast hx hb hK hP hD hS 4 0 rfl rfl hi hdg (fun H locs h1 h2 h3 => ?_)
  exact k H locs ⟨h1, h2, h3, hA⟩

theorem rdM_5 {i : Int32} (F : fxM D cI cZ p R s m args c cc nL own fr lr) (hwd : wdM D cI cZ ad A H0 g H locs) (hi : vp_in i 60) (hdg : decode cc pc = .ok (.iaload, 1)) (k : W p l e R s m args below meth c H locs 0 0 Q (F0 m (pc + 1) ls (.int (g 5 i.toNatClampNeg) :: rest))) : W p l e R s m args below meth c H locs 0 0 Q (F0 m pc ls (.int i :: .ref (ad 5) :: rest)) := by
  obtain ⟨hx, hb, hml, hown, hts, hK, hN, hR⟩ := F
  exact va_iald hx hb hK hwd.1 5 0 rfl rfl hi hdg k

theorem wrM_5 {i v : Int32} (F : fxM D cI cZ p R s m args c cc nL own fr lr) (hwd : wdM D cI cZ ad A H0 g H locs) (hi : vp_in i 60) (hdg : decode cc pc = .ok (.iastore, 1)) (k : ∀ (H : Heap) (locs : List Loc), wdM D cI cZ ad A H0 (ar g 5 i v) H locs → W p l e R s m args below meth c H locs 0 0 Q (F0 m (pc + 1) ls rest)) : W p l e R s m args below meth c H locs 0 0 Q (F0 m pc ls (.int v :: .int i :: .ref (ad 5) :: rest)) := by
  obtain ⟨hx, hb, hml, hown, hts, hK, hN, hR⟩ := F
  obtain ⟨hP, hD, hS, hA⟩ := hwd
  refine va_iast hx hb hK hP hD hS 5 0 rfl rfl hi hdg (fun H locs h1 h2 h3 => ?_)
  exact k H locs ⟨h1, h2, h3, hA⟩

theorem rdM_6 {i : Int32} (F : fxM D cI cZ p R s m args c cc nL own fr lr) (hwd : wdM D cI cZ ad A H0 g H locs) (hi : vp_in i 8) (hdg : decode cc pc = .ok (.iaload, 1)) (k : W p l e R s m args below meth c H locs 0 0 Q (F0 m (pc + 1) ls (.int (g 6 i.toNatClampNeg) :: rest))) : W p l e R s m args below meth c H locs 0 0 Q (F0 m pc ls (.int i :: .ref (ad 6) :: rest)) := by
  obtain ⟨hx, hb, hml, hown, hts, hK, hN, hR⟩ := F
  exact va_iald hx hb hK hwd.1 6 0 rfl rfl hi hdg k

theorem wrM_6 {i v : Int32} (F : fxM D cI cZ p R s m args c cc nL own fr lr) (hwd : wdM D cI cZ ad A H0 g H locs) (hi : vp_in i 8) (hdg : decode cc pc = .ok (.iastore, 1)) (k : ∀ (H : Heap) (locs : List Loc), wdM D cI cZ ad A H0 (ar g 6 i v) H locs → W p l e R s m args below meth c H locs 0 0 Q (F0 m (pc + 1) ls rest)) : W p l e R s m args below meth c H locs 0 0 Q (F0 m pc ls (.int v :: .int i :: .ref (ad 6) :: rest)) := by
  obtain ⟨hx, hb, hml, hown, hts, hK, hN, hR⟩ := F
  obtain ⟨hP, hD, hS, hA⟩ := hwd
  refine va_iast hx hb hK hP hD hS 6 0 rfl rfl hi hdg (fun H locs h1 h2 h3 => ?_)
  exact k H locs ⟨h1, h2, h3, hA⟩

theorem rdM_7 {i : Int32} (F : fxM D cI cZ p R s m args c cc nL own fr lr) (hwd : wdM D cI cZ ad A H0 g H locs) (hi : vp_in i 8) (hdg : decode cc pc = .ok (.iaload, 1)) (k : W p l e R s m args below meth c H locs 0 0 Q (F0 m (pc + 1) ls (.int (g 7 i.toNatClampNeg) :: rest))) : W p l e R s m args below meth c H locs 0 0 Q (F0 m pc ls (.int i :: .ref (ad 7) :: rest)) := by
  obtain ⟨hx, hb, hml, hown, hts, hK, hN, hR⟩ := F
  exact va_iald hx hb hK hwd.1 7 0 rfl rfl hi hdg k

theorem wrM_7 {i v : Int32} (F : fxM D cI cZ p R s m args c cc nL own fr lr) (hwd : wdM D cI cZ ad A H0 g H locs) (hi : vp_in i 8) (hdg : decode cc pc = .ok (.iastore, 1)) (k : ∀ (H : Heap) (locs : List Loc), wdM D cI cZ ad A H0 (ar g 7 i v) H locs → W p l e R s m args below meth c H locs 0 0 Q (F0 m (pc + 1) ls rest)) : W p l e R s m args below meth c H locs 0 0 Q (F0 m pc ls (.int v :: .int i :: .ref (ad 7) :: rest)) := by
  obtain ⟨hx, hb, hml, hown, hts, hK, hN, hR⟩ := F
  obtain ⟨hP, hD, hS, hA⟩ := hwd
  refine va_iast hx hb hK hP hD hS 7 0 rfl rfl hi hdg (fun H locs h1 h2 h3 => ?_)
  exact k H locs ⟨h1, h2, h3, hA⟩

theorem rdM_8 {i : Int32} (F : fxM D cI cZ p R s m args c cc nL own fr lr) (hwd : wdM D cI cZ ad A H0 g H locs) (hi : vp_in i 60) (hdg : decode cc pc = .ok (.baload, 1)) (k : W p l e R s m args below meth c H locs 0 0 Q (F0 m (pc + 1) ls (.int (g 8 i.toNatClampNeg) :: rest))) : W p l e R s m args below meth c H locs 0 0 Q (F0 m pc ls (.int i :: .ref (ad 8) :: rest)) := by
  obtain ⟨hx, hb, hml, hown, hts, hK, hN, hR⟩ := F
  exact va_zald hx hb hK hwd.1 8 1 rfl rfl hi hdg k

theorem wrM_8 {i v : Int32} (F : fxM D cI cZ p R s m args c cc nL own fr lr) (hwd : wdM D cI cZ ad A H0 g H locs) (hi : vp_in i 60) (hz : vp_nar .boolean v = v) (hdg : decode cc pc = .ok (.bastore, 1)) (k : ∀ (H : Heap) (locs : List Loc), wdM D cI cZ ad A H0 (ar g 8 i v) H locs → W p l e R s m args below meth c H locs 0 0 Q (F0 m (pc + 1) ls rest)) : W p l e R s m args below meth c H locs 0 0 Q (F0 m pc ls (.int v :: .int i :: .ref (ad 8) :: rest)) := by
  obtain ⟨hx, hb, hml, hown, hts, hK, hN, hR⟩ := F
  obtain ⟨hP, hD, hS, hA⟩ := hwd
  refine va_zast hx hb hK hP hD hS 8 1 rfl rfl hi hdg (fun H locs h1 h2 h3 => ?_)
  rw [hz] at h1 h2
  exact k H locs ⟨h1, h2, h3, hA⟩

theorem rdM_9 {i : Int32} (F : fxM D cI cZ p R s m args c cc nL own fr lr) (hwd : wdM D cI cZ ad A H0 g H locs) (hi : vp_in i 64) (hdg : decode cc pc = .ok (.iaload, 1)) (k : W p l e R s m args below meth c H locs 0 0 Q (F0 m (pc + 1) ls (.int (g 9 i.toNatClampNeg) :: rest))) : W p l e R s m args below meth c H locs 0 0 Q (F0 m pc ls (.int i :: .ref (ad 9) :: rest)) := by
  obtain ⟨hx, hb, hml, hown, hts, hK, hN, hR⟩ := F
  exact va_iald hx hb hK hwd.1 9 0 rfl rfl hi hdg k

theorem wrM_9 {i v : Int32} (F : fxM D cI cZ p R s m args c cc nL own fr lr) (hwd : wdM D cI cZ ad A H0 g H locs) (hi : vp_in i 64) (hdg : decode cc pc = .ok (.iastore, 1)) (k : ∀ (H : Heap) (locs : List Loc), wdM D cI cZ ad A H0 (ar g 9 i v) H locs → W p l e R s m args below meth c H locs 0 0 Q (F0 m (pc + 1) ls rest)) : W p l e R s m args below meth c H locs 0 0 Q (F0 m pc ls (.int v :: .int i :: .ref (ad 9) :: rest)) := by
  obtain ⟨hx, hb, hml, hown, hts, hK, hN, hR⟩ := F
  obtain ⟨hP, hD, hS, hA⟩ := hwd
  refine va_iast hx hb hK hP hD hS 9 0 rfl rfl hi hdg (fun H locs h1 h2 h3 => ?_)
  exact k H locs ⟨h1, h2, h3, hA⟩

theorem rdM_10 {i : Int32} (F : fxM D cI cZ p R s m args c cc nL own fr lr) (hwd : wdM D cI cZ ad A H0 g H locs) (hi : vp_in i 64) (hdg : decode cc pc = .ok (.iaload, 1)) (k : W p l e R s m args below meth c H locs 0 0 Q (F0 m (pc + 1) ls (.int (g 10 i.toNatClampNeg) :: rest))) : W p l e R s m args below meth c H locs 0 0 Q (F0 m pc ls (.int i :: .ref (ad 10) :: rest)) := by
  obtain ⟨hx, hb, hml, hown, hts, hK, hN, hR⟩ := F
  exact va_iald hx hb hK hwd.1 10 0 rfl rfl hi hdg k

theorem wrM_10 {i v : Int32} (F : fxM D cI cZ p R s m args c cc nL own fr lr) (hwd : wdM D cI cZ ad A H0 g H locs) (hi : vp_in i 64) (hdg : decode cc pc = .ok (.iastore, 1)) (k : ∀ (H : Heap) (locs : List Loc), wdM D cI cZ ad A H0 (ar g 10 i v) H locs → W p l e R s m args below meth c H locs 0 0 Q (F0 m (pc + 1) ls rest)) : W p l e R s m args below meth c H locs 0 0 Q (F0 m pc ls (.int v :: .int i :: .ref (ad 10) :: rest)) := by
  obtain ⟨hx, hb, hml, hown, hts, hK, hN, hR⟩ := F
  obtain ⟨hP, hD, hS, hA⟩ := hwd
  refine va_iast hx hb hK hP hD hS 10 0 rfl rfl hi hdg (fun H locs h1 h2 h3 => ?_)
  exact k H locs ⟨h1, h2, h3, hA⟩

theorem rdM_11 {i : Int32} (F : fxM D cI cZ p R s m args c cc nL own fr lr) (hwd : wdM D cI cZ ad A H0 g H locs) (hi : vp_in i 64) (hdg : decode cc pc = .ok (.iaload, 1)) (k : W p l e R s m args below meth c H locs 0 0 Q (F0 m (pc + 1) ls (.int (g 11 i.toNatClampNeg) :: rest))) : W p l e R s m args below meth c H locs 0 0 Q (F0 m pc ls (.int i :: .ref (ad 11) :: rest)) := by
  obtain ⟨hx, hb, hml, hown, hts, hK, hN, hR⟩ := F
  exact va_iald hx hb hK hwd.1 11 0 rfl rfl hi hdg k

theorem wrM_11 {i v : Int32} (F : fxM D cI cZ p R s m args c cc nL own fr lr) (hwd : wdM D cI cZ ad A H0 g H locs) (hi : vp_in i 64) (hdg : decode cc pc = .ok (.iastore, 1)) (k : ∀ (H : Heap) (locs : List Loc), wdM D cI cZ ad A H0 (ar g 11 i v) H locs → W p l e R s m args below meth c H locs 0 0 Q (F0 m (pc + 1) ls rest)) : W p l e R s m args below meth c H locs 0 0 Q (F0 m pc ls (.int v :: .int i :: .ref (ad 11) :: rest)) := by
  obtain ⟨hx, hb, hml, hown, hts, hK, hN, hR⟩ := F
  obtain ⟨hP, hD, hS, hA⟩ := hwd
  refine va_iast hx hb hK hP hD hS 11 0 rfl rfl hi hdg (fun H locs h1 h2 h3 => ?_)
  exact k H locs ⟨h1, h2, h3, hA⟩

theorem rdM_12 {i : Int32} (F : fxM D cI cZ p R s m args c cc nL own fr lr) (hwd : wdM D cI cZ ad A H0 g H locs) (hi : vp_in i 60) (hdg : decode cc pc = .ok (.iaload, 1)) (k : W p l e R s m args below meth c H locs 0 0 Q (F0 m (pc + 1) ls (.int (g 12 i.toNatClampNeg) :: rest))) : W p l e R s m args below meth c H locs 0 0 Q (F0 m pc ls (.int i :: .ref (ad 12) :: rest)) := by
  obtain ⟨hx, hb, hml, hown, hts, hK, hN, hR⟩ := F
  exact va_iald hx hb hK hwd.1 12 0 rfl rfl hi hdg k

theorem wrM_12 {i v : Int32} (F : fxM D cI cZ p R s m args c cc nL own fr lr) (hwd : wdM D cI cZ ad A H0 g H locs) (hi : vp_in i 60) (hdg : decode cc pc = .ok (.iastore, 1)) (k : ∀ (H : Heap) (locs : List Loc), wdM D cI cZ ad A H0 (ar g 12 i v) H locs → W p l e R s m args below meth c H locs 0 0 Q (F0 m (pc + 1) ls rest)) : W p l e R s m args below meth c H locs 0 0 Q (F0 m pc ls (.int v :: .int i :: .ref (ad 12) :: rest)) := by
  obtain ⟨hx, hb, hml, hown, hts, hK, hN, hR⟩ := F
  obtain ⟨hP, hD, hS, hA⟩ := hwd
  refine va_iast hx hb hK hP hD hS 12 0 rfl rfl hi hdg (fun H locs h1 h2 h3 => ?_)
  exact k H locs ⟨h1, h2, h3, hA⟩

theorem rdM_13 {i : Int32} (F : fxM D cI cZ p R s m args c cc nL own fr lr) (hwd : wdM D cI cZ ad A H0 g H locs) (hi : vp_in i 60) (hdg : decode cc pc = .ok (.iaload, 1)) (k : W p l e R s m args below meth c H locs 0 0 Q (F0 m (pc + 1) ls (.int (g 13 i.toNatClampNeg) :: rest))) : W p l e R s m args below meth c H locs 0 0 Q (F0 m pc ls (.int i :: .ref (ad 13) :: rest)) := by
  obtain ⟨hx, hb, hml, hown, hts, hK, hN, hR⟩ := F
  exact va_iald hx hb hK hwd.1 13 0 rfl rfl hi hdg k

theorem wrM_13 {i v : Int32} (F : fxM D cI cZ p R s m args c cc nL own fr lr) (hwd : wdM D cI cZ ad A H0 g H locs) (hi : vp_in i 60) (hdg : decode cc pc = .ok (.iastore, 1)) (k : ∀ (H : Heap) (locs : List Loc), wdM D cI cZ ad A H0 (ar g 13 i v) H locs → W p l e R s m args below meth c H locs 0 0 Q (F0 m (pc + 1) ls rest)) : W p l e R s m args below meth c H locs 0 0 Q (F0 m pc ls (.int v :: .int i :: .ref (ad 13) :: rest)) := by
  obtain ⟨hx, hb, hml, hown, hts, hK, hN, hR⟩ := F
  obtain ⟨hP, hD, hS, hA⟩ := hwd
  refine va_iast hx hb hK hP hD hS 13 0 rfl rfl hi hdg (fun H locs h1 h2 h3 => ?_)
  exact k H locs ⟨h1, h2, h3, hA⟩

theorem rdM_14 {i : Int32} (F : fxM D cI cZ p R s m args c cc nL own fr lr) (hwd : wdM D cI cZ ad A H0 g H locs) (hi : vp_in i 62) (hdg : decode cc pc = .ok (.iaload, 1)) (k : W p l e R s m args below meth c H locs 0 0 Q (F0 m (pc + 1) ls (.int (g 14 i.toNatClampNeg) :: rest))) : W p l e R s m args below meth c H locs 0 0 Q (F0 m pc ls (.int i :: .ref (ad 14) :: rest)) := by
  obtain ⟨hx, hb, hml, hown, hts, hK, hN, hR⟩ := F
  exact va_iald hx hb hK hwd.1 14 0 rfl rfl hi hdg k

theorem wrM_14 {i v : Int32} (F : fxM D cI cZ p R s m args c cc nL own fr lr) (hwd : wdM D cI cZ ad A H0 g H locs) (hi : vp_in i 62) (hdg : decode cc pc = .ok (.iastore, 1)) (k : ∀ (H : Heap) (locs : List Loc), wdM D cI cZ ad A H0 (ar g 14 i v) H locs → W p l e R s m args below meth c H locs 0 0 Q (F0 m (pc + 1) ls rest)) : W p l e R s m args below meth c H locs 0 0 Q (F0 m pc ls (.int v :: .int i :: .ref (ad 14) :: rest)) := by
  obtain ⟨hx, hb, hml, hown, hts, hK, hN, hR⟩ := F
  obtain ⟨hP, hD, hS, hA⟩ := hwd
  refine va_iast hx hb hK hP hD hS 14 0 rfl rfl hi hdg (fun H locs h1 h2 h3 => ?_)
  exact k H locs ⟨h1, h2, h3, hA⟩

theorem rdM_15 {i : Int32} (F : fxM D cI cZ p R s m args c cc nL own fr lr) (hwd : wdM D cI cZ ad A H0 g H locs) (hi : vp_in i 62) (hdg : decode cc pc = .ok (.iaload, 1)) (k : W p l e R s m args below meth c H locs 0 0 Q (F0 m (pc + 1) ls (.int (g 15 i.toNatClampNeg) :: rest))) : W p l e R s m args below meth c H locs 0 0 Q (F0 m pc ls (.int i :: .ref (ad 15) :: rest)) := by
  obtain ⟨hx, hb, hml, hown, hts, hK, hN, hR⟩ := F
  exact va_iald hx hb hK hwd.1 15 0 rfl rfl hi hdg k

theorem wrM_15 {i v : Int32} (F : fxM D cI cZ p R s m args c cc nL own fr lr) (hwd : wdM D cI cZ ad A H0 g H locs) (hi : vp_in i 62) (hdg : decode cc pc = .ok (.iastore, 1)) (k : ∀ (H : Heap) (locs : List Loc), wdM D cI cZ ad A H0 (ar g 15 i v) H locs → W p l e R s m args below meth c H locs 0 0 Q (F0 m (pc + 1) ls rest)) : W p l e R s m args below meth c H locs 0 0 Q (F0 m pc ls (.int v :: .int i :: .ref (ad 15) :: rest)) := by
  obtain ⟨hx, hb, hml, hown, hts, hK, hN, hR⟩ := F
  obtain ⟨hP, hD, hS, hA⟩ := hwd
  refine va_iast hx hb hK hP hD hS 15 0 rfl rfl hi hdg (fun H locs h1 h2 h3 => ?_)
  exact k H locs ⟨h1, h2, h3, hA⟩

theorem rdM_16 {i : Int32} (F : fxM D cI cZ p R s m args c cc nL own fr lr) (hwd : wdM D cI cZ ad A H0 g H locs) (hi : vp_in i 62) (hdg : decode cc pc = .ok (.iaload, 1)) (k : W p l e R s m args below meth c H locs 0 0 Q (F0 m (pc + 1) ls (.int (g 16 i.toNatClampNeg) :: rest))) : W p l e R s m args below meth c H locs 0 0 Q (F0 m pc ls (.int i :: .ref (ad 16) :: rest)) := by
  obtain ⟨hx, hb, hml, hown, hts, hK, hN, hR⟩ := F
  exact va_iald hx hb hK hwd.1 16 0 rfl rfl hi hdg k

theorem wrM_16 {i v : Int32} (F : fxM D cI cZ p R s m args c cc nL own fr lr) (hwd : wdM D cI cZ ad A H0 g H locs) (hi : vp_in i 62) (hdg : decode cc pc = .ok (.iastore, 1)) (k : ∀ (H : Heap) (locs : List Loc), wdM D cI cZ ad A H0 (ar g 16 i v) H locs → W p l e R s m args below meth c H locs 0 0 Q (F0 m (pc + 1) ls rest)) : W p l e R s m args below meth c H locs 0 0 Q (F0 m pc ls (.int v :: .int i :: .ref (ad 16) :: rest)) := by
  obtain ⟨hx, hb, hml, hown, hts, hK, hN, hR⟩ := F
  obtain ⟨hP, hD, hS, hA⟩ := hwd
  refine va_iast hx hb hK hP hD hS 16 0 rfl rfl hi hdg (fun H locs h1 h2 h3 => ?_)
  exact k H locs ⟨h1, h2, h3, hA⟩

theorem rdM_17 {i : Int32} (F : fxM D cI cZ p R s m args c cc nL own fr lr) (hwd : wdM D cI cZ ad A H0 g H locs) (hi : vp_in i 700) (hdg : decode cc pc = .ok (.iaload, 1)) (k : W p l e R s m args below meth c H locs 0 0 Q (F0 m (pc + 1) ls (.int (g 17 i.toNatClampNeg) :: rest))) : W p l e R s m args below meth c H locs 0 0 Q (F0 m pc ls (.int i :: .ref (ad 17) :: rest)) := by
  obtain ⟨hx, hb, hml, hown, hts, hK, hN, hR⟩ := F
  exact va_iald hx hb hK hwd.1 17 0 rfl rfl hi hdg k

theorem wrM_17 {i v : Int32} (F : fxM D cI cZ p R s m args c cc nL own fr lr) (hwd : wdM D cI cZ ad A H0 g H locs) (hi : vp_in i 700) (hdg : decode cc pc = .ok (.iastore, 1)) (k : ∀ (H : Heap) (locs : List Loc), wdM D cI cZ ad A H0 (ar g 17 i v) H locs → W p l e R s m args below meth c H locs 0 0 Q (F0 m (pc + 1) ls rest)) : W p l e R s m args below meth c H locs 0 0 Q (F0 m pc ls (.int v :: .int i :: .ref (ad 17) :: rest)) := by
  obtain ⟨hx, hb, hml, hown, hts, hK, hN, hR⟩ := F
  obtain ⟨hP, hD, hS, hA⟩ := hwd
  refine va_iast hx hb hK hP hD hS 17 0 rfl rfl hi hdg (fun H locs h1 h2 h3 => ?_)
  exact k H locs ⟨h1, h2, h3, hA⟩

theorem rdM_18 {i : Int32} (F : fxM D cI cZ p R s m args c cc nL own fr lr) (hwd : wdM D cI cZ ad A H0 g H locs) (hi : vp_in i 62) (hdg : decode cc pc = .ok (.iaload, 1)) (k : W p l e R s m args below meth c H locs 0 0 Q (F0 m (pc + 1) ls (.int (g 18 i.toNatClampNeg) :: rest))) : W p l e R s m args below meth c H locs 0 0 Q (F0 m pc ls (.int i :: .ref (ad 18) :: rest)) := by
  obtain ⟨hx, hb, hml, hown, hts, hK, hN, hR⟩ := F
  exact va_iald hx hb hK hwd.1 18 0 rfl rfl hi hdg k

theorem wrM_18 {i v : Int32} (F : fxM D cI cZ p R s m args c cc nL own fr lr) (hwd : wdM D cI cZ ad A H0 g H locs) (hi : vp_in i 62) (hdg : decode cc pc = .ok (.iastore, 1)) (k : ∀ (H : Heap) (locs : List Loc), wdM D cI cZ ad A H0 (ar g 18 i v) H locs → W p l e R s m args below meth c H locs 0 0 Q (F0 m (pc + 1) ls rest)) : W p l e R s m args below meth c H locs 0 0 Q (F0 m pc ls (.int v :: .int i :: .ref (ad 18) :: rest)) := by
  obtain ⟨hx, hb, hml, hown, hts, hK, hN, hR⟩ := F
  obtain ⟨hP, hD, hS, hA⟩ := hwd
  refine va_iast hx hb hK hP hD hS 18 0 rfl rfl hi hdg (fun H locs h1 h2 h3 => ?_)
  exact k H locs ⟨h1, h2, h3, hA⟩

theorem rdM_19 {i : Int32} (F : fxM D cI cZ p R s m args c cc nL own fr lr) (hwd : wdM D cI cZ ad A H0 g H locs) (hi : vp_in i 200) (hdg : decode cc pc = .ok (.iaload, 1)) (k : W p l e R s m args below meth c H locs 0 0 Q (F0 m (pc + 1) ls (.int (g 19 i.toNatClampNeg) :: rest))) : W p l e R s m args below meth c H locs 0 0 Q (F0 m pc ls (.int i :: .ref (ad 19) :: rest)) := by
  obtain ⟨hx, hb, hml, hown, hts, hK, hN, hR⟩ := F
  exact va_iald hx hb hK hwd.1 19 0 rfl rfl hi hdg k

theorem wrM_19 {i v : Int32} (F : fxM D cI cZ p R s m args c cc nL own fr lr) (hwd : wdM D cI cZ ad A H0 g H locs) (hi : vp_in i 200) (hdg : decode cc pc = .ok (.iastore, 1)) (k : ∀ (H : Heap) (locs : List Loc), wdM D cI cZ ad A H0 (ar g 19 i v) H locs → W p l e R s m args below meth c H locs 0 0 Q (F0 m (pc + 1) ls rest)) : W p l e R s m args below meth c H locs 0 0 Q (F0 m pc ls (.int v :: .int i :: .ref (ad 19) :: rest)) := by
  obtain ⟨hx, hb, hml, hown, hts, hK, hN, hR⟩ := F
  obtain ⟨hP, hD, hS, hA⟩ := hwd
  refine va_iast hx hb hK hP hD hS 19 0 rfl rfl hi hdg (fun H locs h1 h2 h3 => ?_)
  exact k H locs ⟨h1, h2, h3, hA⟩

theorem rdM_20 {i : Int32} (F : fxM D cI cZ p R s m args c cc nL own fr lr) (hwd : wdM D cI cZ ad A H0 g H locs) (hi : vp_in i 200) (hdg : decode cc pc = .ok (.iaload, 1)) (k : W p l e R s m args below meth c H locs 0 0 Q (F0 m (pc + 1) ls (.int (g 20 i.toNatClampNeg) :: rest))) : W p l e R s m args below meth c H locs 0 0 Q (F0 m pc ls (.int i :: .ref (ad 20) :: rest)) := by
  obtain ⟨hx, hb, hml, hown, hts, hK, hN, hR⟩ := F
  exact va_iald hx hb hK hwd.1 20 0 rfl rfl hi hdg k

theorem wrM_20 {i v : Int32} (F : fxM D cI cZ p R s m args c cc nL own fr lr) (hwd : wdM D cI cZ ad A H0 g H locs) (hi : vp_in i 200) (hdg : decode cc pc = .ok (.iastore, 1)) (k : ∀ (H : Heap) (locs : List Loc), wdM D cI cZ ad A H0 (ar g 20 i v) H locs → W p l e R s m args below meth c H locs 0 0 Q (F0 m (pc + 1) ls rest)) : W p l e R s m args below meth c H locs 0 0 Q (F0 m pc ls (.int v :: .int i :: .ref (ad 20) :: rest)) := by
  obtain ⟨hx, hb, hml, hown, hts, hK, hN, hR⟩ := F
  obtain ⟨hP, hD, hS, hA⟩ := hwd
  refine va_iast hx hb hK hP hD hS 20 0 rfl rfl hi hdg (fun H locs h1 h2 h3 => ?_)
  exact k H locs ⟨h1, h2, h3, hA⟩

theorem mcM_Mo_75 {x1 x2 x3 : Int32} {K : Int32 → St → Prop} {f lo : Nat} (F : fxM D cI cZ p R s m args c cc nL R_Mo fr lr) (hwd : wdM D cI cZ ad A H0 g H locs) (hM : ctMZ l y_Mo_outside b_Mo_outside 3 f lo D cI cZ ad [.int x1, .int x2, .int x3] g K) (hr : f + 1 ≤ R.frames ∧ 8 + (3 + 11) + lo ≤ R.locals) (hsz : ls.size = nL) (hW : (rest.map fun v => v.category).sum ≤ 8) (hdg : decode cc pc = .ok (.invokestatic 75, 3)) (kk : ∀ (r : Int32) (g' : St) (H : Heap) (locs : List Loc), K r g' → wdM D cI cZ ad A H0 g' H locs → W p l e R s m args below meth c H locs 0 0 Q (F0 m (pc + 3) ls (.int r :: rest))) : W p l e R s m args below meth c H locs 0 0 Q (F0 m pc ls (.int x3 :: .int x2 :: .int x1 :: rest)) := by
  obtain ⟨hx, hb, hml, hown, hts, hK, hN, hR⟩ := F
  exact afM_I hwd (va_runS (As := [.int x1, .int x2, .int x3]) (rest := rest) ⟨hx, hb, hml, hown, hts⟩ (hM H.size) ⟨callB_of 3 hts (goodM _ (List.forall_mem_cons.mpr ⟨kM_97, fun _ h => h⟩)) rfl rfl rfl (hts _ kM_43) (hts _ kM_41) (by decide +kernel) hr, (hts _ kM_42)⟩ (prM_S hK hN hwd) rfl rfl hsz rfl (lv_room hW) hdg ⟨Nat.zero_le _, Nat.zero_le _⟩) kk

theorem mcM_Mo_84 {x1 x2 : Int32} {K : Int32 → St → Prop} {f lo : Nat} (F : fxM D cI cZ p R s m args c cc nL R_Mo fr lr) (hwd : wdM D cI cZ ad A H0 g H locs) (hM : ctMI l y_Mo_wrong b_Mo_wrong 3 f lo D cI cZ ad [.ref (ad 0), .int x1, .int x2] g K) (hr : f + 1 ≤ R.frames ∧ 8 + (3 + 11) + lo ≤ R.locals) (hsz : ls.size = nL) (hW : (rest.map fun v => v.category).sum ≤ 8) (hdg : decode cc pc = .ok (.invokevirtual 84, 3)) (kk : ∀ (r : Int32) (g' : St) (H : Heap) (locs : List Loc), K r g' → wdM D cI cZ ad A H0 g' H locs → W p l e R s m args below meth c H locs 0 0 Q (F0 m (pc + 3) ls (.int r :: rest))) : W p l e R s m args below meth c H locs 0 0 Q (F0 m pc ls (.int x2 :: .int x1 :: .ref (ad 0) :: rest)) := by
  obtain ⟨hx, hb, hml, hown, hts, hK, hN, hR⟩ := F
  exact afM_I hwd (va_runV (As := [.int x1, .int x2]) (rest := rest) ⟨hx, hb, hml, hown, hts⟩ (hM H.size) ⟨callB_of 2 hts (goodM _ (List.forall_mem_cons.mpr ⟨kM_100, fun _ h => h⟩)) rfl rfl rfl (hts _ kM_43) (hts _ kM_44) (by decide +kernel) hr, (hts _ kM_45), (hts _ kM_46)⟩ (prM_V (k := 0) hK hN hwd (show clM[0]? = some (R_Mo, F_Mo, 29) from rfl) rfl) rfl rfl hsz rfl (lv_room hW) hdg ⟨Nat.zero_le _, Nat.zero_le _⟩) kk

theorem mcM_Mo_88 {x1 : Int32} {K : Int32 → St → Prop} {f lo : Nat} (F : fxM D cI cZ p R s m args c cc nL R_Mo fr lr) (hwd : wdM D cI cZ ad A H0 g H locs) (hM : ctMI l y_Mo_part b_Mo_part 2 f lo D cI cZ ad [.ref (ad 0), .int x1] g K) (hr : f + 1 ≤ R.frames ∧ 8 + (2 + 11) + lo ≤ R.locals) (hsz : ls.size = nL) (hW : (rest.map fun v => v.category).sum ≤ 8) (hdg : decode cc pc = .ok (.invokevirtual 88, 3)) (kk : ∀ (r : Int32) (g' : St) (H : Heap) (locs : List Loc), K r g' → wdM D cI cZ ad A H0 g' H locs → W p l e R s m args below meth c H locs 0 0 Q (F0 m (pc + 3) ls (.int r :: rest))) : W p l e R s m args below meth c H locs 0 0 Q (F0 m pc ls (.int x1 :: .ref (ad 0) :: rest)) := by
  obtain ⟨hx, hb, hml, hown, hts, hK, hN, hR⟩ := F
  exact afM_I hwd (va_runV (As := [.int x1]) (rest := rest) ⟨hx, hb, hml, hown, hts⟩ (hM H.size) ⟨callB_of 1 hts (goodM _ (List.forall_mem_cons.mpr ⟨kM_102, fun _ h => h⟩)) rfl rfl rfl (hts _ kM_43) (hts _ kM_47) (by decide +kernel) hr, (hts _ kM_48), (hts _ kM_49)⟩ (prM_V (k := 0) hK hN hwd (show clM[0]? = some (R_Mo, F_Mo, 29) from rfl) rfl) rfl rfl hsz rfl (lv_room hW) hdg ⟨Nat.zero_le _, Nat.zero_le _⟩) kk

theorem mcM_Mo_92 {x1 : Int32} {K : Int32 → St → Prop} {f lo : Nat} (F : fxM D cI cZ p R s m args c cc nL R_Mo fr lr) (hwd : wdM D cI cZ ad A H0 g H locs) (hM : ctMI l y_Mo_far b_Mo_far 3 f lo D cI cZ ad [.ref (ad 0), .int x1] g K) (hr : f + 1 ≤ R.frames ∧ 8 + (3 + 11) + lo ≤ R.locals) (hsz : ls.size = nL) (hW : (rest.map fun v => v.category).sum ≤ 8) (hdg : decode cc pc = .ok (.invokevirtual 92, 3)) (kk : ∀ (r : Int32) (g' : St) (H : Heap) (locs : List Loc), K r g' → wdM D cI cZ ad A H0 g' H locs → W p l e R s m args below meth c H locs 0 0 Q (F0 m (pc + 3) ls (.int r :: rest))) : W p l e R s m args below meth c H locs 0 0 Q (F0 m pc ls (.int x1 :: .ref (ad 0) :: rest)) := by
  obtain ⟨hx, hb, hml, hown, hts, hK, hN, hR⟩ := F
  exact afM_I hwd (va_runV (As := [.int x1]) (rest := rest) ⟨hx, hb, hml, hown, hts⟩ (hM H.size) ⟨callB_of 1 hts (goodM _ (List.forall_mem_cons.mpr ⟨kM_103, fun _ h => h⟩)) rfl rfl rfl (hts _ kM_43) (hts _ kM_50) (by decide +kernel) hr, (hts _ kM_51), (hts _ kM_52)⟩ (prM_V (k := 0) hK hN hwd (show clM[0]? = some (R_Mo, F_Mo, 29) from rfl) rfl) rfl rfl hsz rfl (lv_room hW) hdg ⟨Nat.zero_le _, Nat.zero_le _⟩) kk

theorem mcM_Mo_98 {x1 : Int32} {K : St → Prop} {f lo : Nat} (F : fxM D cI cZ p R s m args c cc nL R_Mo fr lr) (hwd : wdM D cI cZ ad A H0 g H locs) (hM : ctMV l y_Mo_newMethod b_Mo_newMethod 2 f lo D cI cZ ad [.ref (ad 0), .int x1] g K) (hr : f + 1 ≤ R.frames ∧ 8 + (2 + 11) + lo ≤ R.locals) (hsz : ls.size = nL) (hW : (rest.map fun v => v.category).sum ≤ 8) (hdg : decode cc pc = .ok (.invokevirtual 98, 3)) (kk : ∀ (g' : St) (H : Heap) (locs : List Loc), K g' → wdM D cI cZ ad A H0 g' H locs → W p l e R s m args below meth c H locs 0 0 Q (F0 m (pc + 3) ls (rest))) : W p l e R s m args below meth c H locs 0 0 Q (F0 m pc ls (.int x1 :: .ref (ad 0) :: rest)) := by
  obtain ⟨hx, hb, hml, hown, hts, hK, hN, hR⟩ := F
  exact afM_V hwd (va_runV (As := [.int x1]) (rest := rest) ⟨hx, hb, hml, hown, hts⟩ (hM H.size) ⟨callB_of 1 hts (goodM _ (List.forall_mem_cons.mpr ⟨kM_105, fun _ h => h⟩)) rfl rfl rfl (hts _ kM_43) (hts _ kM_53) (by decide +kernel) hr, (hts _ kM_54), (hts _ kM_55)⟩ (prM_V (k := 0) hK hN hwd (show clM[0]? = some (R_Mo, F_Mo, 29) from rfl) rfl) rfl rfl hsz rfl (lv_room hW) hdg ⟨Nat.zero_le _, Nat.zero_le _⟩) kk

theorem mcM_Mo_102 {x1 : Int32} {K : Int32 → St → Prop} {f lo : Nat} (F : fxM D cI cZ p R s m args c cc nL R_Mo fr lr) (hwd : wdM D cI cZ ad A H0 g H locs) (hM : ctMI l y_Mo_bytesOf b_Mo_bytesOf 2 f lo D cI cZ ad [.ref (ad 0), .int x1] g K) (hr : f + 1 ≤ R.frames ∧ 8 + (2 + 11) + lo ≤ R.locals) (hsz : ls.size = nL) (hW : (rest.map fun v => v.category).sum ≤ 8) (hdg : decode cc pc = .ok (.invokevirtual 102, 3)) (kk : ∀ (r : Int32) (g' : St) (H : Heap) (locs : List Loc), K r g' → wdM D cI cZ ad A H0 g' H locs → W p l e R s m args below meth c H locs 0 0 Q (F0 m (pc + 3) ls (.int r :: rest))) : W p l e R s m args below meth c H locs 0 0 Q (F0 m pc ls (.int x1 :: .ref (ad 0) :: rest)) := by
  obtain ⟨hx, hb, hml, hown, hts, hK, hN, hR⟩ := F
  exact afM_I hwd (va_runV (As := [.int x1]) (rest := rest) ⟨hx, hb, hml, hown, hts⟩ (hM H.size) ⟨callB_of 1 hts (goodM _ (List.forall_mem_cons.mpr ⟨kM_104, fun _ h => h⟩)) rfl rfl rfl (hts _ kM_43) (hts _ kM_56) (by decide +kernel) hr, (hts _ kM_57), (hts _ kM_58)⟩ (prM_V (k := 0) hK hN hwd (show clM[0]? = some (R_Mo, F_Mo, 29) from rfl) rfl) rfl rfl hsz rfl (lv_room hW) hdg ⟨Nat.zero_le _, Nat.zero_le _⟩) kk

theorem mcM_Mo_105 {x1 : Int32} {K : St → Prop} {f lo : Nat} (F : fxM D cI cZ p R s m args c cc nL R_Mo fr lr) (hwd : wdM D cI cZ ad A H0 g H locs) (hM : ctMV l y_Mo_cutOut b_Mo_cutOut 2 f lo D cI cZ ad [.ref (ad 0), .int x1] g K) (hr : f + 1 ≤ R.frames ∧ 8 + (2 + 11) + lo ≤ R.locals) (hsz : ls.size = nL) (hW : (rest.map fun v => v.category).sum ≤ 8) (hdg : decode cc pc = .ok (.invokevirtual 105, 3)) (kk : ∀ (g' : St) (H : Heap) (locs : List Loc), K g' → wdM D cI cZ ad A H0 g' H locs → W p l e R s m args below meth c H locs 0 0 Q (F0 m (pc + 3) ls (rest))) : W p l e R s m args below meth c H locs 0 0 Q (F0 m pc ls (.int x1 :: .ref (ad 0) :: rest)) := by
  obtain ⟨hx, hb, hml, hown, hts, hK, hN, hR⟩ := F
  exact afM_V hwd (va_runV (As := [.int x1]) (rest := rest) ⟨hx, hb, hml, hown, hts⟩ (hM H.size) ⟨callB_of 1 hts (goodM _ (List.forall_mem_cons.mpr ⟨kM_106, fun _ h => h⟩)) rfl rfl rfl (hts _ kM_43) (hts _ kM_59) (by decide +kernel) hr, (hts _ kM_60), (hts _ kM_61)⟩ (prM_V (k := 0) hK hN hwd (show clM[0]? = some (R_Mo, F_Mo, 29) from rfl) rfl) rfl rfl hsz rfl (lv_room hW) hdg ⟨Nat.zero_le _, Nat.zero_le _⟩) kk

theorem mcM_Mo_108 {x1 x2 : Int32} {K : St → Prop} {f lo : Nat} (F : fxM D cI cZ p R s m args c cc nL R_Mo fr lr) (hwd : wdM D cI cZ ad A H0 g H locs) (hM : ctMV l y_Mo_measure b_Mo_measure 4 f lo D cI cZ ad [.ref (ad 0), .int x1, .int x2] g K) (hr : f + 1 ≤ R.frames ∧ 8 + (4 + 11) + lo ≤ R.locals) (hsz : ls.size = nL) (hW : (rest.map fun v => v.category).sum ≤ 8) (hdg : decode cc pc = .ok (.invokevirtual 108, 3)) (kk : ∀ (g' : St) (H : Heap) (locs : List Loc), K g' → wdM D cI cZ ad A H0 g' H locs → W p l e R s m args below meth c H locs 0 0 Q (F0 m (pc + 3) ls (rest))) : W p l e R s m args below meth c H locs 0 0 Q (F0 m pc ls (.int x2 :: .int x1 :: .ref (ad 0) :: rest)) := by
  obtain ⟨hx, hb, hml, hown, hts, hK, hN, hR⟩ := F
  exact afM_V hwd (va_runV (As := [.int x1, .int x2]) (rest := rest) ⟨hx, hb, hml, hown, hts⟩ (hM H.size) ⟨callB_of 2 hts (goodM _ (List.forall_mem_cons.mpr ⟨kM_107, fun _ h => h⟩)) rfl rfl rfl (hts _ kM_43) (hts _ kM_62) (by decide +kernel) hr, (hts _ kM_63), (hts _ kM_64)⟩ (prM_V (k := 0) hK hN hwd (show clM[0]? = some (R_Mo, F_Mo, 29) from rfl) rfl) rfl rfl hsz rfl (lv_room hW) hdg ⟨Nat.zero_le _, Nat.zero_le _⟩) kk

theorem mcM_Mo_118 {x1 : Int32} {K : St → Prop} {f lo : Nat} (F : fxM D cI cZ p R s m args c cc nL R_Mo fr lr) (hwd : wdM D cI cZ ad A H0 g H locs) (hM : ctMV l y_Mo_put b_Mo_put 2 f lo D cI cZ ad [.ref (ad 0), .int x1] g K) (hr : f + 1 ≤ R.frames ∧ 8 + (2 + 11) + lo ≤ R.locals) (hsz : ls.size = nL) (hW : (rest.map fun v => v.category).sum ≤ 8) (hdg : decode cc pc = .ok (.invokevirtual 118, 3)) (kk : ∀ (g' : St) (H : Heap) (locs : List Loc), K g' → wdM D cI cZ ad A H0 g' H locs → W p l e R s m args below meth c H locs 0 0 Q (F0 m (pc + 3) ls (rest))) : W p l e R s m args below meth c H locs 0 0 Q (F0 m pc ls (.int x1 :: .ref (ad 0) :: rest)) := by
  obtain ⟨hx, hb, hml, hown, hts, hK, hN, hR⟩ := F
  exact afM_V hwd (va_runV (As := [.int x1]) (rest := rest) ⟨hx, hb, hml, hown, hts⟩ (hM H.size) ⟨callB_of 1 hts (goodM _ (List.forall_mem_cons.mpr ⟨kM_109, fun _ h => h⟩)) rfl rfl rfl (hts _ kM_43) (hts _ kM_65) (by decide +kernel) hr, (hts _ kM_66), (hts _ kM_67)⟩ (prM_V (k := 0) hK hN hwd (show clM[0]? = some (R_Mo, F_Mo, 29) from rfl) rfl) rfl rfl hsz rfl (lv_room hW) hdg ⟨Nat.zero_le _, Nat.zero_le _⟩) kk

theorem mcM_Mo_121 {x1 x2 x3 : Int32} {K : Int32 → St → Prop} {f lo : Nat} (F : fxM D cI cZ p R s m args c cc nL R_Mo fr lr) (hwd : wdM D cI cZ ad A H0 g H locs) (hM : ctMI l y_Mo_entryFor b_Mo_entryFor 5 f lo D cI cZ ad [.ref (ad 0), .int x1, .int x2, .int x3] g K) (hr : f + 1 ≤ R.frames ∧ 8 + (5 + 11) + lo ≤ R.locals) (hsz : ls.size = nL) (hW : (rest.map fun v => v.category).sum ≤ 8) (hdg : decode cc pc = .ok (.invokevirtual 121, 3)) (kk : ∀ (r : Int32) (g' : St) (H : Heap) (locs : List Loc), K r g' → wdM D cI cZ ad A H0 g' H locs → W p l e R s m args below meth c H locs 0 0 Q (F0 m (pc + 3) ls (.int r :: rest))) : W p l e R s m args below meth c H locs 0 0 Q (F0 m pc ls (.int x3 :: .int x2 :: .int x1 :: .ref (ad 0) :: rest)) := by
  obtain ⟨hx, hb, hml, hown, hts, hK, hN, hR⟩ := F
  exact afM_I hwd (va_runV (As := [.int x1, .int x2, .int x3]) (rest := rest) ⟨hx, hb, hml, hown, hts⟩ (hM H.size) ⟨callB_of 3 hts (goodM _ (List.forall_mem_cons.mpr ⟨kM_110, fun _ h => h⟩)) rfl rfl rfl (hts _ kM_43) (hts _ kM_68) (by decide +kernel) hr, (hts _ kM_69), (hts _ kM_70)⟩ (prM_V (k := 0) hK hN hwd (show clM[0]? = some (R_Mo, F_Mo, 29) from rfl) rfl) rfl rfl hsz rfl (lv_room hW) hdg ⟨Nat.zero_le _, Nat.zero_le _⟩) kk

theorem mcM_Mo_125 {x1 x2 x3 x4 : Int32} {K : St → Prop} {f lo : Nat} (F : fxM D cI cZ p R s m args c cc nL R_Mo fr lr) (hwd : wdM D cI cZ ad A H0 g H locs) (hM : ctMV l y_Mo_with b_Mo_with 6 f lo D cI cZ ad [.ref (ad 0), .int x1, .int x2, .int x3, .int x4] g K) (hr : f + 1 ≤ R.frames ∧ 8 + (6 + 11) + lo ≤ R.locals) (hsz : ls.size = nL) (hW : (rest.map fun v => v.category).sum ≤ 8) (hdg : decode cc pc = .ok (.invokevirtual 125, 3)) (kk : ∀ (g' : St) (H : Heap) (locs : List Loc), K g' → wdM D cI cZ ad A H0 g' H locs → W p l e R s m args below meth c H locs 0 0 Q (F0 m (pc + 3) ls (rest))) : W p l e R s m args below meth c H locs 0 0 Q (F0 m pc ls (.int x4 :: .int x3 :: .int x2 :: .int x1 :: .ref (ad 0) :: rest)) := by
  obtain ⟨hx, hb, hml, hown, hts, hK, hN, hR⟩ := F
  exact afM_V hwd (va_runV (As := [.int x1, .int x2, .int x3, .int x4]) (rest := rest) ⟨hx, hb, hml, hown, hts⟩ (hM H.size) ⟨callB_of 4 hts (goodM _ (List.forall_mem_cons.mpr ⟨kM_111, fun _ h => h⟩)) rfl rfl rfl (hts _ kM_43) (hts _ kM_71) (by decide +kernel) hr, (hts _ kM_72), (hts _ kM_73)⟩ (prM_V (k := 0) hK hN hwd (show clM[0]? = some (R_Mo, F_Mo, 29) from rfl) rfl) rfl rfl hsz rfl (lv_room hW) hdg ⟨Nat.zero_le _, Nat.zero_le _⟩) kk

theorem mcM_Mo_132 {x1 x2 : Int32} {K : St → Prop} {f lo : Nat} (F : fxM D cI cZ p R s m args c cc nL R_Mo fr lr) (hwd : wdM D cI cZ ad A H0 g H locs) (hM : ctMV l y_Mo_write b_Mo_write 7 f lo D cI cZ ad [.ref (ad 0), .int x1, .int x2] g K) (hr : f + 1 ≤ R.frames ∧ 8 + (7 + 11) + lo ≤ R.locals) (hsz : ls.size = nL) (hW : (rest.map fun v => v.category).sum ≤ 8) (hdg : decode cc pc = .ok (.invokevirtual 132, 3)) (kk : ∀ (g' : St) (H : Heap) (locs : List Loc), K g' → wdM D cI cZ ad A H0 g' H locs → W p l e R s m args below meth c H locs 0 0 Q (F0 m (pc + 3) ls (rest))) : W p l e R s m args below meth c H locs 0 0 Q (F0 m pc ls (.int x2 :: .int x1 :: .ref (ad 0) :: rest)) := by
  obtain ⟨hx, hb, hml, hown, hts, hK, hN, hR⟩ := F
  exact afM_V hwd (va_runV (As := [.int x1, .int x2]) (rest := rest) ⟨hx, hb, hml, hown, hts⟩ (hM H.size) ⟨callB_of 2 hts (goodM _ (List.forall_mem_cons.mpr ⟨kM_112, fun _ h => h⟩)) rfl rfl rfl (hts _ kM_43) (hts _ kM_74) (by decide +kernel) hr, (hts _ kM_75), (hts _ kM_76)⟩ (prM_V (k := 0) hK hN hwd (show clM[0]? = some (R_Mo, F_Mo, 29) from rfl) rfl) rfl rfl hsz rfl (lv_room hW) hdg ⟨Nat.zero_le _, Nat.zero_le _⟩) kk

theorem mcM_Mo_145 {x1 : Int32} {K : St → Prop} {f lo : Nat} (F : fxM D cI cZ p R s m args c cc nL R_Mo fr lr) (hwd : wdM D cI cZ ad A H0 g H locs) (hM : ctMV l y_Mo_writeAll b_Mo_writeAll 5 f lo D cI cZ ad [.ref (ad 0), .int x1] g K) (hr : f + 1 ≤ R.frames ∧ 8 + (5 + 11) + lo ≤ R.locals) (hsz : ls.size = nL) (hW : (rest.map fun v => v.category).sum ≤ 8) (hdg : decode cc pc = .ok (.invokevirtual 145, 3)) (kk : ∀ (g' : St) (H : Heap) (locs : List Loc), K g' → wdM D cI cZ ad A H0 g' H locs → W p l e R s m args below meth c H locs 0 0 Q (F0 m (pc + 3) ls (rest))) : W p l e R s m args below meth c H locs 0 0 Q (F0 m pc ls (.int x1 :: .ref (ad 0) :: rest)) := by
  obtain ⟨hx, hb, hml, hown, hts, hK, hN, hR⟩ := F
  exact afM_V hwd (va_runV (As := [.int x1]) (rest := rest) ⟨hx, hb, hml, hown, hts⟩ (hM H.size) ⟨callB_of 1 hts (goodM _ (List.forall_mem_cons.mpr ⟨kM_113, fun _ h => h⟩)) rfl rfl rfl (hts _ kM_43) (hts _ kM_77) (by decide +kernel) hr, (hts _ kM_78), (hts _ kM_79)⟩ (prM_V (k := 0) hK hN hwd (show clM[0]? = some (R_Mo, F_Mo, 29) from rfl) rfl) rfl rfl hsz rfl (lv_room hW) hdg ⟨Nat.zero_le _, Nat.zero_le _⟩) kk

theorem mcM_Mo_139 {x1 x2 : Int32} {K : St → Prop} {f lo : Nat} (F : fxM D cI cZ p R s m args c cc nL R_Mo fr lr) (hwd : wdM D cI cZ ad A H0 g H locs) (hM : ctMV l y_Mo_cutTree b_Mo_cutTree 6 f lo D cI cZ ad [.ref (ad 0), .int x1, .int x2] g K) (hr : f + 1 ≤ R.frames ∧ 8 + (6 + 11) + lo ≤ R.locals) (hsz : ls.size = nL) (hW : (rest.map fun v => v.category).sum ≤ 8) (hdg : decode cc pc = .ok (.invokevirtual 139, 3)) (kk : ∀ (g' : St) (H : Heap) (locs : List Loc), K g' → wdM D cI cZ ad A H0 g' H locs → W p l e R s m args below meth c H locs 0 0 Q (F0 m (pc + 3) ls (rest))) : W p l e R s m args below meth c H locs 0 0 Q (F0 m pc ls (.int x2 :: .int x1 :: .ref (ad 0) :: rest)) := by
  obtain ⟨hx, hb, hml, hown, hts, hK, hN, hR⟩ := F
  exact afM_V hwd (va_runV (As := [.int x1, .int x2]) (rest := rest) ⟨hx, hb, hml, hown, hts⟩ (hM H.size) ⟨callB_of 2 hts (goodM _ (List.forall_mem_cons.mpr ⟨kM_108, fun _ h => h⟩)) rfl rfl rfl (hts _ kM_43) (hts _ kM_80) (by decide +kernel) hr, (hts _ kM_81), (hts _ kM_82)⟩ (prM_V (k := 0) hK hN hwd (show clM[0]? = some (R_Mo, F_Mo, 29) from rfl) rfl) rfl rfl hsz rfl (lv_room hW) hdg ⟨Nat.zero_le _, Nat.zero_le _⟩) kk

theorem mcM_Mo_135 {K : Int32 → St → Prop} {f lo : Nat} (F : fxM D cI cZ p R s m args c cc nL R_Mo fr lr) (hwd : wdM D cI cZ ad A H0 g H locs) (hM : ctMI l y_Mo_fault b_Mo_fault 6 f lo D cI cZ ad [.ref (ad 0)] g K) (hr : f + 1 ≤ R.frames ∧ 8 + (6 + 11) + lo ≤ R.locals) (hsz : ls.size = nL) (hW : (rest.map fun v => v.category).sum ≤ 8) (hdg : decode cc pc = .ok (.invokevirtual 135, 3)) (kk : ∀ (r : Int32) (g' : St) (H : Heap) (locs : List Loc), K r g' → wdM D cI cZ ad A H0 g' H locs → W p l e R s m args below meth c H locs 0 0 Q (F0 m (pc + 3) ls (.int r :: rest))) : W p l e R s m args below meth c H locs 0 0 Q (F0 m pc ls (.ref (ad 0) :: rest)) := by
  obtain ⟨hx, hb, hml, hown, hts, hK, hN, hR⟩ := F
  exact afM_I hwd (va_runV (As := []) (rest := rest) ⟨hx, hb, hml, hown, hts⟩ (hM H.size) ⟨callB_of 0 hts (goodM _ (List.forall_mem_cons.mpr ⟨kM_101, fun _ h => h⟩)) rfl rfl rfl (hts _ kM_43) (hts _ kM_83) (by decide +kernel) hr, (hts _ kM_84), (hts _ kM_85)⟩ (prM_V (k := 0) hK hN hwd (show clM[0]? = some (R_Mo, F_Mo, 29) from rfl) rfl) rfl rfl hsz rfl (lv_room hW) hdg ⟨Nat.zero_le _, Nat.zero_le _⟩) kk

theorem mcM_Mo_148 {x1 : Int32} {K : Int32 → St → Prop} {f lo : Nat} (F : fxM D cI cZ p R s m args c cc nL R_Mo fr lr) (hwd : wdM D cI cZ ad A H0 g H locs) (hM : ctMZ l y_Mo_isMethod b_Mo_isMethod 2 f lo D cI cZ ad [.ref (ad 0), .int x1] g K) (hr : f + 1 ≤ R.frames ∧ 8 + (2 + 11) + lo ≤ R.locals) (hsz : ls.size = nL) (hW : (rest.map fun v => v.category).sum ≤ 8) (hdg : decode cc pc = .ok (.invokevirtual 148, 3)) (kk : ∀ (r : Int32) (g' : St) (H : Heap) (locs : List Loc), K r g' → wdM D cI cZ ad A H0 g' H locs → W p l e R s m args below meth c H locs 0 0 Q (F0 m (pc + 3) ls (.int r :: rest))) : W p l e R s m args below meth c H locs 0 0 Q (F0 m pc ls (.int x1 :: .ref (ad 0) :: rest)) := by
  obtain ⟨hx, hb, hml, hown, hts, hK, hN, hR⟩ := F
  exact afM_I hwd (va_runV (As := [.int x1]) (rest := rest) ⟨hx, hb, hml, hown, hts⟩ (hM H.size) ⟨callB_of 1 hts (goodM _ (List.forall_mem_cons.mpr ⟨kM_115, fun _ h => h⟩)) rfl rfl rfl (hts _ kM_43) (hts _ kM_86) (by decide +kernel) hr, (hts _ kM_87), (hts _ kM_88)⟩ (prM_V (k := 0) hK hN hwd (show clM[0]? = some (R_Mo, F_Mo, 29) from rfl) rfl) rfl rfl hsz rfl (lv_room hW) hdg ⟨Nat.zero_le _, Nat.zero_le _⟩) kk

theorem mcM_Mo_162 {x1 : Int32} {K : Int32 → St → Prop} {f lo : Nat} (F : fxM D cI cZ p R s m args c cc nL R_Mo fr lr) (hwd : wdM D cI cZ ad A H0 g H locs) (hM : ctMI l y_Mo_whole b_Mo_whole 2 f lo D cI cZ ad [.int x1] g K) (hr : f + 1 ≤ R.frames ∧ 8 + (2 + 11) + lo ≤ R.locals) (hsz : ls.size = nL) (hW : (rest.map fun v => v.category).sum ≤ 8) (hdg : decode cc pc = .ok (.invokestatic 162, 3)) (kk : ∀ (r : Int32) (g' : St) (H : Heap) (locs : List Loc), K r g' → wdM D cI cZ ad A H0 g' H locs → W p l e R s m args below meth c H locs 0 0 Q (F0 m (pc + 3) ls (.int r :: rest))) : W p l e R s m args below meth c H locs 0 0 Q (F0 m pc ls (.int x1 :: rest)) := by
  obtain ⟨hx, hb, hml, hown, hts, hK, hN, hR⟩ := F
  exact afM_I hwd (va_runS (As := [.int x1]) (rest := rest) ⟨hx, hb, hml, hown, hts⟩ (hM H.size) ⟨callB_of 1 hts (goodM _ (List.forall_mem_cons.mpr ⟨kM_125, fun _ h => h⟩)) rfl rfl rfl (hts _ kM_43) (hts _ kM_89) (by decide +kernel) hr, (hts _ kM_90)⟩ (prM_S hK hN hwd) rfl rfl hsz rfl (lv_room hW) hdg ⟨Nat.zero_le _, Nat.zero_le _⟩) kk

theorem mcM_Mo_159 {x1 : Int32} {K : Int32 → St → Prop} {f lo : Nat} (F : fxM D cI cZ p R s m args c cc nL R_Mo fr lr) (hwd : wdM D cI cZ ad A H0 g H locs) (hM : ctMI l y_Mo_ordered b_Mo_ordered 1 f lo D cI cZ ad [.int x1] g K) (hr : f + 1 ≤ R.frames ∧ 8 + (1 + 11) + lo ≤ R.locals) (hsz : ls.size = nL) (hW : (rest.map fun v => v.category).sum ≤ 8) (hdg : decode cc pc = .ok (.invokestatic 159, 3)) (kk : ∀ (r : Int32) (g' : St) (H : Heap) (locs : List Loc), K r g' → wdM D cI cZ ad A H0 g' H locs → W p l e R s m args below meth c H locs 0 0 Q (F0 m (pc + 3) ls (.int r :: rest))) : W p l e R s m args below meth c H locs 0 0 Q (F0 m pc ls (.int x1 :: rest)) := by
  obtain ⟨hx, hb, hml, hown, hts, hK, hN, hR⟩ := F
  exact afM_I hwd (va_runS (As := [.int x1]) (rest := rest) ⟨hx, hb, hml, hown, hts⟩ (hM H.size) ⟨callB_of 1 hts (goodM _ (List.forall_mem_cons.mpr ⟨kM_124, fun _ h => h⟩)) rfl rfl rfl (hts _ kM_43) (hts _ kM_91) (by decide +kernel) hr, (hts _ kM_92)⟩ (prM_S hK hN hwd) rfl rfl hsz rfl (lv_room hW) hdg ⟨Nat.zero_le _, Nat.zero_le _⟩) kk

theorem mcM_Mo_165 {x1 : Int32} {K : Int32 → St → Prop} {f lo : Nat} (F : fxM D cI cZ p R s m args c cc nL R_Mo fr lr) (hwd : wdM D cI cZ ad A H0 g H locs) (hM : ctMZ l y_Mo_goesToYes b_Mo_goesToYes 6 f lo D cI cZ ad [.ref (ad 0), .int x1] g K) (hr : f + 1 ≤ R.frames ∧ 8 + (6 + 11) + lo ≤ R.locals) (hsz : ls.size = nL) (hW : (rest.map fun v => v.category).sum ≤ 8) (hdg : decode cc pc = .ok (.invokevirtual 165, 3)) (kk : ∀ (r : Int32) (g' : St) (H : Heap) (locs : List Loc), K r g' → wdM D cI cZ ad A H0 g' H locs → W p l e R s m args below meth c H locs 0 0 Q (F0 m (pc + 3) ls (.int r :: rest))) : W p l e R s m args below meth c H locs 0 0 Q (F0 m pc ls (.int x1 :: .ref (ad 0) :: rest)) := by
  obtain ⟨hx, hb, hml, hown, hts, hK, hN, hR⟩ := F
  exact afM_I hwd (va_runV (As := [.int x1]) (rest := rest) ⟨hx, hb, hml, hown, hts⟩ (hM H.size) ⟨callB_of 1 hts (goodM _ (List.forall_mem_cons.mpr ⟨kM_126, fun _ h => h⟩)) rfl rfl rfl (hts _ kM_43) (hts _ kM_93) (by decide +kernel) hr, (hts _ kM_94), (hts _ kM_95)⟩ (prM_V (k := 0) hK hN hwd (show clM[0]? = some (R_Mo, F_Mo, 29) from rfl) rfl) rfl rfl hsz rfl (lv_room hW) hdg ⟨Nat.zero_le _, Nat.zero_le _⟩) kk
end ROWSM
theorem enMI {l : Launch} {y : MethodName} {cc : ByteArray} {nL f lo : Nat} {D : va_G} {cI cZ : ClassId} {ad : Nat → Nat} {av : List Value} {g : St} {K : Int32 → St → Prop} (hy : plainName y.cls = true) (hlen : (lg_sl av).length ≤ nL)
    (body : ∀ (p : Program) (e : Env) (s : State) (m : MethodId) (args : Array Value) (below : List Frame) (meth : Method) (c : Code) (A : Nat → Prop) (H0 : Heap) (ls : Array Slot) (Q : State → Prop), fxM D cI cZ p { frames := f, cells := 0, slots := 0, locals := lo } s m args c cc nL y.cls f lo → wdM D cI cZ ad A H0 g H0 [] → lv_has ls nL (lv_args 0 av) → rtMI D cI cZ ad p l e { frames := f, cells := 0, slots := 0, locals := lo } s m args below meth c cc A H0 Q K → W p l e { frames := f, cells := 0, slots := 0, locals := lo } s m args below meth c H0 [] 0 0 Q (F0 m 0 ls [])) : ctMI l y cc nL f lo D cI cZ ad av g K := by
  intro sz
  refine Met.ofW (cc := cc) (maxL := nL) (ret := (some .int)) hy rfl ?_
  intro p e s m args below meth c s₁ B hml hv
  obtain ⟨rfl, hsz, hP, hK, hD0, hN⟩ := hv
  have hx := B.exec
  have hb := B.bytes
  have hr := B.returns
  have hts := atoms_spec (ws := .code y cc nL (some .int) :: wGM) B.pre
  have hown : s.vm.findClass y.cls = some m.cls := findClass_of_methodNamed B.named
  have hlocks := B.notSynchronized
  subst hsz
  have hD := hD0.self (sz := s.heap.size)
  have hl := lv_entry av (n := nL) hlen
  rw [lg_entry_eq]
  refine body p e s m _ below meth c _ s.heap _ _ ⟨hx, hb, hml, hown, fun w h => hts w (List.mem_cons_of_mem _ h), hK, hN, Nat.le_refl _, Nat.le_refl _⟩ ⟨hP, hD, va_S.rf, fun q h => Or.inr h⟩ hl ?_
  intro r g' H' locs' hk hwd pc' ls' hdg
  obtain ⟨hP9, hD9, hS9, -⟩ := hwd
  exact W.iret (v := r) hx hb hr (fun t ht hW => ⟨⟨r, g', rfl, hk, by rw [ht]; exact hP9, va_K.moved hW.alike hK, hD9⟩, hS9.F ht⟩) hS9.2.2 hdg
theorem enMZ {l : Launch} {y : MethodName} {cc : ByteArray} {nL f lo : Nat} {D : va_G} {cI cZ : ClassId} {ad : Nat → Nat} {av : List Value} {g : St} {K : Int32 → St → Prop} (hy : plainName y.cls = true) (hlen : (lg_sl av).length ≤ nL)
    (body : ∀ (p : Program) (e : Env) (s : State) (m : MethodId) (args : Array Value) (below : List Frame) (meth : Method) (c : Code) (A : Nat → Prop) (H0 : Heap) (ls : Array Slot) (Q : State → Prop), fxM D cI cZ p { frames := f, cells := 0, slots := 0, locals := lo } s m args c cc nL y.cls f lo → wdM D cI cZ ad A H0 g H0 [] → lv_has ls nL (lv_args 0 av) → rtMZ D cI cZ ad p l e { frames := f, cells := 0, slots := 0, locals := lo } s m args below meth c cc A H0 Q K → W p l e { frames := f, cells := 0, slots := 0, locals := lo } s m args below meth c H0 [] 0 0 Q (F0 m 0 ls [])) : ctMZ l y cc nL f lo D cI cZ ad av g K := by
  intro sz
  refine Met.ofW (cc := cc) (maxL := nL) (ret := (some .boolean)) hy rfl ?_
  intro p e s m args below meth c s₁ B hml hv
  obtain ⟨rfl, hsz, hP, hK, hD0, hN⟩ := hv
  have hx := B.exec
  have hb := B.bytes
  have hr := B.returns
  have hts := atoms_spec (ws := .code y cc nL (some .boolean) :: wGM) B.pre
  have hown : s.vm.findClass y.cls = some m.cls := findClass_of_methodNamed B.named
  have hlocks := B.notSynchronized
  subst hsz
  have hD := hD0.self (sz := s.heap.size)
  have hl := lv_entry av (n := nL) hlen
  rw [lg_entry_eq]
  refine body p e s m _ below meth c _ s.heap _ _ ⟨hx, hb, hml, hown, fun w h => hts w (List.mem_cons_of_mem _ h), hK, hN, Nat.le_refl _, Nat.le_refl _⟩ ⟨hP, hD, va_S.rf, fun q h => Or.inr h⟩ hl ?_
  intro r g' H' locs' hk h01 hwd pc' ls' hdg
  obtain ⟨hP9, hD9, hS9, -⟩ := hwd
  exact W.zret (v := r) hx hb hr (by rcases h01 with rfl | rfl <;> rfl) (fun t ht hW => ⟨⟨r, g', rfl, hk, by rw [ht]; exact hP9, va_K.moved hW.alike hK, hD9⟩, hS9.F ht⟩) hS9.2.2 hdg
theorem enMJ {l : Launch} {y : MethodName} {cc : ByteArray} {nL f lo : Nat} {D : va_G} {cI cZ : ClassId} {ad : Nat → Nat} {av : List Value} {g : St} {K : Int64 → St → Prop} (hy : plainName y.cls = true) (hlen : (lg_sl av).length ≤ nL)
    (body : ∀ (p : Program) (e : Env) (s : State) (m : MethodId) (args : Array Value) (below : List Frame) (meth : Method) (c : Code) (A : Nat → Prop) (H0 : Heap) (ls : Array Slot) (Q : State → Prop), fxM D cI cZ p { frames := f, cells := 0, slots := 0, locals := lo } s m args c cc nL y.cls f lo → wdM D cI cZ ad A H0 g H0 [] → lv_has ls nL (lv_args 0 av) → rtMJ D cI cZ ad p l e { frames := f, cells := 0, slots := 0, locals := lo } s m args below meth c cc A H0 Q K → W p l e { frames := f, cells := 0, slots := 0, locals := lo } s m args below meth c H0 [] 0 0 Q (F0 m 0 ls [])) : ctMJ l y cc nL f lo D cI cZ ad av g K := by
  intro sz
  refine Met.ofW (cc := cc) (maxL := nL) (ret := (some .long)) hy rfl ?_
  intro p e s m args below meth c s₁ B hml hv
  obtain ⟨rfl, hsz, hP, hK, hD0, hN⟩ := hv
  have hx := B.exec
  have hb := B.bytes
  have hr := B.returns
  have hts := atoms_spec (ws := .code y cc nL (some .long) :: wGM) B.pre
  have hown : s.vm.findClass y.cls = some m.cls := findClass_of_methodNamed B.named
  have hlocks := B.notSynchronized
  subst hsz
  have hD := hD0.self (sz := s.heap.size)
  have hl := lv_entry av (n := nL) hlen
  rw [lg_entry_eq]
  refine body p e s m _ below meth c _ s.heap _ _ ⟨hx, hb, hml, hown, fun w h => hts w (List.mem_cons_of_mem _ h), hK, hN, Nat.le_refl _, Nat.le_refl _⟩ ⟨hP, hD, va_S.rf, fun q h => Or.inr h⟩ hl ?_
  intro r g' H' locs' hk hwd pc' ls' hdg
  obtain ⟨hP9, hD9, hS9, -⟩ := hwd
  exact W.lret (v := r) hx hb hr (fun t ht hW => ⟨⟨r, g', rfl, hk, by rw [ht]; exact hP9, va_K.moved hW.alike hK, hD9⟩, hS9.F ht⟩) hS9.2.2 hdg
theorem enMV {l : Launch} {y : MethodName} {cc : ByteArray} {nL f lo : Nat} {D : va_G} {cI cZ : ClassId} {ad : Nat → Nat} {av : List Value} {g : St} {K : St → Prop} (hy : plainName y.cls = true) (hlen : (lg_sl av).length ≤ nL)
    (body : ∀ (p : Program) (e : Env) (s : State) (m : MethodId) (args : Array Value) (below : List Frame) (meth : Method) (c : Code) (A : Nat → Prop) (H0 : Heap) (ls : Array Slot) (Q : State → Prop), fxM D cI cZ p { frames := f, cells := 0, slots := 0, locals := lo } s m args c cc nL y.cls f lo → wdM D cI cZ ad A H0 g H0 [] → lv_has ls nL (lv_args 0 av) → rtMV D cI cZ ad p l e { frames := f, cells := 0, slots := 0, locals := lo } s m args below meth c cc A H0 Q K → W p l e { frames := f, cells := 0, slots := 0, locals := lo } s m args below meth c H0 [] 0 0 Q (F0 m 0 ls [])) : ctMV l y cc nL f lo D cI cZ ad av g K := by
  intro sz
  refine Met.ofW (cc := cc) (maxL := nL) (ret := none) hy rfl ?_
  intro p e s m args below meth c s₁ B hml hv
  obtain ⟨rfl, hsz, hP, hK, hD0, hN⟩ := hv
  have hx := B.exec
  have hb := B.bytes
  have hr := B.returns
  have hts := atoms_spec (ws := .code y cc nL none :: wGM) B.pre
  have hown : s.vm.findClass y.cls = some m.cls := findClass_of_methodNamed B.named
  have hlocks := B.notSynchronized
  subst hsz
  have hD := hD0.self (sz := s.heap.size)
  have hl := lv_entry av (n := nL) hlen
  rw [lg_entry_eq]
  refine body p e s m _ below meth c _ s.heap _ _ ⟨hx, hb, hml, hown, fun w h => hts w (List.mem_cons_of_mem _ h), hK, hN, Nat.le_refl _, Nat.le_refl _⟩ ⟨hP, hD, va_S.rf, fun q h => Or.inr h⟩ hl ?_
  intro g' H' locs' hk hwd pc' ls' hdg
  obtain ⟨hP9, hD9, hS9, -⟩ := hwd
  exact W.vret hx hb hr (fun t ht hW => ⟨⟨g', rfl, hk, by rw [ht]; exact hP9, va_K.moved hW.alike hK, hD9⟩, hS9.F ht⟩) hS9.2.2 hdg
