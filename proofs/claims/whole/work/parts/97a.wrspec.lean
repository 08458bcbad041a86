/-! compile, third stage: what is written, as a function. A state: all bytes, the latest table's entries. -/
abbrev KB : Type := Int32 × Int32
abbrev Ws : Type := List Int32 × List KB
def fnd : List KB → KB → Nat
  | [], _ => 0
  | x :: l, kb => if x = kb then 0 else fnd l kb + 1
def ins (E : List KB) (kb : KB) : List KB := if fnd E kb < E.length then E else E ++ [kb]
theorem fnd_le : ∀ (E : List KB) (kb : KB), fnd E kb ≤ E.length := by
  intro E kb
  induction E with
  | nil => exact Nat.le_refl _
  | cons x l ih =>
    unfold fnd
    split
    · exact Nat.zero_le _
    · show fnd l kb + 1 ≤ l.length + 1; omega
theorem fnd_get : ∀ (E : List KB) (kb : KB), fnd E kb < E.length → E[fnd E kb]? = some kb := by
  intro E kb
  induction E with
  | nil => intro h; exact absurd h (Nat.not_lt_zero _)
  | cons x l ih =>
    intro h
    unfold fnd at h ⊢
    by_cases e : x = kb
    · rw [if_pos e, e]; rfl
    · rw [if_neg e] at h ⊢
      have h : fnd l kb + 1 < l.length + 1 := h
      show l[fnd l kb]? = some kb
      exact ih (by omega)
theorem fnd_not : ∀ (E : List KB) (kb : KB) (k : Nat), k < fnd E kb → E[k]? ≠ some kb := by
  intro E kb
  induction E with
  | nil => intro k h; exact absurd h (Nat.not_lt_zero _)
  | cons x l ih =>
    intro k h
    unfold fnd at h
    by_cases e : x = kb
    · rw [if_pos e] at h; exact absurd h (Nat.not_lt_zero _)
    · rw [if_neg e] at h
      cases k with
      | zero => exact fun q => e (Option.some.inj q)
      | succ k => exact ih k (by omega)
theorem ins_pre (E : List KB) (kb : KB) : ∃ Y, ins E kb = E ++ Y ∧ Y.length ≤ 1 := by
  unfold ins
  split
  · exact ⟨[], by simp, by simp⟩
  · exact ⟨[kb], rfl, by simp⟩
theorem ins_get (E : List KB) (kb : KB) : (ins E kb)[fnd E kb]? = some kb := by
  unfold ins
  split
  · rename_i h; exact fnd_get E kb h
  · rename_i h
    have := fnd_le E kb
    rw [show fnd E kb = E.length by omega]
    exact List.getElem?_concat_length
def put (w : Ws) (b : Int32) : Ws := (w.1 ++ [b], w.2)
def wth (w : Ws) (op : Int32) (kb : KB) : Ws := (w.1 ++ [op] ++ [nI (fnd w.2 kb)], ins w.2 kb)
def tst (w : Ws) (r y : Nat) : Ws := if tl y = 2 then put (put w (nI (10 + r))) (nI (2 + y)) else put (put (put w (nI (20 + r))) (nI ((3 + y) / 256))) (nI ((3 + y) % 256))
section WR
variable (ru bi : Nat → Int32) (fe ye no : Nat → Nat) (s : Cs)
def rnum (x : Int32) : Nat := x.toNatClampNeg
def knd (x : Nat) : Int32 := if 4 ≤ ru x then 3 else 1
def hd (i : Nat) (w : Ws) : Ws := tst (wth (put (put w 1) (nI (fe i))) 2 (knd ru i, bi i)) (rnum (ru i)) (prt s (ye i))
def wrN : Nat → Nat → Ws → Ws
  | 0, _, w => w
  | d + 1, i, w => if ru i = -1 then put (wth w 2 (2, bi i)) 3 else
      (fun w1 => if s.2.1 (no i) = 0 then wrN d (no i) w1 else put (wth w1 4 (4, nI (s.2.1 (no i) - 1))) 3)
        ((fun w0 => if s.2.1 (ye i) = 0 then wrN d (ye i) w0 else put (wth w0 4 (4, nI (s.2.1 (ye i) - 1))) 3) (hd ru bi fe ye s i w))
def wrP (d x : Nat) (w : Ws) : Ws := if s.2.1 x = 0 then wrN ru bi fe ye no s d x w else put (wth w 4 (4, nI (s.2.1 x - 1))) 3
def eN : Nat → Nat → Nat
  | 0, _ => 0
  | d + 1, i => if ru i = -1 then 1 else 1 + (if s.2.1 (ye i) = 0 then eN d (ye i) else 1) + (if s.2.1 (no i) = 0 then eN d (no i) else 1)
def eP (d x : Nat) : Nat := if s.2.1 x = 0 then eN ru ye no s d x else 1
end WR
section WRP
variable {n lim : Nat} {ru bi : Nat → Int32} {fe ye no : Nat → Nat} {s : Cs}
theorem wrN_leaf {d i : Nat} {w : Ws} (h : ru i = -1) : wrN ru bi fe ye no s (d + 1) i w = put (wth w 2 (2, bi i)) 3 := by unfold wrN; rw [if_pos h]
theorem wrN_split {d i : Nat} {w : Ws} (h : ¬ ru i = -1) : wrN ru bi fe ye no s (d + 1) i w = wrP ru bi fe ye no s d (no i) (wrP ru bi fe ye no s d (ye i) (hd ru bi fe ye s i w)) := by
  conv => lhs; unfold wrN
  rw [if_neg h]; rfl
theorem eN_leaf {d i : Nat} (h : ru i = -1) : eN ru ye no s (d + 1) i = 1 := by unfold eN; rw [if_pos h]
theorem eN_split {d i : Nat} (h : ¬ ru i = -1) : eN ru ye no s (d + 1) i = 1 + eP ru ye no s d (ye i) + eP ru ye no s d (no i) := by
  conv => lhs; unfold eN
  rw [if_neg h]; rfl
/-- w' goes on from w, with k bytes more and at most e entries more -/
def Ext (w w' : Ws) (k e : Nat) : Prop := ∃ (X : List Int32) (Y : List KB), w'.1 = w.1 ++ X ∧ w'.2 = w.2 ++ Y ∧ X.length = k ∧ Y.length ≤ e
theorem Ext.tr {a b c : Ws} {k1 k2 e1 e2 : Nat} (h1 : Ext a b k1 e1) (h2 : Ext b c k2 e2) : Ext a c (k1 + k2) (e1 + e2) := by
  obtain ⟨X1, Y1, x1, y1, l1, m1⟩ := h1
  obtain ⟨X2, Y2, x2, y2, l2, m2⟩ := h2
  exact ⟨X1 ++ X2, Y1 ++ Y2, by rw [x2, x1]; simp, by rw [y2, y1]; simp, by simp; omega, by simp; omega⟩
theorem Ext_put (w : Ws) (b : Int32) : Ext w (put w b) 1 0 := ⟨[b], [], rfl, by unfold put; simp, rfl, Nat.le_refl _⟩
theorem Ext_wth (w : Ws) (op : Int32) (kb : KB) : Ext w (wth w op kb) 2 1 := by
  obtain ⟨Y, hY, hl⟩ := ins_pre w.2 kb
  exact ⟨[op, nI (fnd w.2 kb)], Y, by unfold wth; simp, hY, rfl, hl⟩
theorem Ext_tst (w : Ws) (r y : Nat) : Ext w (tst w r y) (tl y) 0 := by
  unfold tst
  by_cases h : tl y = 2
  · rw [if_pos h, h]
    exact (Ext_put _ _).tr (Ext_put _ _)
  · rw [if_neg h, show tl y = 3 by have := tl_b y; omega]
    exact ((Ext_put _ _).tr (Ext_put _ _)).tr (Ext_put _ _)
theorem Ext_hd (w : Ws) (i : Nat) : Ext w (hd ru bi fe ye s i w) (4 + tl (prt s (ye i))) 1 := by
  have := (((Ext_put w 1).tr (Ext_put _ (nI (fe i)))).tr (Ext_wth _ 2 (knd ru i, bi i))).tr (Ext_tst _ (rnum (ru i)) (prt s (ye i)))
  exact this
/-- lengths stand as the cutter left them -/
def Len (ru : Nat → Int32) (ye no : Nat → Nat) (s : Cs) (l : List Nat) : Prop := ∀ x ∈ l, (ru x = -1 → s.1 x = 3) ∧ (¬ ru x = -1 → s.1 x = sln ye no s x)
theorem wrN_ext : ∀ (d i : Nat) (w : Ws), TR n ru ye no d i → Len ru ye no s (nds ru ye no d i) → Ext w (wrN ru bi fe ye no s d i w) (s.1 i) (eN ru ye no s d i) := by
  intro d
  induction d with
  | zero => intro i w h; exact h.elim
  | succ d ih =>
    intro i w hT hL
    obtain ⟨hi, hT⟩ := hT
    rcases hT with hl | ⟨hl, h1, h2⟩
    · rw [wrN_leaf hl, eN_leaf hl, (hL i (by rw [nds_leaf hl]; simp)).1 hl]
      exact (Ext_wth _ _ _).tr (Ext_put _ _)
    · have hL' := hL
      rw [nds_split hl] at hL
      have part : ∀ x w, TR n ru ye no d x → Len ru ye no s (nds ru ye no d x) → Ext w (wrP ru bi fe ye no s d x w) (prt s x) (eP ru ye no s d x) := by
        intro x w hx hlx
        unfold wrP prt eP
        by_cases hc : s.2.1 x = 0
        · rw [if_pos hc, if_pos hc, if_pos hc]; exact ih x w hx hlx
        · rw [if_neg hc, if_neg hc, if_neg hc]; exact (Ext_wth _ _ _).tr (Ext_put _ _)
      rw [wrN_split hl, eN_split hl, (hL i (by simp)).2 hl]
      have := ((Ext_hd (ru := ru) (bi := bi) (fe := fe) (ye := ye) (s := s) w i).tr (part (ye i) _ h1 (fun x hx => hL x (by simp [hx])))).tr (part (no i) _ h2 (fun x hx => hL x (by simp [hx])))
      exact this
theorem wrP_ext {d x : Nat} (w : Ws) (hx : TR n ru ye no d x) (hlx : Len ru ye no s (nds ru ye no d x)) : Ext w (wrP ru bi fe ye no s d x w) (prt s x) (eP ru ye no s d x) := by
  unfold wrP prt eP
  by_cases hc : s.2.1 x = 0
  · rw [if_pos hc, if_pos hc, if_pos hc]; exact wrN_ext d x w hx hlx
  · rw [if_neg hc, if_neg hc, if_neg hc]; exact (Ext_wth _ _ _).tr (Ext_put _ _)
/-- the fuel doesn't matter -/
theorem TR_mono : ∀ (d k x : Nat), TR n ru ye no d x → d ≤ k → TR n ru ye no k x := by
  intro d
  induction d with
  | zero => intro k x h; exact h.elim
  | succ d ih =>
    intro k x h hk
    obtain ⟨k', rfl⟩ : ∃ k', k = k' + 1 := ⟨k - 1, by omega⟩
    obtain ⟨hi, h⟩ := h
    refine ⟨hi, ?_⟩
    rcases h with h | ⟨h, h1, h2⟩
    · exact Or.inl h
    · exact Or.inr ⟨h, ih k' _ h1 (by omega), ih k' _ h2 (by omega)⟩
theorem wrN_fuel : ∀ (d k x : Nat) (w : Ws), TR n ru ye no d x → d ≤ k → wrN ru bi fe ye no s k x w = wrN ru bi fe ye no s d x w := by
  intro d
  induction d with
  | zero => intro k x w h; exact h.elim
  | succ d ih =>
    intro k x w h hk
    obtain ⟨k', rfl⟩ : ∃ k', k = k' + 1 := ⟨k - 1, by omega⟩
    obtain ⟨hi, h⟩ := h
    rcases h with h | ⟨h, h1, h2⟩
    · rw [wrN_leaf h, wrN_leaf h]
    · rw [wrN_split h, wrN_split h]
      have part : ∀ y w, TR n ru ye no d y → wrP ru bi fe ye no s k' y w = wrP ru bi fe ye no s d y w := by
        intro y w hy
        unfold wrP
        rw [ih k' y w hy (by omega)]
      rw [part _ _ h1, part _ _ h2]
theorem eN_fuel : ∀ (d k x : Nat), TR n ru ye no d x → d ≤ k → eN ru ye no s k x = eN ru ye no s d x := by
  intro d
  induction d with
  | zero => intro k x h; exact h.elim
  | succ d ih =>
    intro k x h hk
    obtain ⟨k', rfl⟩ : ∃ k', k = k' + 1 := ⟨k - 1, by omega⟩
    obtain ⟨hi, h⟩ := h
    rcases h with h | ⟨h, h1, h2⟩
    · rw [eN_leaf h, eN_leaf h]
    · rw [eN_split h, eN_split h]
      unfold eP
      rw [ih k' _ h1 (by omega), ih k' _ h2 (by omega)]
/-- few entries: by the bytes, and by the nodes -/
theorem eN_bytes : ∀ (d i : Nat), TR n ru ye no d i → Len ru ye no s (nds ru ye no d i) → 4 * eN ru ye no s d i ≤ s.1 i + 1 ∧ (¬ ru i = -1 → 4 * eN ru ye no s d i ≤ s.1 i) ∧ eN ru ye no s d i ≤ (nds ru ye no d i).length := by
  intro d
  induction d with
  | zero => intro i h; exact h.elim
  | succ d ih =>
    intro i hT hL
    obtain ⟨hi, hT⟩ := hT
    rcases hT with hl | ⟨hl, h1, h2⟩
    · rw [eN_leaf hl, (hL i (by rw [nds_leaf hl]; simp)).1 hl, nds_leaf hl]
      exact ⟨by omega, fun q => absurd hl q, by simp⟩
    · rw [nds_split hl] at hL
      have part : ∀ x, TR n ru ye no d x → Len ru ye no s (nds ru ye no d x) → 4 * eP ru ye no s d x ≤ prt s x + 1 ∧ eP ru ye no s d x ≤ (nds ru ye no d x).length := by
        intro x hx hlx
        unfold eP prt
        by_cases hc : s.2.1 x = 0
        · rw [if_pos hc, if_pos hc]; exact ⟨(ih x hx hlx).1, (ih x hx hlx).2.2⟩
        · rw [if_neg hc, if_neg hc]
          refine ⟨by omega, ?_⟩
          exact List.length_pos_of_mem (nds_self hx)
      have p1 := part (ye i) h1 (fun x hx => hL x (by simp [hx]))
      have p2 := part (no i) h2 (fun x hx => hL x (by simp [hx]))
      have ht := tl_b (prt s (ye i))
      rw [eN_split hl, (hL i (by simp)).2 hl, nds_split hl]
      simp only [List.length_cons, List.length_append]
      unfold sln
      exact ⟨by omega, fun _ => by omega, by omega⟩
end WRP
