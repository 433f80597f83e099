/-! the judgement: a method's walk over ONE abstract heap (next address, slots used, cells by address) -/
abbrev gx_M : Type := String × MethodName × ByteArray × Nat × Option FieldType
abbrev gx_E : Type := (Nat × vp_A) ⊕ (Nat × List Value)
abbrev gx_H : Type := Nat × Nat × (Nat → Option gx_E)
abbrev gx_Z : Type := (Nat → ClassId) × (Nat → Nat → Nat) × (Nat → ClassId)
abbrev gx_S : Type := Nat × Nat × Nat × (Nat → Int32)
def gx_e (cy : Nat → ClassId) (e : gx_E) : va_E := match e with
  | .inl a => .inl (cy a.1, a.2)
  | .inr o => .inr o
def gx_ty (t : Nat) : FieldType := match t with
  | 0 => .int
  | 1 => .boolean
  | 2 => .object RX1
  | 3 => .object RX2
  | 4 => .object RX3
  | _ => .object RX4
def gx_tys (cy : Nat → ClassId) : List (ClassId × FieldType) := [(cy 0, gx_ty 0), (cy 1, gx_ty 1), (cy 2, gx_ty 2), (cy 3, gx_ty 3), (cy 4, gx_ty 4), (cy 5, gx_ty 5)]
abbrev gx_D (Z : gx_Z) : va_G := (Z.1, Z.2.1)
def gx_nest : Cond := .methodLinkNest RX5 24 yX0_init RX5
def gx_Kn (Z : gx_Z) (U : State) : Prop := va_K (gx_D Z) vwCl (gx_tys Z.2.2) U ∧ (va_AO RX1 U ∧ va_AO RX2 U ∧ va_AO RX3 U ∧ va_AO RX4 U) ∧ va_Nw gx_nest U
theorem gx_Kn.moved {Z : gx_Z} {s U : State} (hW : s.WarmedH U.vm) (h : gx_Kn Z s) : gx_Kn Z U :=
  ⟨va_K.moved hW.alike h.1, ⟨h.2.1.1.moved hW.alike, h.2.1.2.1.moved hW.alike, h.2.1.2.2.1.moved hW.alike, h.2.1.2.2.2.moved hW.alike⟩, va_Nw.warmM hW h.2.2⟩
theorem gx_Kn.same {Z : gx_Z} {s U : State} (hW : s.vm = U.vm) (h : gx_Kn Z s) : gx_Kn Z U := by
  have ha : s.vm.Alike U.vm := hW ▸ Vm.Alike.refl s.vm
  exact ⟨va_K.moved ha h.1, ⟨h.2.1.1.moved ha, h.2.1.2.1.moved ha, h.2.1.2.2.1.moved ha, h.2.1.2.2.2.moved ha⟩, va_Nw.same rfl hW h.2.2⟩
/-- the machine's heap H holds the abstract heap h; the script lies below -/
def gx_Rel (Z : gx_Z) (S : gx_S) (h : gx_H) (U : State) (H : Heap) : Prop :=
  H.size = h.1 ∧ S.1 ≤ h.1 ∧ (∀ (a : Nat) (e : gx_E), h.2.2 a = some e → S.1 ≤ a ∧ va_at (gx_D Z) vwCl (a, gx_e Z.2.2 e) H) ∧ S.2.1 < S.1 ∧ va_X S.2.1 S.2.2.1 S.2.2.2 U H
/-- the locals by their places -/
def gx_as (L : List (Option Value)) : List (Nat × Value) := (List.range L.length).filterMap (fun i => (L[i]?.join).map (fun v => (i, v)))
theorem gx_mem {L : List (Option Value)} {i : Nat} {v : Value} : (i, v) ∈ gx_as L ↔ L[i]? = some (some v) := by
  unfold gx_as
  rw [List.mem_filterMap]
  constructor
  · rintro ⟨j, -, hj⟩
    cases hq : L[j]? with
    | none => rw [hq] at hj; cases hj
    | some q =>
      cases q with
      | none => rw [hq] at hj; cases hj
      | some w =>
        rw [hq] at hj
        have h2 : (j, w) = (i, v) := Option.some.inj hj
        cases h2
        exact hq
  · intro h
    refine ⟨i, List.mem_range.mpr (List.getElem?_eq_some_iff.mp h).1, ?_⟩
    rw [h]; rfl
def gx_Ls (ls : Array Slot) (nL : Nat) (L : List (Option Value)) : Prop := lv_has ls nL (gx_as L) ∧ L.length ≤ nL
theorem gx_Ls.at {ls : Array Slot} {nL : Nat} {L : List (Option Value)} (h : gx_Ls ls nL L) {i : Nat} {v : Value} (hv : L[i]? = some (some v)) : ls[i]? = some (.val v) := h.1.2.2 (i, v) (gx_mem.mpr hv)
def gx_ok (L : List (Option Value)) (i : Nat) : Bool := match i with
  | 0 => true
  | j + 1 => match L[j]? with
    | some (some w) => w.category == 1
    | _ => true
theorem gx_Ls.store {ls : Array Slot} {nL : Nat} {L : List (Option Value)} {i : Nat} {v : Value} (hlen : L.length ≤ nL) (hi : gx_ok L i = true) (h : lv_has ls nL ((i, v) :: (gx_as L).filter (fun q => !(q.1 == i) && !(q.1 + 1 == i && q.2.category == 2)))) : gx_Ls ls nL (L.set i (some v)) := by
  refine ⟨⟨h.1, h.2.1, fun q hq => ?_⟩, by rw [List.length_set]; exact hlen⟩
  obtain ⟨j, w⟩ := q
  rw [gx_mem] at hq
  refine h.2.2 (j, w) ?_
  by_cases hj : i = j
  · subst hj
    by_cases hl : i < L.length
    · rw [List.getElem?_set_self hl] at hq
      cases hq
      exact List.mem_cons_self
    · rw [List.getElem?_eq_none (by rw [List.length_set]; omega)] at hq
      cases hq
  · rw [List.getElem?_set_ne hj] at hq
    refine List.mem_cons_of_mem _ (List.mem_filter.mpr ⟨gx_mem.mpr hq, ?_⟩)
    have h1 : (j == i) = false := by simp; omega
    by_cases h2 : j + 1 = i
    · subst h2
      simp only [gx_ok, hq] at hi
      have h3 : w.category = 1 := by simpa using hi
      simp [h3]
    · simp [h2]; omega
/-- a method's own facts -/
def gx_Cx (M : gx_M) (Z : gx_Z) (p : Program) (s : State) (m : MethodId) (args : Array Value) (meth : Method) (c : Code) : Prop :=
  p.tables.exec = Jvm.exec ∧ c.code = M.2.2.1 ∧ c.maxLocals = M.2.2.2.1 ∧ s.vm.findClass M.1 = some m.cls ∧ (∀ w ∈ gx_Ts, w.before args s = true) ∧ (M.2.1.name = "<init>" → meth.name = "<init>") ∧ gx_Kn Z s
/-- the instruction at pc gives back r -/
def gx_ri (cc : ByteArray) (pc : Nat) (r : Option Value) : Prop := match r with
  | none => decode cc pc = .ok (.return_, 1)
  | some (.int _) => decode cc pc = .ok (.ireturn, 1)
  | some (.long _) => decode cc pc = .ok (.lreturn, 1)
  | some (.ref _) => decode cc pc = .ok (.areturn, 1)
  | some .null => decode cc pc = .ok (.areturn, 1)
  | _ => False
def gx_J (M : gx_M) (d : Nat) (r : Option Value) (h' : gx_H) (Z : gx_Z) (S : gx_S) (p : Program) (l : Launch) (e : Env) (R : Room) (s : State) (m : MethodId) (args : Array Value) (below : List Frame) (meth : Method) (c : Code) (Q : State → Prop) (k1 k2 : Nat) : Prop :=
  gx_Cx M Z p s m args meth c ∧ d ≤ R.frames ∧ 34 * d ≤ R.locals ∧ h'.1 - k1 ≤ R.cells ∧ h'.2.1 - k2 ≤ R.slots ∧
  ∀ (H' : Heap) (locs' : List Loc) (ls' : Array Slot) (pc' : Nat), gx_Rel Z S h' s H' → (∀ q ∈ locs', S.1 ≤ q.base) → gx_ri M.2.2.1 pc' r → W p l e R s m args below meth c H' locs' (h'.1 - k1) (h'.2.1 - k2) Q (F0 m pc' ls' r.toList)
/-- from pc with locals L, stack st, heap h the method comes to a return of r with heap h' -/
def gx_Evd (S : gx_S) (M : gx_M) (d pc : Nat) (L : List (Option Value)) (st : List Value) (h : gx_H) (r : Option Value) (h' : gx_H) : Prop :=
  (h.1 ≤ h'.1 ∧ h.2.1 ≤ h'.2.1) ∧ ∀ (Z : gx_Z) (p : Program) (l : Launch) (e : Env) (R : Room) (s : State) (m : MethodId) (args : Array Value) (below : List Frame) (meth : Method) (c : Code) (Q : State → Prop) (k1 k2 : Nat) (H : Heap) (locs : List Loc) (ls : Array Slot),
    gx_J M d r h' Z S p l e R s m args below meth c Q k1 k2 → (k1 ≤ h.1 ∧ k2 ≤ h.2.1) → gx_Rel Z S h s H → (∀ q ∈ locs, S.1 ≤ q.base) → gx_Ls ls M.2.2.2.1 L →
    W p l e R s m args below meth c H locs (h.1 - k1) (h.2.1 - k2) Q (F0 m pc ls st)
def gx_Ev (S : gx_S) (M : gx_M) (d pc : Nat) (L : List (Option Value)) (st : List Value) (h : gx_H) (Q : Option Value → gx_H → Prop) : Prop := ∃ (r : Option Value) (h' : gx_H), Q r h' ∧ gx_Evd S M d pc L st h r h'
theorem gx_Ev.mono {S : gx_S} {M : gx_M} {d pc : Nat} {L : List (Option Value)} {st : List Value} {h : gx_H} {Q Q' : Option Value → gx_H → Prop} (k : gx_Ev S M d pc L st h Q) (hq : ∀ r h', Q r h' → Q' r h') : gx_Ev S M d pc L st h Q' := by
  obtain ⟨r, h', h1, h2⟩ := k
  exact ⟨r, h', hq r h' h1, h2⟩
/-- a step that leaves the heap -/
theorem gx_step {S : gx_S} {M : gx_M} {d pc pc' : Nat} {L L' : List (Option Value)} {st st' : List Value} {h : gx_H} {Q : Option Value → gx_H → Prop}
    (hs : ∀ (p : Program) (l : Launch) (e : Env) (R : Room) (s : State) (m : MethodId) (args : Array Value) (below : List Frame) (meth : Method) (c : Code) (Qw : State → Prop) (cells slots : Nat) (H : Heap) (locs : List Loc) (ls : Array Slot) (Z : gx_Z), gx_Cx M Z p s m args meth c → gx_Ls ls M.2.2.2.1 L →
      (∀ ls' : Array Slot, gx_Ls ls' M.2.2.2.1 L' → W p l e R s m args below meth c H locs cells slots Qw (F0 m pc' ls' st')) → W p l e R s m args below meth c H locs cells slots Qw (F0 m pc ls st))
    (k : gx_Ev S M d pc' L' st' h Q) : gx_Ev S M d pc L st h Q := by
  obtain ⟨r, h', hq, hm, hk⟩ := k
  exact ⟨r, h', hq, hm, fun Z p l e R s m args below meth c Qw k1 k2 H locs ls J a1 a2 a3 a4 => hs p l e R s m args below meth c Qw _ _ H locs ls Z J.1 a4 (fun ls' hl' => hk Z p l e R s m args below meth c Qw k1 k2 H locs ls' J a1 a2 a3 hl')⟩
