/-! contracts and calls -/
def gx_room (d c s : Nat) : Room := { frames := d, cells := c, slots := s, locals := 34 * d }
def gx_ws (M : gx_M) : List Cond := Cond.code M.2.1 M.2.2.1 M.2.2.2.1 M.2.2.2.2 :: gx_Ts
def gx_Pc (Z : gx_Z) (S : gx_S) (av : List Value) (h : gx_H) : Array Value → State → Prop := va_Pc av (fun U => gx_Rel Z S h U U.heap ∧ gx_Kn Z U)
def gx_Qc (Z : gx_Z) (S : gx_S) (r : Option Value) (h' : gx_H) : Array Value → State → Outcome → State → Prop := fun _ _ o t => o = .returned r ∧ gx_Rel Z S h' t t.heap
/-- M, called with av in the heap h, gives back r and leaves the heap h' -/
def gx_Ct (S : gx_S) (M : gx_M) (d : Nat) (av : List Value) (h : gx_H) (r : Option Value) (h' : gx_H) : Prop := (h.1 ≤ h'.1 ∧ h.2.1 ≤ h'.2.1) ∧ ∀ (Z : gx_Z) (l : Launch), Met l M.2.1 (gx_ws M) (gx_room d (h'.1 - h.1) (h'.2.1 - h.2.1)) (gx_Pc Z S av h) (gx_Qc Z S r h') (h'.1 - h.1) (h'.2.1 - h.2.1) (fun a => S.1 ≤ a)
def gx_Cn (S : gx_S) (M : gx_M) (d : Nat) (av : List Value) (h : gx_H) (Q : Option Value → gx_H → Prop) : Prop := ∃ (r : Option Value) (h' : gx_H), Q r h' ∧ gx_Ct S M d av h r h'
theorem gx_Cn.mono {S : gx_S} {M : gx_M} {d : Nat} {av : List Value} {h : gx_H} {Q Q' : Option Value → gx_H → Prop} (k : gx_Cn S M d av h Q) (hq : ∀ r h', Q r h' → Q' r h') : gx_Cn S M d av h Q' := by
  obtain ⟨r, h', h1, h2⟩ := k
  exact ⟨r, h', hq r h' h1, h2⟩
/-- the value fits the method's type -/
def gx_rt (ret : Option FieldType) (r : Option Value) : Prop := match r with
  | none => ret = none
  | some (.int v) => ∃ ty, ret = some ty ∧ narrow ty (.int v) = .int v
  | some (.long _) => ret = some .long
  | some (.ref _) => ∃ n, ret = some (.object n)
  | some .null => ∃ n, ret = some (.object n)
  | _ => False
/-- what is fixed of a method: its code stands in the tables -/
def gx_MT (M : gx_M) (n : Nat) : Prop := Cond.code M.2.1 M.2.2.1 M.2.2.2.1 M.2.2.2.2 ∈ gx_Ts ∧ Cond.initialized M.2.1.cls ∈ gx_Ts ∧ (M.2.1.cls ≠ "java/lang/invoke/MethodHandle" ∧ M.2.1.cls ≠ "java/lang/invoke/VarHandle" ∧ (parseMethodDescriptor M.2.1.desc).map (fun d => d.parameters.length) = some n) ∧ M.2.2.2.1 ≤ 15 ∧ plainName M.2.1.cls = true ∧ M.2.1.cls = M.1
theorem gx_good : ∀ w ∈ gx_Ts, (w.onTables && w.keeps) = true ∨ ∃ ty, w = .arrayClass ty := fun w h => good_of_word (List.mem_filter.mp h).2
theorem gx_in {ws : List Cond} (h : ∀ w ∈ ws, w ∈ gx_Ts) : GoodIn gx_Ts ws := fun w hw => ⟨h w hw, gx_good w (h w hw)⟩
theorem gx_lv (av : List Value) (hc : ∀ v ∈ av, v.category = 1) : ∀ (n : Nat) (i : Nat) (v : Value), av[i]? = some v → (n + i, v) ∈ lv_args n av := by
  induction av with
  | nil => intro n i v h; simp at h
  | cons a t ih =>
    intro n i v h
    have ha : ¬ a.category = 2 := by rw [hc a List.mem_cons_self]; decide
    unfold lv_args
    rw [if_neg ha]
    cases i with
    | zero =>
      rw [List.getElem?_cons_zero] at h
      cases h
      exact List.mem_cons_self
    | succ i =>
      rw [List.getElem?_cons_succ] at h
      have := ih (fun v hv => hc v (List.mem_cons_of_mem _ hv)) (n + 1) i v h
      rw [show n + (i + 1) = n + 1 + i by omega]
      exact List.mem_cons_of_mem _ this
theorem gx_sl (av : List Value) (hc : ∀ v ∈ av, v.category = 1) : (lg_sl av).length = av.length := by
  induction av with
  | nil => rfl
  | cons a t ih =>
    have ha : ¬ a.category = 2 := by rw [hc a List.mem_cons_self]; decide
    have := ih (fun v hv => hc v (List.mem_cons_of_mem _ hv))
    unfold lg_sl at this ⊢
    rw [List.flatMap_cons, if_neg ha, List.length_append, this]
    simp; omega
/-- a method's contract out of its walk -/
theorem gx_Cn.of {S : gx_S} {M : gx_M} {n d : Nat} {av : List Value} {h : gx_H} {Q : Option Value → gx_H → Prop} (hM : gx_MT M n) (hc : ∀ v ∈ av, v.category = 1) (hl : av.length ≤ M.2.2.2.1) (k : gx_Ev S M d 0 (av.map some ++ List.replicate (M.2.2.2.1 - av.length) none) [] h (fun r h' => gx_rt M.2.2.2.2 r ∧ Q r h')) : gx_Cn S M d av h Q := by
  obtain ⟨r, h', ⟨hrt, hq⟩, hm, hk⟩ := k
  refine ⟨r, h', hq, hm, fun Z l => ?_⟩
  obtain ⟨m1, m2, m3, m4, m5, m6⟩ := hM
  refine Met.ofW (cc := M.2.2.1) (maxL := M.2.2.2.1) (ret := M.2.2.2.2) m5 rfl ?_
  intro p e s m args below meth c s₁ B hml hv
  obtain ⟨rfl, hrel, hkn⟩ := hv
  have hts0 := atoms_spec (ws := gx_ws M) B.pre
  have hts : ∀ w ∈ gx_Ts, w.before av.toArray s = true := fun w hw => hts0 w (List.mem_cons_of_mem _ hw)
  have hown : s.vm.findClass M.1 = some m.cls := m6 ▸ findClass_of_methodNamed B.named
  have hen := lv_entry av (n := M.2.2.2.1) (by rw [gx_sl av hc]; exact hl)
  have hlocks := B.notSynchronized
  have hx := B.exec
  have hb := B.bytes
  have hr := B.returns
  rw [lg_entry_eq]
  have hzero : W p l e (headSpec (gx_ws M) (gx_room d (h'.1 - h.1) (h'.2.1 - h.2.1))).room s m av.toArray below meth c s.heap [] (h.1 - h.1) (h.2.1 - h.2.1) (MQ below (gx_Qc Z S r h') av.toArray s (h'.1 - h.1) (h'.2.1 - h.2.1) (fun a => S.1 ≤ a)) (F0 m 0 ((lg_sl av ++ List.replicate (M.2.2.2.1 - (lg_sl av).length) Slot.unset).toArray) []) := by
    refine hk Z p l e _ s m av.toArray below meth c _ h.1 h.2.1 s.heap [] _ ⟨⟨hx, hb, hml, hown, hts, fun e9 => (name_of_methodNamed B.named B.method).1.trans e9, hkn⟩, Nat.le_refl _, Nat.le_refl _, Nat.le_refl _, Nat.le_refl _, ?_⟩ ⟨Nat.le_refl _, Nat.le_refl _⟩ hrel (fun q hq => by cases hq) ⟨⟨hen.1, hen.2.1, fun q hq => ?_⟩, ?_⟩
    · intro H' locs' ls' pc' hrel' hlocs' hri
      have hQ : ∀ t : State, t.heap = H' → s.WarmedH t.vm → gx_Qc Z S r h' av.toArray s (.returned r) t := fun t ht hW => ⟨rfl, by
        rw [ht]
        exact ⟨hrel'.1, hrel'.2.1, hrel'.2.2.1, hrel'.2.2.2.1, hrel'.2.2.2.2.moved hW.alike⟩⟩
      cases r with
      | none => exact W.vret hx hb (hr.trans hrt) hQ hlocs' hri
      | some v =>
        cases v with
        | int v =>
          obtain ⟨ty, t1, t2⟩ := hrt
          exact W.zret hx hb (hr.trans t1) t2 hQ hlocs' hri
        | long v => exact W.lret hx hb (hr.trans hrt) hQ hlocs' hri
        | ref v =>
          obtain ⟨n, t1⟩ := hrt
          exact W.aret hx hb (hr.trans t1) (Or.inl ⟨n, rfl⟩) (Or.inr ⟨v, rfl⟩) hQ hlocs' hri
        | null =>
          obtain ⟨n, t1⟩ := hrt
          exact W.aret hx hb (hr.trans t1) (Or.inl ⟨n, rfl⟩) (Or.inl rfl) hQ hlocs' hri
        | float v => exact hrt.elim
        | double v => exact hrt.elim
        | retAddr v => exact hrt.elim
    · obtain ⟨i, v⟩ := q
      rw [gx_mem] at hq
      refine hen.2.2 (i, v) ?_
      by_cases hi : i < av.length
      · rw [List.getElem?_append_left (by rw [List.length_map]; exact hi), List.getElem?_map] at hq
        have h1 : av[i]? = some v := by
          cases h2 : av[i]? with
          | none => rw [h2] at hq; cases hq
          | some w => rw [h2] at hq; cases hq; rfl
        have := gx_lv av hc 0 i v h1
        rwa [Nat.zero_add] at this
      · rw [List.getElem?_append_right (by rw [List.length_map]; omega)] at hq
        have := List.eq_of_mem_replicate (List.mem_of_getElem? hq)
        cases this
    · rw [List.length_append, List.length_map, List.length_replicate]; omega
  rw [Nat.sub_self, Nat.sub_self] at hzero
  exact hzero
section CA
variable {S : gx_S} {M : gx_M} {d pc : Nat} {L : List (Option Value)} {st : List Value} {h : gx_H} {Q : Option Value → gx_H → Prop}
theorem gx_pre {Z : gx_Z} {s : State} {H : Heap} {av : List Value} (hk : gx_Kn Z s) (r : gx_Rel Z S h s H) : PreS s H (gx_Pc Z S av h) av := by
  refine ⟨fun a U g mk q => ⟨q.1, ?_, ?_⟩, fun U hU hW => ⟨rfl, ?_, hk.moved hW⟩⟩
  · obtain ⟨r1, r2, r3, r4, r5⟩ := q.2.1
    exact ⟨r1, r2, r3, r4, r5.moved (u := U) (U := U.calling g mk a) (Vm.Alike.refl U.vm)⟩
  · exact gx_Kn.same (s := U) (U := U.calling g mk a) rfl q.2.2
  · rw [hU]
    exact ⟨r.1, r.2.1, r.2.2.1, r.2.2.2.1, r.2.2.2.2.moved hW.alike⟩
/-- what a call's run gives -/
theorem gx_after {M' : gx_M} {Z : gx_Z} {p : Program} {l : Launch} {e : Env} {R : Room} {s : State} {m : MethodId} {args : Array Value} {below : List Frame} {meth : Method} {c : Code} {Qw : State → Prop} {k1 k2 : Nat} {H : Heap} {locs : List Loc} {ls : Array Slot} {st0 rest : List Value} {av : Array Value} {r r1 : Option Value} {h' h1 : gx_H}
    (J : gx_J M d r h' Z S p l e R s m args below meth c Qw k1 k2) (a1 : k1 ≤ h.1 ∧ k2 ≤ h.2.1) (hm1 : h.1 ≤ h1.1 ∧ h.2.1 ≤ h1.2.1) (a3 : ∀ q ∈ locs, S.1 ≤ q.base)
    (hr : va_Run p l e R s m args below meth c H locs (h.1 - k1) (h.2.1 - k2) (h1.1 - h.1) (h1.2.1 - h.2.1) (F0 m pc ls st0) rest (gx_Qc Z S r1 h1 av) (fun a => S.1 ≤ a))
    (kk : ∀ (H1 : Heap) (locs1 : List Loc), gx_Rel Z S h1 s H1 → (∀ q ∈ locs1, S.1 ≤ q.base) → W p l e R s m args below meth c H1 locs1 (h1.1 - k1) (h1.2.1 - k2) Qw (F0 m (pc + 3) ls (r1.toList ++ rest))) : W p l e R s m args below meth c H locs (h.1 - k1) (h.2.1 - k2) Qw (F0 m pc ls st0) := by
  intro T hT X
  obtain ⟨v, st₀, t, T', L', h0, X', hL, e1, e2, ⟨hv, hrel⟩, hst⟩ := hr T hT X
  cases hv
  rw [show h.1 - k1 + (h1.1 - h.1) = h1.1 - k1 by omega, show h.2.1 - k2 + (h1.2.1 - h.2.1) = h1.2.1 - k2 by omega] at X'
  have hal : s.vm.Alike t.vm := by rw [← e2]; exact X'.warmed.alike
  obtain ⟨t2, b1, b2⟩ := kk T'.heap (locs ++ L') (by rw [e1]; exact ⟨hrel.1, hrel.2.1, hrel.2.2.1, hrel.2.2.2.1, hrel.2.2.2.2.moved hal.symm⟩) (fun q hq => by
    rcases List.mem_append.mp hq with h8 | h8
    · exact a3 q h8
    · exact hL q h8) T' rfl X'
  exact ⟨t2, hst t2 b1, b2⟩
theorem gx_cb {M' : gx_M} {n d' idx : Nat} {Z : gx_Z} {p : Program} {l : Launch} {e : Env} {R : Room} {s : State} {m : MethodId} {args : Array Value} {below : List Frame} {meth : Method} {c : Code} {Qw : State → Prop} {k1 k2 : Nat} {r : Option Value} {h' h1 : gx_H} (J : gx_J M d r h' Z S p l e R s m args below meth c Qw k1 k2) (hM : gx_MT M' n) (hml : Cond.methodLink M.1 idx M'.2.1 ∈ gx_Ts) (hdd : d' + 1 ≤ d) :
    CallB R s args M.1 idx M'.2.1 M'.2.2.1 M'.2.2.2.1 M'.2.2.2.2 (gx_ws M') (gx_room d' (h1.1 - h.1) (h1.2.1 - h.2.1)) (h1.1 - h.1) (h1.2.1 - h.2.1) n := by
  obtain ⟨m1, m2, m3, m4, m5, m6⟩ := hM
  have hts := J.1.2.2.2.2.1
  have hf := J.2.1
  have hlo := J.2.2.1
  refine callB_of n hts (gx_in fun w hw => ?_) rfl rfl rfl (hts _ m2) (hts _ hml) m3 ⟨?_, ?_⟩
  · rcases List.mem_cons.mp hw with rfl | h9
    · exact m1
    · exact h9
  · show d' + 1 ≤ R.frames
    omega
  · show 8 + (M'.2.2.2.1 + 11) + 34 * d' ≤ R.locals
    omega
theorem gx_invS {M' : gx_M} {n d' idx : Nat} {As rest : List Value} {Q' : Option Value → gx_H → Prop} (hd : decode M.2.2.1 pc = .ok (.invokestatic idx, 3)) (hml : Cond.methodLink M.1 idx M'.2.1 ∈ gx_Ts) (hM : gx_MT M' n) (hsx : Cond.static M'.2.1 ∈ gx_Ts) (hn : As.length = n) (hst : st = As.reverse ++ rest) (hw : (rest.map fun v => v.category).sum ≤ 8) (hdd : d' + 1 ≤ d) (ct : gx_Cn S M' d' As h Q') (kk : ∀ r1 h1, Q' r1 h1 → gx_Ev S M d (pc + 3) L (r1.toList ++ rest) h1 Q) : gx_Ev S M d pc L st h Q := by
  obtain ⟨r1, h1, hq1, hm1, hC⟩ := ct
  obtain ⟨r, h', hq, hm, hk⟩ := kk r1 h1 hq1
  refine ⟨r, h', hq, ⟨by omega, by omega⟩, fun Z p l e R s m args below meth c Qw k1 k2 H locs ls J a1 a2 a3 a4 => ?_⟩
  have rc := J.2.2.2.1
  have rs := J.2.2.2.2.1
  refine gx_after (M' := M') J a1 hm1 a3 (va_runS (As := As) (rest := rest) ⟨J.1.1, J.1.2.1, J.1.2.2.1, J.1.2.2.2.1, J.1.2.2.2.2.1⟩ (hC Z l) ⟨gx_cb J hM hml hdd, J.1.2.2.2.2.1 _ hsx⟩ (gx_pre J.1.2.2.2.2.2.2 a2) rfl hn a4.1.1 hst (by show 2 * 0 + _ ≤ 8; omega) hd ⟨by omega, by omega⟩) (fun H1 locs1 g1 g2 => ?_)
  exact hk Z p l e R s m args below meth c Qw k1 k2 H1 locs1 ls J ⟨by omega, by omega⟩ g1 g2 a4
theorem gx_invI {M' : gx_M} {n d' idx b : Nat} {As rest : List Value} {Q' : Option Value → gx_H → Prop} (hd : decode M.2.2.1 pc = .ok (.invokespecial idx, 3)) (hml : Cond.methodLink M.1 idx M'.2.1 ∈ gx_Ts) (hM : gx_MT M' n) (hret : M'.2.2.2.2 = none) (hi : M'.2.1.name = "<init>") (hsx : Cond.instanceMethod M'.2.1 ∈ gx_Ts) (hn : As.length = n) (hst : st = As.reverse ++ .ref b :: rest) (hw : (rest.map fun v => v.category).sum ≤ 8) (hdd : d' + 1 ≤ d) (ct : gx_Cn S M' d' (.ref b :: As) h Q') (kk : ∀ r1 h1, Q' r1 h1 → gx_Ev S M d (pc + 3) L (r1.toList ++ rest) h1 Q) : gx_Ev S M d pc L st h Q := by
  obtain ⟨r1, h1, hq1, hm1, hC⟩ := ct
  obtain ⟨r, h', hq, hm, hk⟩ := kk r1 h1 hq1
  refine ⟨r, h', hq, ⟨by omega, by omega⟩, fun Z p l e R s m args below meth c Qw k1 k2 H locs ls J a1 a2 a3 a4 => ?_⟩
  have rc := J.2.2.2.1
  have rs := J.2.2.2.2.1
  have cb := gx_cb (h := h) (h1 := h1) J hM hml hdd
  rw [hret] at cb
  refine gx_after (M' := M') J a1 hm1 a3 (va_runI (As := As) (rest := rest) ⟨J.1.1, J.1.2.1, J.1.2.2.1, J.1.2.2.2.1, J.1.2.2.2.2.1⟩ (hC Z l) ⟨cb, hi, J.1.2.2.2.2.1 _ hsx⟩ (gx_pre J.1.2.2.2.2.2.2 a2) rfl hn a4.1.1 hst (by show 2 * 0 + _ ≤ 8; omega) hd ⟨by omega, by omega⟩) (fun H1 locs1 g1 g2 => ?_)
  exact hk Z p l e R s m args below meth c Qw k1 k2 H1 locs1 ls J ⟨by omega, by omega⟩ g1 g2 a4
theorem gx_invV {M' : gx_M} {n d' idx b ci : Nat} {fs : List Value} {rcl : vw_C} {As rest : List Value} {Q' : Option Value → gx_H → Prop} (hd : decode M.2.2.1 pc = .ok (.invokevirtual idx, 3)) (hml : Cond.methodLink M.1 idx M'.2.1 ∈ gx_Ts) (hM : gx_MT M' n) (hsx : Cond.instanceMethod M'.2.1 ∈ gx_Ts) (hse : Cond.selects M'.1 M'.2.1 M'.2.1 ∈ gx_Ts) (hcl : vwCl[ci]? = some rcl) (hcn : rcl.1 = M'.1) (hb : h.2.2 b = some (gx_ob ci fs)) (hn : As.length = n) (hst : st = As.reverse ++ .ref b :: rest) (hw : (rest.map fun v => v.category).sum ≤ 8) (hdd : d' + 1 ≤ d) (ct : gx_Cn S M' d' (.ref b :: As) h Q') (kk : ∀ r1 h1, Q' r1 h1 → gx_Ev S M d (pc + 3) L (r1.toList ++ rest) h1 Q) : gx_Ev S M d pc L st h Q := by
  obtain ⟨r1, h1, hq1, hm1, hC⟩ := ct
  obtain ⟨r, h', hq, hm, hk⟩ := kk r1 h1 hq1
  refine ⟨r, h', hq, ⟨by omega, by omega⟩, fun Z p l e R s m args below meth c Qw k1 k2 H locs ls J a1 a2 a3 a4 => ?_⟩
  have rc := J.2.2.2.1
  have rs := J.2.2.2.2.1
  have hts := J.1.2.2.2.2.1
  have pre := gx_pre (av := .ref b :: As) J.1.2.2.2.2.2.2 a2
  have hrv := va_recv J.1.2.2.2.2.2.2.1 (gx_one a2 hb) hcl (q0 := 0) rfl
  rw [hcn] at hrv
  refine gx_after (M' := M') J a1 hm1 a3 (va_runV (C := M'.1) (As := As) (rest := rest) ⟨J.1.1, J.1.2.1, J.1.2.2.1, J.1.2.2.2.1, J.1.2.2.2.2.1⟩ (hC Z l) ⟨gx_cb J hM hml hdd, hts _ hsx, hts _ hse⟩ ⟨pre.1, hrv, pre.2⟩ rfl hn a4.1.1 hst (by show 2 * 0 + _ ≤ 8; omega) hd ⟨by omega, by omega⟩) (fun H1 locs1 g1 g2 => ?_)
  exact hk Z p l e R s m args below meth c Qw k1 k2 H1 locs1 ls J ⟨by omega, by omega⟩ g1 g2 a4
/-- the one constructor that is private to a nest mate -/
theorem gx_invN {d' : Nat} {b : Nat} {rest : List Value} {Q' : Option Value → gx_H → Prop} (hMown : M.1 = RX5) (hd : decode M.2.2.1 pc = .ok (.invokespecial 24, 3)) (hM : gx_MT (RX0, yX0_init, cX0_init, 1, none) 0) (hst : st = .ref b :: rest) (hw : (rest.map fun v => v.category).sum ≤ 8) (hdd : d' + 1 ≤ d) (ct : gx_Cn S (RX0, yX0_init, cX0_init, 1, none) d' [.ref b] h Q') (kk : ∀ r1 h1, Q' r1 h1 → gx_Ev S M d (pc + 3) L (r1.toList ++ rest) h1 Q) : gx_Ev S M d pc L st h Q := by
  obtain ⟨r1, h1, hq1, hm1, hC⟩ := ct
  obtain ⟨r, h', hq, hm, hk⟩ := kk r1 h1 hq1
  refine ⟨r, h', hq, ⟨by omega, by omega⟩, fun Z p l e R s m args below meth c Qw k1 k2 H locs ls J a1 a2 a3 a4 => ?_⟩
  have rc := J.2.2.2.1
  have rs := J.2.2.2.2.1
  have hts := J.1.2.2.2.2.1
  have hf := J.2.1
  have hlo := J.2.2.1
  have hown := J.1.2.2.2.1
  rw [hMown] at hown
  obtain ⟨m1, m2, m3, m4, m5, m6⟩ := hM
  have cb : va_CN R s args RX5 24 yX0_init RX5 cX0_init 1 none (gx_ws (RX0, yX0_init, cX0_init, 1, none)) (gx_room d' (h1.1 - h.1) (h1.2.1 - h.2.1)) (h1.1 - h.1) (h1.2.1 - h.2.1) 0 := by
    refine va_cnB 0 hts (gx_in fun w hw => ?_) rfl rfl rfl J.1.2.2.2.2.2.2.2.2 (hts _ m2) m3 ⟨?_, ?_⟩
    · rcases List.mem_cons.mp hw with rfl | h9
      · exact m1
      · exact h9
    · show d' + 1 ≤ R.frames
      omega
    · show 8 + (1 + 11) + 34 * d' ≤ R.locals
      omega
  refine gx_after (M' := (RX0, yX0_init, cX0_init, 1, none)) J a1 hm1 a3 (va_runIN (As := []) (rest := rest) ⟨J.1.1, J.1.2.1, J.1.2.2.1, hown, hts⟩ (hC Z l) ⟨cb, rfl, hts _ wy_X0_init⟩ (gx_pre J.1.2.2.2.2.2.2 a2) rfl rfl a4.1.1 hst (by show 2 * 0 + _ ≤ 8; omega) hd ⟨by omega, by omega⟩) (fun H1 locs1 g1 g2 => ?_)
  exact hk Z p l e R s m args below meth c Qw k1 k2 H1 locs1 ls J ⟨by omega, by omega⟩ g1 g2 a4
theorem gx_objI {idx a : Nat} {rest : List Value} (hd : decode M.2.2.1 pc = .ok (.invokespecial idx, 3)) (hml : Cond.methodLink M.1 idx objectInit ∈ gx_Ts) (hw : (rest.map fun v => v.category).sum ≤ 8) (hdd : 1 ≤ d) (kk : gx_Ev S M d (pc + 3) L rest h Q) : gx_Ev S M d pc L (.ref a :: rest) h Q := by
  obtain ⟨r, h', hq, hm, hk⟩ := kk
  refine ⟨r, h', hq, hm, fun Z p l e R s m args below meth c Qw k1 k2 H locs ls J a1 a2 a3 a4 => ?_⟩
  have hts := J.1.2.2.2.2.1
  have hf := J.2.1
  have hlo := J.2.2.1
  exact W.objInit J.1.1 J.1.2.1 J.1.2.2.2.1 (hts _ hml) (hts _ wy_O) (hts _ wk_O) rfl (a4.1.1.trans J.1.2.2.1.symm) rfl hd (by omega) (by show 2 * 0 + _ + 12 ≤ _; omega) (hk Z p l e R s m args below meth c Qw k1 k2 H locs ls J a1 a2 a3 a4)
end CA
