
/-! THE CLAIM OUT OF ONE WALK OF THE LAW'S BODY. Your part is whole_start (and what it stands on); all else here is the same for every law, but numbers. -/
def R_law : String := "GroupOrderLaw"
def lw_P (b : Addr) (xs : List Int32) (args : Array Value) (s : State) : Prop := args = #[.ref b] ∧ s.IntsAt b xs ∧ xs.length ≤ 3073 ∧ (Jvm.Cond.and given_1 narrow_1).before args s = true
def lw_Q (_ : Array Value) (s : State) (o : Outcome) (t : State) : Prop := o = .returned (some (.int 1)) ∧ Framed s o t [] 600000 7302250
def lw_Z (below : List Frame) (a : Array Value) (s : State) : State → Prop := fun t => ∃ o, t.status = .running ∧ Ended t below o ∧ lw_Q a s o t
/-- the law's own end, with 1 on the stack, nothing written that was there before, its room as the claim has it -/
theorem lw_ret {p : Program} {l : Launch} {e : Env} {s : State} {m : MethodId} {below : List Frame} {meth : Method} {c : Code} {b : Nat} (hx : p.tables.exec = Jvm.exec) (hb : c.code = code) (hr : meth.sig.returnType = ret) (hlocks : meth.locks = false) {pc : Nat} {H : Heap} {ls : Array Slot} (hdg : decode code pc = .ok (.ireturn, 1)) : W p l e room_1 s m #[Value.ref b] below meth c H [] 600000 7302250 (lw_Z below #[Value.ref b] s) (F0 m pc ls [.int 1]) := by
  intro T hT X
  obtain ⟨fs, hret, hrun, hended, hW, hframe⟩ := X.leave (v := some (.int 1)) (hlocks := hlocks) (fun h => by rw [hr] at h; cases h)
  have hmeth' : T.vm.method? m = some meth := X.method'
  refine ⟨T.setFrames fs, ?_, .returned (some (.int 1)), hrun, hended, rfl, ⟨_, rfl⟩, hW, hframe⟩
  jvm_step X.here [X.here.top, hx, hb, hdg, hmeth', hr, ret, narrow_b1]
  (try refine ⟨rfl, ?_⟩); (try refine ⟨rfl, ?_⟩)
  first | (intro acts; rw [hret _ acts rfl rfl rfl]) | rw [hret _ _ rfl rfl rfl]
  exact Steps.refl _
/-- what holds at the law's entry: the machine, the code, the tables' words (any of lw_tbl by 'hts w (by decide +kernel)'), the script of L ints xs at the cell b, what the Statement gives of the start (any of its parts by flat_of_before) -/
def lw_At (p : Program) (s : State) (m : MethodId) (meth : Method) (c : Code) (b L : Nat) (xs : Nat → Int32) : Prop :=
  p.tables.exec = Jvm.exec ∧ c.code = code ∧ meth.sig.returnType = ret ∧ c.maxLocals = 4 ∧ s.vm.findClass R_law = some m.cls ∧ (∀ w ∈ lw_tbl, w.before #[Value.ref b] s = true) ∧ va_X b L xs s s.heap ∧ b < s.heap.size ∧ meth.locks = false ∧ (Jvm.Cond.and given_1 narrow_1).before #[Value.ref b] s = true

abbrev gm_L_law : gx_M := (RL, yL_law, cL_law, 4, some .boolean)
def gl_h0 (base : Nat) : gx_H := (base, 0, fun _ => none)
/-- what the walk of the law owes -/
def gl_Law : Prop := ∀ (S : gx_S), S.2.2.1 ≤ 3073 → gx_Ev S gm_L_law 9 0 [some (.ref S.2.1), none, none, none] [] (gl_h0 S.1) (fun r h' => r = some (.int 1) ∧ h'.1 ≤ S.1 + 600000 ∧ h'.2.1 ≤ 7302250)
theorem gl_class {s : State} {args : Array Value} (hts : ∀ w ∈ gx_Ts, w.before args s = true) : ∀ c : Nat, ∃ x : ClassId × (Nat → Nat), ∀ q, vwCl[c]? = some q → u_Kn s q.1 q.2.1 q.2.2 x.1 x.2 := by
  intro c
  have key : ∀ {C : String} {T : u_T} {N n : Nat}, vwCl[c]? = some (C, T, N) → (∀ w ∈ u_ws C T N, w ∈ gx_Ts) → Cond.instantiable C n ∈ gx_Ts → ∃ x : ClassId × (Nat → Nat), ∀ q, vwCl[c]? = some q → u_Kn s q.1 q.2.1 q.2.2 x.1 x.2 := by
    intro C T N n h1 h2 h3
    obtain ⟨cC, iS, h⟩ := u_known hts h2 (hts _ h3)
    refine ⟨(cC, iS), fun q hq => ?_⟩
    cases h1.symm.trans hq
    exact h
  rcases c with _ | _ | _ | _ | _ | _ | _ | c
  · exact key rfl wx_X0 wn_X0
  · exact key rfl wx_X1 wn_X1
  · exact key rfl wx_X2 wn_X2
  · exact key rfl wx_X3 wn_X3
  · exact key rfl wx_X4 wn_X4
  · exact key rfl wx_X5 wn_X5
  · exact key rfl wx_X6 wn_X6
  · exact ⟨(0, fun _ => 0), fun q hq => by cases hq⟩
theorem gl_arr {s : State} {args : Array Value} {ty : FieldType} (hp : ty = .int ∨ ty = .boolean) (h : (Cond.arrayClass ty).before args s = true) : ∃ cA : ClassId, ArrOfT s cA ty ∧ va_RA s cA ty := by
  obtain ⟨c, k, comp, h1, h2, h3⟩ := Cond.arrayClass_spec h
  refine ⟨c, fun n z => ⟨fun k h => (by cases h), k, h2, comp, h3⟩, ?_⟩
  rcases hp with rfl | rfl
  · exact h1
  · exact h1
theorem gl_arrO {s : State} {args : Array Value} {C : String} (h : (Cond.arrayOver (.object C)).before args s = true) : ∃ cA : ClassId, ArrOfT s cA (.object C) ∧ va_RA s cA (.object C) := by
  obtain ⟨comp, c, k, h1, h2, h3, h4, h5⟩ := Cond.arrayOver_spec h
  exact ⟨c, fun n z => ⟨fun k h => (by cases h), k, h3, comp, h4⟩, k, comp, h3, h4, h1, h5⟩
theorem gl_known {s : State} {args : Array Value} (ht : ∀ w ∈ lw_tbl, w.before args s = true) : ∃ Z : gx_Z, gx_Kn Z s := by
  have hts : ∀ w ∈ gx_Ts, w.before args s = true := fun w hw => ht w (List.mem_filter.mp hw).1
  obtain ⟨f, hf⟩ := Classical.axiomOfChoice (gl_class hts)
  obtain ⟨c0, a0⟩ := gl_arr (Or.inl rfl) (hts _ wa_int)
  obtain ⟨c1, a1⟩ := gl_arr (Or.inr rfl) (hts _ wa_boolean)
  obtain ⟨c2, a2⟩ := gl_arrO (ht _ wo_X1)
  obtain ⟨c3, a3⟩ := gl_arrO (ht _ wo_X2)
  obtain ⟨c4, a4⟩ := gl_arrO (ht _ wo_X3)
  obtain ⟨c5, a5⟩ := gl_arrO (ht _ wo_X4)
  refine ⟨(fun c => (f c).1, fun c => (f c).2, fun t => match t with | 0 => c0 | 1 => c1 | 2 => c2 | 3 => c3 | 4 => c4 | _ => c5), ⟨fun c q hq => hf c q hq, fun k q hk => ?_⟩, ⟨va_AO.of (ht _ wo_X1), va_AO.of (ht _ wo_X2), va_AO.of (ht _ wo_X3), va_AO.of (ht _ wo_X4)⟩, va_Nw.of rfl (ht _ wq_nest)⟩
  rcases k with _ | _ | _ | _ | _ | _ | k
  · cases hk; exact a0
  · cases hk; exact a1
  · cases hk; exact a2
  · cases hk; exact a3
  · cases hk; exact a4
  · cases hk; exact a5
  · cases hk
theorem gl_start (law : gl_Law) {p : Program} {e : Env} {s : State} {m : MethodId} {below : List Frame} {meth : Method} {c : Code} (l : Launch) {b L : Nat} {xs : Nat → Int32} (hL : L ≤ 3073) (C0 : lw_At p s m meth c b L xs) : W p l e room_1 s m #[Value.ref b] below meth c s.heap [] 0 0 (lw_Z below #[Value.ref b] s) (entryFrame m ([Value.ref b] : List Value).toArray 4) := by
  obtain ⟨hx, hb, hr, hml, hown, ht, hX, hbl, hlocks, -⟩ := C0
  have hts : ∀ w ∈ gx_Ts, w.before #[Value.ref b] s = true := fun w hw => ht w (List.mem_filter.mp hw).1
  obtain ⟨Z, hZ⟩ := gl_known ht
  obtain ⟨r, h', ⟨rfl, hc1, hc2⟩, hm, hk⟩ := law (s.heap.size, b, L, xs) hL
  have hen := lv_entry ([.ref b]) (n := 4) (Nat.le_of_ble_eq_true rfl)
  rw [lg_entry_eq]
  have hW := hk Z p l e room_1 s m #[Value.ref b] below meth c (lw_Z below #[Value.ref b] s) s.heap.size 0 s.heap [] _ ⟨⟨hx, hb, hml, hown, hts, fun e9 => absurd e9 (by decide), hZ⟩, Nat.le_refl _, by decide, by show h'.1 - s.heap.size ≤ 600000; have : h'.1 ≤ s.heap.size + 600000 := hc1; omega, by show h'.2.1 - 0 ≤ 7302250; omega, ?_⟩ ⟨Nat.le_refl _, Nat.le_refl _⟩ ⟨rfl, Nat.le_refl _, (fun a e9 h9 => nomatch h9), hbl, hX⟩ (fun q hq => by cases hq) ⟨⟨hen.1, hen.2.1, fun q hq => ?_⟩, Nat.le_refl 4⟩
  · rw [show (gl_h0 s.heap.size).1 - s.heap.size = 0 from Nat.sub_self _, show (gl_h0 s.heap.size).2.1 - 0 = 0 from rfl] at hW
    exact hW
  · intro H' locs' ls' pc' hrel hlocs hri
    refine va_forget (fun q hq => hlocs q hq) ?_
    refine W.widen (k := 600000) (n := 7302250) (by have : h'.1 ≤ s.heap.size + 600000 := hc1; omega) (by omega) ?_
    exact lw_ret hx hb hr hlocks hri
  · obtain ⟨i, v⟩ := q
    rw [gx_mem] at hq
    rcases i with _ | _ | _ | _ | i
    · cases hq
      exact hen.2.2 (0, .ref b) List.mem_cons_self
    · cases hq
    · cases hq
    · cases hq
    · cases hq
