/-! the heap rows -/
def gx_set (h : gx_H) (a : Nat) (e : gx_E) : gx_H := (h.1, h.2.1, va_up h.2.2 a (some e))
def gx_push (h : gx_H) (n : Nat) (e : gx_E) : gx_H := (h.1 + 1, h.2.1 + n, va_up h.2.2 h.1 (some e))
abbrev gx_ob (ci : Nat) (fs : List Value) : gx_E := .inr (ci, fs)
abbrev gx_ai (t n : Nat) (f : Nat → Int32) : gx_E := .inl (t, n, .inl f)
abbrev gx_ar (t n : Nat) (f : Nat → Option Nat) : gx_E := .inl (t, n, .inr (.inr (.inr (.inr f))))
theorem gx_Rel.set {Z : gx_Z} {S : gx_S} {h : gx_H} {U : State} {H H' : Heap} (r : gx_Rel Z S h U H) {a : Nat} {e0 e : gx_E} (he : h.2.2 a = some e0) (hz : H'.size = H.size) (ho : ∀ q : Nat, q ≠ a → H'[q]? = H[q]?) (hn : va_at (gx_D Z) vwCl (a, gx_e Z.2.2 e) H') : gx_Rel Z S (gx_set h a e) U H' := by
  obtain ⟨r1, r2, r3, r4, r5⟩ := r
  have hb := (r3 a e0 he).1
  refine ⟨by rw [hz]; exact r1, r2, fun b f hf => ?_, r4, r5.kept (ho _ (by omega))⟩
  by_cases hba : b = a
  · subst hba
    have : e = f := by simpa [gx_set, va_up] using hf
    subst this
    exact ⟨hb, hn⟩
  · have hf' : h.2.2 b = some f := by simpa [gx_set, va_up, hba] using hf
    obtain ⟨g1, g2⟩ := r3 b f hf'
    exact ⟨g1, g2.kept (ho b hba)⟩
theorem gx_Rel.push {Z : gx_Z} {S : gx_S} {h : gx_H} {U : State} {H H' : Heap} (r : gx_Rel Z S h U H) {n : Nat} {e : gx_E} (hz : H'.size = H.size + 1) (ho : ∀ q : Nat, q < H.size → H'[q]? = H[q]?) (hn : va_at (gx_D Z) vwCl (h.1, gx_e Z.2.2 e) H') : gx_Rel Z S (gx_push h n e) U H' := by
  obtain ⟨r1, r2, r3, r4, r5⟩ := r
  refine ⟨by rw [hz, r1]; rfl, Nat.le_trans r2 (Nat.le_succ _), fun b f hf => ?_, r4, r5.kept (ho _ (by omega))⟩
  by_cases hba : b = h.1
  · subst hba
    have : e = f := by simpa [gx_push, va_up] using hf
    subst this
    exact ⟨r2, hn⟩
  · have hf' : h.2.2 b = some f := by simpa [gx_push, va_up, hba] using hf
    obtain ⟨g1, g2⟩ := r3 b f hf'
    exact ⟨g1, g2.kept (ho b (by have := g2.lt; exact this))⟩
/-- class number ci of the list, with its words -/
def gx_Cls (ci : Nat) (C : String) (T : u_T) (N : Nat) (ty : Nat → FieldType) : Prop := vwCl[ci]? = some (C, T, N) ∧ (∀ w ∈ u_ws C T N, w ∈ gx_Ts) ∧ (∀ k, k < N → parseFieldDescriptor (T k).2.2.1 = some (ty k)) ∧ (∀ a, a < N → ∀ b, b < N → a ≠ b → (T a).2.1 ≠ (T b).2.1)
/-- the pool's entry idx of the class own is field k of class ci -/
def gx_FL (own : String) (idx ci k : Nat) (ty : FieldType) (fin : Bool) : Prop := ∃ (C : String) (T : u_T) (N : Nat) (tyf : Nat → FieldType), gx_Cls ci C T N tyf ∧ k < N ∧ tyf k = ty ∧ (T k).1 = C ∧ (T k).2.2.2 = fin ∧ Cond.fieldLink own idx C (T k).2.1 (T k).2.2.1 ∈ gx_Ts
section HP
variable {S : gx_S} {M : gx_M} {d pc : Nat} {L : List (Option Value)} {st : List Value} {h : gx_H} {Q : Option Value → gx_H → Prop}
theorem gx_get {idx ci k a : Nat} {ty : FieldType} {fin : Bool} {fs : List Value} {v : Value} (hd : decode M.2.2.1 pc = .ok (.getfield idx, 3)) (hf : gx_FL M.1 idx ci k ty fin) (hc : h.2.2 a = some (gx_ob ci fs)) (hv : fs[k]? = some v) (kk : gx_Ev S M d (pc + 3) L (v :: st) h Q) : gx_Ev S M d pc L (.ref a :: st) h Q := by
  obtain ⟨r, h', hq, hm, hk⟩ := kk
  refine ⟨r, h', hq, hm, fun Z p l e R s m args below meth c Qw k1 k2 H locs ls J a1 a2 a3 a4 => ?_⟩
  obtain ⟨C, T, N, tyf, ⟨c1, c2, c3, c4⟩, f1, f2, f3, f4, f5⟩ := hf
  have hP : va_P (gx_D Z) vwCl [(a, .inr (ci, fs))] H := fun j q hj => by
    have h0 : j < 1 := (List.getElem?_eq_some_iff.mp hj).1
    rw [show j = 0 by omega] at hj
    cases hj
    exact (a2.2.2.1 a _ hc).2
  refine va_get (D := gx_D Z) (cl := vwCl) (ci := ci) (C := C) (T := T) (N := N) J.1.1 J.1.2.1 J.1.2.2.2.2.1 c2 J.1.2.2.2.1 J.1.2.2.2.2.2.2.1 hP 0 rfl c1 k f1 (J.1.2.2.2.2.1 _ f5) (fun x hx => by rw [f3] at hx; exact hx) hv hd ?_
  exact hk Z p l e R s m args below meth c Qw k1 k2 H locs ls J a1 a2 a3 a4
theorem gx_put {idx ci k a : Nat} {ty : FieldType} {fs : List Value} {v : Value} (hd : decode M.2.2.1 pc = .ok (.putfield idx, 3)) (hf : gx_FL M.1 idx ci k ty false) (hc : h.2.2 a = some (gx_ob ci fs)) (hl : k < fs.length) (hn : narrow ty v = v) (hfit : fits ty v = true) (kk : gx_Ev S M d (pc + 3) L st (gx_set h a (gx_ob ci (fs.set k v))) Q) : gx_Ev S M d pc L (v :: .ref a :: st) h Q := by
  obtain ⟨r, h', hq, hm, hk⟩ := kk
  refine ⟨r, h', hq, hm, fun Z p l e R s m args below meth c Qw k1 k2 H locs ls J a1 a2 a3 a4 => ?_⟩
  obtain ⟨C, T, N, tyf, ⟨c1, c2, c3, c4⟩, f1, f2, f3, f4, f5⟩ := hf
  have hts := J.1.2.2.2.2.1
  have hK := J.1.2.2.2.2.2.2.1
  have hap := va_apart (own := M.1) hts c2 tyf c3 c4 hK c1
  obtain ⟨hba, r', h1, cell, q1, q2, q3, q4⟩ := a2.2.2.1 a _ hc
  have hr : r' = (C, T, N) := Option.some.inj (h1.symm.trans c1)
  subst hr
  obtain ⟨hS, hfc, kC, hkC, hkind⟩ := hK.1 ci _ c1
  obtain ⟨cf, kf, fi, f, hi, hsl⟩ := hS k f1
  have hlay := hts _ (c2 _ (u_in_lay f1))
  unfold u_lay at hlay
  rw [if_neg (by rw [f4]; decide)] at hlay
  have hst := (u_facts hfc hkC (u_lays hts c2 f1) hi).1
  have h6 := u_store hfc hkC hkind hlay hi (by rw [c3 k f1, f2]) hn hfit
  refine W.putK J.1.1 J.1.2.1 (f := f) ⟨J.1.2.2.2.1, hts _ f5, ⟨_, _, _, by rw [f3] at hi; exact hi⟩, hst⟩ (by rw [q2]; exact h6) q1 q3 (by rw [hsl]; exact k2_hasslot (q4 k f1)) rfl rfl hd fun H' e1 e2 e3 => ?_
  rw [hsl] at e1 ⊢
  refine hk Z p l e R s m args below meth c Qw k1 k2 H' _ ls J a1 (a2.set hc e2 e3 ?_) (fun q hq => ?_) a4
  · exact ⟨_, c1, t_OB.to (V := updV (vp_V fs) k v) ⟨_, e1, q2, q3, t_set q4 hap f1 v⟩ (fun j _ => vp_updV_set hl v j)⟩
  · rcases List.mem_append.mp hq with h8 | h8
    · exact a3 q h8
    · rw [List.mem_singleton.mp h8]; exact hba
theorem gx_putF {idx ci k a : Nat} {ty : FieldType} {fs : List Value} {v : Value} (hd : decode M.2.2.1 pc = .ok (.putfield idx, 3)) (hf : gx_FL M.1 idx ci k ty true) (hi : M.2.1.name = "<init>") (hown : ∀ r, vwCl[ci]? = some r → r.1 = M.1) (hc : h.2.2 a = some (gx_ob ci fs)) (hl : k < fs.length) (hn : narrow ty v = v) (hfit : fits ty v = true) (kk : gx_Ev S M d (pc + 3) L st (gx_set h a (gx_ob ci (fs.set k v))) Q) : gx_Ev S M d pc L (v :: .ref a :: st) h Q := by
  obtain ⟨r, h', hq, hm, hk⟩ := kk
  refine ⟨r, h', hq, hm, fun Z p l e R s m args below meth c Qw k1 k2 H locs ls J a1 a2 a3 a4 => ?_⟩
  obtain ⟨C, T, N, tyf, ⟨c1, c2, c3, c4⟩, f1, f2, f3, f4, f5⟩ := hf
  have hts := J.1.2.2.2.2.1
  have hK := J.1.2.2.2.2.2.2.1
  have hap := va_apart (own := M.1) hts c2 tyf c3 c4 hK c1
  obtain ⟨hba, r', h1, cell, q1, q2, q3, q4⟩ := a2.2.2.1 a _ hc
  have hr : r' = (C, T, N) := Option.some.inj (h1.symm.trans c1)
  subst hr
  have hCo : C = M.1 := hown _ c1
  obtain ⟨hS, hfc, kC, hkC, hkind⟩ := hK.1 ci _ c1
  obtain ⟨cf, kf, fi, f, hi2, hsl⟩ := hS k f1
  have hlay := hts _ (c2 _ (u_in_lay f1))
  unfold u_lay at hlay
  rw [if_pos f4] at hlay
  have hst := (u_facts hfc hkC (u_lays hts c2 f1) hi2).1
  have hcf : m.cls = cf := by
    obtain ⟨_, _, c', _, _, _, -, -, hf', -, -, -, hown2, -⟩ := Cond.laysFinal_spec hlay
    have e1 : c' = cf := by have := hi2.symm.trans hf'; simp at this; exact this.1.symm
    rw [f3, hCo] at hown2
    rw [← e1]; exact Option.some.inj (J.1.2.2.2.1.symm.trans hown2)
  have h6 := u_fits hfc hkC hkind (Or.inr hlay) hi2 (by rw [c3 k f1, f2]) hn hfit
  refine W.putFinK J.1.1 J.1.2.1 J.1.2.2.2.1 (hts _ f5) (by rw [f3] at hi2; exact hi2) hst hcf (J.1.2.2.2.2.2.1 hi) (by rw [q2]; exact h6) q1 q3 (by rw [hsl]; exact k2_hasslot (q4 k f1)) rfl rfl hd fun H' e1 e2 e3 => ?_
  rw [hsl] at e1 ⊢
  refine hk Z p l e R s m args below meth c Qw k1 k2 H' _ ls J a1 (a2.set hc e2 e3 ?_) (fun q hq => ?_) a4
  · exact ⟨_, c1, t_OB.to (V := updV (vp_V fs) k v) ⟨_, e1, q2, q3, t_set q4 hap f1 v⟩ (fun j _ => vp_updV_set hl v j)⟩
  · rcases List.mem_append.mp hq with h8 | h8
    · exact a3 q h8
    · rw [List.mem_singleton.mp h8]; exact hba
end HP
