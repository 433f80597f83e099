/-! arrays, new, the script -/
theorem gx_tys_at (cy : Nat → ClassId) {t : Nat} (ht : t < 6) : (gx_tys cy)[t]? = some (cy t, gx_ty t) := by
  rcases t with _ | _ | _ | _ | _ | _ | t
  all_goals first | rfl | omega
section AR
variable {S : gx_S} {M : gx_M} {d pc : Nat} {L : List (Option Value)} {st : List Value} {h : gx_H} {Q : Option Value → gx_H → Prop}
theorem gx_one {Z : gx_Z} {U : State} {H : Heap} {a : Nat} {e : gx_E} (r : gx_Rel Z S h U H) (hc : h.2.2 a = some e) : va_P (gx_D Z) vwCl [(a, gx_e Z.2.2 e)] H := fun j q hj => by
  have h0 : j < 1 := (List.getElem?_eq_some_iff.mp hj).1
  rw [show j = 0 by omega] at hj
  cases hj
  exact (r.2.2.1 a _ hc).2
theorem gx_iald {a n : Nat} {f : Nat → Int32} {i x : Int32} (hd : decode M.2.2.1 pc = .ok (.iaload, 1)) (hc : h.2.2 a = some (gx_ai 0 n f)) (hin : vp_in i n) (hx : f i.toNatClampNeg = x) (kk : gx_Ev S M d (pc + 1) L (.int x :: st) h Q) : gx_Ev S M d pc L (.int i :: .ref a :: st) h Q := by
  subst hx
  obtain ⟨r, h', hq, hm, hk⟩ := kk
  refine ⟨r, h', hq, hm, fun Z p l e R s m args below meth c Qw k1 k2 H locs ls J a1 a2 a3 a4 => ?_⟩
  exact va_iald J.1.1 J.1.2.1 J.1.2.2.2.2.2.2.1 (gx_one a2 hc) 0 0 rfl (gx_tys_at Z.2.2 (t := 0) (by omega)) hin hd (hk Z p l e R s m args below meth c Qw k1 k2 H locs ls J a1 a2 a3 a4)
theorem gx_zald {a n : Nat} {f : Nat → Int32} {i x : Int32} (hd : decode M.2.2.1 pc = .ok (.baload, 1)) (hc : h.2.2 a = some (gx_ai 1 n f)) (hin : vp_in i n) (hx : f i.toNatClampNeg = x) (kk : gx_Ev S M d (pc + 1) L (.int x :: st) h Q) : gx_Ev S M d pc L (.int i :: .ref a :: st) h Q := by
  subst hx
  obtain ⟨r, h', hq, hm, hk⟩ := kk
  refine ⟨r, h', hq, hm, fun Z p l e R s m args below meth c Qw k1 k2 H locs ls J a1 a2 a3 a4 => ?_⟩
  exact va_zald J.1.1 J.1.2.1 J.1.2.2.2.2.2.2.1 (gx_one a2 hc) 0 1 rfl (gx_tys_at Z.2.2 (t := 1) (by omega)) hin hd (hk Z p l e R s m args below meth c Qw k1 k2 H locs ls J a1 a2 a3 a4)
theorem gx_aald {a n t : Nat} {f : Nat → Option Nat} {i : Int32} {v : Value} (hd : decode M.2.2.1 pc = .ok (.aaload, 1)) (ht : t < 6 ∧ 2 ≤ t) (hc : h.2.2 a = some (gx_ar t n f)) (hin : vp_in i n) (hv : va_rf (f i.toNatClampNeg) = v) (kk : gx_Ev S M d (pc + 1) L (v :: st) h Q) : gx_Ev S M d pc L (.int i :: .ref a :: st) h Q := by
  subst hv
  obtain ⟨r, h', hq, hm, hk⟩ := kk
  refine ⟨r, h', hq, hm, fun Z p l e R s m args below meth c Qw k1 k2 H locs ls J a1 a2 a3 a4 => ?_⟩
  have hT := gx_tys_at Z.2.2 ht.1
  have hty : ∃ C, gx_ty t = .object C := by
    rcases t with _ | _ | _ | _ | _ | _ | t
    all_goals first | (exact ⟨_, rfl⟩) | omega
  obtain ⟨C, hC⟩ := hty
  rw [hC] at hT
  exact va_aldq (C := C) J.1.1 J.1.2.1 J.1.2.2.2.2.2.2.1 (gx_one a2 hc) 0 t rfl hT hin hd (hk Z p l e R s m args below meth c Qw k1 k2 H locs ls J a1 a2 a3 a4)
theorem gx_alen {a t : Nat} {x : vp_A} {v : Int32} (hd : decode M.2.2.1 pc = .ok (.arraylength, 1)) (ht : t < 6) (hc : h.2.2 a = some (.inl (t, x))) (hv : Int32.ofNat x.1 = v) (kk : gx_Ev S M d (pc + 1) L (.int v :: st) h Q) : gx_Ev S M d pc L (.ref a :: st) h Q := by
  obtain ⟨r, h', hq, hm, hk⟩ := kk
  refine ⟨r, h', hq, hm, fun Z p l e R s m args below meth c Qw k1 k2 H locs ls J a1 a2 a3 a4 => ?_⟩
  exact va_alen J.1.1 J.1.2.1 J.1.2.2.2.2.2.2.1 (gx_one a2 hc) 0 t rfl (gx_tys_at Z.2.2 ht) hv hd (hk Z p l e R s m args below meth c Qw k1 k2 H locs ls J a1 a2 a3 a4)
theorem gx_locs {locs : List Loc} {a i : Nat} (h1 : ∀ q ∈ locs, S.1 ≤ q.base) (h2 : S.1 ≤ a) : ∀ q ∈ locs ++ [⟨a, i⟩], S.1 ≤ q.base := by
  intro q hq
  rcases List.mem_append.mp hq with h8 | h8
  · exact h1 q h8
  · rw [List.mem_singleton.mp h8]; exact h2
theorem gx_iast {a n : Nat} {f : Nat → Int32} {i x : Int32} (hd : decode M.2.2.1 pc = .ok (.iastore, 1)) (hc : h.2.2 a = some (gx_ai 0 n f)) (hin : vp_in i n) (kk : gx_Ev S M d (pc + 1) L st (gx_set h a (gx_ai 0 n (va_up f i.toNatClampNeg x))) Q) : gx_Ev S M d pc L (.int x :: .int i :: .ref a :: st) h Q := by
  obtain ⟨r, h', hq, hm, hk⟩ := kk
  refine ⟨r, h', hq, hm, fun Z p l e R s m args below meth c Qw k1 k2 H locs ls J a1 a2 a3 a4 => ?_⟩
  have hK := J.1.2.2.2.2.2.2.1
  have ha := gx_one a2 hc 0 _ rfl
  refine W.iast J.1.1 J.1.2.1 ha ((hK.2 0 _ (gx_tys_at Z.2.2 (t := 0) (by omega))).1 n (fun j => .int (f j))) (fun q => by cases q) (by show ¬ (i < 0 ∨ (arrV _ _ _).slots.size ≤ _); rw [arrV_size]; exact hin) rfl rfl hd fun H1 e1 z oq => ?_
  refine hk Z p l e R s m args below meth c Qw k1 k2 H1 _ ls J a1 (a2.set hc z oq ?_) (gx_locs a3 (a2.2.2.1 a _ hc).1) a4
  show H1[a]? = some (vp_cell _ _)
  rw [e1]
  show some ((vp_cell _ (n, .inl f)).setSlot _ _) = some (vp_cell _ (n, .inl _))
  rw [vp_cell_i, vp_cell_i, arrV_store]
  congr 2
  funext q
  by_cases hq : q = i.toNatClampNeg
  · subst hq
    simp [updV, va_up]
  · simp [updV, va_up, hq]
theorem gx_zast {a n : Nat} {f : Nat → Int32} {i x : Int32} (hd : decode M.2.2.1 pc = .ok (.bastore, 1)) (hc : h.2.2 a = some (gx_ai 1 n f)) (hin : vp_in i n) (hx : x = 0 ∨ x = 1) (kk : gx_Ev S M d (pc + 1) L st (gx_set h a (gx_ai 1 n (va_up f i.toNatClampNeg x))) Q) : gx_Ev S M d pc L (.int x :: .int i :: .ref a :: st) h Q := by
  obtain ⟨r, h', hq, hm, hk⟩ := kk
  refine ⟨r, h', hq, hm, fun Z p l e R s m args below meth c Qw k1 k2 H locs ls J a1 a2 a3 a4 => ?_⟩
  have hK := J.1.2.2.2.2.2.2.1
  have ha := gx_one a2 hc 0 _ rfl
  have hnar : narrow .boolean (.int x) = .int x := by rcases hx with rfl | rfl <;> rfl
  refine W.zast J.1.1 J.1.2.1 ha ((hK.2 1 _ (gx_tys_at Z.2.2 (t := 1) (by omega))).1 n (fun j => .int (f j))) (fun q => by cases q) (by show ¬ (i < 0 ∨ (arrV _ _ _).slots.size ≤ _); rw [arrV_size]; exact hin) rfl rfl hd fun H1 e1 z oq => ?_
  refine hk Z p l e R s m args below meth c Qw k1 k2 H1 _ ls J a1 (a2.set hc z oq ?_) (gx_locs a3 (a2.2.2.1 a _ hc).1) a4
  show H1[a]? = some (vp_cell _ _)
  rw [e1, hnar]
  show some ((vp_cell _ (n, .inl f)).setSlot _ _) = some (vp_cell _ (n, .inl _))
  rw [vp_cell_i, vp_cell_i, arrV_store]
  congr 2
  funext q
  by_cases hq : q = i.toNatClampNeg
  · subst hq
    simp [updV, va_up]
  · simp [updV, va_up, hq]
/-- array type t holds objects of class ci -/
def gx_oc (t ci : Nat) : Prop := ∃ r, vwCl[ci]? = some r ∧ gx_ty t = .object r.1 ∧ t < 6
theorem gx_aast {a n t v ci : Nat} {vs : List Value} {f : Nat → Option Nat} {i : Int32} (hd : decode M.2.2.1 pc = .ok (.aastore, 1)) (ht : gx_oc t ci) (hc : h.2.2 a = some (gx_ar t n f)) (hcv : h.2.2 v = some (gx_ob ci vs)) (hin : vp_in i n) (kk : gx_Ev S M d (pc + 1) L st (gx_set h a (gx_ar t n (va_up f i.toNatClampNeg (some v)))) Q) : gx_Ev S M d pc L (.ref v :: .int i :: .ref a :: st) h Q := by
  obtain ⟨r, h', hq, hm, hk⟩ := kk
  refine ⟨r, h', hq, hm, fun Z p l e R s m args below meth c Qw k1 k2 H locs ls J a1 a2 a3 a4 => ?_⟩
  have hK := J.1.2.2.2.2.2.2.1
  have ha := gx_one a2 hc 0 _ rfl
  obtain ⟨rc, hrc, htc, ht6⟩ := ht
  have hT := gx_tys_at Z.2.2 ht6
  rw [htc] at hT
  have hlt : i.toNatClampNeg < n := Nat.not_le.mp fun q => hin (Or.inr q)
  have h0 : ¬ i < 0 := fun q => hin (Or.inl q)
  obtain ⟨-, r', hr', cellV, g1, g2, g3, -⟩ := a2.2.2.1 v _ hcv
  have hcls := (hK.1 ci rc hrc).2
  obtain ⟨kA, comp, e1, e2, e3, -⟩ := (hK.2 t _ hT).2
  have hcomp : comp = (gx_D Z).1 ci := Option.some.inj (e3.symm.trans hcls.1)
  subst hcomp
  obtain ⟨kC, hkC, -⟩ := id hcls.2
  refine W.aast J.1.1 J.1.2.1 ha (fun q h => by cases h) (fun h => by cases h) e1 e2 rfl hkC ⟨h0, by show _ < (arrV _ _ _).slots.size; rw [arrV_size]; exact hlt⟩ g1 (fun q h => by rw [g3] at h; cases h) (by rw [g2]; exact hkC) (by rw [g2]; exact va_assign hcls) rfl rfl hd fun H1 e z oq => ?_
  refine hk Z p l _ R s m args below meth c Qw k1 k2 H1 _ ls J a1 (a2.set hc z oq ?_) (gx_locs a3 (a2.2.2.1 a _ hc).1) a4
  show H1[a]? = some (vp_cell _ _)
  rw [e]
  show some ((vp_cell _ (n, .inr (.inr (.inr (.inr f))))).setSlot _ _) = some (vp_cell _ (n, .inr (.inr (.inr (.inr _)))))
  rw [vp_cell_q, vp_cell_q, arrV_store]
  congr 2
  funext q
  by_cases hq : q = i.toNatClampNeg
  · subst hq
    simp [updV, va_up, va_rf]
  · simp [updV, va_up, hq]
theorem gx_aastN {a n t : Nat} {f : Nat → Option Nat} {i : Int32} (hd : decode M.2.2.1 pc = .ok (.aastore, 1)) (ht : t < 6 ∧ 2 ≤ t) (hc : h.2.2 a = some (gx_ar t n f)) (hin : vp_in i n) (kk : gx_Ev S M d (pc + 1) L st (gx_set h a (gx_ar t n (va_up f i.toNatClampNeg none))) Q) : gx_Ev S M d pc L (.null :: .int i :: .ref a :: st) h Q := by
  obtain ⟨r, h', hq, hm, hk⟩ := kk
  refine ⟨r, h', hq, hm, fun Z p l e R s m args below meth c Qw k1 k2 H locs ls J a1 a2 a3 a4 => ?_⟩
  have hK := J.1.2.2.2.2.2.2.1
  have ha := gx_one a2 hc 0 _ rfl
  have hT := gx_tys_at Z.2.2 ht.1
  have hty : ∃ C, gx_ty t = .object C := by
    rcases t with _ | _ | _ | _ | _ | _ | t
    all_goals first | (exact ⟨_, rfl⟩) | omega
  obtain ⟨C, hC⟩ := hty
  rw [hC] at hT
  refine va_WaastN (C := C) J.1.1 J.1.2.1 ha ((hK.2 t _ hT).1 n (fun j => va_rf (f j))) (fun h => by cases h) (by show ¬ (i < 0 ∨ (arrV _ _ _).slots.size ≤ _); rw [arrV_size]; exact hin) rfl rfl hd fun H1 e1 z oq => ?_
  refine hk Z p l e R s m args below meth c Qw k1 k2 H1 _ ls J a1 (a2.set hc z oq ?_) (gx_locs a3 (a2.2.2.1 a _ hc).1) a4
  show H1[a]? = some (vp_cell _ _)
  rw [e1]
  show some ((vp_cell _ (n, .inr (.inr (.inr (.inr f))))).setSlot _ _) = some (vp_cell _ (n, .inr (.inr (.inr (.inr _)))))
  rw [vp_cell_q, vp_cell_q, arrV_store]
  congr 2
  funext q
  by_cases hq : q = i.toNatClampNeg
  · subst hq
    simp [updV, va_up, va_rf]
  · simp [updV, va_up, hq]
theorem gx_cnt {k1 k2 n : Nat} {a b : gx_H} (h1 : k1 ≤ a.1 ∧ k2 ≤ a.2.1) (hb1 : b.1 = a.1 + 1) (hb2 : b.2.1 = a.2.1 + n) : a.1 - k1 + 1 = b.1 - k1 ∧ a.2.1 - k2 + n = b.2.1 - k2 ∧ k1 ≤ b.1 ∧ k2 ≤ b.2.1 := by omega
theorem gx_new {idx ci N : Nat} {C : String} {T : u_T} {tyf : Nat → FieldType} {fs : List Value} (hd : decode M.2.2.1 pc = .ok (.new idx, 3)) (hc : gx_Cls ci C T N tyf) (h1 : Cond.classLink M.1 idx C ∈ gx_Ts) (h2 : Cond.instantiable C N ∈ gx_Ts) (h3 : Cond.initialized C ∈ gx_Ts) (hfs : ∀ j, j < N → defaultValue (tyf j) = vp_V fs j) (kk : gx_Ev S M d (pc + 3) L (.ref h.1 :: st) (gx_push h N (gx_ob ci fs)) Q) : gx_Ev S M d pc L st h Q := by
  obtain ⟨r, h', hq, hm, hk⟩ := kk
  have m1 : h.1 + 1 ≤ h'.1 := hm.1
  have m2 : h.2.1 + N ≤ h'.2.1 := hm.2
  refine ⟨r, h', hq, ⟨by omega, by omega⟩, fun Z p l e R s m args below meth c Qw k1 k2 H locs ls J a1 a2 a3 a4 => ?_⟩
  obtain ⟨c1, c2, c3, c4⟩ := hc
  have hts := J.1.2.2.2.2.1
  have hK := J.1.2.2.2.2.2.2.1
  have hKn := hK.1 ci _ c1
  have rc := J.2.2.2.1
  have rs := J.2.2.2.2.1
  obtain ⟨n1, n2, n3, n4⟩ := gx_cnt (a := h) (b := gx_push h N (gx_ob ci fs)) a1 rfl rfl
  refine W.newcK J.1.1 J.1.2.1 J.1.2.2.2.1 (hts _ h1) (hts _ h2) (hts _ h3) rfl hd (by omega) (by omega) hKn.2.1 a2.1 fun H1 kC hkC e1 z1 o1 => ?_
  rw [n1, n2]
  refine hk Z p l e R s m args below meth c Qw k1 k2 H1 locs ls J ⟨n3, n4⟩ (a2.push (by rw [z1, a2.1]) (fun q h => o1 q (by rw [← a2.1]; exact h)) ?_) a3 a4
  exact ⟨_, c1, (u_born tyf hts c2 hKn hkC e1 c3).to hfs⟩
theorem gx_newa {t N : Nat} {atype : ArrayType} {n : Int32} (hd : decode M.2.2.1 pc = .ok (.newarray atype, 2)) (ht : (t = 0 ∧ atype = .int) ∨ (t = 1 ∧ atype = .boolean)) (hn : ¬ n < 0) (hN : n.toNatClampNeg = N) (hb : N ≤ 1000000) (kk : gx_Ev S M d (pc + 2) L (.ref h.1 :: st) (gx_push h N (gx_ai t N (fun _ => 0))) Q) : gx_Ev S M d pc L (.int n :: st) h Q := by
  obtain ⟨r, h', hq, hm, hk⟩ := kk
  have m1 : h.1 + 1 ≤ h'.1 := hm.1
  have m2 : h.2.1 + N ≤ h'.2.1 := hm.2
  refine ⟨r, h', hq, ⟨by omega, by omega⟩, fun Z p l e R s m args below meth c Qw k1 k2 H locs ls J a1 a2 a3 a4 => ?_⟩
  have hts := J.1.2.2.2.2.1
  have hK := J.1.2.2.2.2.2.2.1
  have rc := J.2.2.2.1
  have rs := J.2.2.2.2.1
  obtain ⟨n1, n2, n3, n4⟩ := gx_cnt (a := h) (b := gx_push h N (gx_ai t N (fun _ => 0))) a1 rfl rfl
  have hty : newarray.typeOf atype = gx_ty t ∧ t < 6 ∧ Cond.arrayClass (gx_ty t) ∈ gx_Ts ∧ componentBytes (gx_ty t) ≤ 8 ∧ defaultValue (gx_ty t) = .int 0 := by
    rcases ht with ⟨rfl, rfl⟩ | ⟨rfl, rfl⟩
    · exact ⟨rfl, by omega, wa_int, by decide, rfl⟩
    · exact ⟨rfl, by omega, wa_boolean, by decide, rfl⟩
  obtain ⟨t1, t2, t3, t4, t5⟩ := hty
  have hT := gx_tys_at Z.2.2 t2
  have hbytes : N * componentBytes (newarray.typeOf atype) ≤ 536870912 := by
    rw [t1]
    exact Nat.le_trans (Nat.mul_le_mul hb t4) (by omega)
  refine va_newaK J.1.1 J.1.2.1 (by rw [t1]; exact hts _ t3) rfl hd rfl hn hN hbytes (by omega) (by omega) a2.1 fun H1 cA e1 z1 o1 hAr hNm => ?_
  have hcy : cA = Z.2.2 t := by
    have h9 := (hK.2 t _ hT).2
    rw [t1] at hNm
    rcases ht with ⟨rfl, -⟩ | ⟨rfl, -⟩
    · exact Option.some.inj (hNm.symm.trans h9)
    · exact Option.some.inj (hNm.symm.trans h9)
  rw [n1, n2]
  refine hk Z p l e R s m args below meth c Qw k1 k2 H1 locs ls J ⟨n3, n4⟩ (a2.push (by rw [z1, a2.1]) (fun q h => o1 q (by rw [← a2.1]; exact h)) ?_) a3 a4
  show H1[h.1]? = some (vp_cell _ _)
  rw [e1, hcy, t1, t5]
  rfl
theorem gx_anew {t N idx : Nat} {C : String} {n : Int32} (hd : decode M.2.2.1 pc = .ok (.anewarray idx, 3)) (h1 : Cond.classLink M.1 idx C ∈ gx_Ts) (ht : gx_ty t = .object C ∧ t < 6) (hAO : ∀ (Z : gx_Z) (U : State), gx_Kn Z U → va_AO C U) (hn : ¬ n < 0) (hN : n.toNatClampNeg = N) (hb : N ≤ 1000000) (kk : gx_Ev S M d (pc + 3) L (.ref h.1 :: st) (gx_push h N (gx_ar t N (fun _ => none))) Q) : gx_Ev S M d pc L (.int n :: st) h Q := by
  obtain ⟨r, h', hq, hm, hk⟩ := kk
  have m1 : h.1 + 1 ≤ h'.1 := hm.1
  have m2 : h.2.1 + N ≤ h'.2.1 := hm.2
  refine ⟨r, h', hq, ⟨by omega, by omega⟩, fun Z p l e R s m args below meth c Qw k1 k2 H locs ls J a1 a2 a3 a4 => ?_⟩
  have hts := J.1.2.2.2.2.1
  have hK := J.1.2.2.2.2.2.2.1
  have rc := J.2.2.2.1
  have rs := J.2.2.2.2.1
  obtain ⟨n1, n2, n3, n4⟩ := gx_cnt (a := h) (b := gx_push h N (gx_ar t N (fun _ => none))) a1 rfl rfl
  have hT := gx_tys_at Z.2.2 ht.2
  rw [ht.1] at hT
  subst hN
  refine W.anew J.1.1 J.1.2.1 J.1.2.2.2.1 (hts _ h1) (va_AO.use (hAO Z s J.1.2.2.2.2.2.2)) rfl hd rfl hn (by omega) (by omega) (by omega) fun cA kA comp f1 f2 f3 f4 => ?_
  generalize hH1 : H.push ({ cls := cA, slots := Array.replicate n.toNatClampNeg .null, vm := .none } : Cell) = H1
  have z1 : H1.size = H.size + 1 := by rw [← hH1, Array.size_push]
  have e1 : H1[H.size]? = some (arrV cA n.toNatClampNeg (fun _ => .null)) := by rw [← hH1, Array.getElem?_push_size, ← arrV_new]
  have o1 : ∀ q : Nat, q < H.size → H1[q]? = H[q]? := fun q hq => by rw [← hH1, Array.getElem?_push, if_neg (Nat.ne_of_lt hq)]
  have hcy : cA = Z.2.2 t := by
    obtain ⟨kA', comp', g1, g2, g3, g4⟩ := (hK.2 t _ hT).2
    exact Option.some.inj (f1.symm.trans g4)
  rw [n1, n2]
  show W p l e R s m args below meth c H1 locs _ _ Qw (F0 m (pc + 3) ls (.ref H.size :: st))
  rw [a2.1]
  refine hk Z p l e R s m args below meth c Qw k1 k2 H1 locs ls J ⟨n3, n4⟩ (a2.push z1 o1 ?_) a3 a4
  show H1[h.1]? = some (vp_cell _ _)
  rw [← a2.1, e1, hcy]
  rfl
end AR
