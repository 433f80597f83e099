/-! one row an instruction -/
theorem gx_Ls.store2 {ls : Array Slot} {nL : Nat} {L : List (Option Value)} {i : Nat} {v : Value} (hlen : L.length ≤ nL) (hi : gx_ok L i = true) (h : lv_has ls nL ((i, v) :: (gx_as L).filter (fun q => !(q.1 == i) && (!(q.1 == i + 1) && !(q.1 + 1 == i && q.2.category == 2))))) : gx_Ls ls nL ((L.set i (some v)).set (i + 1) none) := by
  refine ⟨⟨h.1, h.2.1, fun q hq => ?_⟩, by rw [List.length_set, List.length_set]; exact hlen⟩
  obtain ⟨j, w⟩ := q
  rw [gx_mem] at hq
  refine h.2.2 (j, w) ?_
  have h5 : i + 1 ≠ j := by
    intro hj
    subst hj
    by_cases hl : i + 1 < L.length
    · rw [List.getElem?_set_self (by rw [List.length_set]; exact hl)] at hq
      cases hq
    · rw [List.getElem?_eq_none (by rw [List.length_set, List.length_set]; omega)] at hq
      cases hq
  rw [List.getElem?_set_ne h5] at hq
  by_cases hj : i = j
  · subst hj
    by_cases hl : i < L.length
    · rw [List.getElem?_set_self hl] at hq
      cases hq
      exact List.mem_cons_self
    · rw [List.getElem?_eq_none (by rw [List.length_set]; omega)] at hq
      cases hq
  · rw [List.getElem?_set_ne hj] at hq
    refine List.mem_cons_of_mem _ (List.mem_filter.mpr ⟨gx_mem.mpr hq, ?_⟩)
    by_cases h2 : j + 1 = i
    · subst h2
      simp only [gx_ok, hq] at hi
      have h3 : w.category = 1 := by simpa using hi
      simp [h3]; omega
    · simp [h2]; omega
theorem gx_iconst {S : gx_S} {M : gx_M} {d pc : Nat} {L : List (Option Value)} {st : List Value} {h : gx_H} {Q : Option Value → gx_H → Prop} {n : Int} {v : Int32} (hd : decode M.2.2.1 pc = .ok (.iconst n, 1)) (hv : Int32.ofInt n = v) (k : gx_Ev S M d (pc + 1) L (.int v :: st) h Q) : gx_Ev S M d pc L (st) h Q :=
  gx_step (fun p l e R s m args below meth c Qw cells slots H locs ls Z J hl kk => lv_iconst J.1 J.2.1 hd hv (kk ls hl)) k
theorem gx_bipush {S : gx_S} {M : gx_M} {d pc : Nat} {L : List (Option Value)} {st : List Value} {h : gx_H} {Q : Option Value → gx_H → Prop} {n : Int} {v : Int32} (hd : decode M.2.2.1 pc = .ok (.bipush n, 2)) (hv : (Int8.ofInt n).toInt32 = v) (k : gx_Ev S M d (pc + 2) L (.int v :: st) h Q) : gx_Ev S M d pc L (st) h Q :=
  gx_step (fun p l e R s m args below meth c Qw cells slots H locs ls Z J hl kk => lv_bipush J.1 J.2.1 hd hv (kk ls hl)) k
theorem gx_sipush {S : gx_S} {M : gx_M} {d pc : Nat} {L : List (Option Value)} {st : List Value} {h : gx_H} {Q : Option Value → gx_H → Prop} {n : Int} {v : Int32} (hd : decode M.2.2.1 pc = .ok (.sipush n, 3)) (hv : (Int16.ofInt n).toInt32 = v) (k : gx_Ev S M d (pc + 3) L (.int v :: st) h Q) : gx_Ev S M d pc L (st) h Q :=
  gx_step (fun p l e R s m args below meth c Qw cells slots H locs ls Z J hl kk => lv_sipush J.1 J.2.1 hd hv (kk ls hl)) k
theorem gx_lconst {S : gx_S} {M : gx_M} {d pc : Nat} {L : List (Option Value)} {st : List Value} {h : gx_H} {Q : Option Value → gx_H → Prop} {n : Fin 2} {v : Int64} (hd : decode M.2.2.1 pc = .ok (.lconst n, 1)) (hv : Int64.ofNat (n : Nat) = v) (k : gx_Ev S M d (pc + 1) L (.long v :: st) h Q) : gx_Ev S M d pc L (st) h Q :=
  gx_step (fun p l e R s m args below meth c Qw cells slots H locs ls Z J hl kk => lv_lconst J.1 J.2.1 hd hv (kk ls hl)) k
theorem gx_null {S : gx_S} {M : gx_M} {d pc : Nat} {L : List (Option Value)} {st : List Value} {h : gx_H} {Q : Option Value → gx_H → Prop}  (hd : decode M.2.2.1 pc = .ok (.aconst_null, 1))  (k : gx_Ev S M d (pc + 1) L (.null :: st) h Q) : gx_Ev S M d pc L (st) h Q :=
  gx_step (fun p l e R s m args below meth c Qw cells slots H locs ls Z J hl kk => lv_null J.1 J.2.1 hd  (kk ls hl)) k
theorem gx_iload_n {S : gx_S} {M : gx_M} {d pc : Nat} {L : List (Option Value)} {st : List Value} {h : gx_H} {Q : Option Value → gx_H → Prop} {n : Fin 4} {x : Int32} (hd : decode M.2.2.1 pc = .ok (.iload_n n, 1)) (hv : L[(n : Nat)]? = some (some (.int x))) (k : gx_Ev S M d (pc + 1) L (.int x :: st) h Q) : gx_Ev S M d pc L st h Q :=
  gx_step (fun p l e R s m args below meth c Qw cells slots H locs ls Z J hl kk => lv_iload_n J.1 J.2.1 hd rfl (hl.at hv) (kk ls hl)) k
theorem gx_iload {S : gx_S} {M : gx_M} {d pc : Nat} {L : List (Option Value)} {st : List Value} {h : gx_H} {Q : Option Value → gx_H → Prop} {n : Nat} {x : Int32} (hd : decode M.2.2.1 pc = .ok (.iload n, 2)) (hv : L[n]? = some (some (.int x))) (k : gx_Ev S M d (pc + 2) L (.int x :: st) h Q) : gx_Ev S M d pc L st h Q :=
  gx_step (fun p l e R s m args below meth c Qw cells slots H locs ls Z J hl kk => lv_iload J.1 J.2.1 hd (hl.at hv) (kk ls hl)) k
theorem gx_aload_n {S : gx_S} {M : gx_M} {d pc : Nat} {L : List (Option Value)} {st : List Value} {h : gx_H} {Q : Option Value → gx_H → Prop} {n : Fin 4} {x : Nat} (hd : decode M.2.2.1 pc = .ok (.aload_n n, 1)) (hv : L[(n : Nat)]? = some (some (.ref x))) (k : gx_Ev S M d (pc + 1) L (.ref x :: st) h Q) : gx_Ev S M d pc L st h Q :=
  gx_step (fun p l e R s m args below meth c Qw cells slots H locs ls Z J hl kk => lv_aload_n J.1 J.2.1 hd rfl (hl.at hv) (kk ls hl)) k
theorem gx_aload {S : gx_S} {M : gx_M} {d pc : Nat} {L : List (Option Value)} {st : List Value} {h : gx_H} {Q : Option Value → gx_H → Prop} {n : Nat} {x : Nat} (hd : decode M.2.2.1 pc = .ok (.aload n, 2)) (hv : L[n]? = some (some (.ref x))) (k : gx_Ev S M d (pc + 2) L (.ref x :: st) h Q) : gx_Ev S M d pc L st h Q :=
  gx_step (fun p l e R s m args below meth c Qw cells slots H locs ls Z J hl kk => lv_aload J.1 J.2.1 hd (hl.at hv) (kk ls hl)) k
theorem gx_lload_n {S : gx_S} {M : gx_M} {d pc : Nat} {L : List (Option Value)} {st : List Value} {h : gx_H} {Q : Option Value → gx_H → Prop} {n : Fin 4} {x : Int64} (hd : decode M.2.2.1 pc = .ok (.lload_n n, 1)) (hv : L[(n : Nat)]? = some (some (.long x))) (k : gx_Ev S M d (pc + 1) L (.long x :: st) h Q) : gx_Ev S M d pc L st h Q :=
  gx_step (fun p l e R s m args below meth c Qw cells slots H locs ls Z J hl kk => lv_lload_n J.1 J.2.1 hd rfl (hl.at hv) (kk ls hl)) k
theorem gx_lload {S : gx_S} {M : gx_M} {d pc : Nat} {L : List (Option Value)} {st : List Value} {h : gx_H} {Q : Option Value → gx_H → Prop} {n : Nat} {x : Int64} (hd : decode M.2.2.1 pc = .ok (.lload n, 2)) (hv : L[n]? = some (some (.long x))) (k : gx_Ev S M d (pc + 2) L (.long x :: st) h Q) : gx_Ev S M d pc L st h Q :=
  gx_step (fun p l e R s m args below meth c Qw cells slots H locs ls Z J hl kk => lv_lload J.1 J.2.1 hd (hl.at hv) (kk ls hl)) k
theorem gx_aload_nN {S : gx_S} {M : gx_M} {d pc : Nat} {L : List (Option Value)} {st : List Value} {h : gx_H} {Q : Option Value → gx_H → Prop} {n : Fin 4} (hd : decode M.2.2.1 pc = .ok (.aload_n n, 1)) (hv : L[(n : Nat)]? = some (some .null)) (k : gx_Ev S M d (pc + 1) L (.null :: st) h Q) : gx_Ev S M d pc L st h Q :=
  gx_step (fun p l e R s m args below meth c Qw cells slots H locs ls Z J hl kk => lv_aload_nN J.1 J.2.1 hd rfl (hl.at hv) (kk ls hl)) k
theorem gx_aloadN {S : gx_S} {M : gx_M} {d pc : Nat} {L : List (Option Value)} {st : List Value} {h : gx_H} {Q : Option Value → gx_H → Prop} {n : Nat} (hd : decode M.2.2.1 pc = .ok (.aload n, 2)) (hv : L[n]? = some (some .null)) (k : gx_Ev S M d (pc + 2) L (.null :: st) h Q) : gx_Ev S M d pc L st h Q :=
  gx_step (fun p l e R s m args below meth c Qw cells slots H locs ls Z J hl kk => lv_aloadN J.1 J.2.1 hd (hl.at hv) (kk ls hl)) k
theorem gx_istore_n {S : gx_S} {M : gx_M} {d pc : Nat} {L : List (Option Value)} {st : List Value} {h : gx_H} {Q : Option Value → gx_H → Prop} {L' : List (Option Value)} {n : Fin 4} {x : Int32} (hd : decode M.2.2.1 pc = .ok (.istore_n n, 1)) (hn : (n : Nat) < M.2.2.2.1) (ho : gx_ok L n = true) (hs : L.set n (some (.int x)) = L') (k : gx_Ev S M d (pc + 1) L' st h Q) : gx_Ev S M d pc L (.int x :: st) h Q :=
  gx_step (fun p l e R s m args below meth c Qw cells slots H locs ls Z J hl kk => lv_istore_n J.1 J.2.1 hd rfl hl.1 hn rfl (fun ls' h9 => kk ls' (hs ▸ gx_Ls.store hl.2 ho h9))) k
theorem gx_istore {S : gx_S} {M : gx_M} {d pc : Nat} {L : List (Option Value)} {st : List Value} {h : gx_H} {Q : Option Value → gx_H → Prop} {L' : List (Option Value)} {n : Nat} {x : Int32} (hd : decode M.2.2.1 pc = .ok (.istore n, 2)) (hn : n < M.2.2.2.1) (ho : gx_ok L n = true) (hs : L.set n (some (.int x)) = L') (k : gx_Ev S M d (pc + 2) L' st h Q) : gx_Ev S M d pc L (.int x :: st) h Q :=
  gx_step (fun p l e R s m args below meth c Qw cells slots H locs ls Z J hl kk => lv_istore J.1 J.2.1 hd hl.1 hn rfl (fun ls' h9 => kk ls' (hs ▸ gx_Ls.store hl.2 ho h9))) k
theorem gx_astore_n {S : gx_S} {M : gx_M} {d pc : Nat} {L : List (Option Value)} {st : List Value} {h : gx_H} {Q : Option Value → gx_H → Prop} {L' : List (Option Value)} {n : Fin 4} {x : Nat} (hd : decode M.2.2.1 pc = .ok (.astore_n n, 1)) (hn : (n : Nat) < M.2.2.2.1) (ho : gx_ok L n = true) (hs : L.set n (some (.ref x)) = L') (k : gx_Ev S M d (pc + 1) L' st h Q) : gx_Ev S M d pc L (.ref x :: st) h Q :=
  gx_step (fun p l e R s m args below meth c Qw cells slots H locs ls Z J hl kk => lv_astore_n J.1 J.2.1 hd rfl hl.1 hn rfl (fun ls' h9 => kk ls' (hs ▸ gx_Ls.store hl.2 ho h9))) k
theorem gx_astore {S : gx_S} {M : gx_M} {d pc : Nat} {L : List (Option Value)} {st : List Value} {h : gx_H} {Q : Option Value → gx_H → Prop} {L' : List (Option Value)} {n : Nat} {x : Nat} (hd : decode M.2.2.1 pc = .ok (.astore n, 2)) (hn : n < M.2.2.2.1) (ho : gx_ok L n = true) (hs : L.set n (some (.ref x)) = L') (k : gx_Ev S M d (pc + 2) L' st h Q) : gx_Ev S M d pc L (.ref x :: st) h Q :=
  gx_step (fun p l e R s m args below meth c Qw cells slots H locs ls Z J hl kk => lv_astore J.1 J.2.1 hd hl.1 hn rfl (fun ls' h9 => kk ls' (hs ▸ gx_Ls.store hl.2 ho h9))) k
theorem gx_astore_nN {S : gx_S} {M : gx_M} {d pc : Nat} {L : List (Option Value)} {st : List Value} {h : gx_H} {Q : Option Value → gx_H → Prop} {L' : List (Option Value)} {n : Fin 4}  (hd : decode M.2.2.1 pc = .ok (.astore_n n, 1)) (hn : (n : Nat) < M.2.2.2.1) (ho : gx_ok L n = true) (hs : L.set n (some (.null)) = L') (k : gx_Ev S M d (pc + 1) L' st h Q) : gx_Ev S M d pc L (.null :: st) h Q :=
  gx_step (fun p l e R s m args below meth c Qw cells slots H locs ls Z J hl kk => lv_astore_nN J.1 J.2.1 hd rfl hl.1 hn rfl (fun ls' h9 => kk ls' (hs ▸ gx_Ls.store hl.2 ho h9))) k
theorem gx_astoreN {S : gx_S} {M : gx_M} {d pc : Nat} {L : List (Option Value)} {st : List Value} {h : gx_H} {Q : Option Value → gx_H → Prop} {L' : List (Option Value)} {n : Nat}  (hd : decode M.2.2.1 pc = .ok (.astore n, 2)) (hn : n < M.2.2.2.1) (ho : gx_ok L n = true) (hs : L.set n (some (.null)) = L') (k : gx_Ev S M d (pc + 2) L' st h Q) : gx_Ev S M d pc L (.null :: st) h Q :=
  gx_step (fun p l e R s m args below meth c Qw cells slots H locs ls Z J hl kk => lv_astoreN J.1 J.2.1 hd hl.1 hn rfl (fun ls' h9 => kk ls' (hs ▸ gx_Ls.store hl.2 ho h9))) k
theorem gx_lstore_n {S : gx_S} {M : gx_M} {d pc : Nat} {L : List (Option Value)} {st : List Value} {h : gx_H} {Q : Option Value → gx_H → Prop} {L' : List (Option Value)} {n : Fin 4} {x : Int64} (hd : decode M.2.2.1 pc = .ok (.lstore_n n, 1)) (hn : (n : Nat) + 1 < M.2.2.2.1) (ho : gx_ok L n = true) (hs : (L.set n (some (.long x))).set ((n : Nat) + 1) none = L') (k : gx_Ev S M d (pc + 1) L' st h Q) : gx_Ev S M d pc L (.long x :: st) h Q :=
  gx_step (fun p l e R s m args below meth c Qw cells slots H locs ls Z J hl kk => lv_lstore_n J.1 J.2.1 hd rfl hl.1 hn rfl (fun ls' h9 => kk ls' (hs ▸ gx_Ls.store2 hl.2 ho h9))) k
theorem gx_iinc {S : gx_S} {M : gx_M} {d pc : Nat} {L : List (Option Value)} {st : List Value} {h : gx_H} {Q : Option Value → gx_H → Prop} {L' : List (Option Value)} {i : Nat} {n : Int} {x v : Int32} (hd : decode M.2.2.1 pc = .ok (.iinc i n, 3)) (hx : L[i]? = some (some (.int x))) (hv : x + Int32.ofInt n = v) (hn : i < M.2.2.2.1) (ho : gx_ok L i = true) (hs : L.set i (some (.int v)) = L') (k : gx_Ev S M d (pc + 3) L' st h Q) : gx_Ev S M d pc L st h Q :=
  gx_step (fun p l e R s m args below meth c Qw cells slots H locs ls Z J hl kk => by
    obtain ⟨j, hj⟩ := List.getElem?_of_mem (gx_mem.mpr hx)
    exact lv_iinc J.1 J.2.1 hd hl.1 hj hv hn rfl (fun ls' h9 => kk ls' (hs ▸ gx_Ls.store hl.2 ho h9))) k
theorem gx_iadd {S : gx_S} {M : gx_M} {d pc : Nat} {L : List (Option Value)} {st : List Value} {h : gx_H} {Q : Option Value → gx_H → Prop} {x y : Int32} (hd : decode M.2.2.1 pc = .ok (.iadd, 1))  (k : gx_Ev S M d (pc + 1) L (.int (x + y) :: st) h Q) : gx_Ev S M d pc L (.int y :: .int x :: st) h Q :=
  gx_step (fun p l e R s m args below meth c Qw cells slots H locs ls Z J hl kk => lv_iadd J.1 J.2.1 hd  (kk ls hl)) k
theorem gx_isub {S : gx_S} {M : gx_M} {d pc : Nat} {L : List (Option Value)} {st : List Value} {h : gx_H} {Q : Option Value → gx_H → Prop} {x y : Int32} (hd : decode M.2.2.1 pc = .ok (.isub, 1))  (k : gx_Ev S M d (pc + 1) L (.int (x - y) :: st) h Q) : gx_Ev S M d pc L (.int y :: .int x :: st) h Q :=
  gx_step (fun p l e R s m args below meth c Qw cells slots H locs ls Z J hl kk => lv_isub J.1 J.2.1 hd  (kk ls hl)) k
theorem gx_imul {S : gx_S} {M : gx_M} {d pc : Nat} {L : List (Option Value)} {st : List Value} {h : gx_H} {Q : Option Value → gx_H → Prop} {x y : Int32} (hd : decode M.2.2.1 pc = .ok (.imul, 1))  (k : gx_Ev S M d (pc + 1) L (.int (x * y) :: st) h Q) : gx_Ev S M d pc L (.int y :: .int x :: st) h Q :=
  gx_step (fun p l e R s m args below meth c Qw cells slots H locs ls Z J hl kk => lv_imul J.1 J.2.1 hd  (kk ls hl)) k
theorem gx_iand {S : gx_S} {M : gx_M} {d pc : Nat} {L : List (Option Value)} {st : List Value} {h : gx_H} {Q : Option Value → gx_H → Prop} {x y : Int32} (hd : decode M.2.2.1 pc = .ok (.iand, 1))  (k : gx_Ev S M d (pc + 1) L (.int (x &&& y) :: st) h Q) : gx_Ev S M d pc L (.int y :: .int x :: st) h Q :=
  gx_step (fun p l e R s m args below meth c Qw cells slots H locs ls Z J hl kk => lv_iand J.1 J.2.1 hd  (kk ls hl)) k
theorem gx_irem {S : gx_S} {M : gx_M} {d pc : Nat} {L : List (Option Value)} {st : List Value} {h : gx_H} {Q : Option Value → gx_H → Prop} {x y : Int32} (hd : decode M.2.2.1 pc = .ok (.irem, 1)) (hne : ¬ y = 0) (k : gx_Ev S M d (pc + 1) L (.int (x - x / y * y) :: st) h Q) : gx_Ev S M d pc L (.int y :: .int x :: st) h Q :=
  gx_step (fun p l e R s m args below meth c Qw cells slots H locs ls Z J hl kk => lv_irem J.1 J.2.1 hd hne (kk ls hl)) k
theorem gx_lor {S : gx_S} {M : gx_M} {d pc : Nat} {L : List (Option Value)} {st : List Value} {h : gx_H} {Q : Option Value → gx_H → Prop} {x y : Int64} (hd : decode M.2.2.1 pc = .ok (.lor, 1))  (k : gx_Ev S M d (pc + 1) L (.long (x ||| y) :: st) h Q) : gx_Ev S M d pc L (.long y :: .long x :: st) h Q :=
  gx_step (fun p l e R s m args below meth c Qw cells slots H locs ls Z J hl kk => lv_lor J.1 J.2.1 hd  (kk ls hl)) k
theorem gx_land {S : gx_S} {M : gx_M} {d pc : Nat} {L : List (Option Value)} {st : List Value} {h : gx_H} {Q : Option Value → gx_H → Prop} {x y : Int64} (hd : decode M.2.2.1 pc = .ok (.land, 1))  (k : gx_Ev S M d (pc + 1) L (.long (x &&& y) :: st) h Q) : gx_Ev S M d pc L (.long y :: .long x :: st) h Q :=
  gx_step (fun p l e R s m args below meth c Qw cells slots H locs ls Z J hl kk => lv_land J.1 J.2.1 hd  (kk ls hl)) k
theorem gx_lshl {S : gx_S} {M : gx_M} {d pc : Nat} {L : List (Option Value)} {st : List Value} {h : gx_H} {Q : Option Value → gx_H → Prop} {x v : Int64} {y : Int32} (hd : decode M.2.2.1 pc = .ok (.lshl, 1)) (hv : x <<< (y.toInt64 &&& 63) = v) (k : gx_Ev S M d (pc + 1) L (.long v :: st) h Q) : gx_Ev S M d pc L (.int y :: .long x :: st) h Q :=
  gx_step (fun p l e R s m args below meth c Qw cells slots H locs ls Z J hl kk => lv_lshl J.1 J.2.1 hd hv (kk ls hl)) k
theorem gx_lshr {S : gx_S} {M : gx_M} {d pc : Nat} {L : List (Option Value)} {st : List Value} {h : gx_H} {Q : Option Value → gx_H → Prop} {x v : Int64} {y : Int32} (hd : decode M.2.2.1 pc = .ok (.lshr, 1)) (hv : x >>> (y.toInt64 &&& 63) = v) (k : gx_Ev S M d (pc + 1) L (.long v :: st) h Q) : gx_Ev S M d pc L (.int y :: .long x :: st) h Q :=
  gx_step (fun p l e R s m args below meth c Qw cells slots H locs ls Z J hl kk => lv_lshr J.1 J.2.1 hd hv (kk ls hl)) k
theorem gx_lcmp {S : gx_S} {M : gx_M} {d pc : Nat} {L : List (Option Value)} {st : List Value} {h : gx_H} {Q : Option Value → gx_H → Prop} {x y : Int64} (hd : decode M.2.2.1 pc = .ok (.lcmp, 1))  (k : gx_Ev S M d (pc + 1) L (.int (lg_cmp x y) :: st) h Q) : gx_Ev S M d pc L (.long y :: .long x :: st) h Q :=
  gx_step (fun p l e R s m args below meth c Qw cells slots H locs ls Z J hl kk => W.lcmp J.1 J.2.1 hd  (kk ls hl)) k
theorem gx_dup {S : gx_S} {M : gx_M} {d pc : Nat} {L : List (Option Value)} {st : List Value} {h : gx_H} {Q : Option Value → gx_H → Prop} {va : Value} (hd : decode M.2.2.1 pc = .ok (.dup, 1)) (hc : va.category = 1) (k : gx_Ev S M d (pc + 1) L (va :: va :: st) h Q) : gx_Ev S M d pc L (va :: st) h Q :=
  gx_step (fun p l e R s m args below meth c Qw cells slots H locs ls Z J hl kk => lv_dup J.1 J.2.1 hd hc (kk ls hl)) k
theorem gx_dup2 {S : gx_S} {M : gx_M} {d pc : Nat} {L : List (Option Value)} {st : List Value} {h : gx_H} {Q : Option Value → gx_H → Prop} {va vb : Value} (hd : decode M.2.2.1 pc = .ok (.dup2, 1)) (hc : va.category = 1) (hc2 : vb.category = 1) (k : gx_Ev S M d (pc + 1) L (va :: vb :: va :: vb :: st) h Q) : gx_Ev S M d pc L (va :: vb :: st) h Q :=
  gx_step (fun p l e R s m args below meth c Qw cells slots H locs ls Z J hl kk => lv_dup2_11 J.1 J.2.1 hd hc hc2 (kk ls hl)) k
theorem gx_goto {S : gx_S} {M : gx_M} {d pc : Nat} {L : List (Option Value)} {st : List Value} {h : gx_H} {Q : Option Value → gx_H → Prop} {off : Int} {tgt : Nat} (hd : decode M.2.2.1 pc = .ok (.goto off, 3)) (ht : (pc : Int) + off = (tgt : Int)) (k : gx_Ev S M d tgt L st h Q) : gx_Ev S M d pc L st h Q :=
  gx_step (fun p l e R s m args below meth c Qw cells slots H locs ls Z J hl kk => lv_goto J.1 J.2.1 hd ht (kk ls hl)) k
theorem gx_if_eq {S : gx_S} {M : gx_M} {d pc : Nat} {L : List (Option Value)} {st : List Value} {h : gx_H} {Q : Option Value → gx_H → Prop} {x : Int32} {off : Int} {tgt : Nat} (hd : decode M.2.2.1 pc = .ok (.ifCond .eq off, 3)) (ht : (pc : Int) + off = (tgt : Int)) (kt : x = 0 → gx_Ev S M d tgt L st h Q) (kf : ¬ (x = 0) → gx_Ev S M d (pc + 3) L st h Q) : gx_Ev S M d pc L (.int x :: st) h Q := by
  by_cases hc : x = 0
  · exact gx_step (fun p l e R s m args below meth c Qw cells slots H locs ls Z J hl kk => lv_if_eq J.1 J.2.1 hd ht (fun _ => kk ls hl) (fun h9 => absurd hc h9)) (kt hc)
  · exact gx_step (fun p l e R s m args below meth c Qw cells slots H locs ls Z J hl kk => lv_if_eq J.1 J.2.1 hd ht (fun h9 => absurd h9 hc) (fun _ => kk ls hl)) (kf hc)
theorem gx_icmp_eq {S : gx_S} {M : gx_M} {d pc : Nat} {L : List (Option Value)} {st : List Value} {h : gx_H} {Q : Option Value → gx_H → Prop} {x y : Int32} {off : Int} {tgt : Nat} (hd : decode M.2.2.1 pc = .ok (.if_icmp .eq off, 3)) (ht : (pc : Int) + off = (tgt : Int)) (kt : x = y → gx_Ev S M d tgt L st h Q) (kf : ¬ (x = y) → gx_Ev S M d (pc + 3) L st h Q) : gx_Ev S M d pc L (.int y :: .int x :: st) h Q := by
  by_cases hc : x = y
  · exact gx_step (fun p l e R s m args below meth c Qw cells slots H locs ls Z J hl kk => lv_icmp_eq J.1 J.2.1 hd ht (fun _ => kk ls hl) (fun h9 => absurd hc h9)) (kt hc)
  · exact gx_step (fun p l e R s m args below meth c Qw cells slots H locs ls Z J hl kk => lv_icmp_eq J.1 J.2.1 hd ht (fun h9 => absurd h9 hc) (fun _ => kk ls hl)) (kf hc)
theorem gx_if_ne {S : gx_S} {M : gx_M} {d pc : Nat} {L : List (Option Value)} {st : List Value} {h : gx_H} {Q : Option Value → gx_H → Prop} {x : Int32} {off : Int} {tgt : Nat} (hd : decode M.2.2.1 pc = .ok (.ifCond .ne off, 3)) (ht : (pc : Int) + off = (tgt : Int)) (kt : ¬ x = 0 → gx_Ev S M d tgt L st h Q) (kf : x = 0 → gx_Ev S M d (pc + 3) L st h Q) : gx_Ev S M d pc L (.int x :: st) h Q := by
  by_cases hc : x = 0
  · exact gx_step (fun p l e R s m args below meth c Qw cells slots H locs ls Z J hl kk => lv_if_ne J.1 J.2.1 hd ht (fun h9 => absurd hc h9) (fun _ => kk ls hl)) (kf hc)
  · exact gx_step (fun p l e R s m args below meth c Qw cells slots H locs ls Z J hl kk => lv_if_ne J.1 J.2.1 hd ht (fun _ => kk ls hl) (fun h9 => absurd h9 hc)) (kt hc)
theorem gx_icmp_ne {S : gx_S} {M : gx_M} {d pc : Nat} {L : List (Option Value)} {st : List Value} {h : gx_H} {Q : Option Value → gx_H → Prop} {x y : Int32} {off : Int} {tgt : Nat} (hd : decode M.2.2.1 pc = .ok (.if_icmp .ne off, 3)) (ht : (pc : Int) + off = (tgt : Int)) (kt : ¬ x = y → gx_Ev S M d tgt L st h Q) (kf : x = y → gx_Ev S M d (pc + 3) L st h Q) : gx_Ev S M d pc L (.int y :: .int x :: st) h Q := by
  by_cases hc : x = y
  · exact gx_step (fun p l e R s m args below meth c Qw cells slots H locs ls Z J hl kk => lv_icmp_ne J.1 J.2.1 hd ht (fun h9 => absurd hc h9) (fun _ => kk ls hl)) (kf hc)
  · exact gx_step (fun p l e R s m args below meth c Qw cells slots H locs ls Z J hl kk => lv_icmp_ne J.1 J.2.1 hd ht (fun _ => kk ls hl) (fun h9 => absurd h9 hc)) (kt hc)
theorem gx_if_lt {S : gx_S} {M : gx_M} {d pc : Nat} {L : List (Option Value)} {st : List Value} {h : gx_H} {Q : Option Value → gx_H → Prop} {x : Int32} {off : Int} {tgt : Nat} (hd : decode M.2.2.1 pc = .ok (.ifCond .lt off, 3)) (ht : (pc : Int) + off = (tgt : Int)) (kt : x < 0 → gx_Ev S M d tgt L st h Q) (kf : ¬ (x < 0) → gx_Ev S M d (pc + 3) L st h Q) : gx_Ev S M d pc L (.int x :: st) h Q := by
  by_cases hc : x < 0
  · exact gx_step (fun p l e R s m args below meth c Qw cells slots H locs ls Z J hl kk => lv_if_lt J.1 J.2.1 hd ht (fun _ => kk ls hl) (fun h9 => absurd hc h9)) (kt hc)
  · exact gx_step (fun p l e R s m args below meth c Qw cells slots H locs ls Z J hl kk => lv_if_lt J.1 J.2.1 hd ht (fun h9 => absurd h9 hc) (fun _ => kk ls hl)) (kf hc)
theorem gx_icmp_lt {S : gx_S} {M : gx_M} {d pc : Nat} {L : List (Option Value)} {st : List Value} {h : gx_H} {Q : Option Value → gx_H → Prop} {x y : Int32} {off : Int} {tgt : Nat} (hd : decode M.2.2.1 pc = .ok (.if_icmp .lt off, 3)) (ht : (pc : Int) + off = (tgt : Int)) (kt : x < y → gx_Ev S M d tgt L st h Q) (kf : ¬ (x < y) → gx_Ev S M d (pc + 3) L st h Q) : gx_Ev S M d pc L (.int y :: .int x :: st) h Q := by
  by_cases hc : x < y
  · exact gx_step (fun p l e R s m args below meth c Qw cells slots H locs ls Z J hl kk => lv_icmp_lt J.1 J.2.1 hd ht (fun _ => kk ls hl) (fun h9 => absurd hc h9)) (kt hc)
  · exact gx_step (fun p l e R s m args below meth c Qw cells slots H locs ls Z J hl kk => lv_icmp_lt J.1 J.2.1 hd ht (fun h9 => absurd h9 hc) (fun _ => kk ls hl)) (kf hc)
theorem gx_if_ge {S : gx_S} {M : gx_M} {d pc : Nat} {L : List (Option Value)} {st : List Value} {h : gx_H} {Q : Option Value → gx_H → Prop} {x : Int32} {off : Int} {tgt : Nat} (hd : decode M.2.2.1 pc = .ok (.ifCond .ge off, 3)) (ht : (pc : Int) + off = (tgt : Int)) (kt : 0 ≤ x → gx_Ev S M d tgt L st h Q) (kf : ¬ (0 ≤ x) → gx_Ev S M d (pc + 3) L st h Q) : gx_Ev S M d pc L (.int x :: st) h Q := by
  by_cases hc : 0 ≤ x
  · exact gx_step (fun p l e R s m args below meth c Qw cells slots H locs ls Z J hl kk => lv_if_ge J.1 J.2.1 hd ht (fun _ => kk ls hl) (fun h9 => absurd hc h9)) (kt hc)
  · exact gx_step (fun p l e R s m args below meth c Qw cells slots H locs ls Z J hl kk => lv_if_ge J.1 J.2.1 hd ht (fun h9 => absurd h9 hc) (fun _ => kk ls hl)) (kf hc)
theorem gx_icmp_ge {S : gx_S} {M : gx_M} {d pc : Nat} {L : List (Option Value)} {st : List Value} {h : gx_H} {Q : Option Value → gx_H → Prop} {x y : Int32} {off : Int} {tgt : Nat} (hd : decode M.2.2.1 pc = .ok (.if_icmp .ge off, 3)) (ht : (pc : Int) + off = (tgt : Int)) (kt : y ≤ x → gx_Ev S M d tgt L st h Q) (kf : ¬ (y ≤ x) → gx_Ev S M d (pc + 3) L st h Q) : gx_Ev S M d pc L (.int y :: .int x :: st) h Q := by
  by_cases hc : y ≤ x
  · exact gx_step (fun p l e R s m args below meth c Qw cells slots H locs ls Z J hl kk => lv_icmp_ge J.1 J.2.1 hd ht (fun _ => kk ls hl) (fun h9 => absurd hc h9)) (kt hc)
  · exact gx_step (fun p l e R s m args below meth c Qw cells slots H locs ls Z J hl kk => lv_icmp_ge J.1 J.2.1 hd ht (fun h9 => absurd h9 hc) (fun _ => kk ls hl)) (kf hc)
theorem gx_if_gt {S : gx_S} {M : gx_M} {d pc : Nat} {L : List (Option Value)} {st : List Value} {h : gx_H} {Q : Option Value → gx_H → Prop} {x : Int32} {off : Int} {tgt : Nat} (hd : decode M.2.2.1 pc = .ok (.ifCond .gt off, 3)) (ht : (pc : Int) + off = (tgt : Int)) (kt : 0 < x → gx_Ev S M d tgt L st h Q) (kf : ¬ (0 < x) → gx_Ev S M d (pc + 3) L st h Q) : gx_Ev S M d pc L (.int x :: st) h Q := by
  by_cases hc : 0 < x
  · exact gx_step (fun p l e R s m args below meth c Qw cells slots H locs ls Z J hl kk => lv_if_gt J.1 J.2.1 hd ht (fun _ => kk ls hl) (fun h9 => absurd hc h9)) (kt hc)
  · exact gx_step (fun p l e R s m args below meth c Qw cells slots H locs ls Z J hl kk => lv_if_gt J.1 J.2.1 hd ht (fun h9 => absurd h9 hc) (fun _ => kk ls hl)) (kf hc)
theorem gx_icmp_gt {S : gx_S} {M : gx_M} {d pc : Nat} {L : List (Option Value)} {st : List Value} {h : gx_H} {Q : Option Value → gx_H → Prop} {x y : Int32} {off : Int} {tgt : Nat} (hd : decode M.2.2.1 pc = .ok (.if_icmp .gt off, 3)) (ht : (pc : Int) + off = (tgt : Int)) (kt : y < x → gx_Ev S M d tgt L st h Q) (kf : ¬ (y < x) → gx_Ev S M d (pc + 3) L st h Q) : gx_Ev S M d pc L (.int y :: .int x :: st) h Q := by
  by_cases hc : y < x
  · exact gx_step (fun p l e R s m args below meth c Qw cells slots H locs ls Z J hl kk => lv_icmp_gt J.1 J.2.1 hd ht (fun _ => kk ls hl) (fun h9 => absurd hc h9)) (kt hc)
  · exact gx_step (fun p l e R s m args below meth c Qw cells slots H locs ls Z J hl kk => lv_icmp_gt J.1 J.2.1 hd ht (fun h9 => absurd h9 hc) (fun _ => kk ls hl)) (kf hc)
theorem gx_if_le {S : gx_S} {M : gx_M} {d pc : Nat} {L : List (Option Value)} {st : List Value} {h : gx_H} {Q : Option Value → gx_H → Prop} {x : Int32} {off : Int} {tgt : Nat} (hd : decode M.2.2.1 pc = .ok (.ifCond .le off, 3)) (ht : (pc : Int) + off = (tgt : Int)) (kt : x ≤ 0 → gx_Ev S M d tgt L st h Q) (kf : ¬ (x ≤ 0) → gx_Ev S M d (pc + 3) L st h Q) : gx_Ev S M d pc L (.int x :: st) h Q := by
  by_cases hc : x ≤ 0
  · exact gx_step (fun p l e R s m args below meth c Qw cells slots H locs ls Z J hl kk => lv_if_le J.1 J.2.1 hd ht (fun _ => kk ls hl) (fun h9 => absurd hc h9)) (kt hc)
  · exact gx_step (fun p l e R s m args below meth c Qw cells slots H locs ls Z J hl kk => lv_if_le J.1 J.2.1 hd ht (fun h9 => absurd h9 hc) (fun _ => kk ls hl)) (kf hc)
theorem gx_icmp_le {S : gx_S} {M : gx_M} {d pc : Nat} {L : List (Option Value)} {st : List Value} {h : gx_H} {Q : Option Value → gx_H → Prop} {x y : Int32} {off : Int} {tgt : Nat} (hd : decode M.2.2.1 pc = .ok (.if_icmp .le off, 3)) (ht : (pc : Int) + off = (tgt : Int)) (kt : x ≤ y → gx_Ev S M d tgt L st h Q) (kf : ¬ (x ≤ y) → gx_Ev S M d (pc + 3) L st h Q) : gx_Ev S M d pc L (.int y :: .int x :: st) h Q := by
  by_cases hc : x ≤ y
  · exact gx_step (fun p l e R s m args below meth c Qw cells slots H locs ls Z J hl kk => lv_icmp_le J.1 J.2.1 hd ht (fun _ => kk ls hl) (fun h9 => absurd hc h9)) (kt hc)
  · exact gx_step (fun p l e R s m args below meth c Qw cells slots H locs ls Z J hl kk => lv_icmp_le J.1 J.2.1 hd ht (fun h9 => absurd h9 hc) (fun _ => kk ls hl)) (kf hc)
theorem gx_acmp_ne {S : gx_S} {M : gx_M} {d pc : Nat} {L : List (Option Value)} {st : List Value} {h : gx_H} {Q : Option Value → gx_H → Prop} {x y : Nat} {off : Int} {tgt : Nat} (hd : decode M.2.2.1 pc = .ok (.if_acmp .ne off, 3)) (ht : (pc : Int) + off = (tgt : Int)) (kt : ¬ x = y → gx_Ev S M d tgt L st h Q) (kf : x = y → gx_Ev S M d (pc + 3) L st h Q) : gx_Ev S M d pc L (.ref y :: .ref x :: st) h Q := by
  by_cases hc : x = y
  · exact gx_step (fun p l e R s m args below meth c Qw cells slots H locs ls Z J hl kk => lv_acmp_ne (rx := some x) (ry := some y) J.1 J.2.1 hd ht (fun h9 => absurd (by rw [hc]) h9) (fun _ => kk ls hl)) (kf hc)
  · exact gx_step (fun p l e R s m args below meth c Qw cells slots H locs ls Z J hl kk => lv_acmp_ne (rx := some x) (ry := some y) J.1 J.2.1 hd ht (fun _ => kk ls hl) (fun h9 => absurd (Option.some.inj h9) hc)) (kt hc)
theorem gx_ifnull {S : gx_S} {M : gx_M} {d pc : Nat} {L : List (Option Value)} {st : List Value} {h : gx_H} {Q : Option Value → gx_H → Prop} {x : Nat} {off : Int} (hd : decode M.2.2.1 pc = .ok (.ifnull off, 3)) (k : gx_Ev S M d (pc + 3) L st h Q) : gx_Ev S M d pc L (.ref x :: st) h Q :=
  gx_step (fun p l e R s m args below meth c Qw cells slots H locs ls Z J hl kk => lv_ifnull J.1 J.2.1 hd (kk ls hl)) k
theorem gx_ifnullN {S : gx_S} {M : gx_M} {d pc : Nat} {L : List (Option Value)} {st : List Value} {h : gx_H} {Q : Option Value → gx_H → Prop} {off : Int} {tgt : Nat} (hd : decode M.2.2.1 pc = .ok (.ifnull off, 3)) (ht : (pc : Int) + off = (tgt : Int)) (k : gx_Ev S M d tgt L st h Q) : gx_Ev S M d pc L (.null :: st) h Q :=
  gx_step (fun p l e R s m args below meth c Qw cells slots H locs ls Z J hl kk => lv_ifnullN J.1 J.2.1 hd ht (kk ls hl)) k
theorem gx_ifnonnull {S : gx_S} {M : gx_M} {d pc : Nat} {L : List (Option Value)} {st : List Value} {h : gx_H} {Q : Option Value → gx_H → Prop} {x : Nat} {off : Int} {tgt : Nat} (hd : decode M.2.2.1 pc = .ok (.ifnonnull off, 3)) (ht : (pc : Int) + off = (tgt : Int)) (k : gx_Ev S M d tgt L st h Q) : gx_Ev S M d pc L (.ref x :: st) h Q :=
  gx_step (fun p l e R s m args below meth c Qw cells slots H locs ls Z J hl kk => lv_ifnonnull J.1 J.2.1 hd ht (kk ls hl)) k
theorem gx_ifnonnullN {S : gx_S} {M : gx_M} {d pc : Nat} {L : List (Option Value)} {st : List Value} {h : gx_H} {Q : Option Value → gx_H → Prop} {off : Int} (hd : decode M.2.2.1 pc = .ok (.ifnonnull off, 3)) (k : gx_Ev S M d (pc + 3) L st h Q) : gx_Ev S M d pc L (.null :: st) h Q :=
  gx_step (fun p l e R s m args below meth c Qw cells slots H locs ls Z J hl kk => lv_ifnonnullN J.1 J.2.1 hd (kk ls hl)) k
theorem gx_tableIn {S : gx_S} {M : gx_M} {d pc : Nat} {L : List (Option Value)} {st : List Value} {h : gx_H} {Q : Option Value → gx_H → Prop} {dflt lo hi : Int} {offs : Array Int} {len : Nat} {x : Int32} {off : Int} {tgt : Nat} (hd : decode M.2.2.1 pc = .ok (.tableswitch dflt lo hi offs, len)) (h1 : ¬ x.toInt < lo) (h2 : ¬ hi < x.toInt) (h3 : offs[(x.toInt - lo).toNat]? = some off) (ht : (pc : Int) + off = (tgt : Int)) (k : gx_Ev S M d tgt L st h Q) : gx_Ev S M d pc L (.int x :: st) h Q :=
  gx_step (fun p l e R s m args below meth c Qw cells slots H locs ls Z J hl kk => lv_tableIn J.1 J.2.1 hd h1 h2 h3 ht (kk ls hl)) k
theorem gx_tableOut {S : gx_S} {M : gx_M} {d pc : Nat} {L : List (Option Value)} {st : List Value} {h : gx_H} {Q : Option Value → gx_H → Prop} {dflt lo hi : Int} {offs : Array Int} {len : Nat} {x : Int32} {tgt : Nat} (hd : decode M.2.2.1 pc = .ok (.tableswitch dflt lo hi offs, len)) (h1 : x.toInt < lo ∨ hi < x.toInt) (ht : (pc : Int) + dflt = (tgt : Int)) (k : gx_Ev S M d tgt L st h Q) : gx_Ev S M d pc L (.int x :: st) h Q :=
  gx_step (fun p l e R s m args below meth c Qw cells slots H locs ls Z J hl kk => lv_tableOut J.1 J.2.1 hd h1 ht (kk ls hl)) k
theorem gx_ldc {S : gx_S} {M : gx_M} {d pc : Nat} {L : List (Option Value)} {st : List Value} {h : gx_H} {Q : Option Value → gx_H → Prop} {n : Nat} {v : Int32} (hd : decode M.2.2.1 pc = .ok (.ldc n, 2)) (hc : Cond.constant M.1 n v ∈ gx_Ts) (k : gx_Ev S M d (pc + 2) L (.int v :: st) h Q) : gx_Ev S M d pc L st h Q :=
  gx_step (fun p l e R s m args below meth c Qw cells slots H locs ls Z J hl kk => lv_ldc J.1 J.2.1 J.2.2.2.1 (J.2.2.2.2.1 _ hc) hd (kk ls hl)) k
theorem gx_ireturn {S : gx_S} {M : gx_M} {d pc : Nat} {L : List (Option Value)} {h : gx_H} {Q : Option Value → gx_H → Prop} {v : Int32} (hd : decode M.2.2.1 pc = .ok (.ireturn, 1)) (hq : Q (some (.int v)) h) : gx_Ev S M d pc L [(.int v)] h Q :=
  ⟨some (.int v), h, hq, ⟨Nat.le_refl _, Nat.le_refl _⟩, fun Z p l e R s m args below meth c Qw k1 k2 H locs ls J a1 a2 a3 a4 => J.2.2.2.2.2 H locs ls pc a2 a3 hd⟩
theorem gx_lreturn {S : gx_S} {M : gx_M} {d pc : Nat} {L : List (Option Value)} {h : gx_H} {Q : Option Value → gx_H → Prop} {v : Int64} (hd : decode M.2.2.1 pc = .ok (.lreturn, 1)) (hq : Q (some (.long v)) h) : gx_Ev S M d pc L [(.long v)] h Q :=
  ⟨some (.long v), h, hq, ⟨Nat.le_refl _, Nat.le_refl _⟩, fun Z p l e R s m args below meth c Qw k1 k2 H locs ls J a1 a2 a3 a4 => J.2.2.2.2.2 H locs ls pc a2 a3 hd⟩
theorem gx_areturn {S : gx_S} {M : gx_M} {d pc : Nat} {L : List (Option Value)} {h : gx_H} {Q : Option Value → gx_H → Prop} {v : Nat} (hd : decode M.2.2.1 pc = .ok (.areturn, 1)) (hq : Q (some (.ref v)) h) : gx_Ev S M d pc L [(.ref v)] h Q :=
  ⟨some (.ref v), h, hq, ⟨Nat.le_refl _, Nat.le_refl _⟩, fun Z p l e R s m args below meth c Qw k1 k2 H locs ls J a1 a2 a3 a4 => J.2.2.2.2.2 H locs ls pc a2 a3 hd⟩
theorem gx_areturnN {S : gx_S} {M : gx_M} {d pc : Nat} {L : List (Option Value)} {h : gx_H} {Q : Option Value → gx_H → Prop}  (hd : decode M.2.2.1 pc = .ok (.areturn, 1)) (hq : Q (some .null) h) : gx_Ev S M d pc L [.null] h Q :=
  ⟨some .null, h, hq, ⟨Nat.le_refl _, Nat.le_refl _⟩, fun Z p l e R s m args below meth c Qw k1 k2 H locs ls J a1 a2 a3 a4 => J.2.2.2.2.2 H locs ls pc a2 a3 hd⟩
theorem gx_return {S : gx_S} {M : gx_M} {d pc : Nat} {L : List (Option Value)} {h : gx_H} {Q : Option Value → gx_H → Prop}  (hd : decode M.2.2.1 pc = .ok (.return_, 1)) (hq : Q (none) h) : gx_Ev S M d pc L [] h Q :=
  ⟨none, h, hq, ⟨Nat.le_refl _, Nat.le_refl _⟩, fun Z p l e R s m args below meth c Qw k1 k2 H locs ls J a1 a2 a3 a4 => J.2.2.2.2.2 H locs ls pc a2 a3 hd⟩
