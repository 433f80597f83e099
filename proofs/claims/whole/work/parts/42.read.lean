/-! reading rows of int arrays; small facts -/
theorem gq_8 {S : gx_S} {M : gx_M} {d pc : Nat} {L : List (Option Value)} {st : List Value} {h : gx_H} {Q : Option Value → gx_H → Prop} {σ : gs_T} {A : gs_A} {q : Nat} {x v : Int32} (hd : decode M.2.2.1 pc = .ok (.iaload, 1)) (R : gs_R h σ A)  (hx : x = nI q) (hq : q < 16) (hv : σ.2.1 19 q 0 = v) (kk : gx_Ev S M d (pc + 1) L (.int v :: st) h Q) : gx_Ev S M d pc L (.int x :: .ref (A 8 0 0) :: st) h Q := by
  subst hx
  refine gx_iald hd (gs_g8 R ) (vp_in_nI hq (by omega)) ?_ kk
  rw [nI_clamp (by omega)]
  exact hv
theorem gq_9 {S : gx_S} {M : gx_M} {d pc : Nat} {L : List (Option Value)} {st : List Value} {h : gx_H} {Q : Option Value → gx_H → Prop} {σ : gs_T} {A : gs_A} {q : Nat} {x v : Int32} (hd : decode M.2.2.1 pc = .ok (.iaload, 1)) (R : gs_R h σ A)  (hx : x = nI q) (hq : q < 4) (hv : σ.2.1 20 q 0 = v) (kk : gx_Ev S M d (pc + 1) L (.int v :: st) h Q) : gx_Ev S M d pc L (.int x :: .ref (A 9 0 0) :: st) h Q := by
  subst hx
  refine gx_iald hd (gs_g9 R ) (vp_in_nI hq (by omega)) ?_ kk
  rw [nI_clamp (by omega)]
  exact hv
theorem gq_11 {S : gx_S} {M : gx_M} {d pc : Nat} {L : List (Option Value)} {st : List Value} {h : gx_H} {Q : Option Value → gx_H → Prop} {σ : gs_T} {A : gs_A} {q : Nat} {x v : Int32} (hd : decode M.2.2.1 pc = .ok (.iaload, 1)) (R : gs_R h σ A)  (hx : x = nI q) (hq : q < 16) (hv : σ.2.1 21 q 0 = v) (kk : gx_Ev S M d (pc + 1) L (.int v :: st) h Q) : gx_Ev S M d pc L (.int x :: .ref (A 11 0 0) :: st) h Q := by
  subst hx
  refine gx_iald hd (gs_g11 R ) (vp_in_nI hq (by omega)) ?_ kk
  rw [nI_clamp (by omega)]
  exact hv
theorem gq_12 {S : gx_S} {M : gx_M} {d pc : Nat} {L : List (Option Value)} {st : List Value} {h : gx_H} {Q : Option Value → gx_H → Prop} {σ : gs_T} {A : gs_A} {q : Nat} {x v : Int32} (hd : decode M.2.2.1 pc = .ok (.iaload, 1)) (R : gs_R h σ A)  (hx : x = nI q) (hq : q < 16) (hv : σ.2.1 22 q 0 = v) (kk : gx_Ev S M d (pc + 1) L (.int v :: st) h Q) : gx_Ev S M d pc L (.int x :: .ref (A 12 0 0) :: st) h Q := by
  subst hx
  refine gx_iald hd (gs_g12 R ) (vp_in_nI hq (by omega)) ?_ kk
  rw [nI_clamp (by omega)]
  exact hv
theorem gq_21 {S : gx_S} {M : gx_M} {d pc : Nat} {L : List (Option Value)} {st : List Value} {h : gx_H} {Q : Option Value → gx_H → Prop} {σ : gs_T} {A : gs_A} {q : Nat} {x v : Int32} (hd : decode M.2.2.1 pc = .ok (.iaload, 1)) (R : gs_R h σ A) (hl : σ.1 31 0 0 = 1) (hx : x = nI q) (hq : q < 4) (hv : σ.2.1 101 q 0 = v) (kk : gx_Ev S M d (pc + 1) L (.int v :: st) h Q) : gx_Ev S M d pc L (.int x :: .ref (A 21 0 0) :: st) h Q := by
  subst hx
  refine gx_iald hd (gs_g21 R hl) (vp_in_nI hq (by omega)) ?_ kk
  rw [nI_clamp (by omega)]
  exact hv
theorem gq_22 {S : gx_S} {M : gx_M} {d pc : Nat} {L : List (Option Value)} {st : List Value} {h : gx_H} {Q : Option Value → gx_H → Prop} {σ : gs_T} {A : gs_A} {q : Nat} {x v : Int32} (hd : decode M.2.2.1 pc = .ok (.baload, 1)) (R : gs_R h σ A) (hl : σ.1 31 0 0 = 1) (hx : x = nI q) (hq : q < 4) (hv : σ.2.1 102 q 0 = v) (kk : gx_Ev S M d (pc + 1) L (.int v :: st) h Q) : gx_Ev S M d pc L (.int x :: .ref (A 22 0 0) :: st) h Q := by
  subst hx
  refine gx_zald hd (gs_g22 R hl) (vp_in_nI hq (by omega)) ?_ kk
  rw [nI_clamp (by omega)]
  exact hv
theorem gq_23 {S : gx_S} {M : gx_M} {d pc : Nat} {L : List (Option Value)} {st : List Value} {h : gx_H} {Q : Option Value → gx_H → Prop} {σ : gs_T} {A : gs_A} {q : Nat} {x v : Int32} (hd : decode M.2.2.1 pc = .ok (.iaload, 1)) (R : gs_R h σ A) (hl : σ.1 31 0 0 = 1) (hx : x = nI q) (hq : q < 16) (hv : σ.2.1 103 q 0 = v) (kk : gx_Ev S M d (pc + 1) L (.int v :: st) h Q) : gx_Ev S M d pc L (.int x :: .ref (A 23 0 0) :: st) h Q := by
  subst hx
  refine gx_iald hd (gs_g23 R hl) (vp_in_nI hq (by omega)) ?_ kk
  rw [nI_clamp (by omega)]
  exact hv
theorem gq_25 {S : gx_S} {M : gx_M} {d pc : Nat} {L : List (Option Value)} {st : List Value} {h : gx_H} {Q : Option Value → gx_H → Prop} {σ : gs_T} {A : gs_A} {q : Nat} {x v : Int32} (hd : decode M.2.2.1 pc = .ok (.iaload, 1)) (R : gs_R h σ A) (hl : σ.1 31 0 0 = 1) (hx : x = nI q) (hq : q < 40) (hv : nI (σ.1 105 q 0) = v) (kk : gx_Ev S M d (pc + 1) L (.int v :: st) h Q) : gx_Ev S M d pc L (.int x :: .ref (A 25 0 0) :: st) h Q := by
  subst hx
  refine gx_iald hd (gs_g25 R hl) (vp_in_nI hq (by omega)) ?_ kk
  rw [nI_clamp (by omega)]
  exact hv
theorem gq_26 {S : gx_S} {M : gx_M} {d pc : Nat} {L : List (Option Value)} {st : List Value} {h : gx_H} {Q : Option Value → gx_H → Prop} {σ : gs_T} {A : gs_A} {q : Nat} {x v : Int32} (hd : decode M.2.2.1 pc = .ok (.iaload, 1)) (R : gs_R h σ A) (hl : σ.1 31 0 0 = 1) (hx : x = nI q) (hq : q < 40) (hv : σ.2.1 106 q 0 = v) (kk : gx_Ev S M d (pc + 1) L (.int v :: st) h Q) : gx_Ev S M d pc L (.int x :: .ref (A 26 0 0) :: st) h Q := by
  subst hx
  refine gx_iald hd (gs_g26 R hl) (vp_in_nI hq (by omega)) ?_ kk
  rw [nI_clamp (by omega)]
  exact hv
theorem gq_27 {S : gx_S} {M : gx_M} {d pc : Nat} {L : List (Option Value)} {st : List Value} {h : gx_H} {Q : Option Value → gx_H → Prop} {σ : gs_T} {A : gs_A} {q : Nat} {x v : Int32} (hd : decode M.2.2.1 pc = .ok (.iaload, 1)) (R : gs_R h σ A) (hl : σ.1 31 0 0 = 1) (hx : x = nI q) (hq : q < 40) (hv : nI (σ.1 107 q 0) = v) (kk : gx_Ev S M d (pc + 1) L (.int v :: st) h Q) : gx_Ev S M d pc L (.int x :: .ref (A 27 0 0) :: st) h Q := by
  subst hx
  refine gx_iald hd (gs_g27 R hl) (vp_in_nI hq (by omega)) ?_ kk
  rw [nI_clamp (by omega)]
  exact hv
theorem gq_28 {S : gx_S} {M : gx_M} {d pc : Nat} {L : List (Option Value)} {st : List Value} {h : gx_H} {Q : Option Value → gx_H → Prop} {σ : gs_T} {A : gs_A} {q : Nat} {x v : Int32} (hd : decode M.2.2.1 pc = .ok (.iaload, 1)) (R : gs_R h σ A) (hl : σ.1 31 0 0 = 1) (hx : x = nI q) (hq : q < 40) (hv : nI (σ.1 108 q 0) = v) (kk : gx_Ev S M d (pc + 1) L (.int v :: st) h Q) : gx_Ev S M d pc L (.int x :: .ref (A 28 0 0) :: st) h Q := by
  subst hx
  refine gx_iald hd (gs_g28 R hl) (vp_in_nI hq (by omega)) ?_ kk
  rw [nI_clamp (by omega)]
  exact hv
theorem gq_29 {S : gx_S} {M : gx_M} {d pc : Nat} {L : List (Option Value)} {st : List Value} {h : gx_H} {Q : Option Value → gx_H → Prop} {σ : gs_T} {A : gs_A} {q : Nat} {x v : Int32} (hd : decode M.2.2.1 pc = .ok (.iaload, 1)) (R : gs_R h σ A) (hl : σ.1 31 0 0 = 1) (hx : x = nI q) (hq : q < 40) (hv : σ.2.1 109 q 0 = v) (kk : gx_Ev S M d (pc + 1) L (.int v :: st) h Q) : gx_Ev S M d pc L (.int x :: .ref (A 29 0 0) :: st) h Q := by
  subst hx
  refine gx_iald hd (gs_g29 R hl) (vp_in_nI hq (by omega)) ?_ kk
  rw [nI_clamp (by omega)]
  exact hv
theorem gq_30 {S : gx_S} {M : gx_M} {d pc : Nat} {L : List (Option Value)} {st : List Value} {h : gx_H} {Q : Option Value → gx_H → Prop} {σ : gs_T} {A : gs_A} {q : Nat} {x v : Int32} (hd : decode M.2.2.1 pc = .ok (.iaload, 1)) (R : gs_R h σ A) (hl : σ.1 31 0 0 = 1) (hx : x = nI q) (hq : q < 40) (hv : σ.2.1 110 q 0 = v) (kk : gx_Ev S M d (pc + 1) L (.int v :: st) h Q) : gx_Ev S M d pc L (.int x :: .ref (A 30 0 0) :: st) h Q := by
  subst hx
  refine gx_iald hd (gs_g30 R hl) (vp_in_nI hq (by omega)) ?_ kk
  rw [nI_clamp (by omega)]
  exact hv
theorem gq_31 {S : gx_S} {M : gx_M} {d pc : Nat} {L : List (Option Value)} {st : List Value} {h : gx_H} {Q : Option Value → gx_H → Prop} {σ : gs_T} {A : gs_A} {q : Nat} {x v : Int32} (hd : decode M.2.2.1 pc = .ok (.baload, 1)) (R : gs_R h σ A) (hl : σ.1 31 0 0 = 1) (hx : x = nI q) (hq : q < 40) (hv : σ.2.1 111 q 0 = v) (kk : gx_Ev S M d (pc + 1) L (.int v :: st) h Q) : gx_Ev S M d pc L (.int x :: .ref (A 31 0 0) :: st) h Q := by
  subst hx
  refine gx_zald hd (gs_g31 R hl) (vp_in_nI hq (by omega)) ?_ kk
  rw [nI_clamp (by omega)]
  exact hv
theorem gq_32 {S : gx_S} {M : gx_M} {d pc : Nat} {L : List (Option Value)} {st : List Value} {h : gx_H} {Q : Option Value → gx_H → Prop} {σ : gs_T} {A : gs_A} {q : Nat} {x v : Int32} (hd : decode M.2.2.1 pc = .ok (.iaload, 1)) (R : gs_R h σ A) (hl : σ.1 31 0 0 = 1) (hx : x = nI q) (hq : q < 40) (hv : σ.2.1 112 q 0 = v) (kk : gx_Ev S M d (pc + 1) L (.int v :: st) h Q) : gx_Ev S M d pc L (.int x :: .ref (A 32 0 0) :: st) h Q := by
  subst hx
  refine gx_iald hd (gs_g32 R hl) (vp_in_nI hq (by omega)) ?_ kk
  rw [nI_clamp (by omega)]
  exact hv
theorem gq_33 {S : gx_S} {M : gx_M} {d pc : Nat} {L : List (Option Value)} {st : List Value} {h : gx_H} {Q : Option Value → gx_H → Prop} {σ : gs_T} {A : gs_A} {q : Nat} {x v : Int32} (hd : decode M.2.2.1 pc = .ok (.iaload, 1)) (R : gs_R h σ A) (hl : σ.1 31 0 0 = 1) (hx : x = nI q) (hq : q < 4) (hv : σ.2.1 113 q 0 = v) (kk : gx_Ev S M d (pc + 1) L (.int v :: st) h Q) : gx_Ev S M d pc L (.int x :: .ref (A 33 0 0) :: st) h Q := by
  subst hx
  refine gx_iald hd (gs_g33 R hl) (vp_in_nI hq (by omega)) ?_ kk
  rw [nI_clamp (by omega)]
  exact hv
theorem gq_34 {S : gx_S} {M : gx_M} {d pc : Nat} {L : List (Option Value)} {st : List Value} {h : gx_H} {Q : Option Value → gx_H → Prop} {σ : gs_T} {A : gs_A} {q : Nat} {x v : Int32} (hd : decode M.2.2.1 pc = .ok (.baload, 1)) (R : gs_R h σ A) (hl : σ.1 31 0 0 = 1) (hx : x = nI q) (hq : q < 160) (hv : σ.2.1 114 q 0 = v) (kk : gx_Ev S M d (pc + 1) L (.int v :: st) h Q) : gx_Ev S M d pc L (.int x :: .ref (A 34 0 0) :: st) h Q := by
  subst hx
  refine gx_zald hd (gs_g34 R hl) (vp_in_nI hq (by omega)) ?_ kk
  rw [nI_clamp (by omega)]
  exact hv
theorem gq_35 {S : gx_S} {M : gx_M} {d pc : Nat} {L : List (Option Value)} {st : List Value} {h : gx_H} {Q : Option Value → gx_H → Prop} {σ : gs_T} {A : gs_A} {q : Nat} {x v : Int32} (hd : decode M.2.2.1 pc = .ok (.iaload, 1)) (R : gs_R h σ A) (hl : σ.1 31 0 0 = 1) (hx : x = nI q) (hq : q < 160) (hv : σ.2.1 115 q 0 = v) (kk : gx_Ev S M d (pc + 1) L (.int v :: st) h Q) : gx_Ev S M d pc L (.int x :: .ref (A 35 0 0) :: st) h Q := by
  subst hx
  refine gx_iald hd (gs_g35 R hl) (vp_in_nI hq (by omega)) ?_ kk
  rw [nI_clamp (by omega)]
  exact hv
theorem gq_36 {S : gx_S} {M : gx_M} {d pc : Nat} {L : List (Option Value)} {st : List Value} {h : gx_H} {Q : Option Value → gx_H → Prop} {σ : gs_T} {A : gs_A} {q : Nat} {x v : Int32} (hd : decode M.2.2.1 pc = .ok (.baload, 1)) (R : gs_R h σ A) (hl : σ.1 31 0 0 = 1) (hx : x = nI q) (hq : q < 160) (hv : σ.2.1 116 q 0 = v) (kk : gx_Ev S M d (pc + 1) L (.int v :: st) h Q) : gx_Ev S M d pc L (.int x :: .ref (A 36 0 0) :: st) h Q := by
  subst hx
  refine gx_zald hd (gs_g36 R hl) (vp_in_nI hq (by omega)) ?_ kk
  rw [nI_clamp (by omega)]
  exact hv
theorem gq_37 {S : gx_S} {M : gx_M} {d pc : Nat} {L : List (Option Value)} {st : List Value} {h : gx_H} {Q : Option Value → gx_H → Prop} {σ : gs_T} {A : gs_A} {q : Nat} {x v : Int32} (hd : decode M.2.2.1 pc = .ok (.baload, 1)) (R : gs_R h σ A) (hl : σ.1 31 0 0 = 1) (hx : x = nI q) (hq : q < 160) (hv : σ.2.1 117 q 0 = v) (kk : gx_Ev S M d (pc + 1) L (.int v :: st) h Q) : gx_Ev S M d pc L (.int x :: .ref (A 37 0 0) :: st) h Q := by
  subst hx
  refine gx_zald hd (gs_g37 R hl) (vp_in_nI hq (by omega)) ?_ kk
  rw [nI_clamp (by omega)]
  exact hv
theorem gq_38 {S : gx_S} {M : gx_M} {d pc : Nat} {L : List (Option Value)} {st : List Value} {h : gx_H} {Q : Option Value → gx_H → Prop} {σ : gs_T} {A : gs_A} {q : Nat} {x v : Int32} (hd : decode M.2.2.1 pc = .ok (.baload, 1)) (R : gs_R h σ A) (hl : σ.1 31 0 0 = 1) (hx : x = nI q) (hq : q < 160) (hv : σ.2.1 118 q 0 = v) (kk : gx_Ev S M d (pc + 1) L (.int v :: st) h Q) : gx_Ev S M d pc L (.int x :: .ref (A 38 0 0) :: st) h Q := by
  subst hx
  refine gx_zald hd (gs_g38 R hl) (vp_in_nI hq (by omega)) ?_ kk
  rw [nI_clamp (by omega)]
  exact hv
theorem gq_39 {S : gx_S} {M : gx_M} {d pc : Nat} {L : List (Option Value)} {st : List Value} {h : gx_H} {Q : Option Value → gx_H → Prop} {σ : gs_T} {A : gs_A} {q : Nat} {x v : Int32} (hd : decode M.2.2.1 pc = .ok (.iaload, 1)) (R : gs_R h σ A) (hl : σ.1 31 0 0 = 1) (hx : x = nI q) (hq : q < 640) (hv : σ.2.1 119 q 0 = v) (kk : gx_Ev S M d (pc + 1) L (.int v :: st) h Q) : gx_Ev S M d pc L (.int x :: .ref (A 39 0 0) :: st) h Q := by
  subst hx
  refine gx_iald hd (gs_g39 R hl) (vp_in_nI hq (by omega)) ?_ kk
  rw [nI_clamp (by omega)]
  exact hv
theorem gq_40 {S : gx_S} {M : gx_M} {d pc : Nat} {L : List (Option Value)} {st : List Value} {h : gx_H} {Q : Option Value → gx_H → Prop} {σ : gs_T} {A : gs_A} {q : Nat} {x v : Int32} (hd : decode M.2.2.1 pc = .ok (.baload, 1)) (R : gs_R h σ A) (hl : σ.1 31 0 0 = 1) (hx : x = nI q) (hq : q < 640) (hv : σ.2.1 120 q 0 = v) (kk : gx_Ev S M d (pc + 1) L (.int v :: st) h Q) : gx_Ev S M d pc L (.int x :: .ref (A 40 0 0) :: st) h Q := by
  subst hx
  refine gx_zald hd (gs_g40 R hl) (vp_in_nI hq (by omega)) ?_ kk
  rw [nI_clamp (by omega)]
  exact hv
theorem gq_41 {S : gx_S} {M : gx_M} {d pc : Nat} {L : List (Option Value)} {st : List Value} {h : gx_H} {Q : Option Value → gx_H → Prop} {σ : gs_T} {A : gs_A} {q : Nat} {x v : Int32} (hd : decode M.2.2.1 pc = .ok (.iaload, 1)) (R : gs_R h σ A) (hl : σ.1 31 0 0 = 1) (hx : x = nI q) (hq : q < 640) (hv : σ.2.1 121 q 0 = v) (kk : gx_Ev S M d (pc + 1) L (.int v :: st) h Q) : gx_Ev S M d pc L (.int x :: .ref (A 41 0 0) :: st) h Q := by
  subst hx
  refine gx_iald hd (gs_g41 R hl) (vp_in_nI hq (by omega)) ?_ kk
  rw [nI_clamp (by omega)]
  exact hv
theorem gq_42 {S : gx_S} {M : gx_M} {d pc : Nat} {L : List (Option Value)} {st : List Value} {h : gx_H} {Q : Option Value → gx_H → Prop} {σ : gs_T} {A : gs_A} {q : Nat} {x v : Int32} (hd : decode M.2.2.1 pc = .ok (.iaload, 1)) (R : gs_R h σ A) (hl : σ.1 31 0 0 = 1) (hx : x = nI q) (hq : q < 640) (hv : σ.2.1 122 q 0 = v) (kk : gx_Ev S M d (pc + 1) L (.int v :: st) h Q) : gx_Ev S M d pc L (.int x :: .ref (A 42 0 0) :: st) h Q := by
  subst hx
  refine gx_iald hd (gs_g42 R hl) (vp_in_nI hq (by omega)) ?_ kk
  rw [nI_clamp (by omega)]
  exact hv
theorem gq_43 {S : gx_S} {M : gx_M} {d pc : Nat} {L : List (Option Value)} {st : List Value} {h : gx_H} {Q : Option Value → gx_H → Prop} {σ : gs_T} {A : gs_A} {q : Nat} {x v : Int32} (hd : decode M.2.2.1 pc = .ok (.iaload, 1)) (R : gs_R h σ A) (hl : σ.1 31 0 0 = 1) (hx : x = nI q) (hq : q < 4) (hv : nI (σ.1 123 q 0) = v) (kk : gx_Ev S M d (pc + 1) L (.int v :: st) h Q) : gx_Ev S M d pc L (.int x :: .ref (A 43 0 0) :: st) h Q := by
  subst hx
  refine gx_iald hd (gs_g43 R hl) (vp_in_nI hq (by omega)) ?_ kk
  rw [nI_clamp (by omega)]
  exact hv
theorem gq_44 {S : gx_S} {M : gx_M} {d pc : Nat} {L : List (Option Value)} {st : List Value} {h : gx_H} {Q : Option Value → gx_H → Prop} {σ : gs_T} {A : gs_A} {q : Nat} {x v : Int32} (hd : decode M.2.2.1 pc = .ok (.iaload, 1)) (R : gs_R h σ A) (hl : σ.1 31 0 0 = 1) (hx : x = nI q) (hq : q < 160) (hv : nI (σ.1 124 q 0) = v) (kk : gx_Ev S M d (pc + 1) L (.int v :: st) h Q) : gx_Ev S M d pc L (.int x :: .ref (A 44 0 0) :: st) h Q := by
  subst hx
  refine gx_iald hd (gs_g44 R hl) (vp_in_nI hq (by omega)) ?_ kk
  rw [nI_clamp (by omega)]
  exact hv
theorem gq_46 {S : gx_S} {M : gx_M} {d pc : Nat} {L : List (Option Value)} {st : List Value} {h : gx_H} {Q : Option Value → gx_H → Prop} {σ : gs_T} {A : gs_A} {q : Nat} {x v : Int32} (hd : decode M.2.2.1 pc = .ok (.iaload, 1)) (R : gs_R h σ A) (hl : σ.1 31 0 0 = 1) (hx : x = nI q) (hq : q < 400) (hv : σ.2.1 126 q 0 = v) (kk : gx_Ev S M d (pc + 1) L (.int v :: st) h Q) : gx_Ev S M d pc L (.int x :: .ref (A 46 0 0) :: st) h Q := by
  subst hx
  refine gx_iald hd (gs_g46 R hl) (vp_in_nI hq (by omega)) ?_ kk
  rw [nI_clamp (by omega)]
  exact hv
theorem gq_47 {S : gx_S} {M : gx_M} {d pc : Nat} {L : List (Option Value)} {st : List Value} {h : gx_H} {Q : Option Value → gx_H → Prop} {σ : gs_T} {A : gs_A} {q : Nat} {x v : Int32} (hd : decode M.2.2.1 pc = .ok (.iaload, 1)) (R : gs_R h σ A) (hl : σ.1 31 0 0 = 1) (hx : x = nI q) (hq : q < 400) (hv : nI (σ.1 127 q 0) = v) (kk : gx_Ev S M d (pc + 1) L (.int v :: st) h Q) : gx_Ev S M d pc L (.int x :: .ref (A 47 0 0) :: st) h Q := by
  subst hx
  refine gx_iald hd (gs_g47 R hl) (vp_in_nI hq (by omega)) ?_ kk
  rw [nI_clamp (by omega)]
  exact hv
theorem gq_48 {S : gx_S} {M : gx_M} {d pc : Nat} {L : List (Option Value)} {st : List Value} {h : gx_H} {Q : Option Value → gx_H → Prop} {σ : gs_T} {A : gs_A} {q : Nat} {x v : Int32} (hd : decode M.2.2.1 pc = .ok (.iaload, 1)) (R : gs_R h σ A) (hl : σ.1 31 0 0 = 1) (hx : x = nI q) (hq : q < 400) (hv : gs_sf (σ.1 128 q 0) = v) (kk : gx_Ev S M d (pc + 1) L (.int v :: st) h Q) : gx_Ev S M d pc L (.int x :: .ref (A 48 0 0) :: st) h Q := by
  subst hx
  refine gx_iald hd (gs_g48 R hl) (vp_in_nI hq (by omega)) ?_ kk
  rw [nI_clamp (by omega)]
  exact hv
theorem gq_49 {S : gx_S} {M : gx_M} {d pc : Nat} {L : List (Option Value)} {st : List Value} {h : gx_H} {Q : Option Value → gx_H → Prop} {σ : gs_T} {A : gs_A} {q : Nat} {x v : Int32} (hd : decode M.2.2.1 pc = .ok (.iaload, 1)) (R : gs_R h σ A) (hl : σ.1 31 0 0 = 1) (hx : x = nI q) (hq : q < 400) (hv : nI (σ.1 129 q 0) = v) (kk : gx_Ev S M d (pc + 1) L (.int v :: st) h Q) : gx_Ev S M d pc L (.int x :: .ref (A 49 0 0) :: st) h Q := by
  subst hx
  refine gx_iald hd (gs_g49 R hl) (vp_in_nI hq (by omega)) ?_ kk
  rw [nI_clamp (by omega)]
  exact hv
theorem gq_50 {S : gx_S} {M : gx_M} {d pc : Nat} {L : List (Option Value)} {st : List Value} {h : gx_H} {Q : Option Value → gx_H → Prop} {σ : gs_T} {A : gs_A} {q : Nat} {x v : Int32} (hd : decode M.2.2.1 pc = .ok (.iaload, 1)) (R : gs_R h σ A) (hl : σ.1 31 0 0 = 1) (hx : x = nI q) (hq : q < 400) (hv : σ.2.1 130 q 0 = v) (kk : gx_Ev S M d (pc + 1) L (.int v :: st) h Q) : gx_Ev S M d pc L (.int x :: .ref (A 50 0 0) :: st) h Q := by
  subst hx
  refine gx_iald hd (gs_g50 R hl) (vp_in_nI hq (by omega)) ?_ kk
  rw [nI_clamp (by omega)]
  exact hv
theorem gq_51 {S : gx_S} {M : gx_M} {d pc : Nat} {L : List (Option Value)} {st : List Value} {h : gx_H} {Q : Option Value → gx_H → Prop} {σ : gs_T} {A : gs_A} {q : Nat} {x v : Int32} (hd : decode M.2.2.1 pc = .ok (.iaload, 1)) (R : gs_R h σ A) (hl : σ.1 31 0 0 = 1) (hx : x = nI q) (hq : q < 400) (hv : σ.2.1 131 q 0 = v) (kk : gx_Ev S M d (pc + 1) L (.int v :: st) h Q) : gx_Ev S M d pc L (.int x :: .ref (A 51 0 0) :: st) h Q := by
  subst hx
  refine gx_iald hd (gs_g51 R hl) (vp_in_nI hq (by omega)) ?_ kk
  rw [nI_clamp (by omega)]
  exact hv
theorem gq_52 {S : gx_S} {M : gx_M} {d pc : Nat} {L : List (Option Value)} {st : List Value} {h : gx_H} {Q : Option Value → gx_H → Prop} {σ : gs_T} {A : gs_A} {q : Nat} {x v : Int32} (hd : decode M.2.2.1 pc = .ok (.iaload, 1)) (R : gs_R h σ A) (hl : σ.1 31 0 0 = 1) (hx : x = nI q) (hq : q < 400) (hv : σ.2.1 132 q 0 = v) (kk : gx_Ev S M d (pc + 1) L (.int v :: st) h Q) : gx_Ev S M d pc L (.int x :: .ref (A 52 0 0) :: st) h Q := by
  subst hx
  refine gx_iald hd (gs_g52 R hl) (vp_in_nI hq (by omega)) ?_ kk
  rw [nI_clamp (by omega)]
  exact hv
def gs_bi (p : Prop) [Decidable p] : Int32 := if p then 1 else 0
theorem gs_b0 {p : Prop} [Decidable p] (h : gs_bi p = 0) : ¬ p := by
  intro hp
  rw [gs_bi, if_pos hp] at h
  exact absurd h (by decide)
theorem gs_b1 {p : Prop} [Decidable p] (h : ¬ gs_bi p = 0) : p := by
  by_cases hp : p
  · exact hp
  · rw [gs_bi, if_neg hp] at h
    exact absurd rfl h
theorem gs_bz (p : Prop) [Decidable p] : gs_bi p = 0 ∨ gs_bi p = 1 := by
  by_cases hp : p
  · exact Or.inr (if_pos hp)
  · exact Or.inl (if_neg hp)
theorem gs_bt {p : Prop} [Decidable p] (hp : p) : 1 = gs_bi p := (if_pos hp).symm
theorem gs_bf {p : Prop} [Decidable p] (hp : ¬ p) : 0 = gs_bi p := (if_neg hp).symm
theorem gs_brt (p : Prop) [Decidable p] : gx_rt (some .boolean) (some (.int (gs_bi p))) := ⟨.boolean, rfl, by rcases gs_bz p with h | h <;> rw [h] <;> rfl⟩
def gs_mx (x y : Int32) : Int32 := if x < y then y else x
def gs_mn (x y : Int32) : Int32 := if y < x then y else x
theorem gs_ix {x : Int32} {N : Nat} (h0 : 0 ≤ x) (h1 : x < nI N) (hN : N < 2 ^ 31) : x = nI x.toNatClampNeg ∧ x.toNatClampNeg < N := by
  have h2 : ¬ x < 0 := by
    rw [Int32.lt_iff_toInt_lt]
    rw [Int32.le_iff_toInt_le] at h0
    omega
  obtain ⟨j, hj, rfl⟩ := nI_of h2
  rw [nI_clamp hj]
  exact ⟨rfl, (nI_ltI hj hN).mp h1⟩
theorem gs_ixl {x : Int32} {N : Nat} {c : Int32} (hc : c = nI N) (h : 0 ≤ x ∧ x < c) (hN : N < 2 ^ 31) : x = nI x.toNatClampNeg ∧ x.toNatClampNeg < N := gs_ix h.1 (hc ▸ h.2) hN
theorem gs_nlt {x : Int32} (h : ¬ x < 0) : 0 ≤ x := by
  rw [Int32.lt_iff_toInt_lt] at h
  rw [Int32.le_iff_toInt_le]
  omega
theorem gs_nle {x y : Int32} (h : ¬ y ≤ x) : x < y := by
  rw [Int32.le_iff_toInt_le] at h
  rw [Int32.lt_iff_toInt_lt]
  omega
theorem gs_lle {x y : Int32} (h : ¬ x < y) : y ≤ x := by
  rw [Int32.lt_iff_toInt_lt] at h
  rw [Int32.le_iff_toInt_le]
  omega
