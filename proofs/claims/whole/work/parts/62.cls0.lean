/-! the class: what a state keeps to, and its arrays of references -/
def gw_W (σ : gs_T) : Prop := (2 ≤ σ.1 0 0 0 ∧ σ.1 0 0 0 ≤ 4 ∧ σ.1 1 0 0 ≤ 40 ∧ σ.1 2 0 0 ≤ 240) ∧ (∀ g, g < σ.1 0 0 0 → σ.1 15 g 0 = 1) ∧ (∀ o, o < σ.1 1 0 0 → σ.1 11 o 0 = 1) ∧ (∀ i, i < σ.1 2 0 0 → σ.1 10 i 0 = 1) ∧ (∀ i, σ.1 10 i 0 = 1 → σ.1 6 (σ.1 8 i 0) (σ.1 9 i 0) = 1) ∧ (∀ g o, σ.1 6 g o = 1 → g < σ.1 0 0 0 ∧ o < σ.1 1 0 0) ∧ (∀ g o g', σ.1 6 g o = 1 → σ.1 7 g o = g' + 1 → σ.1 6 g' o = 1) ∧ (∀ g k o, σ.1 5 g k = o + 1 → σ.1 6 g o = 1) ∧ (∀ g k, g < σ.1 0 0 0 → k < σ.1 3 g 0 → ¬ σ.1 5 g k = 0) ∧ (∀ g, σ.1 3 g 0 ≤ 40) ∧ (∀ g, σ.1 4 g 0 ≤ σ.1 3 g 0) ∧ (∀ o, σ.1 12 o 0 < 4) ∧ (∀ o, σ.1 13 o 0 < 16) ∧ (∀ o, σ.1 14 o 0 < 16)
theorem gw_n2 {σ : gs_T} (W : gw_W σ) : 2 ≤ σ.1 0 0 0 := W.1.1
theorem gw_n4 {σ : gs_T} (W : gw_W σ) : σ.1 0 0 0 ≤ 4 := W.1.2.1
theorem gw_cnt {σ : gs_T} (W : gw_W σ) : σ.1 1 0 0 ≤ 40 := W.1.2.2.1
theorem gw_fl {σ : gs_T} (W : gw_W σ) : σ.1 2 0 0 ≤ 240 := W.1.2.2.2
theorem gw_g {σ : gs_T} (W : gw_W σ) {g : Nat} (h : g < σ.1 0 0 0) : σ.1 15 g 0 = 1 := W.2.1 g h
theorem gw_o {σ : gs_T} (W : gw_W σ) {o : Nat} (h : o < σ.1 1 0 0) : σ.1 11 o 0 = 1 := W.2.2.1 o h
theorem gw_m {σ : gs_T} (W : gw_W σ) {i : Nat} (h : i < σ.1 2 0 0) : σ.1 10 i 0 = 1 := W.2.2.2.1 i h
theorem gw_mp {σ : gs_T} (W : gw_W σ) {i : Nat} (h : σ.1 10 i 0 = 1) : σ.1 6 (σ.1 8 i 0) (σ.1 9 i 0) = 1 := W.2.2.2.2.1 i h
theorem gw_p {σ : gs_T} (W : gw_W σ) {g o : Nat} (h : σ.1 6 g o = 1) : g < σ.1 0 0 0 ∧ o < σ.1 1 0 0 := W.2.2.2.2.2.1 g o h
theorem gw_ot {σ : gs_T} (W : gw_W σ) {g o g' : Nat} (h : σ.1 6 g o = 1) (e : σ.1 7 g o = g' + 1) : σ.1 6 g' o = 1 := W.2.2.2.2.2.2.1 g o g' h e
theorem gw_tp {σ : gs_T} (W : gw_W σ) {g k o : Nat} (e : σ.1 5 g k = o + 1) : σ.1 6 g o = 1 := W.2.2.2.2.2.2.2.1 g k o e
theorem gw_tn {σ : gs_T} (W : gw_W σ) {g k : Nat} (hg : g < σ.1 0 0 0) (hk : k < σ.1 3 g 0) : ∃ o, σ.1 5 g k = o + 1 := by
  have h := W.2.2.2.2.2.2.2.2.1 g k hg hk
  exact ⟨σ.1 5 g k - 1, by omega⟩
theorem gw_tc {σ : gs_T} (W : gw_W σ) (g : Nat) : σ.1 3 g 0 ≤ 40 := W.2.2.2.2.2.2.2.2.2.1 g
theorem gw_wc {σ : gs_T} (W : gw_W σ) (g : Nat) : σ.1 4 g 0 ≤ σ.1 3 g 0 := W.2.2.2.2.2.2.2.2.2.2.1 g
theorem gw_c {σ : gs_T} (W : gw_W σ) (o : Nat) : σ.1 12 o 0 < 4 := W.2.2.2.2.2.2.2.2.2.2.2.1 o
theorem gw_a {σ : gs_T} (W : gw_W σ) (o : Nat) : σ.1 13 o 0 < 16 := W.2.2.2.2.2.2.2.2.2.2.2.2.1 o
theorem gw_b {σ : gs_T} (W : gw_W σ) (o : Nat) : σ.1 14 o 0 < 16 := W.2.2.2.2.2.2.2.2.2.2.2.2.2 o
theorem gr_7 {S : gx_S} {M : gx_M} {d pc : Nat} {L : List (Option Value)} {st : List Value} {h : gx_H} {Q : Option Value → gx_H → Prop} {σ : gs_T} {A : gs_A} {q : Nat} {x : Int32} (hd : decode M.2.2.1 pc = .ok (.aaload, 1)) (R : gs_R h σ A) (hx : x = nI q) (hq : q < σ.1 0 0 0) (hb : σ.1 0 0 0 ≤ 240) (hf : σ.1 15 q 0 = 1) (kk : gx_Ev S M d (pc + 1) L (.ref (A 1 q 0) :: st) h Q) : gx_Ev S M d pc L (.int x :: .ref (A 7 0 0) :: st) h Q := by
  subst hx
  refine gx_aald hd (t := 2) (by decide) (gs_g7 R ) (vp_in_nI hq (by omega)) ?_ kk
  rw [nI_clamp (by omega)]
  simp [hf, va_rf, gs_op]
theorem gr_10 {S : gx_S} {M : gx_M} {d pc : Nat} {L : List (Option Value)} {st : List Value} {h : gx_H} {Q : Option Value → gx_H → Prop} {σ : gs_T} {A : gs_A} {q : Nat} {x : Int32} (hd : decode M.2.2.1 pc = .ok (.aaload, 1)) (R : gs_R h σ A) (hx : x = nI q) (hq : q < 40) (hb : 40 ≤ 240) (hf : σ.1 11 q 0 = 1) (kk : gx_Ev S M d (pc + 1) L (.ref (A 3 q 0) :: st) h Q) : gx_Ev S M d pc L (.int x :: .ref (A 10 0 0) :: st) h Q := by
  subst hx
  refine gx_aald hd (t := 4) (by decide) (gs_g10 R ) (vp_in_nI hq (by omega)) ?_ kk
  rw [nI_clamp (by omega)]
  simp [hf, va_rf, gs_op]
theorem gr_13 {S : gx_S} {M : gx_M} {d pc : Nat} {L : List (Option Value)} {st : List Value} {h : gx_H} {Q : Option Value → gx_H → Prop} {σ : gs_T} {A : gs_A} {q : Nat} {x : Int32} {i : Nat} (hd : decode M.2.2.1 pc = .ok (.aaload, 1)) (R : gs_R h σ A) (hl : σ.1 15 i 0 = 1) (hx : x = nI q) (hq : q < 40) (hb : 40 ≤ 240) (hf : σ.1 6 i q = 1) (kk : gx_Ev S M d (pc + 1) L (.ref (A 4 i q) :: st) h Q) : gx_Ev S M d pc L (.int x :: .ref (A 13 i 0) :: st) h Q := by
  subst hx
  refine gx_aald hd (t := 5) (by decide) (gs_g13 R hl) (vp_in_nI hq (by omega)) ?_ kk
  rw [nI_clamp (by omega)]
  simp [hf, va_rf, gs_op]
theorem gr_13N {S : gx_S} {M : gx_M} {d pc : Nat} {L : List (Option Value)} {st : List Value} {h : gx_H} {Q : Option Value → gx_H → Prop} {σ : gs_T} {A : gs_A} {q : Nat} {x : Int32} {i : Nat} (hd : decode M.2.2.1 pc = .ok (.aaload, 1)) (R : gs_R h σ A) (hl : σ.1 15 i 0 = 1) (hx : x = nI q) (hq : q < 40) (hb : 40 ≤ 240) (hf : ¬ σ.1 6 i q = 1) (kk : gx_Ev S M d (pc + 1) L (.null :: st) h Q) : gx_Ev S M d pc L (.int x :: .ref (A 13 i 0) :: st) h Q := by
  subst hx
  refine gx_aald hd (t := 5) (by decide) (gs_g13 R hl) (vp_in_nI hq (by omega)) ?_ kk
  rw [nI_clamp (by omega)]
  simp [hf, va_rf, gs_op]
theorem gr_14 {S : gx_S} {M : gx_M} {d pc : Nat} {L : List (Option Value)} {st : List Value} {h : gx_H} {Q : Option Value → gx_H → Prop} {σ : gs_T} {A : gs_A} {q : Nat} {x : Int32} {i : Nat} {o : Nat} (hd : decode M.2.2.1 pc = .ok (.aaload, 1)) (R : gs_R h σ A) (hl : σ.1 15 i 0 = 1) (hx : x = nI q) (hq : q < 40) (hb : 40 ≤ 240) (hf : σ.1 5 i q = o + 1) (kk : gx_Ev S M d (pc + 1) L (.ref (A 4 i o) :: st) h Q) : gx_Ev S M d pc L (.int x :: .ref (A 14 i 0) :: st) h Q := by
  subst hx
  refine gx_aald hd (t := 5) (by decide) (gs_g14 R hl) (vp_in_nI hq (by omega)) ?_ kk
  rw [nI_clamp (by omega)]
  simp [hf, va_rf, gs_op]
theorem gr_15 {S : gx_S} {M : gx_M} {d pc : Nat} {L : List (Option Value)} {st : List Value} {h : gx_H} {Q : Option Value → gx_H → Prop} {σ : gs_T} {A : gs_A} {q : Nat} {x : Int32} (hd : decode M.2.2.1 pc = .ok (.aaload, 1)) (R : gs_R h σ A) (hx : x = nI q) (hq : q < 240) (hb : 240 ≤ 240) (hf : σ.1 10 q 0 = 1) (kk : gx_Ev S M d (pc + 1) L (.ref (σ.1 18 q 0) :: st) h Q) : gx_Ev S M d pc L (.int x :: .ref (A 15 0 0) :: st) h Q := by
  subst hx
  refine gx_aald hd (t := 3) (by decide) (gs_g15 R ) (vp_in_nI hq (by omega)) ?_ kk
  rw [nI_clamp (by omega)]
  simp [hf, va_rf, gs_op]
theorem ga_N5 {S : gx_S} {M : gx_M} {d pc : Nat} {L : List (Option Value)} {st : List Value} {h : gx_H} {Q : Option Value → gx_H → Prop} {σ : gs_T} {A : gs_A} {i q o : Nat} {x : Int32} (hl : σ.1 15 i 0 = 1) (hlp : σ.1 6 i o = 1) (hd : decode M.2.2.1 pc = .ok (.aastore, 1)) (R : gs_R h σ A) (hx : x = nI q) (hq : q < 40) (kk : ∀ h', gs_R h' (gs_n σ 5 i q (o + 1)) A → gs_sm h h' → gx_Ev S M d (pc + 1) L st h' Q) : gx_Ev S M d pc L (.ref (A 4 i o) :: .int x :: .ref (A 14 i 0) :: st) h Q := by
  subst hx
  refine gx_aast hd (t := 5) (ci := 4) ⟨_, rfl, rfl, by decide⟩ (gs_g14 R hl) (gs_g4 R hlp) (vp_in_nI hq (by omega)) (kk _ ?_ ⟨rfl, rfl⟩)
  rw [nI_clamp (by omega)]
  refine R.set (k := 14) (by decide) ⟨hl, rfl⟩ ⟨rfl, rfl⟩ (gs_adN (by decide) (by decide)) (gs_lvN (by decide)) ?_ (fun k' i' j' hl' hne => ?_)
  · show gx_ar _ _ (fun y => _) = _
    congr 7
    funext y
    by_cases hy : y = q <;> simp [gs_n, gs_u, va_up, gs_op, hy]
  · by_cases hk : k' = 14
    · subst hk
      have hj : j' = 0 := hl'.2
      subst hj
      have hne2 : ¬ i' = i := fun e => hne ⟨rfl, e, rfl⟩
      have e5 : gs_u σ.1 5 i q (o + 1) 5 i' = σ.1 5 i' := by
        funext y
        rw [gs_u_at, if_neg (fun e => hne2 e.1)]
      simp only [gs_cl, gs_n, e5]
    · exact gs_neN (show gs_wn 5 ≠ k' from fun e => hk e.symm) _ _
theorem gs_swout {x : Int32} {N : Nat} (hN : N < 2 ^ 30) (h : ∀ k, k ≤ N → ¬ x = nI k) : x.toInt < 0 ∨ (N : Int) < x.toInt := by
  by_cases h0 : x < 0
  · left
    rw [Int32.lt_iff_toInt_lt] at h0
    exact h0
  · right
    obtain ⟨j, hj, rfl⟩ := nI_of h0
    rw [nI_toInt hj]
    by_cases hjN : j ≤ N
    · exact absurd rfl (h j hjN)
    · omega
