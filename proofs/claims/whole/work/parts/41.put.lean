/-! writing rows over the state -/
def gs_sm (h h' : gx_H) : Prop := h'.1 = h.1 ∧ h'.2.1 = h.2.1
theorem gs_sm.rfl {h : gx_H} : gs_sm h h := ⟨Eq.refl _, Eq.refl _⟩
theorem gs_sm.trans {a b c : gx_H} (h1 : gs_sm a b) (h2 : gs_sm b c) : gs_sm a c := ⟨h2.1.trans h1.1, h2.2.trans h1.2⟩
theorem gs_lvI {σ : gs_T} {f i j : Nat} {v : Int32} : ∀ k' i' j', gs_lv (gs_i σ f i j v) k' i' j' → gs_lv σ k' i' j' := fun _ _ _ h => h
theorem gs_lvL {σ : gs_T} {q : Nat} {v : Int64} : ∀ k' i' j', gs_lv (gs_l σ q v) k' i' j' → gs_lv σ k' i' j' := fun _ _ _ h => h
def gs_fl (f : Nat) : Bool := f == 6 || f == 10 || f == 11 || f == 15 || f == 31 || f == 32
theorem gs_lvN {σ : gs_T} {f i j v : Nat} (hf : gs_fl f = false) : ∀ k' i' j', gs_lv (gs_n σ f i j v) k' i' j' → gs_lv σ k' i' j' := by
  intro k' i' j' h
  have e1 : gs_u σ.1 f i j v 6 = σ.1 6 := gs_u_ne (fun e => by subst e; cases hf)
  have e2 : gs_u σ.1 f i j v 10 = σ.1 10 := gs_u_ne (fun e => by subst e; cases hf)
  have e3 : gs_u σ.1 f i j v 11 = σ.1 11 := gs_u_ne (fun e => by subst e; cases hf)
  have e4 : gs_u σ.1 f i j v 15 = σ.1 15 := gs_u_ne (fun e => by subst e; cases hf)
  have e5 : gs_u σ.1 f i j v 31 = σ.1 31 := gs_u_ne (fun e => by subst e; cases hf)
  have e6 : gs_u σ.1 f i j v 32 = σ.1 32 := gs_u_ne (fun e => by subst e; cases hf)
  simpa only [gs_lv, gs_n, e1, e2, e3, e4, e5, e6] using h
theorem gp_I6 {S : gx_S} {M : gx_M} {d pc : Nat} {L : List (Option Value)} {st : List Value} {h : gx_H} {Q : Option Value → gx_H → Prop} {σ : gs_T} {A : gs_A} {idx : Nat}  {i : Nat} {v : Int32} (hl : σ.1 15 i 0 = 1)  (hd : decode M.2.2.1 pc = .ok (.putfield idx, 3)) (hf : gx_FL M.1 idx 1 1 (.boolean) false) (R : gs_R h σ A) (hv : v = 0 ∨ v = 1) (kk : ∀ h', gs_R h' (gs_i σ 6 i 0 v) A → gs_sm h h' → gx_Ev S M d (pc + 3) L st h' Q) : gx_Ev S M d pc L (.int v :: .ref (A 1 i 0) :: st) h Q := by
  skip
  refine gx_put hd hf (gs_g1 R hl) (by simp) (by rcases hv with rfl | rfl <;> rfl) (by rcases hv with rfl | rfl <;> rfl) (kk _ ?_ ⟨rfl, rfl⟩)
  refine R.set (k := 1) (by decide) ⟨hl, rfl⟩ ⟨rfl, rfl⟩ (fun _ _ _ => rfl) gs_lvI ?_ (fun k' i' j' hl' hne => ?_)
  · simp [gs_cl, gs_i, gs_u, gs_op, gs_sf, va_rf]
  · by_cases hk : k' = 1
    · subst hk
      simp only [gs_lv] at hl'
      have hne2 : ¬ (i' = i ∧ j' = 0) := fun e => hne ⟨rfl, e.1, e.2⟩
      try simp only [hl'.2] at hne2 ⊢
      try simp only [hl'.1] at hne2 ⊢
      simp_all [gs_cl, gs_i, gs_u]
    · exact gs_neI (show gs_wi 6 ≠ k' from fun e => hk e.symm) _ _
theorem gp_I7 {S : gx_S} {M : gx_M} {d pc : Nat} {L : List (Option Value)} {st : List Value} {h : gx_H} {Q : Option Value → gx_H → Prop} {σ : gs_T} {A : gs_A} {idx : Nat}  {i : Nat} {v : Int32} (hl : σ.1 15 i 0 = 1)  (hd : decode M.2.2.1 pc = .ok (.putfield idx, 3)) (hf : gx_FL M.1 idx 1 2 (.int) false) (R : gs_R h σ A) (kk : ∀ h', gs_R h' (gs_i σ 7 i 0 v) A → gs_sm h h' → gx_Ev S M d (pc + 3) L st h' Q) : gx_Ev S M d pc L (.int v :: .ref (A 1 i 0) :: st) h Q := by
  skip
  refine gx_put hd hf (gs_g1 R hl) (by simp) rfl rfl (kk _ ?_ ⟨rfl, rfl⟩)
  refine R.set (k := 1) (by decide) ⟨hl, rfl⟩ ⟨rfl, rfl⟩ (fun _ _ _ => rfl) gs_lvI ?_ (fun k' i' j' hl' hne => ?_)
  · simp [gs_cl, gs_i, gs_u, gs_op, gs_sf, va_rf]
  · by_cases hk : k' = 1
    · subst hk
      simp only [gs_lv] at hl'
      have hne2 : ¬ (i' = i ∧ j' = 0) := fun e => hne ⟨rfl, e.1, e.2⟩
      try simp only [hl'.2] at hne2 ⊢
      try simp only [hl'.1] at hne2 ⊢
      simp_all [gs_cl, gs_i, gs_u]
    · exact gs_neI (show gs_wi 7 ≠ k' from fun e => hk e.symm) _ _
theorem gp_I3 {S : gx_S} {M : gx_M} {d pc : Nat} {L : List (Option Value)} {st : List Value} {h : gx_H} {Q : Option Value → gx_H → Prop} {σ : gs_T} {A : gs_A} {idx : Nat}  {i : Nat} {v : Int32} (hl : σ.1 11 i 0 = 1)  (hd : decode M.2.2.1 pc = .ok (.putfield idx, 3)) (hf : gx_FL M.1 idx 3 8 (.boolean) false) (R : gs_R h σ A) (hv : v = 0 ∨ v = 1) (kk : ∀ h', gs_R h' (gs_i σ 3 i 0 v) A → gs_sm h h' → gx_Ev S M d (pc + 3) L st h' Q) : gx_Ev S M d pc L (.int v :: .ref (A 3 i 0) :: st) h Q := by
  skip
  refine gx_put hd hf (gs_g3 R hl) (by simp) (by rcases hv with rfl | rfl <;> rfl) (by rcases hv with rfl | rfl <;> rfl) (kk _ ?_ ⟨rfl, rfl⟩)
  refine R.set (k := 3) (by decide) ⟨hl, rfl⟩ ⟨rfl, rfl⟩ (fun _ _ _ => rfl) gs_lvI ?_ (fun k' i' j' hl' hne => ?_)
  · simp [gs_cl, gs_i, gs_u, gs_op, gs_sf, va_rf]
  · by_cases hk : k' = 3
    · subst hk
      simp only [gs_lv] at hl'
      have hne2 : ¬ (i' = i ∧ j' = 0) := fun e => hne ⟨rfl, e.1, e.2⟩
      try simp only [hl'.2] at hne2 ⊢
      try simp only [hl'.1] at hne2 ⊢
      simp_all [gs_cl, gs_i, gs_u]
    · exact gs_neI (show gs_wi 3 ≠ k' from fun e => hk e.symm) _ _
theorem gp_I4 {S : gx_S} {M : gx_M} {d pc : Nat} {L : List (Option Value)} {st : List Value} {h : gx_H} {Q : Option Value → gx_H → Prop} {σ : gs_T} {A : gs_A} {idx : Nat}  {i : Nat} {v : Int32} (hl : σ.1 11 i 0 = 1)  (hd : decode M.2.2.1 pc = .ok (.putfield idx, 3)) (hf : gx_FL M.1 idx 3 9 (.int) false) (R : gs_R h σ A) (kk : ∀ h', gs_R h' (gs_i σ 4 i 0 v) A → gs_sm h h' → gx_Ev S M d (pc + 3) L st h' Q) : gx_Ev S M d pc L (.int v :: .ref (A 3 i 0) :: st) h Q := by
  skip
  refine gx_put hd hf (gs_g3 R hl) (by simp) rfl rfl (kk _ ?_ ⟨rfl, rfl⟩)
  refine R.set (k := 3) (by decide) ⟨hl, rfl⟩ ⟨rfl, rfl⟩ (fun _ _ _ => rfl) gs_lvI ?_ (fun k' i' j' hl' hne => ?_)
  · simp [gs_cl, gs_i, gs_u, gs_op, gs_sf, va_rf]
  · by_cases hk : k' = 3
    · subst hk
      simp only [gs_lv] at hl'
      have hne2 : ¬ (i' = i ∧ j' = 0) := fun e => hne ⟨rfl, e.1, e.2⟩
      try simp only [hl'.2] at hne2 ⊢
      try simp only [hl'.1] at hne2 ⊢
      simp_all [gs_cl, gs_i, gs_u]
    · exact gs_neI (show gs_wi 4 ≠ k' from fun e => hk e.symm) _ _
theorem gp_I8 {S : gx_S} {M : gx_M} {d pc : Nat} {L : List (Option Value)} {st : List Value} {h : gx_H} {Q : Option Value → gx_H → Prop} {σ : gs_T} {A : gs_A} {idx : Nat}  {i j : Nat} {v : Int32} (hl : σ.1 6 i j = 1)  (hd : decode M.2.2.1 pc = .ok (.putfield idx, 3)) (hf : gx_FL M.1 idx 4 3 (.int) false) (R : gs_R h σ A) (kk : ∀ h', gs_R h' (gs_i σ 8 i j v) A → gs_sm h h' → gx_Ev S M d (pc + 3) L st h' Q) : gx_Ev S M d pc L (.int v :: .ref (A 4 i j) :: st) h Q := by
  skip
  refine gx_put hd hf (gs_g4 R hl) (by simp) rfl rfl (kk _ ?_ ⟨rfl, rfl⟩)
  refine R.set (k := 4) (by decide) hl ⟨rfl, rfl⟩ (fun _ _ _ => rfl) gs_lvI ?_ (fun k' i' j' hl' hne => ?_)
  · simp [gs_cl, gs_i, gs_u, gs_op, gs_sf, va_rf]
  · by_cases hk : k' = 4
    · subst hk
      simp only [gs_lv] at hl'
      have hne2 : ¬ (i' = i ∧ j' = j) := fun e => hne ⟨rfl, e.1, e.2⟩
      try simp only [hl'.2] at hne2 ⊢
      try simp only [hl'.1] at hne2 ⊢
      simp_all [gs_cl, gs_i, gs_u]
    · exact gs_neI (show gs_wi 8 ≠ k' from fun e => hk e.symm) _ _
theorem gp_I9 {S : gx_S} {M : gx_M} {d pc : Nat} {L : List (Option Value)} {st : List Value} {h : gx_H} {Q : Option Value → gx_H → Prop} {σ : gs_T} {A : gs_A} {idx : Nat}  {i j : Nat} {v : Int32} (hl : σ.1 6 i j = 1)  (hd : decode M.2.2.1 pc = .ok (.putfield idx, 3)) (hf : gx_FL M.1 idx 4 4 (.int) false) (R : gs_R h σ A) (kk : ∀ h', gs_R h' (gs_i σ 9 i j v) A → gs_sm h h' → gx_Ev S M d (pc + 3) L st h' Q) : gx_Ev S M d pc L (.int v :: .ref (A 4 i j) :: st) h Q := by
  skip
  refine gx_put hd hf (gs_g4 R hl) (by simp) rfl rfl (kk _ ?_ ⟨rfl, rfl⟩)
  refine R.set (k := 4) (by decide) hl ⟨rfl, rfl⟩ (fun _ _ _ => rfl) gs_lvI ?_ (fun k' i' j' hl' hne => ?_)
  · simp [gs_cl, gs_i, gs_u, gs_op, gs_sf, va_rf]
  · by_cases hk : k' = 4
    · subst hk
      simp only [gs_lv] at hl'
      have hne2 : ¬ (i' = i ∧ j' = j) := fun e => hne ⟨rfl, e.1, e.2⟩
      try simp only [hl'.2] at hne2 ⊢
      try simp only [hl'.1] at hne2 ⊢
      simp_all [gs_cl, gs_i, gs_u]
    · exact gs_neI (show gs_wi 9 ≠ k' from fun e => hk e.symm) _ _
theorem gp_I10 {S : gx_S} {M : gx_M} {d pc : Nat} {L : List (Option Value)} {st : List Value} {h : gx_H} {Q : Option Value → gx_H → Prop} {σ : gs_T} {A : gs_A} {idx : Nat}  {i j : Nat} {v : Int32} (hl : σ.1 6 i j = 1)  (hd : decode M.2.2.1 pc = .ok (.putfield idx, 3)) (hf : gx_FL M.1 idx 4 5 (.int) false) (R : gs_R h σ A) (kk : ∀ h', gs_R h' (gs_i σ 10 i j v) A → gs_sm h h' → gx_Ev S M d (pc + 3) L st h' Q) : gx_Ev S M d pc L (.int v :: .ref (A 4 i j) :: st) h Q := by
  skip
  refine gx_put hd hf (gs_g4 R hl) (by simp) rfl rfl (kk _ ?_ ⟨rfl, rfl⟩)
  refine R.set (k := 4) (by decide) hl ⟨rfl, rfl⟩ (fun _ _ _ => rfl) gs_lvI ?_ (fun k' i' j' hl' hne => ?_)
  · simp [gs_cl, gs_i, gs_u, gs_op, gs_sf, va_rf]
  · by_cases hk : k' = 4
    · subst hk
      simp only [gs_lv] at hl'
      have hne2 : ¬ (i' = i ∧ j' = j) := fun e => hne ⟨rfl, e.1, e.2⟩
      try simp only [hl'.2] at hne2 ⊢
      try simp only [hl'.1] at hne2 ⊢
      simp_all [gs_cl, gs_i, gs_u]
    · exact gs_neI (show gs_wi 10 ≠ k' from fun e => hk e.symm) _ _
theorem gp_I11 {S : gx_S} {M : gx_M} {d pc : Nat} {L : List (Option Value)} {st : List Value} {h : gx_H} {Q : Option Value → gx_H → Prop} {σ : gs_T} {A : gs_A} {idx : Nat}  {i j : Nat} {v : Int32} (hl : σ.1 6 i j = 1)  (hd : decode M.2.2.1 pc = .ok (.putfield idx, 3)) (hf : gx_FL M.1 idx 4 6 (.boolean) false) (R : gs_R h σ A) (hv : v = 0 ∨ v = 1) (kk : ∀ h', gs_R h' (gs_i σ 11 i j v) A → gs_sm h h' → gx_Ev S M d (pc + 3) L st h' Q) : gx_Ev S M d pc L (.int v :: .ref (A 4 i j) :: st) h Q := by
  skip
  refine gx_put hd hf (gs_g4 R hl) (by simp) (by rcases hv with rfl | rfl <;> rfl) (by rcases hv with rfl | rfl <;> rfl) (kk _ ?_ ⟨rfl, rfl⟩)
  refine R.set (k := 4) (by decide) hl ⟨rfl, rfl⟩ (fun _ _ _ => rfl) gs_lvI ?_ (fun k' i' j' hl' hne => ?_)
  · simp [gs_cl, gs_i, gs_u, gs_op, gs_sf, va_rf]
  · by_cases hk : k' = 4
    · subst hk
      simp only [gs_lv] at hl'
      have hne2 : ¬ (i' = i ∧ j' = j) := fun e => hne ⟨rfl, e.1, e.2⟩
      try simp only [hl'.2] at hne2 ⊢
      try simp only [hl'.1] at hne2 ⊢
      simp_all [gs_cl, gs_i, gs_u]
    · exact gs_neI (show gs_wi 11 ≠ k' from fun e => hk e.symm) _ _
theorem gp_I12 {S : gx_S} {M : gx_M} {d pc : Nat} {L : List (Option Value)} {st : List Value} {h : gx_H} {Q : Option Value → gx_H → Prop} {σ : gs_T} {A : gs_A} {idx : Nat}  {i j : Nat} {v : Int32} (hl : σ.1 6 i j = 1)  (hd : decode M.2.2.1 pc = .ok (.putfield idx, 3)) (hf : gx_FL M.1 idx 4 7 (.boolean) false) (R : gs_R h σ A) (hv : v = 0 ∨ v = 1) (kk : ∀ h', gs_R h' (gs_i σ 12 i j v) A → gs_sm h h' → gx_Ev S M d (pc + 3) L st h' Q) : gx_Ev S M d pc L (.int v :: .ref (A 4 i j) :: st) h Q := by
  skip
  refine gx_put hd hf (gs_g4 R hl) (by simp) (by rcases hv with rfl | rfl <;> rfl) (by rcases hv with rfl | rfl <;> rfl) (kk _ ?_ ⟨rfl, rfl⟩)
  refine R.set (k := 4) (by decide) hl ⟨rfl, rfl⟩ (fun _ _ _ => rfl) gs_lvI ?_ (fun k' i' j' hl' hne => ?_)
  · simp [gs_cl, gs_i, gs_u, gs_op, gs_sf, va_rf]
  · by_cases hk : k' = 4
    · subst hk
      simp only [gs_lv] at hl'
      have hne2 : ¬ (i' = i ∧ j' = j) := fun e => hne ⟨rfl, e.1, e.2⟩
      try simp only [hl'.2] at hne2 ⊢
      try simp only [hl'.1] at hne2 ⊢
      simp_all [gs_cl, gs_i, gs_u]
    · exact gs_neI (show gs_wi 12 ≠ k' from fun e => hk e.symm) _ _
theorem gp_I13 {S : gx_S} {M : gx_M} {d pc : Nat} {L : List (Option Value)} {st : List Value} {h : gx_H} {Q : Option Value → gx_H → Prop} {σ : gs_T} {A : gs_A} {idx : Nat}  {i j : Nat} {v : Int32} (hl : σ.1 6 i j = 1)  (hd : decode M.2.2.1 pc = .ok (.putfield idx, 3)) (hf : gx_FL M.1 idx 4 8 (.boolean) false) (R : gs_R h σ A) (hv : v = 0 ∨ v = 1) (kk : ∀ h', gs_R h' (gs_i σ 13 i j v) A → gs_sm h h' → gx_Ev S M d (pc + 3) L st h' Q) : gx_Ev S M d pc L (.int v :: .ref (A 4 i j) :: st) h Q := by
  skip
  refine gx_put hd hf (gs_g4 R hl) (by simp) (by rcases hv with rfl | rfl <;> rfl) (by rcases hv with rfl | rfl <;> rfl) (kk _ ?_ ⟨rfl, rfl⟩)
  refine R.set (k := 4) (by decide) hl ⟨rfl, rfl⟩ (fun _ _ _ => rfl) gs_lvI ?_ (fun k' i' j' hl' hne => ?_)
  · simp [gs_cl, gs_i, gs_u, gs_op, gs_sf, va_rf]
  · by_cases hk : k' = 4
    · subst hk
      simp only [gs_lv] at hl'
      have hne2 : ¬ (i' = i ∧ j' = j) := fun e => hne ⟨rfl, e.1, e.2⟩
      try simp only [hl'.2] at hne2 ⊢
      try simp only [hl'.1] at hne2 ⊢
      simp_all [gs_cl, gs_i, gs_u]
    · exact gs_neI (show gs_wi 13 ≠ k' from fun e => hk e.symm) _ _
theorem gp_I14 {S : gx_S} {M : gx_M} {d pc : Nat} {L : List (Option Value)} {st : List Value} {h : gx_H} {Q : Option Value → gx_H → Prop} {σ : gs_T} {A : gs_A} {idx : Nat}  {i j : Nat} {v : Int32} (hl : σ.1 6 i j = 1)  (hd : decode M.2.2.1 pc = .ok (.putfield idx, 3)) (hf : gx_FL M.1 idx 4 9 (.int) false) (R : gs_R h σ A) (kk : ∀ h', gs_R h' (gs_i σ 14 i j v) A → gs_sm h h' → gx_Ev S M d (pc + 3) L st h' Q) : gx_Ev S M d pc L (.int v :: .ref (A 4 i j) :: st) h Q := by
  skip
  refine gx_put hd hf (gs_g4 R hl) (by simp) rfl rfl (kk _ ?_ ⟨rfl, rfl⟩)
  refine R.set (k := 4) (by decide) hl ⟨rfl, rfl⟩ (fun _ _ _ => rfl) gs_lvI ?_ (fun k' i' j' hl' hne => ?_)
  · simp [gs_cl, gs_i, gs_u, gs_op, gs_sf, va_rf]
  · by_cases hk : k' = 4
    · subst hk
      simp only [gs_lv] at hl'
      have hne2 : ¬ (i' = i ∧ j' = j) := fun e => hne ⟨rfl, e.1, e.2⟩
      try simp only [hl'.2] at hne2 ⊢
      try simp only [hl'.1] at hne2 ⊢
      simp_all [gs_cl, gs_i, gs_u]
    · exact gs_neI (show gs_wi 14 ≠ k' from fun e => hk e.symm) _ _
theorem gp_I15 {S : gx_S} {M : gx_M} {d pc : Nat} {L : List (Option Value)} {st : List Value} {h : gx_H} {Q : Option Value → gx_H → Prop} {σ : gs_T} {A : gs_A} {idx : Nat}  {i j : Nat} {v : Int32} (hl : σ.1 6 i j = 1)  (hd : decode M.2.2.1 pc = .ok (.putfield idx, 3)) (hf : gx_FL M.1 idx 4 10 (.boolean) false) (R : gs_R h σ A) (hv : v = 0 ∨ v = 1) (kk : ∀ h', gs_R h' (gs_i σ 15 i j v) A → gs_sm h h' → gx_Ev S M d (pc + 3) L st h' Q) : gx_Ev S M d pc L (.int v :: .ref (A 4 i j) :: st) h Q := by
  skip
  refine gx_put hd hf (gs_g4 R hl) (by simp) (by rcases hv with rfl | rfl <;> rfl) (by rcases hv with rfl | rfl <;> rfl) (kk _ ?_ ⟨rfl, rfl⟩)
  refine R.set (k := 4) (by decide) hl ⟨rfl, rfl⟩ (fun _ _ _ => rfl) gs_lvI ?_ (fun k' i' j' hl' hne => ?_)
  · simp [gs_cl, gs_i, gs_u, gs_op, gs_sf, va_rf]
  · by_cases hk : k' = 4
    · subst hk
      simp only [gs_lv] at hl'
      have hne2 : ¬ (i' = i ∧ j' = j) := fun e => hne ⟨rfl, e.1, e.2⟩
      try simp only [hl'.2] at hne2 ⊢
      try simp only [hl'.1] at hne2 ⊢
      simp_all [gs_cl, gs_i, gs_u]
    · exact gs_neI (show gs_wi 15 ≠ k' from fun e => hk e.symm) _ _
theorem gp_I5 {S : gx_S} {M : gx_M} {d pc : Nat} {L : List (Option Value)} {st : List Value} {h : gx_H} {Q : Option Value → gx_H → Prop} {σ : gs_T} {A : gs_A} {idx : Nat}  {v : Int32}  (hd : decode M.2.2.1 pc = .ok (.putfield idx, 3)) (hf : gx_FL M.1 idx 5 6 (.int) false) (R : gs_R h σ A) (kk : ∀ h', gs_R h' (gs_i σ 5 0 0 v) A → gs_sm h h' → gx_Ev S M d (pc + 3) L st h' Q) : gx_Ev S M d pc L (.int v :: .ref (A 5 0 0) :: st) h Q := by
  skip
  refine gx_put hd hf (gs_g5 R ) (by simp) rfl rfl (kk _ ?_ ⟨rfl, rfl⟩)
  refine R.set (k := 5) (by decide) ⟨rfl, rfl⟩ ⟨rfl, rfl⟩ (fun _ _ _ => rfl) gs_lvI ?_ (fun k' i' j' hl' hne => ?_)
  · simp [gs_cl, gs_i, gs_u, gs_op, gs_sf, va_rf]
  · by_cases hk : k' = 5
    · subst hk
      simp only [gs_lv] at hl'
      have hne2 : ¬ (i' = 0 ∧ j' = 0) := fun e => hne ⟨rfl, e.1, e.2⟩
      try simp only [hl'.2] at hne2 ⊢
      try simp only [hl'.1] at hne2 ⊢
      simp_all [gs_cl, gs_i, gs_u]
    · exact gs_neI (show gs_wi 5 ≠ k' from fun e => hk e.symm) _ _
theorem gp_N1 {S : gx_S} {M : gx_M} {d pc : Nat} {L : List (Option Value)} {st : List Value} {h : gx_H} {Q : Option Value → gx_H → Prop} {σ : gs_T} {A : gs_A} {idx : Nat} {y : Int32} {v : Nat}  (hd : decode M.2.2.1 pc = .ok (.putfield idx, 3)) (hf : gx_FL M.1 idx 5 5 (.int) false) (R : gs_R h σ A) (hy : y = nI v) (kk : ∀ h', gs_R h' (gs_n σ 1 0 0 v) A → gs_sm h h' → gx_Ev S M d (pc + 3) L st h' Q) : gx_Ev S M d pc L (.int y :: .ref (A 5 0 0) :: st) h Q := by
  subst hy
  refine gx_put hd hf (gs_g5 R ) (by simp) rfl rfl (kk _ ?_ ⟨rfl, rfl⟩)
  refine R.set (k := 5) (by decide) ⟨rfl, rfl⟩ ⟨rfl, rfl⟩ (gs_adN (by decide) (by decide)) (gs_lvN (by decide)) ?_ (fun k' i' j' hl' hne => ?_)
  · simp [gs_cl, gs_n, gs_u, gs_op, gs_sf, va_rf]
  · by_cases hk : k' = 5
    · subst hk
      simp only [gs_lv] at hl'
      have hne2 : ¬ (i' = 0 ∧ j' = 0) := fun e => hne ⟨rfl, e.1, e.2⟩
      try simp only [hl'.2] at hne2 ⊢
      try simp only [hl'.1] at hne2 ⊢
      simp_all [gs_cl, gs_n, gs_u]
    · exact gs_neN (show gs_wn 1 ≠ k' from fun e => hk e.symm) _ _
theorem gp_N2 {S : gx_S} {M : gx_M} {d pc : Nat} {L : List (Option Value)} {st : List Value} {h : gx_H} {Q : Option Value → gx_H → Prop} {σ : gs_T} {A : gs_A} {idx : Nat} {y : Int32} {v : Nat}  (hd : decode M.2.2.1 pc = .ok (.putfield idx, 3)) (hf : gx_FL M.1 idx 0 1 (.int) false) (R : gs_R h σ A) (hy : y = nI v) (kk : ∀ h', gs_R h' (gs_n σ 2 0 0 v) A → gs_sm h h' → gx_Ev S M d (pc + 3) L st h' Q) : gx_Ev S M d pc L (.int y :: .ref (A 0 0 0) :: st) h Q := by
  subst hy
  refine gx_put hd hf (gs_g0 R ) (by simp) rfl rfl (kk _ ?_ ⟨rfl, rfl⟩)
  refine R.set (k := 0) (by decide) ⟨rfl, rfl⟩ ⟨rfl, rfl⟩ (gs_adN (by decide) (by decide)) (gs_lvN (by decide)) ?_ (fun k' i' j' hl' hne => ?_)
  · simp [gs_cl, gs_n, gs_u, gs_op, gs_sf, va_rf]
  · by_cases hk : k' = 0
    · subst hk
      simp only [gs_lv] at hl'
      have hne2 : ¬ (i' = 0 ∧ j' = 0) := fun e => hne ⟨rfl, e.1, e.2⟩
      try simp only [hl'.2] at hne2 ⊢
      try simp only [hl'.1] at hne2 ⊢
      simp_all [gs_cl, gs_n, gs_u]
    · exact gs_neN (show gs_wn 2 ≠ k' from fun e => hk e.symm) _ _
theorem gp_N3 {S : gx_S} {M : gx_M} {d pc : Nat} {L : List (Option Value)} {st : List Value} {h : gx_H} {Q : Option Value → gx_H → Prop} {σ : gs_T} {A : gs_A} {idx : Nat} {y : Int32} {i : Nat} {v : Nat} (hl : σ.1 15 i 0 = 1)  (hd : decode M.2.2.1 pc = .ok (.putfield idx, 3)) (hf : gx_FL M.1 idx 1 5 (.int) false) (R : gs_R h σ A) (hy : y = nI v) (kk : ∀ h', gs_R h' (gs_n σ 3 i 0 v) A → gs_sm h h' → gx_Ev S M d (pc + 3) L st h' Q) : gx_Ev S M d pc L (.int y :: .ref (A 1 i 0) :: st) h Q := by
  subst hy
  refine gx_put hd hf (gs_g1 R hl) (by simp) rfl rfl (kk _ ?_ ⟨rfl, rfl⟩)
  refine R.set (k := 1) (by decide) ⟨hl, rfl⟩ ⟨rfl, rfl⟩ (gs_adN (by decide) (by decide)) (gs_lvN (by decide)) ?_ (fun k' i' j' hl' hne => ?_)
  · simp [gs_cl, gs_n, gs_u, gs_op, gs_sf, va_rf]
  · by_cases hk : k' = 1
    · subst hk
      simp only [gs_lv] at hl'
      have hne2 : ¬ (i' = i ∧ j' = 0) := fun e => hne ⟨rfl, e.1, e.2⟩
      try simp only [hl'.2] at hne2 ⊢
      try simp only [hl'.1] at hne2 ⊢
      simp_all [gs_cl, gs_n, gs_u]
    · exact gs_neN (show gs_wn 3 ≠ k' from fun e => hk e.symm) _ _
theorem gp_N4 {S : gx_S} {M : gx_M} {d pc : Nat} {L : List (Option Value)} {st : List Value} {h : gx_H} {Q : Option Value → gx_H → Prop} {σ : gs_T} {A : gs_A} {idx : Nat} {y : Int32} {i : Nat} {v : Nat} (hl : σ.1 15 i 0 = 1)  (hd : decode M.2.2.1 pc = .ok (.putfield idx, 3)) (hf : gx_FL M.1 idx 1 6 (.int) false) (R : gs_R h σ A) (hy : y = nI v) (kk : ∀ h', gs_R h' (gs_n σ 4 i 0 v) A → gs_sm h h' → gx_Ev S M d (pc + 3) L st h' Q) : gx_Ev S M d pc L (.int y :: .ref (A 1 i 0) :: st) h Q := by
  subst hy
  refine gx_put hd hf (gs_g1 R hl) (by simp) rfl rfl (kk _ ?_ ⟨rfl, rfl⟩)
  refine R.set (k := 1) (by decide) ⟨hl, rfl⟩ ⟨rfl, rfl⟩ (gs_adN (by decide) (by decide)) (gs_lvN (by decide)) ?_ (fun k' i' j' hl' hne => ?_)
  · simp [gs_cl, gs_n, gs_u, gs_op, gs_sf, va_rf]
  · by_cases hk : k' = 1
    · subst hk
      simp only [gs_lv] at hl'
      have hne2 : ¬ (i' = i ∧ j' = 0) := fun e => hne ⟨rfl, e.1, e.2⟩
      try simp only [hl'.2] at hne2 ⊢
      try simp only [hl'.1] at hne2 ⊢
      simp_all [gs_cl, gs_n, gs_u]
    · exact gs_neN (show gs_wn 4 ≠ k' from fun e => hk e.symm) _ _
theorem gp_N104 {S : gx_S} {M : gx_M} {d pc : Nat} {L : List (Option Value)} {st : List Value} {h : gx_H} {Q : Option Value → gx_H → Prop} {σ : gs_T} {A : gs_A} {idx : Nat} {y : Int32} {v : Nat} (hl : σ.1 31 0 0 = 1)  (hd : decode M.2.2.1 pc = .ok (.putfield idx, 3)) (hf : gx_FL M.1 idx 6 4 (.int) false) (R : gs_R h σ A) (hy : y = nI v) (kk : ∀ h', gs_R h' (gs_n σ 104 0 0 v) A → gs_sm h h' → gx_Ev S M d (pc + 3) L st h' Q) : gx_Ev S M d pc L (.int y :: .ref (A 6 0 0) :: st) h Q := by
  subst hy
  refine gx_put hd hf (gs_g6 R hl) (by simp) rfl rfl (kk _ ?_ ⟨rfl, rfl⟩)
  refine R.set (k := 6) (by decide) ⟨hl, rfl, rfl⟩ ⟨rfl, rfl⟩ (gs_adN (by decide) (by decide)) (gs_lvN (by decide)) ?_ (fun k' i' j' hl' hne => ?_)
  · simp [gs_cl, gs_n, gs_u, gs_op, gs_sf, va_rf]
  · by_cases hk : k' = 6
    · subst hk
      simp only [gs_lv] at hl'
      have hne2 : ¬ (i' = 0 ∧ j' = 0) := fun e => hne ⟨rfl, e.1, e.2⟩
      try simp only [hl'.2] at hne2 ⊢
      try simp only [hl'.1] at hne2 ⊢
      simp_all [gs_cl, gs_n, gs_u]
    · exact gs_neN (show gs_wn 104 ≠ k' from fun e => hk e.symm) _ _
theorem gp_N125 {S : gx_S} {M : gx_M} {d pc : Nat} {L : List (Option Value)} {st : List Value} {h : gx_H} {Q : Option Value → gx_H → Prop} {σ : gs_T} {A : gs_A} {idx : Nat} {y : Int32} {v : Nat} (hl : σ.1 31 0 0 = 1)  (hd : decode M.2.2.1 pc = .ok (.putfield idx, 3)) (hf : gx_FL M.1 idx 6 25 (.int) false) (R : gs_R h σ A) (hy : y = nI v) (kk : ∀ h', gs_R h' (gs_n σ 125 0 0 v) A → gs_sm h h' → gx_Ev S M d (pc + 3) L st h' Q) : gx_Ev S M d pc L (.int y :: .ref (A 6 0 0) :: st) h Q := by
  subst hy
  refine gx_put hd hf (gs_g6 R hl) (by simp) rfl rfl (kk _ ?_ ⟨rfl, rfl⟩)
  refine R.set (k := 6) (by decide) ⟨hl, rfl, rfl⟩ ⟨rfl, rfl⟩ (gs_adN (by decide) (by decide)) (gs_lvN (by decide)) ?_ (fun k' i' j' hl' hne => ?_)
  · simp [gs_cl, gs_n, gs_u, gs_op, gs_sf, va_rf]
  · by_cases hk : k' = 6
    · subst hk
      simp only [gs_lv] at hl'
      have hne2 : ¬ (i' = 0 ∧ j' = 0) := fun e => hne ⟨rfl, e.1, e.2⟩
      try simp only [hl'.2] at hne2 ⊢
      try simp only [hl'.1] at hne2 ⊢
      simp_all [gs_cl, gs_n, gs_u]
    · exact gs_neN (show gs_wn 125 ≠ k' from fun e => hk e.symm) _ _
theorem gp_I133 {S : gx_S} {M : gx_M} {d pc : Nat} {L : List (Option Value)} {st : List Value} {h : gx_H} {Q : Option Value → gx_H → Prop} {σ : gs_T} {A : gs_A} {idx : Nat}  {v : Int32} (hl : σ.1 31 0 0 = 1)  (hd : decode M.2.2.1 pc = .ok (.putfield idx, 3)) (hf : gx_FL M.1 idx 6 33 (.int) false) (R : gs_R h σ A) (kk : ∀ h', gs_R h' (gs_i σ 133 0 0 v) A → gs_sm h h' → gx_Ev S M d (pc + 3) L st h' Q) : gx_Ev S M d pc L (.int v :: .ref (A 6 0 0) :: st) h Q := by
  skip
  refine gx_put hd hf (gs_g6 R hl) (by simp) rfl rfl (kk _ ?_ ⟨rfl, rfl⟩)
  refine R.set (k := 6) (by decide) ⟨hl, rfl, rfl⟩ ⟨rfl, rfl⟩ (fun _ _ _ => rfl) gs_lvI ?_ (fun k' i' j' hl' hne => ?_)
  · simp [gs_cl, gs_i, gs_u, gs_op, gs_sf, va_rf]
  · by_cases hk : k' = 6
    · subst hk
      simp only [gs_lv] at hl'
      have hne2 : ¬ (i' = 0 ∧ j' = 0) := fun e => hne ⟨rfl, e.1, e.2⟩
      try simp only [hl'.2] at hne2 ⊢
      try simp only [hl'.1] at hne2 ⊢
      simp_all [gs_cl, gs_i, gs_u]
    · exact gs_neI (show gs_wi 133 ≠ k' from fun e => hk e.symm) _ _
theorem gp_N7 {S : gx_S} {M : gx_M} {d pc : Nat} {L : List (Option Value)} {st : List Value} {h : gx_H} {Q : Option Value → gx_H → Prop} {σ : gs_T} {A : gs_A} {idx g : Nat} {i j : Nat} (hl : σ.1 6 i j = 1) (hd : decode M.2.2.1 pc = .ok (.putfield idx, 3)) (hf : gx_FL M.1 idx 4 2 (.object "GroupOrder$Part") false) (R : gs_R h σ A) (kk : ∀ h', gs_R h' (gs_n σ 7 i j (g + 1)) A → gs_sm h h' → gx_Ev S M d (pc + 3) L st h' Q) : gx_Ev S M d pc L (.ref (A 4 g j) :: .ref (A 4 i j) :: st) h Q := by
  refine gx_put hd hf (gs_g4 R hl) (by simp) rfl rfl (kk _ ?_ ⟨rfl, rfl⟩)
  refine R.set (k := 4) (by decide) hl ⟨rfl, rfl⟩ (gs_adN (by decide) (by decide)) (gs_lvN (by decide)) ?_ (fun k' i' j' hl' hne => ?_)
  · simp [gs_cl, gs_n, gs_u, gs_op, va_rf]
  · by_cases hk : k' = 4
    · subst hk
      have hne2 : ¬ (i' = i ∧ j' = j) := fun e => hne ⟨rfl, e.1, e.2⟩
      have e7 : gs_u σ.1 7 i j (g + 1) 7 i' j' = σ.1 7 i' j' := by rw [gs_u_at, if_neg hne2]
      simp only [gs_cl, gs_n, e7]
    · exact gs_neN (show gs_wn 7 ≠ k' from fun e => hk e.symm) _ _
theorem ga_I19 {S : gx_S} {M : gx_M} {d pc : Nat} {L : List (Option Value)} {st : List Value} {h : gx_H} {Q : Option Value → gx_H → Prop} {σ : gs_T} {A : gs_A} {q : Nat} {x  : Int32} {v : Int32}  (hd : decode M.2.2.1 pc = .ok (.iastore, 1)) (R : gs_R h σ A) (hx : x = nI q) (hq : q < 16) (kk : ∀ h', gs_R h' (gs_i σ 19 q 0 v) A → gs_sm h h' → gx_Ev S M d (pc + 1) L st h' Q) : gx_Ev S M d pc L (.int (v) :: .int x :: .ref (A 8 0 0) :: st) h Q := by
  subst hx
  skip
  refine gx_iast hd (gs_g8 R ) (vp_in_nI hq (by omega)) (kk _ ?_ ⟨rfl, rfl⟩)
  rw [nI_clamp (by omega)]
  refine R.set (k := 8) (by decide) ⟨rfl, rfl⟩ ⟨rfl, rfl⟩ (fun _ _ _ => rfl) gs_lvI ?_ (fun k' i' j' hl' hne => ?_)
  · show gx_ai _ _ (fun y => _) = _
    congr 4
    funext y
    by_cases hy : y = q <;> simp [gs_i, gs_u, va_up, hy]
  · by_cases hk : k' = 8
    · subst hk
      exact absurd ⟨rfl, hl'.1, hl'.2⟩ hne
    · exact gs_neI (show gs_wi 19 ≠ k' from fun e => hk e.symm) _ _
theorem ga_I20 {S : gx_S} {M : gx_M} {d pc : Nat} {L : List (Option Value)} {st : List Value} {h : gx_H} {Q : Option Value → gx_H → Prop} {σ : gs_T} {A : gs_A} {q : Nat} {x  : Int32} {v : Int32}  (hd : decode M.2.2.1 pc = .ok (.iastore, 1)) (R : gs_R h σ A) (hx : x = nI q) (hq : q < 4) (kk : ∀ h', gs_R h' (gs_i σ 20 q 0 v) A → gs_sm h h' → gx_Ev S M d (pc + 1) L st h' Q) : gx_Ev S M d pc L (.int (v) :: .int x :: .ref (A 9 0 0) :: st) h Q := by
  subst hx
  skip
  refine gx_iast hd (gs_g9 R ) (vp_in_nI hq (by omega)) (kk _ ?_ ⟨rfl, rfl⟩)
  rw [nI_clamp (by omega)]
  refine R.set (k := 9) (by decide) ⟨rfl, rfl⟩ ⟨rfl, rfl⟩ (fun _ _ _ => rfl) gs_lvI ?_ (fun k' i' j' hl' hne => ?_)
  · show gx_ai _ _ (fun y => _) = _
    congr 4
    funext y
    by_cases hy : y = q <;> simp [gs_i, gs_u, va_up, hy]
  · by_cases hk : k' = 9
    · subst hk
      exact absurd ⟨rfl, hl'.1, hl'.2⟩ hne
    · exact gs_neI (show gs_wi 20 ≠ k' from fun e => hk e.symm) _ _
theorem ga_I21 {S : gx_S} {M : gx_M} {d pc : Nat} {L : List (Option Value)} {st : List Value} {h : gx_H} {Q : Option Value → gx_H → Prop} {σ : gs_T} {A : gs_A} {q : Nat} {x  : Int32} {v : Int32}  (hd : decode M.2.2.1 pc = .ok (.iastore, 1)) (R : gs_R h σ A) (hx : x = nI q) (hq : q < 16) (kk : ∀ h', gs_R h' (gs_i σ 21 q 0 v) A → gs_sm h h' → gx_Ev S M d (pc + 1) L st h' Q) : gx_Ev S M d pc L (.int (v) :: .int x :: .ref (A 11 0 0) :: st) h Q := by
  subst hx
  skip
  refine gx_iast hd (gs_g11 R ) (vp_in_nI hq (by omega)) (kk _ ?_ ⟨rfl, rfl⟩)
  rw [nI_clamp (by omega)]
  refine R.set (k := 11) (by decide) ⟨rfl, rfl⟩ ⟨rfl, rfl⟩ (fun _ _ _ => rfl) gs_lvI ?_ (fun k' i' j' hl' hne => ?_)
  · show gx_ai _ _ (fun y => _) = _
    congr 4
    funext y
    by_cases hy : y = q <;> simp [gs_i, gs_u, va_up, hy]
  · by_cases hk : k' = 11
    · subst hk
      exact absurd ⟨rfl, hl'.1, hl'.2⟩ hne
    · exact gs_neI (show gs_wi 21 ≠ k' from fun e => hk e.symm) _ _
theorem ga_I22 {S : gx_S} {M : gx_M} {d pc : Nat} {L : List (Option Value)} {st : List Value} {h : gx_H} {Q : Option Value → gx_H → Prop} {σ : gs_T} {A : gs_A} {q : Nat} {x  : Int32} {v : Int32}  (hd : decode M.2.2.1 pc = .ok (.iastore, 1)) (R : gs_R h σ A) (hx : x = nI q) (hq : q < 16) (kk : ∀ h', gs_R h' (gs_i σ 22 q 0 v) A → gs_sm h h' → gx_Ev S M d (pc + 1) L st h' Q) : gx_Ev S M d pc L (.int (v) :: .int x :: .ref (A 12 0 0) :: st) h Q := by
  subst hx
  skip
  refine gx_iast hd (gs_g12 R ) (vp_in_nI hq (by omega)) (kk _ ?_ ⟨rfl, rfl⟩)
  rw [nI_clamp (by omega)]
  refine R.set (k := 12) (by decide) ⟨rfl, rfl⟩ ⟨rfl, rfl⟩ (fun _ _ _ => rfl) gs_lvI ?_ (fun k' i' j' hl' hne => ?_)
  · show gx_ai _ _ (fun y => _) = _
    congr 4
    funext y
    by_cases hy : y = q <;> simp [gs_i, gs_u, va_up, hy]
  · by_cases hk : k' = 12
    · subst hk
      exact absurd ⟨rfl, hl'.1, hl'.2⟩ hne
    · exact gs_neI (show gs_wi 22 ≠ k' from fun e => hk e.symm) _ _
theorem ga_I101 {S : gx_S} {M : gx_M} {d pc : Nat} {L : List (Option Value)} {st : List Value} {h : gx_H} {Q : Option Value → gx_H → Prop} {σ : gs_T} {A : gs_A} {q : Nat} {x  : Int32} {v : Int32} (hl : σ.1 31 0 0 = 1) (hd : decode M.2.2.1 pc = .ok (.iastore, 1)) (R : gs_R h σ A) (hx : x = nI q) (hq : q < 4) (kk : ∀ h', gs_R h' (gs_i σ 101 q 0 v) A → gs_sm h h' → gx_Ev S M d (pc + 1) L st h' Q) : gx_Ev S M d pc L (.int (v) :: .int x :: .ref (A 21 0 0) :: st) h Q := by
  subst hx
  skip
  refine gx_iast hd (gs_g21 R hl) (vp_in_nI hq (by omega)) (kk _ ?_ ⟨rfl, rfl⟩)
  rw [nI_clamp (by omega)]
  refine R.set (k := 21) (by decide) ⟨hl, rfl, rfl⟩ ⟨rfl, rfl⟩ (fun _ _ _ => rfl) gs_lvI ?_ (fun k' i' j' hl' hne => ?_)
  · show gx_ai _ _ (fun y => _) = _
    congr 4
    funext y
    by_cases hy : y = q <;> simp [gs_i, gs_u, va_up, hy]
  · by_cases hk : k' = 21
    · subst hk
      exact absurd ⟨rfl, hl'.2.1, hl'.2.2⟩ hne
    · exact gs_neI (show gs_wi 101 ≠ k' from fun e => hk e.symm) _ _
theorem ga_I102 {S : gx_S} {M : gx_M} {d pc : Nat} {L : List (Option Value)} {st : List Value} {h : gx_H} {Q : Option Value → gx_H → Prop} {σ : gs_T} {A : gs_A} {q : Nat} {x  : Int32} {v : Int32} (hl : σ.1 31 0 0 = 1) (hd : decode M.2.2.1 pc = .ok (.bastore, 1)) (R : gs_R h σ A) (hv : v = 0 ∨ v = 1) (hx : x = nI q) (hq : q < 4) (kk : ∀ h', gs_R h' (gs_i σ 102 q 0 v) A → gs_sm h h' → gx_Ev S M d (pc + 1) L st h' Q) : gx_Ev S M d pc L (.int (v) :: .int x :: .ref (A 22 0 0) :: st) h Q := by
  subst hx
  skip
  refine gx_zast hd (gs_g22 R hl) (vp_in_nI hq (by omega)) hv (kk _ ?_ ⟨rfl, rfl⟩)
  rw [nI_clamp (by omega)]
  refine R.set (k := 22) (by decide) ⟨hl, rfl, rfl⟩ ⟨rfl, rfl⟩ (fun _ _ _ => rfl) gs_lvI ?_ (fun k' i' j' hl' hne => ?_)
  · show gx_ai _ _ (fun y => _) = _
    congr 4
    funext y
    by_cases hy : y = q <;> simp [gs_i, gs_u, va_up, hy]
  · by_cases hk : k' = 22
    · subst hk
      exact absurd ⟨rfl, hl'.2.1, hl'.2.2⟩ hne
    · exact gs_neI (show gs_wi 102 ≠ k' from fun e => hk e.symm) _ _
theorem ga_I103 {S : gx_S} {M : gx_M} {d pc : Nat} {L : List (Option Value)} {st : List Value} {h : gx_H} {Q : Option Value → gx_H → Prop} {σ : gs_T} {A : gs_A} {q : Nat} {x  : Int32} {v : Int32} (hl : σ.1 31 0 0 = 1) (hd : decode M.2.2.1 pc = .ok (.iastore, 1)) (R : gs_R h σ A) (hx : x = nI q) (hq : q < 16) (kk : ∀ h', gs_R h' (gs_i σ 103 q 0 v) A → gs_sm h h' → gx_Ev S M d (pc + 1) L st h' Q) : gx_Ev S M d pc L (.int (v) :: .int x :: .ref (A 23 0 0) :: st) h Q := by
  subst hx
  skip
  refine gx_iast hd (gs_g23 R hl) (vp_in_nI hq (by omega)) (kk _ ?_ ⟨rfl, rfl⟩)
  rw [nI_clamp (by omega)]
  refine R.set (k := 23) (by decide) ⟨hl, rfl, rfl⟩ ⟨rfl, rfl⟩ (fun _ _ _ => rfl) gs_lvI ?_ (fun k' i' j' hl' hne => ?_)
  · show gx_ai _ _ (fun y => _) = _
    congr 4
    funext y
    by_cases hy : y = q <;> simp [gs_i, gs_u, va_up, hy]
  · by_cases hk : k' = 23
    · subst hk
      exact absurd ⟨rfl, hl'.2.1, hl'.2.2⟩ hne
    · exact gs_neI (show gs_wi 103 ≠ k' from fun e => hk e.symm) _ _
theorem ga_N105 {S : gx_S} {M : gx_M} {d pc : Nat} {L : List (Option Value)} {st : List Value} {h : gx_H} {Q : Option Value → gx_H → Prop} {σ : gs_T} {A : gs_A} {q : Nat} {x y : Int32} {v : Nat} (hl : σ.1 31 0 0 = 1) (hd : decode M.2.2.1 pc = .ok (.iastore, 1)) (R : gs_R h σ A) (hy : y = nI v) (hx : x = nI q) (hq : q < 40) (kk : ∀ h', gs_R h' (gs_n σ 105 q 0 v) A → gs_sm h h' → gx_Ev S M d (pc + 1) L st h' Q) : gx_Ev S M d pc L (.int (y) :: .int x :: .ref (A 25 0 0) :: st) h Q := by
  subst hx
  subst hy
  refine gx_iast hd (gs_g25 R hl) (vp_in_nI hq (by omega)) (kk _ ?_ ⟨rfl, rfl⟩)
  rw [nI_clamp (by omega)]
  refine R.set (k := 25) (by decide) ⟨hl, rfl, rfl⟩ ⟨rfl, rfl⟩ (gs_adN (by decide) (by decide)) (gs_lvN (by decide)) ?_ (fun k' i' j' hl' hne => ?_)
  · show gx_ai _ _ (fun y => _) = _
    congr 4
    funext y
    by_cases hy : y = q <;> simp [gs_n, gs_u, va_up, hy]
  · by_cases hk : k' = 25
    · subst hk
      exact absurd ⟨rfl, hl'.2.1, hl'.2.2⟩ hne
    · exact gs_neN (show gs_wn 105 ≠ k' from fun e => hk e.symm) _ _
theorem ga_I106 {S : gx_S} {M : gx_M} {d pc : Nat} {L : List (Option Value)} {st : List Value} {h : gx_H} {Q : Option Value → gx_H → Prop} {σ : gs_T} {A : gs_A} {q : Nat} {x  : Int32} {v : Int32} (hl : σ.1 31 0 0 = 1) (hd : decode M.2.2.1 pc = .ok (.iastore, 1)) (R : gs_R h σ A) (hx : x = nI q) (hq : q < 40) (kk : ∀ h', gs_R h' (gs_i σ 106 q 0 v) A → gs_sm h h' → gx_Ev S M d (pc + 1) L st h' Q) : gx_Ev S M d pc L (.int (v) :: .int x :: .ref (A 26 0 0) :: st) h Q := by
  subst hx
  skip
  refine gx_iast hd (gs_g26 R hl) (vp_in_nI hq (by omega)) (kk _ ?_ ⟨rfl, rfl⟩)
  rw [nI_clamp (by omega)]
  refine R.set (k := 26) (by decide) ⟨hl, rfl, rfl⟩ ⟨rfl, rfl⟩ (fun _ _ _ => rfl) gs_lvI ?_ (fun k' i' j' hl' hne => ?_)
  · show gx_ai _ _ (fun y => _) = _
    congr 4
    funext y
    by_cases hy : y = q <;> simp [gs_i, gs_u, va_up, hy]
  · by_cases hk : k' = 26
    · subst hk
      exact absurd ⟨rfl, hl'.2.1, hl'.2.2⟩ hne
    · exact gs_neI (show gs_wi 106 ≠ k' from fun e => hk e.symm) _ _
theorem ga_N107 {S : gx_S} {M : gx_M} {d pc : Nat} {L : List (Option Value)} {st : List Value} {h : gx_H} {Q : Option Value → gx_H → Prop} {σ : gs_T} {A : gs_A} {q : Nat} {x y : Int32} {v : Nat} (hl : σ.1 31 0 0 = 1) (hd : decode M.2.2.1 pc = .ok (.iastore, 1)) (R : gs_R h σ A) (hy : y = nI v) (hx : x = nI q) (hq : q < 40) (kk : ∀ h', gs_R h' (gs_n σ 107 q 0 v) A → gs_sm h h' → gx_Ev S M d (pc + 1) L st h' Q) : gx_Ev S M d pc L (.int (y) :: .int x :: .ref (A 27 0 0) :: st) h Q := by
  subst hx
  subst hy
  refine gx_iast hd (gs_g27 R hl) (vp_in_nI hq (by omega)) (kk _ ?_ ⟨rfl, rfl⟩)
  rw [nI_clamp (by omega)]
  refine R.set (k := 27) (by decide) ⟨hl, rfl, rfl⟩ ⟨rfl, rfl⟩ (gs_adN (by decide) (by decide)) (gs_lvN (by decide)) ?_ (fun k' i' j' hl' hne => ?_)
  · show gx_ai _ _ (fun y => _) = _
    congr 4
    funext y
    by_cases hy : y = q <;> simp [gs_n, gs_u, va_up, hy]
  · by_cases hk : k' = 27
    · subst hk
      exact absurd ⟨rfl, hl'.2.1, hl'.2.2⟩ hne
    · exact gs_neN (show gs_wn 107 ≠ k' from fun e => hk e.symm) _ _
theorem ga_N108 {S : gx_S} {M : gx_M} {d pc : Nat} {L : List (Option Value)} {st : List Value} {h : gx_H} {Q : Option Value → gx_H → Prop} {σ : gs_T} {A : gs_A} {q : Nat} {x y : Int32} {v : Nat} (hl : σ.1 31 0 0 = 1) (hd : decode M.2.2.1 pc = .ok (.iastore, 1)) (R : gs_R h σ A) (hy : y = nI v) (hx : x = nI q) (hq : q < 40) (kk : ∀ h', gs_R h' (gs_n σ 108 q 0 v) A → gs_sm h h' → gx_Ev S M d (pc + 1) L st h' Q) : gx_Ev S M d pc L (.int (y) :: .int x :: .ref (A 28 0 0) :: st) h Q := by
  subst hx
  subst hy
  refine gx_iast hd (gs_g28 R hl) (vp_in_nI hq (by omega)) (kk _ ?_ ⟨rfl, rfl⟩)
  rw [nI_clamp (by omega)]
  refine R.set (k := 28) (by decide) ⟨hl, rfl, rfl⟩ ⟨rfl, rfl⟩ (gs_adN (by decide) (by decide)) (gs_lvN (by decide)) ?_ (fun k' i' j' hl' hne => ?_)
  · show gx_ai _ _ (fun y => _) = _
    congr 4
    funext y
    by_cases hy : y = q <;> simp [gs_n, gs_u, va_up, hy]
  · by_cases hk : k' = 28
    · subst hk
      exact absurd ⟨rfl, hl'.2.1, hl'.2.2⟩ hne
    · exact gs_neN (show gs_wn 108 ≠ k' from fun e => hk e.symm) _ _
theorem ga_I109 {S : gx_S} {M : gx_M} {d pc : Nat} {L : List (Option Value)} {st : List Value} {h : gx_H} {Q : Option Value → gx_H → Prop} {σ : gs_T} {A : gs_A} {q : Nat} {x  : Int32} {v : Int32} (hl : σ.1 31 0 0 = 1) (hd : decode M.2.2.1 pc = .ok (.iastore, 1)) (R : gs_R h σ A) (hx : x = nI q) (hq : q < 40) (kk : ∀ h', gs_R h' (gs_i σ 109 q 0 v) A → gs_sm h h' → gx_Ev S M d (pc + 1) L st h' Q) : gx_Ev S M d pc L (.int (v) :: .int x :: .ref (A 29 0 0) :: st) h Q := by
  subst hx
  skip
  refine gx_iast hd (gs_g29 R hl) (vp_in_nI hq (by omega)) (kk _ ?_ ⟨rfl, rfl⟩)
  rw [nI_clamp (by omega)]
  refine R.set (k := 29) (by decide) ⟨hl, rfl, rfl⟩ ⟨rfl, rfl⟩ (fun _ _ _ => rfl) gs_lvI ?_ (fun k' i' j' hl' hne => ?_)
  · show gx_ai _ _ (fun y => _) = _
    congr 4
    funext y
    by_cases hy : y = q <;> simp [gs_i, gs_u, va_up, hy]
  · by_cases hk : k' = 29
    · subst hk
      exact absurd ⟨rfl, hl'.2.1, hl'.2.2⟩ hne
    · exact gs_neI (show gs_wi 109 ≠ k' from fun e => hk e.symm) _ _
theorem ga_I110 {S : gx_S} {M : gx_M} {d pc : Nat} {L : List (Option Value)} {st : List Value} {h : gx_H} {Q : Option Value → gx_H → Prop} {σ : gs_T} {A : gs_A} {q : Nat} {x  : Int32} {v : Int32} (hl : σ.1 31 0 0 = 1) (hd : decode M.2.2.1 pc = .ok (.iastore, 1)) (R : gs_R h σ A) (hx : x = nI q) (hq : q < 40) (kk : ∀ h', gs_R h' (gs_i σ 110 q 0 v) A → gs_sm h h' → gx_Ev S M d (pc + 1) L st h' Q) : gx_Ev S M d pc L (.int (v) :: .int x :: .ref (A 30 0 0) :: st) h Q := by
  subst hx
  skip
  refine gx_iast hd (gs_g30 R hl) (vp_in_nI hq (by omega)) (kk _ ?_ ⟨rfl, rfl⟩)
  rw [nI_clamp (by omega)]
  refine R.set (k := 30) (by decide) ⟨hl, rfl, rfl⟩ ⟨rfl, rfl⟩ (fun _ _ _ => rfl) gs_lvI ?_ (fun k' i' j' hl' hne => ?_)
  · show gx_ai _ _ (fun y => _) = _
    congr 4
    funext y
    by_cases hy : y = q <;> simp [gs_i, gs_u, va_up, hy]
  · by_cases hk : k' = 30
    · subst hk
      exact absurd ⟨rfl, hl'.2.1, hl'.2.2⟩ hne
    · exact gs_neI (show gs_wi 110 ≠ k' from fun e => hk e.symm) _ _
theorem ga_I111 {S : gx_S} {M : gx_M} {d pc : Nat} {L : List (Option Value)} {st : List Value} {h : gx_H} {Q : Option Value → gx_H → Prop} {σ : gs_T} {A : gs_A} {q : Nat} {x  : Int32} {v : Int32} (hl : σ.1 31 0 0 = 1) (hd : decode M.2.2.1 pc = .ok (.bastore, 1)) (R : gs_R h σ A) (hv : v = 0 ∨ v = 1) (hx : x = nI q) (hq : q < 40) (kk : ∀ h', gs_R h' (gs_i σ 111 q 0 v) A → gs_sm h h' → gx_Ev S M d (pc + 1) L st h' Q) : gx_Ev S M d pc L (.int (v) :: .int x :: .ref (A 31 0 0) :: st) h Q := by
  subst hx
  skip
  refine gx_zast hd (gs_g31 R hl) (vp_in_nI hq (by omega)) hv (kk _ ?_ ⟨rfl, rfl⟩)
  rw [nI_clamp (by omega)]
  refine R.set (k := 31) (by decide) ⟨hl, rfl, rfl⟩ ⟨rfl, rfl⟩ (fun _ _ _ => rfl) gs_lvI ?_ (fun k' i' j' hl' hne => ?_)
  · show gx_ai _ _ (fun y => _) = _
    congr 4
    funext y
    by_cases hy : y = q <;> simp [gs_i, gs_u, va_up, hy]
  · by_cases hk : k' = 31
    · subst hk
      exact absurd ⟨rfl, hl'.2.1, hl'.2.2⟩ hne
    · exact gs_neI (show gs_wi 111 ≠ k' from fun e => hk e.symm) _ _
theorem ga_I112 {S : gx_S} {M : gx_M} {d pc : Nat} {L : List (Option Value)} {st : List Value} {h : gx_H} {Q : Option Value → gx_H → Prop} {σ : gs_T} {A : gs_A} {q : Nat} {x  : Int32} {v : Int32} (hl : σ.1 31 0 0 = 1) (hd : decode M.2.2.1 pc = .ok (.iastore, 1)) (R : gs_R h σ A) (hx : x = nI q) (hq : q < 40) (kk : ∀ h', gs_R h' (gs_i σ 112 q 0 v) A → gs_sm h h' → gx_Ev S M d (pc + 1) L st h' Q) : gx_Ev S M d pc L (.int (v) :: .int x :: .ref (A 32 0 0) :: st) h Q := by
  subst hx
  skip
  refine gx_iast hd (gs_g32 R hl) (vp_in_nI hq (by omega)) (kk _ ?_ ⟨rfl, rfl⟩)
  rw [nI_clamp (by omega)]
  refine R.set (k := 32) (by decide) ⟨hl, rfl, rfl⟩ ⟨rfl, rfl⟩ (fun _ _ _ => rfl) gs_lvI ?_ (fun k' i' j' hl' hne => ?_)
  · show gx_ai _ _ (fun y => _) = _
    congr 4
    funext y
    by_cases hy : y = q <;> simp [gs_i, gs_u, va_up, hy]
  · by_cases hk : k' = 32
    · subst hk
      exact absurd ⟨rfl, hl'.2.1, hl'.2.2⟩ hne
    · exact gs_neI (show gs_wi 112 ≠ k' from fun e => hk e.symm) _ _
theorem ga_I113 {S : gx_S} {M : gx_M} {d pc : Nat} {L : List (Option Value)} {st : List Value} {h : gx_H} {Q : Option Value → gx_H → Prop} {σ : gs_T} {A : gs_A} {q : Nat} {x  : Int32} {v : Int32} (hl : σ.1 31 0 0 = 1) (hd : decode M.2.2.1 pc = .ok (.iastore, 1)) (R : gs_R h σ A) (hx : x = nI q) (hq : q < 4) (kk : ∀ h', gs_R h' (gs_i σ 113 q 0 v) A → gs_sm h h' → gx_Ev S M d (pc + 1) L st h' Q) : gx_Ev S M d pc L (.int (v) :: .int x :: .ref (A 33 0 0) :: st) h Q := by
  subst hx
  skip
  refine gx_iast hd (gs_g33 R hl) (vp_in_nI hq (by omega)) (kk _ ?_ ⟨rfl, rfl⟩)
  rw [nI_clamp (by omega)]
  refine R.set (k := 33) (by decide) ⟨hl, rfl, rfl⟩ ⟨rfl, rfl⟩ (fun _ _ _ => rfl) gs_lvI ?_ (fun k' i' j' hl' hne => ?_)
  · show gx_ai _ _ (fun y => _) = _
    congr 4
    funext y
    by_cases hy : y = q <;> simp [gs_i, gs_u, va_up, hy]
  · by_cases hk : k' = 33
    · subst hk
      exact absurd ⟨rfl, hl'.2.1, hl'.2.2⟩ hne
    · exact gs_neI (show gs_wi 113 ≠ k' from fun e => hk e.symm) _ _
theorem ga_I114 {S : gx_S} {M : gx_M} {d pc : Nat} {L : List (Option Value)} {st : List Value} {h : gx_H} {Q : Option Value → gx_H → Prop} {σ : gs_T} {A : gs_A} {q : Nat} {x  : Int32} {v : Int32} (hl : σ.1 31 0 0 = 1) (hd : decode M.2.2.1 pc = .ok (.bastore, 1)) (R : gs_R h σ A) (hv : v = 0 ∨ v = 1) (hx : x = nI q) (hq : q < 160) (kk : ∀ h', gs_R h' (gs_i σ 114 q 0 v) A → gs_sm h h' → gx_Ev S M d (pc + 1) L st h' Q) : gx_Ev S M d pc L (.int (v) :: .int x :: .ref (A 34 0 0) :: st) h Q := by
  subst hx
  skip
  refine gx_zast hd (gs_g34 R hl) (vp_in_nI hq (by omega)) hv (kk _ ?_ ⟨rfl, rfl⟩)
  rw [nI_clamp (by omega)]
  refine R.set (k := 34) (by decide) ⟨hl, rfl, rfl⟩ ⟨rfl, rfl⟩ (fun _ _ _ => rfl) gs_lvI ?_ (fun k' i' j' hl' hne => ?_)
  · show gx_ai _ _ (fun y => _) = _
    congr 4
    funext y
    by_cases hy : y = q <;> simp [gs_i, gs_u, va_up, hy]
  · by_cases hk : k' = 34
    · subst hk
      exact absurd ⟨rfl, hl'.2.1, hl'.2.2⟩ hne
    · exact gs_neI (show gs_wi 114 ≠ k' from fun e => hk e.symm) _ _
theorem ga_I115 {S : gx_S} {M : gx_M} {d pc : Nat} {L : List (Option Value)} {st : List Value} {h : gx_H} {Q : Option Value → gx_H → Prop} {σ : gs_T} {A : gs_A} {q : Nat} {x  : Int32} {v : Int32} (hl : σ.1 31 0 0 = 1) (hd : decode M.2.2.1 pc = .ok (.iastore, 1)) (R : gs_R h σ A) (hx : x = nI q) (hq : q < 160) (kk : ∀ h', gs_R h' (gs_i σ 115 q 0 v) A → gs_sm h h' → gx_Ev S M d (pc + 1) L st h' Q) : gx_Ev S M d pc L (.int (v) :: .int x :: .ref (A 35 0 0) :: st) h Q := by
  subst hx
  skip
  refine gx_iast hd (gs_g35 R hl) (vp_in_nI hq (by omega)) (kk _ ?_ ⟨rfl, rfl⟩)
  rw [nI_clamp (by omega)]
  refine R.set (k := 35) (by decide) ⟨hl, rfl, rfl⟩ ⟨rfl, rfl⟩ (fun _ _ _ => rfl) gs_lvI ?_ (fun k' i' j' hl' hne => ?_)
  · show gx_ai _ _ (fun y => _) = _
    congr 4
    funext y
    by_cases hy : y = q <;> simp [gs_i, gs_u, va_up, hy]
  · by_cases hk : k' = 35
    · subst hk
      exact absurd ⟨rfl, hl'.2.1, hl'.2.2⟩ hne
    · exact gs_neI (show gs_wi 115 ≠ k' from fun e => hk e.symm) _ _
theorem ga_I116 {S : gx_S} {M : gx_M} {d pc : Nat} {L : List (Option Value)} {st : List Value} {h : gx_H} {Q : Option Value → gx_H → Prop} {σ : gs_T} {A : gs_A} {q : Nat} {x  : Int32} {v : Int32} (hl : σ.1 31 0 0 = 1) (hd : decode M.2.2.1 pc = .ok (.bastore, 1)) (R : gs_R h σ A) (hv : v = 0 ∨ v = 1) (hx : x = nI q) (hq : q < 160) (kk : ∀ h', gs_R h' (gs_i σ 116 q 0 v) A → gs_sm h h' → gx_Ev S M d (pc + 1) L st h' Q) : gx_Ev S M d pc L (.int (v) :: .int x :: .ref (A 36 0 0) :: st) h Q := by
  subst hx
  skip
  refine gx_zast hd (gs_g36 R hl) (vp_in_nI hq (by omega)) hv (kk _ ?_ ⟨rfl, rfl⟩)
  rw [nI_clamp (by omega)]
  refine R.set (k := 36) (by decide) ⟨hl, rfl, rfl⟩ ⟨rfl, rfl⟩ (fun _ _ _ => rfl) gs_lvI ?_ (fun k' i' j' hl' hne => ?_)
  · show gx_ai _ _ (fun y => _) = _
    congr 4
    funext y
    by_cases hy : y = q <;> simp [gs_i, gs_u, va_up, hy]
  · by_cases hk : k' = 36
    · subst hk
      exact absurd ⟨rfl, hl'.2.1, hl'.2.2⟩ hne
    · exact gs_neI (show gs_wi 116 ≠ k' from fun e => hk e.symm) _ _
theorem ga_I117 {S : gx_S} {M : gx_M} {d pc : Nat} {L : List (Option Value)} {st : List Value} {h : gx_H} {Q : Option Value → gx_H → Prop} {σ : gs_T} {A : gs_A} {q : Nat} {x  : Int32} {v : Int32} (hl : σ.1 31 0 0 = 1) (hd : decode M.2.2.1 pc = .ok (.bastore, 1)) (R : gs_R h σ A) (hv : v = 0 ∨ v = 1) (hx : x = nI q) (hq : q < 160) (kk : ∀ h', gs_R h' (gs_i σ 117 q 0 v) A → gs_sm h h' → gx_Ev S M d (pc + 1) L st h' Q) : gx_Ev S M d pc L (.int (v) :: .int x :: .ref (A 37 0 0) :: st) h Q := by
  subst hx
  skip
  refine gx_zast hd (gs_g37 R hl) (vp_in_nI hq (by omega)) hv (kk _ ?_ ⟨rfl, rfl⟩)
  rw [nI_clamp (by omega)]
  refine R.set (k := 37) (by decide) ⟨hl, rfl, rfl⟩ ⟨rfl, rfl⟩ (fun _ _ _ => rfl) gs_lvI ?_ (fun k' i' j' hl' hne => ?_)
  · show gx_ai _ _ (fun y => _) = _
    congr 4
    funext y
    by_cases hy : y = q <;> simp [gs_i, gs_u, va_up, hy]
  · by_cases hk : k' = 37
    · subst hk
      exact absurd ⟨rfl, hl'.2.1, hl'.2.2⟩ hne
    · exact gs_neI (show gs_wi 117 ≠ k' from fun e => hk e.symm) _ _
theorem ga_I118 {S : gx_S} {M : gx_M} {d pc : Nat} {L : List (Option Value)} {st : List Value} {h : gx_H} {Q : Option Value → gx_H → Prop} {σ : gs_T} {A : gs_A} {q : Nat} {x  : Int32} {v : Int32} (hl : σ.1 31 0 0 = 1) (hd : decode M.2.2.1 pc = .ok (.bastore, 1)) (R : gs_R h σ A) (hv : v = 0 ∨ v = 1) (hx : x = nI q) (hq : q < 160) (kk : ∀ h', gs_R h' (gs_i σ 118 q 0 v) A → gs_sm h h' → gx_Ev S M d (pc + 1) L st h' Q) : gx_Ev S M d pc L (.int (v) :: .int x :: .ref (A 38 0 0) :: st) h Q := by
  subst hx
  skip
  refine gx_zast hd (gs_g38 R hl) (vp_in_nI hq (by omega)) hv (kk _ ?_ ⟨rfl, rfl⟩)
  rw [nI_clamp (by omega)]
  refine R.set (k := 38) (by decide) ⟨hl, rfl, rfl⟩ ⟨rfl, rfl⟩ (fun _ _ _ => rfl) gs_lvI ?_ (fun k' i' j' hl' hne => ?_)
  · show gx_ai _ _ (fun y => _) = _
    congr 4
    funext y
    by_cases hy : y = q <;> simp [gs_i, gs_u, va_up, hy]
  · by_cases hk : k' = 38
    · subst hk
      exact absurd ⟨rfl, hl'.2.1, hl'.2.2⟩ hne
    · exact gs_neI (show gs_wi 118 ≠ k' from fun e => hk e.symm) _ _
theorem ga_I119 {S : gx_S} {M : gx_M} {d pc : Nat} {L : List (Option Value)} {st : List Value} {h : gx_H} {Q : Option Value → gx_H → Prop} {σ : gs_T} {A : gs_A} {q : Nat} {x  : Int32} {v : Int32} (hl : σ.1 31 0 0 = 1) (hd : decode M.2.2.1 pc = .ok (.iastore, 1)) (R : gs_R h σ A) (hx : x = nI q) (hq : q < 640) (kk : ∀ h', gs_R h' (gs_i σ 119 q 0 v) A → gs_sm h h' → gx_Ev S M d (pc + 1) L st h' Q) : gx_Ev S M d pc L (.int (v) :: .int x :: .ref (A 39 0 0) :: st) h Q := by
  subst hx
  skip
  refine gx_iast hd (gs_g39 R hl) (vp_in_nI hq (by omega)) (kk _ ?_ ⟨rfl, rfl⟩)
  rw [nI_clamp (by omega)]
  refine R.set (k := 39) (by decide) ⟨hl, rfl, rfl⟩ ⟨rfl, rfl⟩ (fun _ _ _ => rfl) gs_lvI ?_ (fun k' i' j' hl' hne => ?_)
  · show gx_ai _ _ (fun y => _) = _
    congr 4
    funext y
    by_cases hy : y = q <;> simp [gs_i, gs_u, va_up, hy]
  · by_cases hk : k' = 39
    · subst hk
      exact absurd ⟨rfl, hl'.2.1, hl'.2.2⟩ hne
    · exact gs_neI (show gs_wi 119 ≠ k' from fun e => hk e.symm) _ _
theorem ga_I120 {S : gx_S} {M : gx_M} {d pc : Nat} {L : List (Option Value)} {st : List Value} {h : gx_H} {Q : Option Value → gx_H → Prop} {σ : gs_T} {A : gs_A} {q : Nat} {x  : Int32} {v : Int32} (hl : σ.1 31 0 0 = 1) (hd : decode M.2.2.1 pc = .ok (.bastore, 1)) (R : gs_R h σ A) (hv : v = 0 ∨ v = 1) (hx : x = nI q) (hq : q < 640) (kk : ∀ h', gs_R h' (gs_i σ 120 q 0 v) A → gs_sm h h' → gx_Ev S M d (pc + 1) L st h' Q) : gx_Ev S M d pc L (.int (v) :: .int x :: .ref (A 40 0 0) :: st) h Q := by
  subst hx
  skip
  refine gx_zast hd (gs_g40 R hl) (vp_in_nI hq (by omega)) hv (kk _ ?_ ⟨rfl, rfl⟩)
  rw [nI_clamp (by omega)]
  refine R.set (k := 40) (by decide) ⟨hl, rfl, rfl⟩ ⟨rfl, rfl⟩ (fun _ _ _ => rfl) gs_lvI ?_ (fun k' i' j' hl' hne => ?_)
  · show gx_ai _ _ (fun y => _) = _
    congr 4
    funext y
    by_cases hy : y = q <;> simp [gs_i, gs_u, va_up, hy]
  · by_cases hk : k' = 40
    · subst hk
      exact absurd ⟨rfl, hl'.2.1, hl'.2.2⟩ hne
    · exact gs_neI (show gs_wi 120 ≠ k' from fun e => hk e.symm) _ _
theorem ga_I121 {S : gx_S} {M : gx_M} {d pc : Nat} {L : List (Option Value)} {st : List Value} {h : gx_H} {Q : Option Value → gx_H → Prop} {σ : gs_T} {A : gs_A} {q : Nat} {x  : Int32} {v : Int32} (hl : σ.1 31 0 0 = 1) (hd : decode M.2.2.1 pc = .ok (.iastore, 1)) (R : gs_R h σ A) (hx : x = nI q) (hq : q < 640) (kk : ∀ h', gs_R h' (gs_i σ 121 q 0 v) A → gs_sm h h' → gx_Ev S M d (pc + 1) L st h' Q) : gx_Ev S M d pc L (.int (v) :: .int x :: .ref (A 41 0 0) :: st) h Q := by
  subst hx
  skip
  refine gx_iast hd (gs_g41 R hl) (vp_in_nI hq (by omega)) (kk _ ?_ ⟨rfl, rfl⟩)
  rw [nI_clamp (by omega)]
  refine R.set (k := 41) (by decide) ⟨hl, rfl, rfl⟩ ⟨rfl, rfl⟩ (fun _ _ _ => rfl) gs_lvI ?_ (fun k' i' j' hl' hne => ?_)
  · show gx_ai _ _ (fun y => _) = _
    congr 4
    funext y
    by_cases hy : y = q <;> simp [gs_i, gs_u, va_up, hy]
  · by_cases hk : k' = 41
    · subst hk
      exact absurd ⟨rfl, hl'.2.1, hl'.2.2⟩ hne
    · exact gs_neI (show gs_wi 121 ≠ k' from fun e => hk e.symm) _ _
theorem ga_I122 {S : gx_S} {M : gx_M} {d pc : Nat} {L : List (Option Value)} {st : List Value} {h : gx_H} {Q : Option Value → gx_H → Prop} {σ : gs_T} {A : gs_A} {q : Nat} {x  : Int32} {v : Int32} (hl : σ.1 31 0 0 = 1) (hd : decode M.2.2.1 pc = .ok (.iastore, 1)) (R : gs_R h σ A) (hx : x = nI q) (hq : q < 640) (kk : ∀ h', gs_R h' (gs_i σ 122 q 0 v) A → gs_sm h h' → gx_Ev S M d (pc + 1) L st h' Q) : gx_Ev S M d pc L (.int (v) :: .int x :: .ref (A 42 0 0) :: st) h Q := by
  subst hx
  skip
  refine gx_iast hd (gs_g42 R hl) (vp_in_nI hq (by omega)) (kk _ ?_ ⟨rfl, rfl⟩)
  rw [nI_clamp (by omega)]
  refine R.set (k := 42) (by decide) ⟨hl, rfl, rfl⟩ ⟨rfl, rfl⟩ (fun _ _ _ => rfl) gs_lvI ?_ (fun k' i' j' hl' hne => ?_)
  · show gx_ai _ _ (fun y => _) = _
    congr 4
    funext y
    by_cases hy : y = q <;> simp [gs_i, gs_u, va_up, hy]
  · by_cases hk : k' = 42
    · subst hk
      exact absurd ⟨rfl, hl'.2.1, hl'.2.2⟩ hne
    · exact gs_neI (show gs_wi 122 ≠ k' from fun e => hk e.symm) _ _
theorem ga_N123 {S : gx_S} {M : gx_M} {d pc : Nat} {L : List (Option Value)} {st : List Value} {h : gx_H} {Q : Option Value → gx_H → Prop} {σ : gs_T} {A : gs_A} {q : Nat} {x y : Int32} {v : Nat} (hl : σ.1 31 0 0 = 1) (hd : decode M.2.2.1 pc = .ok (.iastore, 1)) (R : gs_R h σ A) (hy : y = nI v) (hx : x = nI q) (hq : q < 4) (kk : ∀ h', gs_R h' (gs_n σ 123 q 0 v) A → gs_sm h h' → gx_Ev S M d (pc + 1) L st h' Q) : gx_Ev S M d pc L (.int (y) :: .int x :: .ref (A 43 0 0) :: st) h Q := by
  subst hx
  subst hy
  refine gx_iast hd (gs_g43 R hl) (vp_in_nI hq (by omega)) (kk _ ?_ ⟨rfl, rfl⟩)
  rw [nI_clamp (by omega)]
  refine R.set (k := 43) (by decide) ⟨hl, rfl, rfl⟩ ⟨rfl, rfl⟩ (gs_adN (by decide) (by decide)) (gs_lvN (by decide)) ?_ (fun k' i' j' hl' hne => ?_)
  · show gx_ai _ _ (fun y => _) = _
    congr 4
    funext y
    by_cases hy : y = q <;> simp [gs_n, gs_u, va_up, hy]
  · by_cases hk : k' = 43
    · subst hk
      exact absurd ⟨rfl, hl'.2.1, hl'.2.2⟩ hne
    · exact gs_neN (show gs_wn 123 ≠ k' from fun e => hk e.symm) _ _
theorem ga_N124 {S : gx_S} {M : gx_M} {d pc : Nat} {L : List (Option Value)} {st : List Value} {h : gx_H} {Q : Option Value → gx_H → Prop} {σ : gs_T} {A : gs_A} {q : Nat} {x y : Int32} {v : Nat} (hl : σ.1 31 0 0 = 1) (hd : decode M.2.2.1 pc = .ok (.iastore, 1)) (R : gs_R h σ A) (hy : y = nI v) (hx : x = nI q) (hq : q < 160) (kk : ∀ h', gs_R h' (gs_n σ 124 q 0 v) A → gs_sm h h' → gx_Ev S M d (pc + 1) L st h' Q) : gx_Ev S M d pc L (.int (y) :: .int x :: .ref (A 44 0 0) :: st) h Q := by
  subst hx
  subst hy
  refine gx_iast hd (gs_g44 R hl) (vp_in_nI hq (by omega)) (kk _ ?_ ⟨rfl, rfl⟩)
  rw [nI_clamp (by omega)]
  refine R.set (k := 44) (by decide) ⟨hl, rfl, rfl⟩ ⟨rfl, rfl⟩ (gs_adN (by decide) (by decide)) (gs_lvN (by decide)) ?_ (fun k' i' j' hl' hne => ?_)
  · show gx_ai _ _ (fun y => _) = _
    congr 4
    funext y
    by_cases hy : y = q <;> simp [gs_n, gs_u, va_up, hy]
  · by_cases hk : k' = 44
    · subst hk
      exact absurd ⟨rfl, hl'.2.1, hl'.2.2⟩ hne
    · exact gs_neN (show gs_wn 124 ≠ k' from fun e => hk e.symm) _ _
theorem ga_I126 {S : gx_S} {M : gx_M} {d pc : Nat} {L : List (Option Value)} {st : List Value} {h : gx_H} {Q : Option Value → gx_H → Prop} {σ : gs_T} {A : gs_A} {q : Nat} {x  : Int32} {v : Int32} (hl : σ.1 31 0 0 = 1) (hd : decode M.2.2.1 pc = .ok (.iastore, 1)) (R : gs_R h σ A) (hx : x = nI q) (hq : q < 400) (kk : ∀ h', gs_R h' (gs_i σ 126 q 0 v) A → gs_sm h h' → gx_Ev S M d (pc + 1) L st h' Q) : gx_Ev S M d pc L (.int (v) :: .int x :: .ref (A 46 0 0) :: st) h Q := by
  subst hx
  skip
  refine gx_iast hd (gs_g46 R hl) (vp_in_nI hq (by omega)) (kk _ ?_ ⟨rfl, rfl⟩)
  rw [nI_clamp (by omega)]
  refine R.set (k := 46) (by decide) ⟨hl, rfl, rfl⟩ ⟨rfl, rfl⟩ (fun _ _ _ => rfl) gs_lvI ?_ (fun k' i' j' hl' hne => ?_)
  · show gx_ai _ _ (fun y => _) = _
    congr 4
    funext y
    by_cases hy : y = q <;> simp [gs_i, gs_u, va_up, hy]
  · by_cases hk : k' = 46
    · subst hk
      exact absurd ⟨rfl, hl'.2.1, hl'.2.2⟩ hne
    · exact gs_neI (show gs_wi 126 ≠ k' from fun e => hk e.symm) _ _
theorem ga_N127 {S : gx_S} {M : gx_M} {d pc : Nat} {L : List (Option Value)} {st : List Value} {h : gx_H} {Q : Option Value → gx_H → Prop} {σ : gs_T} {A : gs_A} {q : Nat} {x y : Int32} {v : Nat} (hl : σ.1 31 0 0 = 1) (hd : decode M.2.2.1 pc = .ok (.iastore, 1)) (R : gs_R h σ A) (hy : y = nI v) (hx : x = nI q) (hq : q < 400) (kk : ∀ h', gs_R h' (gs_n σ 127 q 0 v) A → gs_sm h h' → gx_Ev S M d (pc + 1) L st h' Q) : gx_Ev S M d pc L (.int (y) :: .int x :: .ref (A 47 0 0) :: st) h Q := by
  subst hx
  subst hy
  refine gx_iast hd (gs_g47 R hl) (vp_in_nI hq (by omega)) (kk _ ?_ ⟨rfl, rfl⟩)
  rw [nI_clamp (by omega)]
  refine R.set (k := 47) (by decide) ⟨hl, rfl, rfl⟩ ⟨rfl, rfl⟩ (gs_adN (by decide) (by decide)) (gs_lvN (by decide)) ?_ (fun k' i' j' hl' hne => ?_)
  · show gx_ai _ _ (fun y => _) = _
    congr 4
    funext y
    by_cases hy : y = q <;> simp [gs_n, gs_u, va_up, hy]
  · by_cases hk : k' = 47
    · subst hk
      exact absurd ⟨rfl, hl'.2.1, hl'.2.2⟩ hne
    · exact gs_neN (show gs_wn 127 ≠ k' from fun e => hk e.symm) _ _
theorem ga_N128 {S : gx_S} {M : gx_M} {d pc : Nat} {L : List (Option Value)} {st : List Value} {h : gx_H} {Q : Option Value → gx_H → Prop} {σ : gs_T} {A : gs_A} {q : Nat} {x y : Int32} {v : Nat} (hl : σ.1 31 0 0 = 1) (hd : decode M.2.2.1 pc = .ok (.iastore, 1)) (R : gs_R h σ A) (hy : y = gs_sf v) (hx : x = nI q) (hq : q < 400) (kk : ∀ h', gs_R h' (gs_n σ 128 q 0 v) A → gs_sm h h' → gx_Ev S M d (pc + 1) L st h' Q) : gx_Ev S M d pc L (.int (y) :: .int x :: .ref (A 48 0 0) :: st) h Q := by
  subst hx
  subst hy
  refine gx_iast hd (gs_g48 R hl) (vp_in_nI hq (by omega)) (kk _ ?_ ⟨rfl, rfl⟩)
  rw [nI_clamp (by omega)]
  refine R.set (k := 48) (by decide) ⟨hl, rfl, rfl⟩ ⟨rfl, rfl⟩ (gs_adN (by decide) (by decide)) (gs_lvN (by decide)) ?_ (fun k' i' j' hl' hne => ?_)
  · show gx_ai _ _ (fun y => _) = _
    congr 4
    funext y
    by_cases hy : y = q <;> simp [gs_n, gs_u, va_up, hy]
  · by_cases hk : k' = 48
    · subst hk
      exact absurd ⟨rfl, hl'.2.1, hl'.2.2⟩ hne
    · exact gs_neN (show gs_wn 128 ≠ k' from fun e => hk e.symm) _ _
theorem ga_N129 {S : gx_S} {M : gx_M} {d pc : Nat} {L : List (Option Value)} {st : List Value} {h : gx_H} {Q : Option Value → gx_H → Prop} {σ : gs_T} {A : gs_A} {q : Nat} {x y : Int32} {v : Nat} (hl : σ.1 31 0 0 = 1) (hd : decode M.2.2.1 pc = .ok (.iastore, 1)) (R : gs_R h σ A) (hy : y = nI v) (hx : x = nI q) (hq : q < 400) (kk : ∀ h', gs_R h' (gs_n σ 129 q 0 v) A → gs_sm h h' → gx_Ev S M d (pc + 1) L st h' Q) : gx_Ev S M d pc L (.int (y) :: .int x :: .ref (A 49 0 0) :: st) h Q := by
  subst hx
  subst hy
  refine gx_iast hd (gs_g49 R hl) (vp_in_nI hq (by omega)) (kk _ ?_ ⟨rfl, rfl⟩)
  rw [nI_clamp (by omega)]
  refine R.set (k := 49) (by decide) ⟨hl, rfl, rfl⟩ ⟨rfl, rfl⟩ (gs_adN (by decide) (by decide)) (gs_lvN (by decide)) ?_ (fun k' i' j' hl' hne => ?_)
  · show gx_ai _ _ (fun y => _) = _
    congr 4
    funext y
    by_cases hy : y = q <;> simp [gs_n, gs_u, va_up, hy]
  · by_cases hk : k' = 49
    · subst hk
      exact absurd ⟨rfl, hl'.2.1, hl'.2.2⟩ hne
    · exact gs_neN (show gs_wn 129 ≠ k' from fun e => hk e.symm) _ _
theorem ga_I130 {S : gx_S} {M : gx_M} {d pc : Nat} {L : List (Option Value)} {st : List Value} {h : gx_H} {Q : Option Value → gx_H → Prop} {σ : gs_T} {A : gs_A} {q : Nat} {x  : Int32} {v : Int32} (hl : σ.1 31 0 0 = 1) (hd : decode M.2.2.1 pc = .ok (.iastore, 1)) (R : gs_R h σ A) (hx : x = nI q) (hq : q < 400) (kk : ∀ h', gs_R h' (gs_i σ 130 q 0 v) A → gs_sm h h' → gx_Ev S M d (pc + 1) L st h' Q) : gx_Ev S M d pc L (.int (v) :: .int x :: .ref (A 50 0 0) :: st) h Q := by
  subst hx
  skip
  refine gx_iast hd (gs_g50 R hl) (vp_in_nI hq (by omega)) (kk _ ?_ ⟨rfl, rfl⟩)
  rw [nI_clamp (by omega)]
  refine R.set (k := 50) (by decide) ⟨hl, rfl, rfl⟩ ⟨rfl, rfl⟩ (fun _ _ _ => rfl) gs_lvI ?_ (fun k' i' j' hl' hne => ?_)
  · show gx_ai _ _ (fun y => _) = _
    congr 4
    funext y
    by_cases hy : y = q <;> simp [gs_i, gs_u, va_up, hy]
  · by_cases hk : k' = 50
    · subst hk
      exact absurd ⟨rfl, hl'.2.1, hl'.2.2⟩ hne
    · exact gs_neI (show gs_wi 130 ≠ k' from fun e => hk e.symm) _ _
theorem ga_I131 {S : gx_S} {M : gx_M} {d pc : Nat} {L : List (Option Value)} {st : List Value} {h : gx_H} {Q : Option Value → gx_H → Prop} {σ : gs_T} {A : gs_A} {q : Nat} {x  : Int32} {v : Int32} (hl : σ.1 31 0 0 = 1) (hd : decode M.2.2.1 pc = .ok (.iastore, 1)) (R : gs_R h σ A) (hx : x = nI q) (hq : q < 400) (kk : ∀ h', gs_R h' (gs_i σ 131 q 0 v) A → gs_sm h h' → gx_Ev S M d (pc + 1) L st h' Q) : gx_Ev S M d pc L (.int (v) :: .int x :: .ref (A 51 0 0) :: st) h Q := by
  subst hx
  skip
  refine gx_iast hd (gs_g51 R hl) (vp_in_nI hq (by omega)) (kk _ ?_ ⟨rfl, rfl⟩)
  rw [nI_clamp (by omega)]
  refine R.set (k := 51) (by decide) ⟨hl, rfl, rfl⟩ ⟨rfl, rfl⟩ (fun _ _ _ => rfl) gs_lvI ?_ (fun k' i' j' hl' hne => ?_)
  · show gx_ai _ _ (fun y => _) = _
    congr 4
    funext y
    by_cases hy : y = q <;> simp [gs_i, gs_u, va_up, hy]
  · by_cases hk : k' = 51
    · subst hk
      exact absurd ⟨rfl, hl'.2.1, hl'.2.2⟩ hne
    · exact gs_neI (show gs_wi 131 ≠ k' from fun e => hk e.symm) _ _
theorem ga_I132 {S : gx_S} {M : gx_M} {d pc : Nat} {L : List (Option Value)} {st : List Value} {h : gx_H} {Q : Option Value → gx_H → Prop} {σ : gs_T} {A : gs_A} {q : Nat} {x  : Int32} {v : Int32} (hl : σ.1 31 0 0 = 1) (hd : decode M.2.2.1 pc = .ok (.iastore, 1)) (R : gs_R h σ A) (hx : x = nI q) (hq : q < 400) (kk : ∀ h', gs_R h' (gs_i σ 132 q 0 v) A → gs_sm h h' → gx_Ev S M d (pc + 1) L st h' Q) : gx_Ev S M d pc L (.int (v) :: .int x :: .ref (A 52 0 0) :: st) h Q := by
  subst hx
  skip
  refine gx_iast hd (gs_g52 R hl) (vp_in_nI hq (by omega)) (kk _ ?_ ⟨rfl, rfl⟩)
  rw [nI_clamp (by omega)]
  refine R.set (k := 52) (by decide) ⟨hl, rfl, rfl⟩ ⟨rfl, rfl⟩ (fun _ _ _ => rfl) gs_lvI ?_ (fun k' i' j' hl' hne => ?_)
  · show gx_ai _ _ (fun y => _) = _
    congr 4
    funext y
    by_cases hy : y = q <;> simp [gs_i, gs_u, va_up, hy]
  · by_cases hk : k' = 52
    · subst hk
      exact absurd ⟨rfl, hl'.2.1, hl'.2.2⟩ hne
    · exact gs_neI (show gs_wi 132 ≠ k' from fun e => hk e.symm) _ _
