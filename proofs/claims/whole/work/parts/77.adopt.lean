/-! new orders, new parts: the addresses grow -/
set_option maxHeartbeats 4000000 in
theorem gs_clA3 {σ : gs_T} {A A' : gs_A} (hA : ∀ t, t ≠ 3 → A' t = A t) {k : Nat} (h4 : k ≠ 4) (h10 : k ≠ 10) (i j : Nat) : gs_cl σ A' k i j = gs_cl σ A k i j := by
  unfold gs_cl
  split
  · simp only [hA 15 (by decide)]
  · simp only [hA 13 (by decide), hA 14 (by decide)]
  · simp only [hA 4 (by decide)]
  · rfl
  · exact absurd rfl h4
  · simp only [hA 0 (by decide), hA 7 (by decide), hA 8 (by decide), hA 9 (by decide), hA 10 (by decide), hA 11 (by decide), hA 12 (by decide)]
  · simp only [hA 21 (by decide), hA 22 (by decide), hA 23 (by decide), hA 25 (by decide), hA 26 (by decide), hA 27 (by decide), hA 28 (by decide), hA 29 (by decide), hA 30 (by decide), hA 31 (by decide), hA 32 (by decide), hA 33 (by decide), hA 34 (by decide), hA 35 (by decide), hA 36 (by decide), hA 37 (by decide), hA 38 (by decide), hA 39 (by decide), hA 40 (by decide), hA 41 (by decide), hA 42 (by decide), hA 43 (by decide), hA 44 (by decide), hA 46 (by decide), hA 47 (by decide), hA 48 (by decide), hA 49 (by decide), hA 50 (by decide), hA 51 (by decide), hA 52 (by decide)]
  · simp only [hA 1 (by decide)]
  · rfl
  · rfl
  · exact absurd rfl h10
  · rfl
  · rfl
  · simp only [hA 4 (by decide)]
  · simp only [hA 4 (by decide)]
  · rfl
  · simp only [hA 4 (by decide)]
  · rfl
  · rfl
  · rfl
  · rfl
  · rfl
  · rfl
  · rfl
  · rfl
  · rfl
  · rfl
  · rfl
  · rfl
  · rfl
  · rfl
  · rfl
  · rfl
  · rfl
  · rfl
  · rfl
  · rfl
  · rfl
  · rfl
  · rfl
  · rfl
  · rfl
  · rfl
  · rfl
  · rfl
  · rfl
  · rfl
  · rfl
set_option maxHeartbeats 4000000 in
theorem gs_clA4 {σ : gs_T} {A A' : gs_A} (hA : ∀ t, t ≠ 4 → A' t = A t) {k : Nat} (h2 : k ≠ 2) (h4 : k ≠ 4) (h13 : k ≠ 13) (h14 : k ≠ 14) (h16 : k ≠ 16) (i j : Nat) : gs_cl σ A' k i j = gs_cl σ A k i j := by
  unfold gs_cl
  split
  · simp only [hA 15 (by decide)]
  · simp only [hA 13 (by decide), hA 14 (by decide)]
  · exact absurd rfl h2
  · rfl
  · exact absurd rfl h4
  · simp only [hA 0 (by decide), hA 7 (by decide), hA 8 (by decide), hA 9 (by decide), hA 10 (by decide), hA 11 (by decide), hA 12 (by decide)]
  · simp only [hA 21 (by decide), hA 22 (by decide), hA 23 (by decide), hA 25 (by decide), hA 26 (by decide), hA 27 (by decide), hA 28 (by decide), hA 29 (by decide), hA 30 (by decide), hA 31 (by decide), hA 32 (by decide), hA 33 (by decide), hA 34 (by decide), hA 35 (by decide), hA 36 (by decide), hA 37 (by decide), hA 38 (by decide), hA 39 (by decide), hA 40 (by decide), hA 41 (by decide), hA 42 (by decide), hA 43 (by decide), hA 44 (by decide), hA 46 (by decide), hA 47 (by decide), hA 48 (by decide), hA 49 (by decide), hA 50 (by decide), hA 51 (by decide), hA 52 (by decide)]
  · simp only [hA 1 (by decide)]
  · rfl
  · rfl
  · simp only [hA 3 (by decide)]
  · rfl
  · rfl
  · exact absurd rfl h13
  · exact absurd rfl h14
  · rfl
  · exact absurd rfl h16
  · rfl
  · rfl
  · rfl
  · rfl
  · rfl
  · rfl
  · rfl
  · rfl
  · rfl
  · rfl
  · rfl
  · rfl
  · rfl
  · rfl
  · rfl
  · rfl
  · rfl
  · rfl
  · rfl
  · rfl
  · rfl
  · rfl
  · rfl
  · rfl
  · rfl
  · rfl
  · rfl
  · rfl
  · rfl
  · rfl
  · rfl
def sc_no (σ : gs_T) (q cl : Nat) (k : Int32) (u v : Nat) (c t : Int32) (b : Int64) : gs_T := gs_l (gs_i (gs_i (gs_i (gs_i (gs_i (gs_n (gs_n (gs_n (gs_n σ 11 q 0 1) 12 q 0 cl) 13 q 0 u) 14 q 0 v) 0 q 0 k) 1 q 0 c) 2 q 0 t) 3 q 0 0) 4 q 0 0) q b
theorem gs_lv11 {σ : gs_T} {i j v k' i' j' : Nat} (hk : k' ≠ 3) (h : gs_lv (gs_n σ 11 i j v) k' i' j') : gs_lv σ k' i' j' := by
  have e1 : gs_u σ.1 11 i j v 6 = σ.1 6 := gs_u_ne (by decide)
  have e3 : gs_u σ.1 11 i j v 10 = σ.1 10 := gs_u_ne (by decide)
  have e4 : gs_u σ.1 11 i j v 15 = σ.1 15 := gs_u_ne (by decide)
  have e5 : gs_u σ.1 11 i j v 31 = σ.1 31 := gs_u_ne (by decide)
  have e6 : gs_u σ.1 11 i j v 32 = σ.1 32 := gs_u_ne (by decide)
  unfold gs_lv at h ⊢
  unfold gs_n at h
  simp only [e1, e3, e4, e5, e6] at h
  split at h
  all_goals first | exact h | exact absurd rfl hk
theorem sc_no_lv {σ : gs_T} {q cl u v : Nat} {k c t : Int32} {b : Int64} {k' i' j' : Nat} (hk : k' ≠ 3) (h : gs_lv (sc_no σ q cl k u v c t b) k' i' j') : gs_lv σ k' i' j' := by
  have h : gs_lv (gs_n (gs_n (gs_n (gs_n σ 11 q 0 1) 12 q 0 cl) 13 q 0 u) 14 q 0 v) k' i' j' := h
  have h := gs_lvN (by decide) _ _ _ h
  have h := gs_lvN (by decide) _ _ _ h
  have h := gs_lvN (by decide) _ _ _ h
  exact gs_lv11 hk h
theorem sc_no_cl {σ : gs_T} {A : gs_A} {q cl u v : Nat} {k c t : Int32} {b : Int64} {k' i' j' : Nat} (h3 : k' ≠ 3) (h10 : k' ≠ 10) : gs_cl (sc_no σ q cl k u v c t b) A k' i' j' = gs_cl σ A k' i' j' := by
  unfold sc_no
  rw [gs_neL h3, gs_neI (show gs_wi 4 ≠ k' from fun e => h3 e.symm), gs_neI (show gs_wi 3 ≠ k' from fun e => h3 e.symm), gs_neI (show gs_wi 2 ≠ k' from fun e => h3 e.symm), gs_neI (show gs_wi 1 ≠ k' from fun e => h3 e.symm), gs_neI (show gs_wi 0 ≠ k' from fun e => h3 e.symm), gs_neN (show gs_wn 14 ≠ k' from fun e => h3 e.symm), gs_neN (show gs_wn 13 ≠ k' from fun e => h3 e.symm), gs_neN (show gs_wn 12 ≠ k' from fun e => h3 e.symm), gs_neN (show gs_wn 11 ≠ k' from fun e => h10 e.symm)]
theorem sc_no_11 {σ : gs_T} {q cl u v : Nat} {k c t : Int32} {b : Int64} (y : Nat) : (sc_no σ q cl k u v c t b).1 11 y 0 = if y = q then 1 else σ.1 11 y 0 := by
  simp [sc_no, gs_l, gs_i, gs_n, gs_u]
theorem sc_no_ad {σ : gs_T} {A : gs_A} {q cl u v : Nat} {k c t : Int32} {b : Int64} {k' i' j' : Nat} : gs_ad (sc_no σ q cl k u v c t b) A k' i' j' = gs_ad σ A k' i' j' := by
  unfold gs_ad
  split <;> rfl
theorem gs_adA {σ : gs_T} {A A' : gs_A} {k i j : Nat} (h : A' k i j = A k i j) : gs_ad σ A' k i j = gs_ad σ A k i j := by
  unfold gs_ad
  split
  · rfl
  · rfl
  · exact h
theorem gs_R.adO {h : gx_H} {σ : gs_T} {A : gs_A} (R : gs_R h σ A) {q a cl u v : Nat} {k c t : Int32} {b : Int64} (ha : a < h.1) (hf : gs_fr σ A a) (hnp : ∀ g, ¬ σ.1 6 g q = 1) (hc : h.2.2 a = some (gx_ob 3 [.int (nI q), .int (nI cl), .int k, .int (nI u), .int (nI v), .int c, .int t, .long b, .int 0, .int 0])) : gs_R (gx_set h (A 10 0 0) (gx_ar 4 40 (va_up (fun y => if σ.1 11 y 0 = 1 then some (A 3 y 0) else none) q (some a)))) (sc_no σ q cl k u v c t b) (gs_u A 3 q 0 a) := by
  have l10 : gs_lv σ 10 0 0 := ⟨rfl, rfl⟩
  have hA : ∀ x, x ≠ 3 → gs_u A 3 q 0 a x = A x := fun x hx => gs_u_ne hx
  have hne : a ≠ A 10 0 0 := fun e => hf 10 0 0 l10 e.symm
  have A3 : ∀ y, gs_u A 3 q 0 a 3 y 0 = if y = q then a else A 3 y 0 := fun y => by rw [gs_u_at]; simp
  have l3 : ∀ i' j', gs_lv (sc_no σ q cl k u v c t b) 3 i' j' → j' = 0 ∧ (i' = q ∨ (i' ≠ q ∧ gs_lv σ 3 i' 0)) := by
    intro i' j' hl
    obtain ⟨hl1, rfl⟩ := hl
    rw [sc_no_11] at hl1
    by_cases hi : i' = q
    · exact ⟨rfl, Or.inl hi⟩
    · rw [if_neg hi] at hl1
      exact ⟨rfl, Or.inr ⟨hi, hl1, rfl⟩⟩
  refine ⟨fun k' i' j' hl => ?_, ⟨R.2.1.1, R.2.1.2⟩, fun k1 i1 j1 k2 i2 j2 g1 g2 l1 l2 he => ?_⟩
  · rw [sc_no_ad]
    by_cases h3 : k' = 3
    · subst h3
      obtain ⟨rfl, hi⟩ := l3 i' j' hl
      show gs_u A 3 q 0 a 3 i' 0 < h.1 ∧ (gx_set h _ _).2.2 (gs_u A 3 q 0 a 3 i' 0) = _
      rcases hi with rfl | ⟨hi, hl'⟩
      · rw [A3, if_pos rfl]
        refine ⟨ha, ?_⟩
        rw [gx_set_ne _ _ hne, hc]
        simp [gs_cl, sc_no, gs_l, gs_i, gs_n, gs_u, va_up]
      · rw [A3, if_neg hi]
        have h9 := R.1 3 i' 0 hl'
        refine ⟨h9.1, ?_⟩
        rw [gx_set_ne _ _ (show A 3 i' 0 ≠ A 10 0 0 from R.ne (k := 10) rfl l10 hl' (fun e => by have := e.1; cases this)), show h.2.2 (A 3 i' 0) = some (gs_cl σ A 3 i' 0) from h9.2]
        simp [gs_cl, sc_no, gs_l, gs_i, gs_n, gs_u, va_up, hi]
    · have hl' := sc_no_lv h3 hl
      rw [gs_adA (A := A) (show gs_u A 3 q 0 a k' i' j' = A k' i' j' from by rw [hA k' h3])]
      have h9 := R.1 k' i' j' hl'
      refine ⟨h9.1, ?_⟩
      by_cases h10 : k' = 10
      · subst h10
        obtain ⟨rfl, rfl⟩ := hl'
        show (gx_set h (A 10 0 0) _).2.2 (A 10 0 0) = _
        rw [gx_set_at]
        congr 7
        funext y
        show _ = if (sc_no σ q cl k u v c t b).1 11 y 0 = 1 then some (gs_u A 3 q 0 a 3 y 0) else none
        rw [sc_no_11, A3]
        by_cases hy : y = q <;> simp [hy, va_up]
      · rw [gx_set_ne _ _ (R.ne (k := 10) rfl l10 hl' (fun e => h10 e.1)), h9.2, sc_no_cl h3 h10]
        by_cases h4 : k' = 4
        · subst h4
          have hj : j' ≠ q := fun e => hnp i' (by rw [← e]; exact hl')
          have e3 : gs_u A 3 q 0 a 3 j' 0 = A 3 j' 0 := by rw [A3, if_neg hj]
          simp only [gs_cl, e3, hA 4 (by decide)]
        · rw [gs_clA3 hA h4 h10]
  · -- apart
    by_cases h31 : k1 = 3
    · subst h31
      obtain ⟨rfl, hi1⟩ := l3 i1 j1 l1
      by_cases h32 : k2 = 3
      · subst h32
        obtain ⟨rfl, hi2⟩ := l3 i2 j2 l2
        rw [A3, A3] at he
        rcases hi1 with rfl | ⟨n1, m1⟩ <;> rcases hi2 with rfl | ⟨n2, m2⟩
        · exact ⟨rfl, rfl, rfl⟩
        · rw [if_pos rfl, if_neg n2] at he
          exact absurd he.symm (hf 3 i2 0 m2)
        · rw [if_neg n1, if_pos rfl] at he
          exact absurd he (hf 3 i1 0 m1)
        · rw [if_neg n1, if_neg n2] at he
          exact R.2.2 3 i1 0 3 i2 0 rfl rfl m1 m2 he
      · have m2 := sc_no_lv h32 l2
        rw [A3, hA k2 h32] at he
        rcases hi1 with rfl | ⟨n1, m1⟩
        · rw [if_pos rfl] at he
          have := hf k2 i2 j2 m2
          rw [gs_ad_n g2] at this
          exact absurd he.symm this
        · rw [if_neg n1] at he
          exact R.2.2 3 i1 0 k2 i2 j2 rfl g2 m1 m2 he
    · have m1 := sc_no_lv h31 l1
      by_cases h32 : k2 = 3
      · subst h32
        obtain ⟨rfl, hi2⟩ := l3 i2 j2 l2
        rw [A3, hA k1 h31] at he
        rcases hi2 with rfl | ⟨n2, m2⟩
        · rw [if_pos rfl] at he
          have := hf k1 i1 j1 m1
          rw [gs_ad_n g1] at this
          exact absurd he this
        · rw [if_neg n2] at he
          exact R.2.2 k1 i1 j1 3 i2 0 g1 rfl m1 m2 he
      · have m2 := sc_no_lv h32 l2
        rw [hA k1 h31, hA k2 h32] at he
        exact R.2.2 k1 i1 j1 k2 i2 j2 g1 g2 m1 m2 he
def sc_np (σ : gs_T) (g q : Nat) : gs_T := gs_i (gs_i (gs_i (gs_i (gs_i (gs_i (gs_i (gs_i (gs_n (gs_n σ 6 g q 1) 7 g q 0) 8 g q (-1)) 9 g q (-1)) 10 g q (-1)) 11 g q 0) 12 g q 0) 13 g q 0) 14 g q 0) 15 g q 0
theorem gs_lv6 {σ : gs_T} {i j v k' i' j' : Nat} (hk : k' ≠ 4) (h : gs_lv (gs_n σ 6 i j v) k' i' j') : gs_lv σ k' i' j' := by
  have e1 : gs_u σ.1 6 i j v 11 = σ.1 11 := gs_u_ne (by decide)
  have e3 : gs_u σ.1 6 i j v 10 = σ.1 10 := gs_u_ne (by decide)
  have e4 : gs_u σ.1 6 i j v 15 = σ.1 15 := gs_u_ne (by decide)
  have e5 : gs_u σ.1 6 i j v 31 = σ.1 31 := gs_u_ne (by decide)
  have e6 : gs_u σ.1 6 i j v 32 = σ.1 32 := gs_u_ne (by decide)
  unfold gs_lv at h ⊢
  unfold gs_n at h
  simp only [e1, e3, e4, e5, e6] at h
  split at h
  all_goals first | exact h | exact absurd rfl hk
theorem sc_np_lv {σ : gs_T} {g q k' i' j' : Nat} (hk : k' ≠ 4) (h : gs_lv (sc_np σ g q) k' i' j') : gs_lv σ k' i' j' := by
  have h : gs_lv (gs_n (gs_n σ 6 g q 1) 7 g q 0) k' i' j' := h
  have h := gs_lvN (by decide) _ _ _ h
  exact gs_lv6 hk h
theorem sc_np_cl {σ : gs_T} {A : gs_A} {g q k' i' j' : Nat} (h4 : k' ≠ 4) (h13 : k' ≠ 13) : gs_cl (sc_np σ g q) A k' i' j' = gs_cl σ A k' i' j' := by
  unfold sc_np
  rw [gs_neI (show gs_wi 15 ≠ k' from fun e => h4 e.symm), gs_neI (show gs_wi 14 ≠ k' from fun e => h4 e.symm), gs_neI (show gs_wi 13 ≠ k' from fun e => h4 e.symm), gs_neI (show gs_wi 12 ≠ k' from fun e => h4 e.symm), gs_neI (show gs_wi 11 ≠ k' from fun e => h4 e.symm), gs_neI (show gs_wi 10 ≠ k' from fun e => h4 e.symm), gs_neI (show gs_wi 9 ≠ k' from fun e => h4 e.symm), gs_neI (show gs_wi 8 ≠ k' from fun e => h4 e.symm), gs_neN (show gs_wn 7 ≠ k' from fun e => h4 e.symm), gs_neN (show gs_wn 6 ≠ k' from fun e => h13 e.symm)]
theorem sc_np_6 {σ : gs_T} {g q : Nat} (x y : Nat) : (sc_np σ g q).1 6 x y = if x = g ∧ y = q then 1 else σ.1 6 x y := by
  show gs_u (gs_u σ.1 6 g q 1) 7 g q 0 6 x y = _
  rw [gs_u_ne (by decide)]
  exact gs_u_at
theorem sc_np_ad {σ : gs_T} {A : gs_A} {g q k' i' j' : Nat} : gs_ad (sc_np σ g q) A k' i' j' = gs_ad σ A k' i' j' := by
  unfold gs_ad
  split <;> rfl
theorem gs_R.adP {h : gx_H} {σ : gs_T} {A : gs_A} (R : gs_R h σ A) (W : gw_W σ) (hh : ¬ σ.1 32 0 0 = 1) {g q a : Nat} (ha : a < h.1) (hf : gs_fr σ A a) (hg : σ.1 15 g 0 = 1) (hnl : ¬ σ.1 6 g q = 1) (hc : h.2.2 a = some (gx_ob 4 [.ref (A 3 q 0), .int (nI g), .null, .int (-1), .int (-1), .int (-1), .int 0, .int 0, .int 0, .int 0, .int 0])) : gs_R (gx_set h (A 13 g 0) (gx_ar 5 40 (va_up (fun y => if σ.1 6 g y = 1 then some (A 4 g y) else none) q (some a)))) (sc_np σ g q) (gs_u A 4 g q a) := by
  have l13 : gs_lv σ 13 g 0 := ⟨hg, rfl⟩
  have hA : ∀ x, x ≠ 4 → gs_u A 4 g q a x = A x := fun x hx => gs_u_ne hx
  have hne : a ≠ A 13 g 0 := fun e => hf 13 g 0 l13 e.symm
  have A4 : ∀ x y, gs_u A 4 g q a 4 x y = if x = g ∧ y = q then a else A 4 x y := fun x y => gs_u_at
  have A4l : ∀ x y, σ.1 6 x y = 1 → gs_u A 4 g q a 4 x y = A 4 x y := fun x y hl => by
    rw [A4, if_neg (fun e => hnl (by rw [← e.1, ← e.2]; exact hl))]
  have l4 : ∀ i' j', gs_lv (sc_np σ g q) 4 i' j' → (i' = g ∧ j' = q) ∨ (¬ (i' = g ∧ j' = q) ∧ gs_lv σ 4 i' j') := by
    intro i' j' hl
    have hl1 : (sc_np σ g q).1 6 i' j' = 1 := hl
    rw [sc_np_6] at hl1
    by_cases hi : i' = g ∧ j' = q
    · exact Or.inl hi
    · rw [if_neg hi] at hl1
      exact Or.inr ⟨hi, hl1⟩
  refine ⟨fun k' i' j' hl => ?_, ⟨R.2.1.1, R.2.1.2⟩, fun k1 i1 j1 k2 i2 j2 g1 g2 l1 l2 he => ?_⟩
  · rw [sc_np_ad]
    by_cases h4 : k' = 4
    · subst h4
      show gs_u A 4 g q a 4 i' j' < h.1 ∧ (gx_set h _ _).2.2 (gs_u A 4 g q a 4 i' j') = _
      rcases l4 i' j' hl with ⟨rfl, rfl⟩ | ⟨hi, hl'⟩
      · rw [A4, if_pos ⟨rfl, rfl⟩]
        refine ⟨ha, ?_⟩
        rw [gx_set_ne _ _ hne, hc]
        simp [gs_cl, sc_np, gs_i, gs_n, gs_u, gs_op, va_rf, hA 3 (by decide)]
      · rw [A4, if_neg hi]
        have h9 := R.1 4 i' j' hl'
        refine ⟨h9.1, ?_⟩
        rw [gx_set_ne _ _ (show A 4 i' j' ≠ A 13 g 0 from R.ne (k := 13) rfl l13 hl' (fun e => by have := e.1; cases this)), show h.2.2 (A 4 i' j') = some (gs_cl σ A 4 i' j') from h9.2]
        have e7 : (sc_np σ g q).1 7 i' j' = σ.1 7 i' j' := by
          show gs_u (gs_u σ.1 6 g q 1) 7 g q 0 7 i' j' = _
          rw [gs_u_at, if_neg hi, gs_u_ne (by decide)]
        have eI : ∀ t, (sc_np σ g q).2.1 t i' j' = σ.2.1 t i' j' := by
          intro t
          simp only [sc_np, gs_i, gs_n, gs_u]
          simp [hi]
        have eo : gs_op (σ.1 7 i' j') (fun x => gs_u A 4 g q a 4 x j') = gs_op (σ.1 7 i' j') (fun x => A 4 x j') := by
          rcases gs_zs (σ.1 7 i' j') with h0 | ⟨x, hx⟩
          · rw [h0]; rfl
          · rw [hx]
            show some (gs_u A 4 g q a 4 x j') = some (A 4 x j')
            rw [A4l x j' (gw_ot W hl' hx)]
        simp only [gs_cl, e7, eI, eo, hA 3 (by decide)]
    · have hl' := sc_np_lv h4 hl
      rw [gs_adA (A := A) (show gs_u A 4 g q a k' i' j' = A k' i' j' from by rw [hA k' h4])]
      have h9 := R.1 k' i' j' hl'
      refine ⟨h9.1, ?_⟩
      by_cases h13 : k' = 13
      · subst h13
        obtain ⟨hl1, rfl⟩ := hl'
        have e9 : ∀ y, (if (sc_np σ g q).1 6 i' y = 1 then some (gs_u A 4 g q a 4 i' y) else none) = if i' = g ∧ y = q then some a else if σ.1 6 i' y = 1 then some (A 4 i' y) else none := by
          intro y
          rw [sc_np_6, A4]
          by_cases hy : i' = g ∧ y = q <;> simp [hy]
        by_cases hi : i' = g
        · subst hi
          show (gx_set h (A 13 i' 0) _).2.2 (A 13 i' 0) = _
          rw [gx_set_at]
          congr 7
          funext y
          show _ = if (sc_np σ i' q).1 6 i' y = 1 then some (gs_u A 4 i' q a 4 i' y) else none
          rw [e9]
          by_cases hy : y = q <;> simp [hy, va_up]
        · rw [show gs_ad σ A 13 i' 0 = A 13 i' 0 from rfl, gx_set_ne _ _ (show A 13 i' 0 ≠ A 13 g 0 from R.ne (k := 13) rfl l13 (k' := 13) ⟨hl1, rfl⟩ (fun e => hi e.2.1)), show h.2.2 (A 13 i' 0) = some (gs_cl σ A 13 i' 0) from h9.2]
          show some (gx_ar 5 40 (fun y => if σ.1 6 i' y = 1 then some (A 4 i' y) else none)) = some (gx_ar 5 40 (fun y => if (sc_np σ g q).1 6 i' y = 1 then some (gs_u A 4 g q a 4 i' y) else none))
          rw [show (fun y => if (sc_np σ g q).1 6 i' y = 1 then some (gs_u A 4 g q a 4 i' y) else none) = (fun y => if σ.1 6 i' y = 1 then some (A 4 i' y) else none) from funext (fun y => by rw [e9, if_neg (fun e => hi e.1)])]
      · rw [gx_set_ne _ _ (R.ne (k := 13) rfl l13 hl' (fun e => h13 e.1)), h9.2, sc_np_cl h4 h13]
        by_cases h2 : k' = 2
        · subst h2
          simp only [gs_cl, A4l _ _ (gw_mp W hl'.1)]
        · by_cases h16 : k' = 16
          · subst h16
            exact absurd hl'.1 hh
          · by_cases h14 : k' = 14
            · subst h14
              show some (gx_ar 5 40 (fun y => gs_op (σ.1 5 i' y) (fun x => A 4 i' x))) = some (gx_ar 5 40 (fun y => gs_op (σ.1 5 i' y) (fun x => gs_u A 4 g q a 4 i' x)))
              rw [show (fun y => gs_op (σ.1 5 i' y) (fun x => gs_u A 4 g q a 4 i' x)) = (fun y => gs_op (σ.1 5 i' y) (fun x => A 4 i' x)) from funext (fun y => by
                rcases gs_zs (σ.1 5 i' y) with h0 | ⟨x, hx⟩
                · rw [h0]; rfl
                · rw [hx]
                  show some (gs_u A 4 g q a 4 i' x) = some (A 4 i' x)
                  rw [A4l i' x (gw_tp W hx)])]
            · rw [gs_clA4 hA h2 h4 h13 h14 h16]
  · have key : ∀ kk ii jj, gs_im kk = false → gs_lv (sc_np σ g q) kk ii jj → (kk = 4 ∧ ii = g ∧ jj = q ∧ gs_u A 4 g q a kk ii jj = a) ∨ (gs_lv σ kk ii jj ∧ gs_u A 4 g q a kk ii jj = A kk ii jj) := by
      intro kk ii jj gg ll
      by_cases h4 : kk = 4
      · subst h4
        rcases l4 ii jj ll with ⟨rfl, rfl⟩ | ⟨hi, hl'⟩
        · exact Or.inl ⟨rfl, rfl, rfl, by rw [A4, if_pos ⟨rfl, rfl⟩]⟩
        · exact Or.inr ⟨hl', by rw [A4, if_neg hi]⟩
      · exact Or.inr ⟨sc_np_lv h4 ll, by rw [hA kk h4]⟩
    rcases key k1 i1 j1 g1 l1 with ⟨a1, a2, a3, a4⟩ | ⟨m1, e1⟩ <;> rcases key k2 i2 j2 g2 l2 with ⟨b1, b2, b3, b4⟩ | ⟨m2, e2⟩
    · exact ⟨by rw [a1, b1], by rw [a2, b2], by rw [a3, b3]⟩
    · rw [a4, e2] at he
      have := hf k2 i2 j2 m2
      rw [gs_ad_n g2] at this
      exact absurd he.symm this
    · rw [e1, b4] at he
      have := hf k1 i1 j1 m1
      rw [gs_ad_n g1] at this
      exact absurd he this
    · rw [e1, e2] at he
      exact R.2.2 k1 i1 j1 k2 i2 j2 g1 g2 m1 m2 he
