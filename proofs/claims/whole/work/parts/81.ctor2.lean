/-! new groups -/
set_option maxHeartbeats 4000000 in
theorem gs_clA1 {σ : gs_T} {A A' : gs_A} (hA : ∀ t, t ≠ 1 ∧ t ≠ 13 ∧ t ≠ 14 → A' t = A t) {k : Nat} (h1 : k ≠ 1) (h7 : k ≠ 7) (i j : Nat) : gs_cl σ A' k i j = gs_cl σ A k i j := by
  unfold gs_cl
  split
  · simp only [hA 15 (by decide)]
  · exact absurd rfl h1
  · simp only [hA 4 (by decide)]
  · rfl
  · simp only [hA 3 (by decide), hA 4 (by decide)]
  · simp only [hA 0 (by decide), hA 7 (by decide), hA 8 (by decide), hA 9 (by decide), hA 10 (by decide), hA 11 (by decide), hA 12 (by decide)]
  · simp only [hA 21 (by decide), hA 22 (by decide), hA 23 (by decide), hA 25 (by decide), hA 26 (by decide), hA 27 (by decide), hA 28 (by decide), hA 29 (by decide), hA 30 (by decide), hA 31 (by decide), hA 32 (by decide), hA 33 (by decide), hA 34 (by decide), hA 35 (by decide), hA 36 (by decide), hA 37 (by decide), hA 38 (by decide), hA 39 (by decide), hA 40 (by decide), hA 41 (by decide), hA 42 (by decide), hA 43 (by decide), hA 44 (by decide), hA 46 (by decide), hA 47 (by decide), hA 48 (by decide), hA 49 (by decide), hA 50 (by decide), hA 51 (by decide), hA 52 (by decide)]
  · exact absurd rfl h7
  · rfl
  · rfl
  · simp only [hA 3 (by decide)]
  · rfl
  · rfl
  · simp only [hA 4 (by decide)]
  · simp only [hA 4 (by decide)]
  · rfl
  · simp only [hA 4 (by decide)]
  · rfl
  · rfl
  · rfl
  · rfl
  · rfl
  · rfl
  · rfl
  · rfl
  · rfl
  · rfl
  · rfl
  · rfl
  · rfl
  · rfl
  · rfl
  · rfl
  · rfl
  · rfl
  · rfl
  · rfl
  · rfl
  · rfl
  · rfl
  · rfl
  · rfl
  · rfl
  · rfl
  · rfl
  · rfl
  · rfl
  · rfl
def sc_ng (σ : gs_T) (g : Nat) : gs_T := gs_n (sc_nw (sc_nw (sc_nw σ 7) 40) 40) 15 g 0 1
theorem gs_lv15 {σ : gs_T} {i j v k' i' j' : Nat} (h1 : k' ≠ 1) (h13 : k' ≠ 13) (h14 : k' ≠ 14) (h : gs_lv (gs_n σ 15 i j v) k' i' j') : gs_lv σ k' i' j' := by
  have e1 : gs_u σ.1 15 i j v 6 = σ.1 6 := gs_u_ne (by decide)
  have e3 : gs_u σ.1 15 i j v 10 = σ.1 10 := gs_u_ne (by decide)
  have e4 : gs_u σ.1 15 i j v 11 = σ.1 11 := gs_u_ne (by decide)
  have e5 : gs_u σ.1 15 i j v 31 = σ.1 31 := gs_u_ne (by decide)
  have e6 : gs_u σ.1 15 i j v 32 = σ.1 32 := gs_u_ne (by decide)
  unfold gs_lv at h ⊢
  unfold gs_n at h
  simp only [e1, e3, e4, e5, e6] at h
  split at h
  all_goals first | exact h | exact absurd rfl h1 | exact absurd rfl h13 | exact absurd rfl h14
theorem sc_ng_15 {σ : gs_T} {g : Nat} (y : Nat) : (sc_ng σ g).1 15 y 0 = if y = g then 1 else σ.1 15 y 0 := by
  simp [sc_ng, sc_nw, gs_n, gs_u]
theorem sc_ng_lv {σ : gs_T} {g k' i' j' : Nat} (h : gs_lv (sc_ng σ g) k' i' j') : ((k' = 1 ∨ k' = 13 ∨ k' = 14) ∧ i' = g ∧ j' = 0) ∨ gs_lv σ k' i' j' := by
  by_cases hk : k' = 1 ∨ k' = 13 ∨ k' = 14
  · have h2 : (sc_ng σ g).1 15 i' 0 = 1 ∧ j' = 0 := by rcases hk with rfl | rfl | rfl <;> exact h
    rw [sc_ng_15] at h2
    by_cases hi : i' = g
    · exact Or.inl ⟨hk, hi, h2.2⟩
    · rw [if_neg hi] at h2
      right
      rcases hk with rfl | rfl | rfl <;> exact h2
  · right
    exact sc_nw_lv (sc_nw_lv (sc_nw_lv (gs_lv15 (fun e => hk (Or.inl e)) (fun e => hk (Or.inr (Or.inl e))) (fun e => hk (Or.inr (Or.inr e))) h)))
theorem sc_nw_cl {σ : gs_T} {A : gs_A} {n k i j : Nat} : gs_cl (sc_nw σ n) A k i j = gs_cl σ A k i j := by
  by_cases hk : k = 99
  · subst hk; rfl
  · unfold sc_nw
    rw [gs_neN (show gs_wn 21 ≠ k from fun e => hk e.symm), gs_neN (show gs_wn 20 ≠ k from fun e => hk e.symm)]
theorem sc_ng_cl {σ : gs_T} {A : gs_A} {g k' i' j' : Nat} (h7 : k' ≠ 7) : gs_cl (sc_ng σ g) A k' i' j' = gs_cl σ A k' i' j' := by
  unfold sc_ng
  rw [gs_neN (show gs_wn 15 ≠ k' from fun e => h7 e.symm), sc_nw_cl, sc_nw_cl, sc_nw_cl]
theorem sc_ng_ad {σ : gs_T} {A : gs_A} {g k' i' j' : Nat} : gs_ad (sc_ng σ g) A k' i' j' = gs_ad σ A k' i' j' := by
  unfold gs_ad
  split <;> rfl
def gs_aG (A : gs_A) (g a : Nat) : gs_A := gs_u (gs_u (gs_u A 1 g 0 a) 13 g 0 (a + 1)) 14 g 0 (a + 2)
theorem gs_R.adG {h h' : gx_H} {σ : gs_T} {A : gs_A} (R : gs_R h σ A) {g : Nat} (hf : ¬ σ.1 15 g 0 = 1) (h5 : ∀ q, σ.1 5 g q = 0) (h6 : ∀ q, ¬ σ.1 6 g q = 1) (hz : σ.2.1 6 g 0 = 1 ∧ σ.2.1 7 g 0 = 0 ∧ σ.1 3 g 0 = 0 ∧ σ.1 4 g 0 = 0) (hs : h'.1 = h.1 + 3 ∧ h'.2.1 = h.2.1 + 87) (hc : h'.2.2 h.1 = some (gx_ob 1 [.int (nI g), .int 1, .int 0, .ref (h.1 + 1), .ref (h.1 + 2), .int 0, .int 0])) (hp : h'.2.2 (h.1 + 1) = some (gx_ar 5 40 (fun _ => none)) ∧ h'.2.2 (h.1 + 2) = some (gx_ar 5 40 (fun _ => none))) (ho : ∀ q, q < h.1 → h'.2.2 q = h.2.2 q) : gs_R (gx_set h' (A 7 0 0) (gx_ar 2 (σ.1 0 0 0) (va_up (fun y => if σ.1 15 y 0 = 1 then some (A 1 y 0) else none) g (some h.1)))) (sc_ng σ g) (gs_aG A g h.1) := by
  have l7 : gs_lv σ 7 0 0 := ⟨rfl, rfl⟩
  have b7 : A 7 0 0 < h.1 := (R.1 7 0 0 l7).1
  have hA : ∀ x, x ≠ 1 ∧ x ≠ 13 ∧ x ≠ 14 → gs_aG A g h.1 x = A x := fun x hx => (gs_u_ne hx.2.2).trans ((gs_u_ne hx.2.1).trans (gs_u_ne hx.1))
  have a1 : ∀ y, gs_aG A g h.1 1 y 0 = if y = g then h.1 else A 1 y 0 := fun y => by simp [gs_aG, gs_u]
  have a13 : ∀ y, gs_aG A g h.1 13 y 0 = if y = g then h.1 + 1 else A 13 y 0 := fun y => by simp [gs_aG, gs_u]
  have a14 : ∀ y, gs_aG A g h.1 14 y 0 = if y = g then h.1 + 2 else A 14 y 0 := fun y => by simp [gs_aG, gs_u]
  have hold : ∀ k i j, gs_lv σ k i j → gs_aG A g h.1 k i j = A k i j := by
    intro k i j hl
    by_cases hk : k = 1 ∨ k = 13 ∨ k = 14
    · have hl2 : σ.1 15 i 0 = 1 ∧ j = 0 := by rcases hk with rfl | rfl | rfl <;> exact hl
      have hi : i ≠ g := fun e => hf (by rw [← e]; exact hl2.1)
      obtain ⟨_, rfl⟩ := hl2
      rcases hk with rfl | rfl | rfl
      · rw [a1, if_neg hi]
      · rw [a13, if_neg hi]
      · rw [a14, if_neg hi]
    · rw [hA k ⟨fun e => hk (Or.inl e), fun e => hk (Or.inr (Or.inl e)), fun e => hk (Or.inr (Or.inr e))⟩]
  refine ⟨fun k i j hl => ?_, ⟨?_, ?_⟩, fun k1 i1 j1 k2 i2 j2 g1 g2 l1 l2 he => ?_⟩
  · rw [sc_ng_ad]
    rcases sc_ng_lv hl with ⟨hk, rfl, rfl⟩ | hl'
    · rcases hk with rfl | rfl | rfl
      · show gs_aG A i h.1 1 i 0 < h'.1 ∧ (gx_set h' _ _).2.2 (gs_aG A i h.1 1 i 0) = _
        rw [a1, if_pos rfl, gx_set_ne _ _ (by omega), hc]
        refine ⟨by omega, ?_⟩
        have e3 : (sc_ng σ i).1 3 i 0 = 0 := (by simp [sc_ng, sc_nw, gs_n, gs_u] : (sc_ng σ i).1 3 i 0 = σ.1 3 i 0).trans hz.2.2.1
        have e4 : (sc_ng σ i).1 4 i 0 = 0 := (by simp [sc_ng, sc_nw, gs_n, gs_u] : (sc_ng σ i).1 4 i 0 = σ.1 4 i 0).trans hz.2.2.2
        have e6 : (sc_ng σ i).2.1 6 i 0 = 1 := hz.1
        have e7 : (sc_ng σ i).2.1 7 i 0 = 0 := hz.2.1
        simp only [gs_cl, a13, a14, if_pos, e3, e4, e6, e7]
        rfl
      · show gs_aG A i h.1 13 i 0 < h'.1 ∧ (gx_set h' _ _).2.2 (gs_aG A i h.1 13 i 0) = _
        rw [a13, if_pos rfl, gx_set_ne _ _ (by omega), hp.1]
        refine ⟨by omega, ?_⟩
        rw [sc_ng_cl (by decide)]
        simp only [gs_cl, if_neg (h6 _)]
      · show gs_aG A i h.1 14 i 0 < h'.1 ∧ (gx_set h' _ _).2.2 (gs_aG A i h.1 14 i 0) = _
        rw [a14, if_pos rfl, gx_set_ne _ _ (by omega), hp.2]
        refine ⟨by omega, ?_⟩
        rw [sc_ng_cl (by decide)]
        simp only [gs_cl, h5, gs_op]
    · rw [gs_adA (hold k i j hl')]
      have h9 := R.1 k i j hl'
      refine ⟨by show _ < h'.1; omega, ?_⟩
      by_cases h7 : k = 7
      · subst h7
        obtain ⟨rfl, rfl⟩ := hl'
        show (gx_set h' (A 7 0 0) _).2.2 (A 7 0 0) = _
        rw [gx_set_at]
        show some (gx_ar 2 (σ.1 0 0 0) _) = some (gx_ar 2 ((sc_ng σ g).1 0 0 0) (fun y => if (sc_ng σ g).1 15 y 0 = 1 then some (gs_aG A g h.1 1 y 0) else none))
        rw [show (sc_ng σ g).1 0 0 0 = σ.1 0 0 0 from by simp [sc_ng, sc_nw, gs_n, gs_u]]
        congr 8
        funext y
        rw [sc_ng_15, a1]
        by_cases hy : y = g <;> simp [hy, va_up]
      · rw [gx_set_ne _ _ (R.ne (k := 7) rfl l7 hl' (fun e => h7 e.1)), ho _ h9.1, h9.2, sc_ng_cl h7]
        by_cases h1 : k = 1
        · subst h1
          obtain ⟨hl1, rfl⟩ := hl'
          have hi : i ≠ g := fun e => hf (by rw [← e]; exact hl1)
          simp only [gs_cl, a13, a14, if_neg hi]
        · rw [gs_clA1 hA h1 h7]
  · show h'.1 = _
    rw [hs.1, R.2.1.1]
    simp [sc_ng, sc_nw, gs_n, gs_u]
  · show h'.2.1 = _
    rw [hs.2, R.2.1.2]
    simp [sc_ng, sc_nw, gs_n, gs_u]
  · rcases sc_ng_lv l1 with ⟨q1, rfl, rfl⟩ | m1 <;> rcases sc_ng_lv l2 with ⟨q2, r1, r2⟩ | m2
    · rw [r1, r2] at he ⊢
      rcases q1 with rfl | rfl | rfl <;> rcases q2 with rfl | rfl | rfl <;> simp only [a1, a13, a14, if_pos] at he <;> first | exact ⟨rfl, rfl, rfl⟩ | exact absurd he (by omega)
    · have b2 := (R.1 k2 i2 j2 m2).1
      rw [gs_ad_n g2] at b2
      rw [hold k2 i2 j2 m2] at he
      rcases q1 with rfl | rfl | rfl <;> simp only [a1, a13, a14, if_pos] at he <;> exact absurd he (by omega)
    · have b1 := (R.1 k1 i1 j1 m1).1
      rw [gs_ad_n g1] at b1
      rw [hold k1 i1 j1 m1, r1, r2] at he
      rcases q2 with rfl | rfl | rfl <;> simp only [a1, a13, a14, if_pos] at he <;> exact absurd he (by omega)
    · rw [hold k1 i1 j1 m1, hold k2 i2 j2 m2] at he
      exact R.2.2 k1 i1 j1 k2 i2 j2 g1 g2 m1 m2 he
