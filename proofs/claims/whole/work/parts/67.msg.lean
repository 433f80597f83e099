/-! messages: put into the row, moved, dropped, held in the hand -/
def sc_ad (σ : gs_T) (q a : Nat) (k f : Int32) (g o : Nat) (c : Int32) : gs_T := gs_i (gs_i (gs_i (gs_n (gs_n (gs_n (gs_n σ 10 q 0 1) 18 q 0 a) 8 q 0 g) 9 q 0 o) 16 q 0 k) 17 q 0 f) 18 q 0 c
theorem gs_lv10 {σ : gs_T} {i j v k' i' j' : Nat} (hk : k' ≠ 2) (h : gs_lv (gs_n σ 10 i j v) k' i' j') : gs_lv σ k' i' j' := by
  have e1 : gs_u σ.1 10 i j v 6 = σ.1 6 := gs_u_ne (by decide)
  have e3 : gs_u σ.1 10 i j v 11 = σ.1 11 := gs_u_ne (by decide)
  have e4 : gs_u σ.1 10 i j v 15 = σ.1 15 := gs_u_ne (by decide)
  have e5 : gs_u σ.1 10 i j v 31 = σ.1 31 := gs_u_ne (by decide)
  have e6 : gs_u σ.1 10 i j v 32 = σ.1 32 := gs_u_ne (by decide)
  unfold gs_lv at h ⊢
  unfold gs_n at h
  simp only [e1, e3, e4, e5, e6] at h
  split at h
  all_goals first | exact h | exact absurd rfl hk
theorem sc_ad_lv {σ : gs_T} {q a g o : Nat} {k f c : Int32} {k' i' j' : Nat} (hk : k' ≠ 2) (h : gs_lv (sc_ad σ q a k f g o c) k' i' j') : gs_lv σ k' i' j' := by
  have h : gs_lv (gs_n (gs_n (gs_n (gs_n σ 10 q 0 1) 18 q 0 a) 8 q 0 g) 9 q 0 o) k' i' j' := h
  have h := gs_lvN (by decide) _ _ _ h
  have h := gs_lvN (by decide) _ _ _ h
  have h := gs_lvN (by decide) _ _ _ h
  exact gs_lv10 hk h
theorem sc_ad_cl {σ : gs_T} {A : gs_A} {q a g o : Nat} {k f c : Int32} {k' i' j' : Nat} (h2 : k' ≠ 2) (h15 : k' ≠ 15) : gs_cl (sc_ad σ q a k f g o c) A k' i' j' = gs_cl σ A k' i' j' := by
  unfold sc_ad
  rw [gs_neI (show gs_wi 18 ≠ k' from fun e => h2 e.symm), gs_neI (show gs_wi 17 ≠ k' from fun e => h2 e.symm), gs_neI (show gs_wi 16 ≠ k' from fun e => h2 e.symm), gs_neN (show gs_wn 9 ≠ k' from fun e => h2 e.symm), gs_neN (show gs_wn 8 ≠ k' from fun e => h2 e.symm), gs_neN (show gs_wn 18 ≠ k' from fun e => h15 e.symm), gs_neN (show gs_wn 10 ≠ k' from fun e => h15 e.symm)]
theorem sc_ad_10 {σ : gs_T} {q a g o : Nat} {k f c : Int32} (y : Nat) : (sc_ad σ q a k f g o c).1 10 y 0 = if y = q then 1 else σ.1 10 y 0 := by
  simp [sc_ad, gs_i, gs_n, gs_u]
theorem sc_ad_18 {σ : gs_T} {q a g o : Nat} {k f c : Int32} (y : Nat) : (sc_ad σ q a k f g o c).1 18 y 0 = if y = q then a else σ.1 18 y 0 := by
  simp [sc_ad, gs_i, gs_n, gs_u]
theorem sc_ad_ad {σ : gs_T} {A : gs_A} {q a g o : Nat} {k f c : Int32} {k' i' j' : Nat} (h2 : k' ≠ 2) : gs_ad (sc_ad σ q a k f g o c) A k' i' j' = gs_ad σ A k' i' j' := by
  unfold gs_ad
  split
  · exact absurd rfl h2
  · rfl
  · rfl
theorem gs_R.adM {h : gx_H} {σ : gs_T} {A : gs_A} (R : gs_R h σ A) {q a g o : Nat} {k f c : Int32} (ha : a < h.1) (hc : h.2.2 a = some (gx_ob 2 [.int k, .int f, .ref (A 4 g o), .int c])) : gs_R (gx_set h (A 15 0 0) (gx_ar 3 240 (va_up (fun y => if σ.1 10 y 0 = 1 then some (σ.1 18 y 0) else none) q (some a)))) (sc_ad σ q a k f g o c) A := by
  have l15 : gs_lv σ 15 0 0 := ⟨rfl, rfl⟩
  have hne : a ≠ A 15 0 0 := by
    intro e
    have h9 := gs_g15 R
    rw [← e, hc] at h9
    cases h9
  refine ⟨fun k' i' j' hl => ?_, ⟨R.2.1.1, R.2.1.2⟩, fun k1 i1 j1 k2 i2 j2 g1 g2 l1 l2 => R.2.2 k1 i1 j1 k2 i2 j2 g1 g2 (sc_ad_lv (fun e => by subst e; cases g1) l1) (sc_ad_lv (fun e => by subst e; cases g2) l2)⟩
  by_cases h2 : k' = 2
  · subst h2
    obtain ⟨hl1, rfl⟩ := hl
    rw [sc_ad_10] at hl1
    show (sc_ad σ q a k f g o c).1 18 i' 0 < _ ∧ _
    have e9 : gs_ad (sc_ad σ q a k f g o c) A 2 i' 0 = (sc_ad σ q a k f g o c).1 18 i' 0 := rfl
    rw [e9, sc_ad_18]
    by_cases hi : i' = q
    · subst hi
      rw [if_pos rfl]
      refine ⟨ha, ?_⟩
      simp only [gx_set, va_up, if_neg hne]
      rw [hc]
      simp [gs_cl, sc_ad, gs_i, gs_n, gs_u]
    · rw [if_neg hi] at hl1 ⊢
      have hl2 : gs_lv σ 2 i' 0 := ⟨hl1, rfl⟩
      have h9 := R.1 2 i' 0 hl2
      refine ⟨h9.1, ?_⟩
      have h8 : σ.1 18 i' 0 ≠ A 15 0 0 := R.ne (k := 15) rfl l15 hl2 (fun e => by have := e.1; cases this)
      simp only [gx_set, va_up, if_neg h8]
      rw [show h.2.2 (σ.1 18 i' 0) = some (gs_cl σ A 2 i' 0) from h9.2]
      simp [gs_cl, sc_ad, gs_i, gs_n, gs_u, hi]
  · have hl' := sc_ad_lv h2 hl
    rw [sc_ad_ad h2]
    refine ⟨(R.1 k' i' j' hl').1, ?_⟩
    by_cases h15 : k' = 15
    · subst h15
      obtain ⟨rfl, rfl⟩ := hl'
      show (gx_set h (A 15 0 0) _).2.2 (A 15 0 0) = _
      simp only [gx_set, va_up, if_pos]
      congr 7
      funext y
      show _ = if (sc_ad σ q a k f g o c).1 10 y 0 = 1 then some ((sc_ad σ q a k f g o c).1 18 y 0) else none
      rw [sc_ad_10, sc_ad_18]
      by_cases hy : y = q <;> simp [hy, va_up]
    · rw [sc_ad_cl h2 h15]
      simp only [gx_set, va_up, if_neg (R.ne (k := 15) rfl l15 hl' (fun e => h15 e.1))]
      exact (R.1 k' i' j' hl').2
/-- the last message leaves the row -/
theorem gs_R.drM {h : gx_H} {σ : gs_T} {A : gs_A} (R : gs_R h σ A) {q : Nat} : gs_R (gx_set h (A 15 0 0) (gx_ar 3 240 (va_up (fun y => if σ.1 10 y 0 = 1 then some (σ.1 18 y 0) else none) q none))) (gs_n σ 10 q 0 0) A := by
  have l15 : gs_lv σ 15 0 0 := ⟨rfl, rfl⟩
  have hlv : ∀ k' i' j', gs_lv (gs_n σ 10 q 0 0) k' i' j' → gs_lv σ k' i' j' := by
    intro k' i' j' hl
    by_cases h2 : k' = 2
    · subst h2
      obtain ⟨hl1, rfl⟩ := hl
      have h3 : (gs_n σ 10 q 0 0).1 10 i' 0 = if i' = q then 0 else σ.1 10 i' 0 := by simp [gs_n, gs_u]
      rw [h3] at hl1
      split at hl1
      · cases hl1
      · exact ⟨hl1, rfl⟩
    · exact gs_lv10 h2 hl
  refine R.set (k := 15) rfl l15 ⟨rfl, rfl⟩ (gs_adN (by decide) (by decide)) hlv ?_ (fun k' i' j' hl' hne => ?_)
  · show gx_ar 3 240 (fun y => if (gs_n σ 10 q 0 0).1 10 y 0 = 1 then some ((gs_n σ 10 q 0 0).1 18 y 0) else none) = _
    congr 7
    funext y
    by_cases hy : y = q <;> simp [gs_n, gs_u, va_up, hy]
  · exact gs_neN (show gs_wn 10 ≠ k' from fun e => hne (by subst e; exact ⟨rfl, hl'.1, hl'.2⟩)) _ _
/-- a message of the row is taken in the hand: the heap stays -/
def sc_hd (σ : gs_T) (i : Nat) : gs_T := gs_i (gs_i (gs_i (gs_n (gs_n (gs_n (gs_n σ 16 0 0 (σ.1 8 i 0)) 17 0 0 (σ.1 9 i 0)) 19 0 0 (σ.1 18 i 0)) 32 0 0 1) 23 0 0 (σ.2.1 16 i 0)) 24 0 0 (σ.2.1 17 i 0)) 25 0 0 (σ.2.1 18 i 0)
theorem gs_lv32 {σ : gs_T} {i j v k' i' j' : Nat} (hk : k' ≠ 16) (h : gs_lv (gs_n σ 32 i j v) k' i' j') : gs_lv σ k' i' j' := by
  have e1 : gs_u σ.1 32 i j v 6 = σ.1 6 := gs_u_ne (by decide)
  have e3 : gs_u σ.1 32 i j v 11 = σ.1 11 := gs_u_ne (by decide)
  have e4 : gs_u σ.1 32 i j v 15 = σ.1 15 := gs_u_ne (by decide)
  have e5 : gs_u σ.1 32 i j v 31 = σ.1 31 := gs_u_ne (by decide)
  have e6 : gs_u σ.1 32 i j v 10 = σ.1 10 := gs_u_ne (by decide)
  unfold gs_lv at h ⊢
  unfold gs_n at h
  simp only [e1, e3, e4, e5, e6] at h
  split at h
  all_goals first | exact h | exact absurd rfl hk
theorem gs_R.hand {h : gx_H} {σ : gs_T} {A : gs_A} (R : gs_R h σ A) {i : Nat} (hi : σ.1 10 i 0 = 1) : gs_R h (sc_hd σ i) A := by
  have lO : ∀ k' i' j', k' ≠ 16 → gs_lv (sc_hd σ i) k' i' j' → gs_lv σ k' i' j' := by
    intro k' i' j' hk hl
    have hl : gs_lv (gs_n (gs_n (gs_n (gs_n σ 16 0 0 (σ.1 8 i 0)) 17 0 0 (σ.1 9 i 0)) 19 0 0 (σ.1 18 i 0)) 32 0 0 1) k' i' j' := hl
    have hl := gs_lv32 hk hl
    have hl := gs_lvN (by decide) _ _ _ hl
    have hl := gs_lvN (by decide) _ _ _ hl
    exact gs_lvN (by decide) _ _ _ hl
  have l2 : gs_lv σ 2 i 0 := ⟨hi, rfl⟩
  refine ⟨fun k' i' j' hl => ?_, ⟨R.2.1.1, R.2.1.2⟩, fun k1 i1 j1 k2 i2 j2 g1 g2 l1 l2 => R.2.2 k1 i1 j1 k2 i2 j2 g1 g2 (lO _ _ _ (fun e => by subst e; cases g1) l1) (lO _ _ _ (fun e => by subst e; cases g2) l2)⟩
  by_cases h16 : k' = 16
  · subst h16
    have h9 := R.1 2 i 0 l2
    show σ.1 18 i 0 < _ ∧ h.2.2 (σ.1 18 i 0) = _
    refine ⟨h9.1, ?_⟩
    rw [show h.2.2 (σ.1 18 i 0) = some (gs_cl σ A 2 i 0) from h9.2]
    rfl
  · have hl' := lO _ _ _ h16 hl
    have e1 : gs_ad (sc_hd σ i) A k' i' j' = gs_ad σ A k' i' j' := by
      unfold gs_ad
      split
      · rfl
      · exact absurd rfl h16
      · rfl
    have e2 : gs_cl (sc_hd σ i) A k' i' j' = gs_cl σ A k' i' j' := by
      unfold sc_hd
      rw [gs_neI (show gs_wi 25 ≠ k' from fun e => h16 e.symm), gs_neI (show gs_wi 24 ≠ k' from fun e => h16 e.symm), gs_neI (show gs_wi 23 ≠ k' from fun e => h16 e.symm)]
      by_cases h99 : k' = 99
      · subst h99; exact hl'.elim
      · rw [gs_neN (show gs_wn 32 ≠ k' from fun e => h99 e.symm), gs_neN (show gs_wn 19 ≠ k' from fun e => h99 e.symm), gs_neN (show gs_wn 17 ≠ k' from fun e => h16 e.symm), gs_neN (show gs_wn 16 ≠ k' from fun e => h16 e.symm)]
    rw [e1, e2]
    exact R.1 k' i' j' hl'
/-- the hand lets go -/
theorem gs_R.unhand {h : gx_H} {σ : gs_T} {A : gs_A} (R : gs_R h σ A) : gs_R h (gs_n σ 32 0 0 0) A := by
  have lO : ∀ k' i' j', gs_lv (gs_n σ 32 0 0 0) k' i' j' → gs_lv σ k' i' j' := by
    intro k' i' j' hl
    by_cases h16 : k' = 16
    · subst h16
      have h9 : (0 : Nat) = 1 := hl.1
      cases h9
    · exact gs_lv32 h16 hl
  refine ⟨fun k' i' j' hl => ?_, ⟨R.2.1.1, R.2.1.2⟩, fun k1 i1 j1 k2 i2 j2 g1 g2 l1 l2 => R.2.2 k1 i1 j1 k2 i2 j2 g1 g2 (lO _ _ _ l1) (lO _ _ _ l2)⟩
  have hl' := lO _ _ _ hl
  rw [gs_adN (by decide) (by decide)]
  by_cases h99 : k' = 99
  · subst h99; exact hl'.elim
  · rw [gs_neN (show gs_wn 32 ≠ k' from fun e => h99 e.symm)]
    exact R.1 k' i' j' hl'
/-- a cell that is nobody's: new ones, and writing into them -/
def sc_nw (σ : gs_T) (n : Nat) : gs_T := gs_n (gs_n σ 20 0 0 (σ.1 20 0 0 + 1)) 21 0 0 (σ.1 21 0 0 + n)
theorem sc_nw_lv {σ : gs_T} {n k' i' j' : Nat} (h : gs_lv (sc_nw σ n) k' i' j') : gs_lv σ k' i' j' := by
  have h : gs_lv (gs_n (gs_n σ 20 0 0 (σ.1 20 0 0 + 1)) 21 0 0 (σ.1 21 0 0 + n)) k' i' j' := h
  have h := gs_lvN (by decide) _ _ _ h
  exact gs_lvN (by decide) _ _ _ h
theorem gs_R.push {h : gx_H} {σ : gs_T} {A : gs_A} (R : gs_R h σ A) (n : Nat) (e : gx_E) : gs_R (gx_push h n e) (sc_nw σ n) A := by
  refine ⟨fun k i j hl => ?_, ⟨congrArg (· + 1) R.2.1.1, congrArg (· + n) R.2.1.2⟩, fun k1 i1 j1 k2 i2 j2 g1 g2 l1 l2 => R.2.2 k1 i1 j1 k2 i2 j2 g1 g2 (sc_nw_lv l1) (sc_nw_lv l2)⟩
  have hl := sc_nw_lv hl
  obtain ⟨r1, r2⟩ := R.1 k i j hl
  have ea : gs_ad (sc_nw σ n) A k i j = gs_ad σ A k i j := by
    unfold sc_nw
    rw [gs_adN (by decide) (by decide), gs_adN (by decide) (by decide)]
  rw [ea]
  refine ⟨Nat.lt_succ_of_lt r1, ?_⟩
  simp only [gx_push, va_up, if_neg (Nat.ne_of_lt r1)]
  rw [r2]
  by_cases h99 : k = 99
  · subst h99; exact hl.elim
  · unfold sc_nw
    rw [gs_neN (show gs_wn 21 ≠ k from fun e => h99 e.symm), gs_neN (show gs_wn 20 ≠ k from fun e => h99 e.symm)]
def gs_fr (σ : gs_T) (A : gs_A) (a : Nat) : Prop := ∀ k i j, gs_lv σ k i j → gs_ad σ A k i j ≠ a
theorem gs_R.fresh {h : gx_H} {σ : gs_T} {A : gs_A} (R : gs_R h σ A) : gs_fr σ A h.1 := fun k i j hl => Nat.ne_of_lt (R.1 k i j hl).1
theorem gs_fr.nw {σ : gs_T} {A : gs_A} {a : Nat} (hf : gs_fr σ A a) (n : Nat) : gs_fr (sc_nw σ n) A a := by
  intro k i j hl
  have ea : gs_ad (sc_nw σ n) A k i j = gs_ad σ A k i j := by
    unfold sc_nw
    rw [gs_adN (by decide) (by decide), gs_adN (by decide) (by decide)]
  rw [ea]
  exact hf k i j (sc_nw_lv hl)
theorem gs_R.raw {h : gx_H} {σ : gs_T} {A : gs_A} (R : gs_R h σ A) {a : Nat} (hf : gs_fr σ A a) (e : gx_E) : gs_R (gx_set h a e) σ A := by
  refine ⟨fun k i j hl => ?_, R.2⟩
  obtain ⟨r1, r2⟩ := R.1 k i j hl
  refine ⟨r1, ?_⟩
  simp only [gx_set, va_up, if_neg (hf k i j hl)]
  exact r2
theorem gx_set_set (h : gx_H) (a : Nat) (e e' : gx_E) : gx_set (gx_set h a e) a e' = gx_set h a e' := by
  simp only [gx_set]
  congr 2
  exact bx_uu _ _ _ _
theorem gx_set_at (h : gx_H) (a : Nat) (e : gx_E) : (gx_set h a e).2.2 a = some e := by simp [gx_set, va_up]
theorem gx_set_ne (h : gx_H) {a b : Nat} (e : gx_E) (hb : b ≠ a) : (gx_set h a e).2.2 b = h.2.2 b := by simp [gx_set, va_up, hb]
theorem gx_push_at (h : gx_H) (n : Nat) (e : gx_E) : (gx_push h n e).2.2 h.1 = some e := by simp [gx_push, va_up]
theorem gx_push_ne (h : gx_H) (n : Nat) {b : Nat} (e : gx_E) (hb : b ≠ h.1) : (gx_push h n e).2.2 b = h.2.2 b := by simp [gx_push, va_up, hb]
section RM
variable {S : gx_S} {M : gx_M} {d pc : Nat} {L : List (Option Value)} {st : List Value} {h : gx_H} {Q : Option Value → gx_H → Prop} {σ : gs_T} {A : gs_A}
theorem gx_adM {q a g o : Nat} {k f c : Int32} (hd : decode M.2.2.1 pc = .ok (.aastore, 1)) (R : gs_R h σ A) (ha : a < h.1) (hc : h.2.2 a = some (gx_ob 2 [.int k, .int f, .ref (A 4 g o), .int c])) (hq : q < 240) (kk : ∀ h', gs_R h' (sc_ad σ q a k f g o c) A → gx_Ev S M d (pc + 1) L st h' Q) : gx_Ev S M d pc L (.ref a :: .int (nI q) :: .ref (A 15 0 0) :: st) h Q := by
  refine gx_aast hd (t := 3) (ci := 2) ⟨_, rfl, rfl, by decide⟩ (gs_g15 R) hc (vp_in_nI hq (by decide)) (kk _ ?_)
  rw [nI_clamp (by omega)]
  exact R.adM ha hc
theorem gx_drM {q : Nat} (hd : decode M.2.2.1 pc = .ok (.aastore, 1)) (R : gs_R h σ A) (hq : q < 240) (kk : ∀ h', gs_R h' (gs_n σ 10 q 0 0) A → gx_Ev S M d (pc + 1) L st h' Q) : gx_Ev S M d pc L (.null :: .int (nI q) :: .ref (A 15 0 0) :: st) h Q := by
  refine gx_aastN hd (t := 3) (by decide) (gs_g15 R) (vp_in_nI hq (by decide)) (kk _ ?_)
  rw [nI_clamp (by omega)]
  exact R.drM
end RM
