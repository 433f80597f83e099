/-! the model is there -/
def gi_m (k : Nat) : Bool := k == 6 || decide (20 ≤ k)
def gi_ix (k : Nat) : Nat := if k < 24 then k - 21 else if k < 45 then k - 22 else k - 23
def gi_Am (A : gs_A) (a b : Nat) : gs_A := fun k i j => if k = 6 then a else if 20 ≤ k then b + gi_ix k else A k i j
theorem gi_Am_c {A : gs_A} {a b k : Nat} (hk : gi_m k = false) : gi_Am A a b k = A k := by
  have h : k ≠ 6 ∧ ¬ 20 ≤ k := by simpa [gi_m] using hk
  funext i j
  simp only [gi_Am, if_neg h.1, if_neg h.2]
def sc_ax (σ : gs_T) : gs_T := gs_n (gs_n (gs_n σ 20 0 0 (σ.1 20 0 0 + 30)) 21 0 0 (σ.1 21 0 0 + 6672)) 31 0 0 1
set_option maxHeartbeats 4000000 in
theorem gs_clAm {σ : gs_T} {A : gs_A} {a b k : Nat} (hk : gi_m k = false) (i j : Nat) : gs_cl σ (gi_Am A a b) k i j = gs_cl σ A k i j := by
  unfold gs_cl
  split
  · simp only [gi_Am_c (A := A) (a := a) (b := b) (k := 15) rfl]
  · simp only [gi_Am_c (A := A) (a := a) (b := b) (k := 13) rfl, gi_Am_c (A := A) (a := a) (b := b) (k := 14) rfl]
  · simp only [gi_Am_c (A := A) (a := a) (b := b) (k := 4) rfl]
  · rfl
  · simp only [gi_Am_c (A := A) (a := a) (b := b) (k := 3) rfl, gi_Am_c (A := A) (a := a) (b := b) (k := 4) rfl]
  · simp only [gi_Am_c (A := A) (a := a) (b := b) (k := 0) rfl, gi_Am_c (A := A) (a := a) (b := b) (k := 7) rfl, gi_Am_c (A := A) (a := a) (b := b) (k := 8) rfl, gi_Am_c (A := A) (a := a) (b := b) (k := 9) rfl, gi_Am_c (A := A) (a := a) (b := b) (k := 10) rfl, gi_Am_c (A := A) (a := a) (b := b) (k := 11) rfl, gi_Am_c (A := A) (a := a) (b := b) (k := 12) rfl]
  · cases hk
  · simp only [gi_Am_c (A := A) (a := a) (b := b) (k := 1) rfl]
  · rfl
  · rfl
  · simp only [gi_Am_c (A := A) (a := a) (b := b) (k := 3) rfl]
  · rfl
  · rfl
  · simp only [gi_Am_c (A := A) (a := a) (b := b) (k := 4) rfl]
  · simp only [gi_Am_c (A := A) (a := a) (b := b) (k := 4) rfl]
  · rfl
  · simp only [gi_Am_c (A := A) (a := a) (b := b) (k := 4) rfl]
  · cases hk
  · cases hk
  · cases hk
  · cases hk
  · cases hk
  · cases hk
  · cases hk
  · cases hk
  · cases hk
  · cases hk
  · cases hk
  · cases hk
  · cases hk
  · cases hk
  · cases hk
  · cases hk
  · cases hk
  · cases hk
  · cases hk
  · cases hk
  · cases hk
  · cases hk
  · cases hk
  · cases hk
  · cases hk
  · cases hk
  · cases hk
  · cases hk
  · cases hk
  · cases hk
  · rfl
theorem sc_ax_lv {σ : gs_T} {k i j : Nat} (hk : gi_m k = false) (h : gs_lv (sc_ax σ) k i j) : gs_lv σ k i j := by
  have e : ∀ t, t ≠ 20 → t ≠ 21 → t ≠ 31 → (sc_ax σ).1 t = σ.1 t := fun t h1 h2 h3 => (gs_u_ne h3).trans ((gs_u_ne h2).trans (gs_u_ne h1))
  have e1 : (sc_ax σ).1 6 = σ.1 6 := e 6 (by decide) (by decide) (by decide)
  have e3 : (sc_ax σ).1 10 = σ.1 10 := e 10 (by decide) (by decide) (by decide)
  have e4 : (sc_ax σ).1 11 = σ.1 11 := e 11 (by decide) (by decide) (by decide)
  have e5 : (sc_ax σ).1 15 = σ.1 15 := e 15 (by decide) (by decide) (by decide)
  have e6 : (sc_ax σ).1 32 = σ.1 32 := e 32 (by decide) (by decide) (by decide)
  unfold gs_lv at h ⊢
  simp only [e1, e3, e4, e5, e6] at h
  split at h
  all_goals first | exact h | cases hk
theorem sc_ax_cl {σ : gs_T} {A : gs_A} {k i j : Nat} : gs_cl (sc_ax σ) A k i j = gs_cl σ A k i j := by
  by_cases hk : k = 99
  · subst hk; rfl
  · unfold sc_ax
    rw [gs_neN (show gs_wn 31 ≠ k from fun e => hk e.symm), gs_neN (show gs_wn 21 ≠ k from fun e => hk e.symm), gs_neN (show gs_wn 20 ≠ k from fun e => hk e.symm)]
theorem sc_ax_m {σ : gs_T} {k i j : Nat} (hk : gi_m k = true) (h : gs_lv σ k i j) : (i = 0 ∧ j = 0) ∧ (k = 6 ∨ k = 21 ∨ k = 22 ∨ k = 23 ∨ k = 25 ∨ k = 26 ∨ k = 27 ∨ k = 28 ∨ k = 29 ∨ k = 30 ∨ k = 31 ∨ k = 32 ∨ k = 33 ∨ k = 34 ∨ k = 35 ∨ k = 36 ∨ k = 37 ∨ k = 38 ∨ k = 39 ∨ k = 40 ∨ k = 41 ∨ k = 42 ∨ k = 43 ∨ k = 44 ∨ k = 46 ∨ k = 47 ∨ k = 48 ∨ k = 49 ∨ k = 50 ∨ k = 51 ∨ k = 52) := by
  unfold gs_lv at h
  split at h
  all_goals first | exact ⟨⟨h.2.1, h.2.2⟩, by decide⟩ | exact absurd hk (by decide) | exact h.elim
def gi_z (σ : gs_T) (n : Nat) : Prop := σ.1 100 0 0 = n ∧ (∀ t q, (t = 104 ∨ t = 105 ∨ t = 107 ∨ t = 108 ∨ t = 123 ∨ t = 124 ∨ t = 125 ∨ t = 127 ∨ t = 129) → σ.1 t q 0 = 0) ∧ (∀ q, σ.1 128 q 0 = 1) ∧ ∀ t q, 100 ≤ t → σ.2.1 t q 0 = 0
theorem gi_fs_e0 (b : Nat) : gi_fs b 0 = [.int 0, .null, .null, .null, .int 0, .null, .null, .null, .null, .null, .null, .null, .null, .null, .null, .null, .null, .null, .null, .null, .null, .null, .null, .null, .null, .int 0, .null, .null, .null, .null, .null, .null, .null, .int 0] := rfl
theorem gi_fs_e1 (b : Nat) : gi_fs b 1 = [.int 0, .ref (b + 0), .null, .null, .int 0, .null, .null, .null, .null, .null, .null, .null, .null, .null, .null, .null, .null, .null, .null, .null, .null, .null, .null, .null, .null, .int 0, .null, .null, .null, .null, .null, .null, .null, .int 0] := by
  rw [gi_fs, gi_fs_e0]
  rfl
theorem gi_fs_e2 (b : Nat) : gi_fs b 2 = [.int 0, .ref (b + 0), .ref (b + 1), .null, .int 0, .null, .null, .null, .null, .null, .null, .null, .null, .null, .null, .null, .null, .null, .null, .null, .null, .null, .null, .null, .null, .int 0, .null, .null, .null, .null, .null, .null, .null, .int 0] := by
  rw [gi_fs, gi_fs_e1]
  rfl
theorem gi_fs_e3 (b : Nat) : gi_fs b 3 = [.int 0, .ref (b + 0), .ref (b + 1), .ref (b + 2), .int 0, .null, .null, .null, .null, .null, .null, .null, .null, .null, .null, .null, .null, .null, .null, .null, .null, .null, .null, .null, .null, .int 0, .null, .null, .null, .null, .null, .null, .null, .int 0] := by
  rw [gi_fs, gi_fs_e2]
  rfl
theorem gi_fs_e4 (b : Nat) : gi_fs b 4 = [.int 0, .ref (b + 0), .ref (b + 1), .ref (b + 2), .int 0, .ref (b + 3), .null, .null, .null, .null, .null, .null, .null, .null, .null, .null, .null, .null, .null, .null, .null, .null, .null, .null, .null, .int 0, .null, .null, .null, .null, .null, .null, .null, .int 0] := by
  rw [gi_fs, gi_fs_e3]
  rfl
theorem gi_fs_e5 (b : Nat) : gi_fs b 5 = [.int 0, .ref (b + 0), .ref (b + 1), .ref (b + 2), .int 0, .ref (b + 3), .ref (b + 4), .null, .null, .null, .null, .null, .null, .null, .null, .null, .null, .null, .null, .null, .null, .null, .null, .null, .null, .int 0, .null, .null, .null, .null, .null, .null, .null, .int 0] := by
  rw [gi_fs, gi_fs_e4]
  rfl
theorem gi_fs_e6 (b : Nat) : gi_fs b 6 = [.int 0, .ref (b + 0), .ref (b + 1), .ref (b + 2), .int 0, .ref (b + 3), .ref (b + 4), .ref (b + 5), .null, .null, .null, .null, .null, .null, .null, .null, .null, .null, .null, .null, .null, .null, .null, .null, .null, .int 0, .null, .null, .null, .null, .null, .null, .null, .int 0] := by
  rw [gi_fs, gi_fs_e5]
  rfl
theorem gi_fs_e7 (b : Nat) : gi_fs b 7 = [.int 0, .ref (b + 0), .ref (b + 1), .ref (b + 2), .int 0, .ref (b + 3), .ref (b + 4), .ref (b + 5), .ref (b + 6), .null, .null, .null, .null, .null, .null, .null, .null, .null, .null, .null, .null, .null, .null, .null, .null, .int 0, .null, .null, .null, .null, .null, .null, .null, .int 0] := by
  rw [gi_fs, gi_fs_e6]
  rfl
theorem gi_fs_e8 (b : Nat) : gi_fs b 8 = [.int 0, .ref (b + 0), .ref (b + 1), .ref (b + 2), .int 0, .ref (b + 3), .ref (b + 4), .ref (b + 5), .ref (b + 6), .ref (b + 7), .null, .null, .null, .null, .null, .null, .null, .null, .null, .null, .null, .null, .null, .null, .null, .int 0, .null, .null, .null, .null, .null, .null, .null, .int 0] := by
  rw [gi_fs, gi_fs_e7]
  rfl
theorem gi_fs_e9 (b : Nat) : gi_fs b 9 = [.int 0, .ref (b + 0), .ref (b + 1), .ref (b + 2), .int 0, .ref (b + 3), .ref (b + 4), .ref (b + 5), .ref (b + 6), .ref (b + 7), .ref (b + 8), .null, .null, .null, .null, .null, .null, .null, .null, .null, .null, .null, .null, .null, .null, .int 0, .null, .null, .null, .null, .null, .null, .null, .int 0] := by
  rw [gi_fs, gi_fs_e8]
  rfl
theorem gi_fs_e10 (b : Nat) : gi_fs b 10 = [.int 0, .ref (b + 0), .ref (b + 1), .ref (b + 2), .int 0, .ref (b + 3), .ref (b + 4), .ref (b + 5), .ref (b + 6), .ref (b + 7), .ref (b + 8), .ref (b + 9), .null, .null, .null, .null, .null, .null, .null, .null, .null, .null, .null, .null, .null, .int 0, .null, .null, .null, .null, .null, .null, .null, .int 0] := by
  rw [gi_fs, gi_fs_e9]
  rfl
theorem gi_fs_e11 (b : Nat) : gi_fs b 11 = [.int 0, .ref (b + 0), .ref (b + 1), .ref (b + 2), .int 0, .ref (b + 3), .ref (b + 4), .ref (b + 5), .ref (b + 6), .ref (b + 7), .ref (b + 8), .ref (b + 9), .ref (b + 10), .null, .null, .null, .null, .null, .null, .null, .null, .null, .null, .null, .null, .int 0, .null, .null, .null, .null, .null, .null, .null, .int 0] := by
  rw [gi_fs, gi_fs_e10]
  rfl
theorem gi_fs_e12 (b : Nat) : gi_fs b 12 = [.int 0, .ref (b + 0), .ref (b + 1), .ref (b + 2), .int 0, .ref (b + 3), .ref (b + 4), .ref (b + 5), .ref (b + 6), .ref (b + 7), .ref (b + 8), .ref (b + 9), .ref (b + 10), .ref (b + 11), .null, .null, .null, .null, .null, .null, .null, .null, .null, .null, .null, .int 0, .null, .null, .null, .null, .null, .null, .null, .int 0] := by
  rw [gi_fs, gi_fs_e11]
  rfl
theorem gi_fs_e13 (b : Nat) : gi_fs b 13 = [.int 0, .ref (b + 0), .ref (b + 1), .ref (b + 2), .int 0, .ref (b + 3), .ref (b + 4), .ref (b + 5), .ref (b + 6), .ref (b + 7), .ref (b + 8), .ref (b + 9), .ref (b + 10), .ref (b + 11), .ref (b + 12), .null, .null, .null, .null, .null, .null, .null, .null, .null, .null, .int 0, .null, .null, .null, .null, .null, .null, .null, .int 0] := by
  rw [gi_fs, gi_fs_e12]
  rfl
theorem gi_fs_e14 (b : Nat) : gi_fs b 14 = [.int 0, .ref (b + 0), .ref (b + 1), .ref (b + 2), .int 0, .ref (b + 3), .ref (b + 4), .ref (b + 5), .ref (b + 6), .ref (b + 7), .ref (b + 8), .ref (b + 9), .ref (b + 10), .ref (b + 11), .ref (b + 12), .ref (b + 13), .null, .null, .null, .null, .null, .null, .null, .null, .null, .int 0, .null, .null, .null, .null, .null, .null, .null, .int 0] := by
  rw [gi_fs, gi_fs_e13]
  rfl
theorem gi_fs_e15 (b : Nat) : gi_fs b 15 = [.int 0, .ref (b + 0), .ref (b + 1), .ref (b + 2), .int 0, .ref (b + 3), .ref (b + 4), .ref (b + 5), .ref (b + 6), .ref (b + 7), .ref (b + 8), .ref (b + 9), .ref (b + 10), .ref (b + 11), .ref (b + 12), .ref (b + 13), .ref (b + 14), .null, .null, .null, .null, .null, .null, .null, .null, .int 0, .null, .null, .null, .null, .null, .null, .null, .int 0] := by
  rw [gi_fs, gi_fs_e14]
  rfl
theorem gi_fs_e16 (b : Nat) : gi_fs b 16 = [.int 0, .ref (b + 0), .ref (b + 1), .ref (b + 2), .int 0, .ref (b + 3), .ref (b + 4), .ref (b + 5), .ref (b + 6), .ref (b + 7), .ref (b + 8), .ref (b + 9), .ref (b + 10), .ref (b + 11), .ref (b + 12), .ref (b + 13), .ref (b + 14), .ref (b + 15), .null, .null, .null, .null, .null, .null, .null, .int 0, .null, .null, .null, .null, .null, .null, .null, .int 0] := by
  rw [gi_fs, gi_fs_e15]
  rfl
theorem gi_fs_e17 (b : Nat) : gi_fs b 17 = [.int 0, .ref (b + 0), .ref (b + 1), .ref (b + 2), .int 0, .ref (b + 3), .ref (b + 4), .ref (b + 5), .ref (b + 6), .ref (b + 7), .ref (b + 8), .ref (b + 9), .ref (b + 10), .ref (b + 11), .ref (b + 12), .ref (b + 13), .ref (b + 14), .ref (b + 15), .ref (b + 16), .null, .null, .null, .null, .null, .null, .int 0, .null, .null, .null, .null, .null, .null, .null, .int 0] := by
  rw [gi_fs, gi_fs_e16]
  rfl
theorem gi_fs_e18 (b : Nat) : gi_fs b 18 = [.int 0, .ref (b + 0), .ref (b + 1), .ref (b + 2), .int 0, .ref (b + 3), .ref (b + 4), .ref (b + 5), .ref (b + 6), .ref (b + 7), .ref (b + 8), .ref (b + 9), .ref (b + 10), .ref (b + 11), .ref (b + 12), .ref (b + 13), .ref (b + 14), .ref (b + 15), .ref (b + 16), .ref (b + 17), .null, .null, .null, .null, .null, .int 0, .null, .null, .null, .null, .null, .null, .null, .int 0] := by
  rw [gi_fs, gi_fs_e17]
  rfl
theorem gi_fs_e19 (b : Nat) : gi_fs b 19 = [.int 0, .ref (b + 0), .ref (b + 1), .ref (b + 2), .int 0, .ref (b + 3), .ref (b + 4), .ref (b + 5), .ref (b + 6), .ref (b + 7), .ref (b + 8), .ref (b + 9), .ref (b + 10), .ref (b + 11), .ref (b + 12), .ref (b + 13), .ref (b + 14), .ref (b + 15), .ref (b + 16), .ref (b + 17), .ref (b + 18), .null, .null, .null, .null, .int 0, .null, .null, .null, .null, .null, .null, .null, .int 0] := by
  rw [gi_fs, gi_fs_e18]
  rfl
theorem gi_fs_e20 (b : Nat) : gi_fs b 20 = [.int 0, .ref (b + 0), .ref (b + 1), .ref (b + 2), .int 0, .ref (b + 3), .ref (b + 4), .ref (b + 5), .ref (b + 6), .ref (b + 7), .ref (b + 8), .ref (b + 9), .ref (b + 10), .ref (b + 11), .ref (b + 12), .ref (b + 13), .ref (b + 14), .ref (b + 15), .ref (b + 16), .ref (b + 17), .ref (b + 18), .ref (b + 19), .null, .null, .null, .int 0, .null, .null, .null, .null, .null, .null, .null, .int 0] := by
  rw [gi_fs, gi_fs_e19]
  rfl
theorem gi_fs_e21 (b : Nat) : gi_fs b 21 = [.int 0, .ref (b + 0), .ref (b + 1), .ref (b + 2), .int 0, .ref (b + 3), .ref (b + 4), .ref (b + 5), .ref (b + 6), .ref (b + 7), .ref (b + 8), .ref (b + 9), .ref (b + 10), .ref (b + 11), .ref (b + 12), .ref (b + 13), .ref (b + 14), .ref (b + 15), .ref (b + 16), .ref (b + 17), .ref (b + 18), .ref (b + 19), .ref (b + 20), .null, .null, .int 0, .null, .null, .null, .null, .null, .null, .null, .int 0] := by
  rw [gi_fs, gi_fs_e20]
  rfl
theorem gi_fs_e22 (b : Nat) : gi_fs b 22 = [.int 0, .ref (b + 0), .ref (b + 1), .ref (b + 2), .int 0, .ref (b + 3), .ref (b + 4), .ref (b + 5), .ref (b + 6), .ref (b + 7), .ref (b + 8), .ref (b + 9), .ref (b + 10), .ref (b + 11), .ref (b + 12), .ref (b + 13), .ref (b + 14), .ref (b + 15), .ref (b + 16), .ref (b + 17), .ref (b + 18), .ref (b + 19), .ref (b + 20), .ref (b + 21), .null, .int 0, .null, .null, .null, .null, .null, .null, .null, .int 0] := by
  rw [gi_fs, gi_fs_e21]
  rfl
theorem gi_fs_e23 (b : Nat) : gi_fs b 23 = [.int 0, .ref (b + 0), .ref (b + 1), .ref (b + 2), .int 0, .ref (b + 3), .ref (b + 4), .ref (b + 5), .ref (b + 6), .ref (b + 7), .ref (b + 8), .ref (b + 9), .ref (b + 10), .ref (b + 11), .ref (b + 12), .ref (b + 13), .ref (b + 14), .ref (b + 15), .ref (b + 16), .ref (b + 17), .ref (b + 18), .ref (b + 19), .ref (b + 20), .ref (b + 21), .ref (b + 22), .int 0, .null, .null, .null, .null, .null, .null, .null, .int 0] := by
  rw [gi_fs, gi_fs_e22]
  rfl
theorem gi_fs_e24 (b : Nat) : gi_fs b 24 = [.int 0, .ref (b + 0), .ref (b + 1), .ref (b + 2), .int 0, .ref (b + 3), .ref (b + 4), .ref (b + 5), .ref (b + 6), .ref (b + 7), .ref (b + 8), .ref (b + 9), .ref (b + 10), .ref (b + 11), .ref (b + 12), .ref (b + 13), .ref (b + 14), .ref (b + 15), .ref (b + 16), .ref (b + 17), .ref (b + 18), .ref (b + 19), .ref (b + 20), .ref (b + 21), .ref (b + 22), .int 0, .ref (b + 23), .null, .null, .null, .null, .null, .null, .int 0] := by
  rw [gi_fs, gi_fs_e23]
  rfl
theorem gi_fs_e25 (b : Nat) : gi_fs b 25 = [.int 0, .ref (b + 0), .ref (b + 1), .ref (b + 2), .int 0, .ref (b + 3), .ref (b + 4), .ref (b + 5), .ref (b + 6), .ref (b + 7), .ref (b + 8), .ref (b + 9), .ref (b + 10), .ref (b + 11), .ref (b + 12), .ref (b + 13), .ref (b + 14), .ref (b + 15), .ref (b + 16), .ref (b + 17), .ref (b + 18), .ref (b + 19), .ref (b + 20), .ref (b + 21), .ref (b + 22), .int 0, .ref (b + 23), .ref (b + 24), .null, .null, .null, .null, .null, .int 0] := by
  rw [gi_fs, gi_fs_e24]
  rfl
theorem gi_fs_e26 (b : Nat) : gi_fs b 26 = [.int 0, .ref (b + 0), .ref (b + 1), .ref (b + 2), .int 0, .ref (b + 3), .ref (b + 4), .ref (b + 5), .ref (b + 6), .ref (b + 7), .ref (b + 8), .ref (b + 9), .ref (b + 10), .ref (b + 11), .ref (b + 12), .ref (b + 13), .ref (b + 14), .ref (b + 15), .ref (b + 16), .ref (b + 17), .ref (b + 18), .ref (b + 19), .ref (b + 20), .ref (b + 21), .ref (b + 22), .int 0, .ref (b + 23), .ref (b + 24), .ref (b + 25), .null, .null, .null, .null, .int 0] := by
  rw [gi_fs, gi_fs_e25]
  rfl
theorem gi_fs_e27 (b : Nat) : gi_fs b 27 = [.int 0, .ref (b + 0), .ref (b + 1), .ref (b + 2), .int 0, .ref (b + 3), .ref (b + 4), .ref (b + 5), .ref (b + 6), .ref (b + 7), .ref (b + 8), .ref (b + 9), .ref (b + 10), .ref (b + 11), .ref (b + 12), .ref (b + 13), .ref (b + 14), .ref (b + 15), .ref (b + 16), .ref (b + 17), .ref (b + 18), .ref (b + 19), .ref (b + 20), .ref (b + 21), .ref (b + 22), .int 0, .ref (b + 23), .ref (b + 24), .ref (b + 25), .ref (b + 26), .null, .null, .null, .int 0] := by
  rw [gi_fs, gi_fs_e26]
  rfl
theorem gi_fs_e28 (b : Nat) : gi_fs b 28 = [.int 0, .ref (b + 0), .ref (b + 1), .ref (b + 2), .int 0, .ref (b + 3), .ref (b + 4), .ref (b + 5), .ref (b + 6), .ref (b + 7), .ref (b + 8), .ref (b + 9), .ref (b + 10), .ref (b + 11), .ref (b + 12), .ref (b + 13), .ref (b + 14), .ref (b + 15), .ref (b + 16), .ref (b + 17), .ref (b + 18), .ref (b + 19), .ref (b + 20), .ref (b + 21), .ref (b + 22), .int 0, .ref (b + 23), .ref (b + 24), .ref (b + 25), .ref (b + 26), .ref (b + 27), .null, .null, .int 0] := by
  rw [gi_fs, gi_fs_e27]
  rfl
theorem gi_fs_e29 (b : Nat) : gi_fs b 29 = [.int 0, .ref (b + 0), .ref (b + 1), .ref (b + 2), .int 0, .ref (b + 3), .ref (b + 4), .ref (b + 5), .ref (b + 6), .ref (b + 7), .ref (b + 8), .ref (b + 9), .ref (b + 10), .ref (b + 11), .ref (b + 12), .ref (b + 13), .ref (b + 14), .ref (b + 15), .ref (b + 16), .ref (b + 17), .ref (b + 18), .ref (b + 19), .ref (b + 20), .ref (b + 21), .ref (b + 22), .int 0, .ref (b + 23), .ref (b + 24), .ref (b + 25), .ref (b + 26), .ref (b + 27), .ref (b + 28), .null, .int 0] := by
  rw [gi_fs, gi_fs_e28]
  rfl
theorem gi_fs_e30 (b : Nat) : gi_fs b 30 = [.int 0, .ref (b + 0), .ref (b + 1), .ref (b + 2), .int 0, .ref (b + 3), .ref (b + 4), .ref (b + 5), .ref (b + 6), .ref (b + 7), .ref (b + 8), .ref (b + 9), .ref (b + 10), .ref (b + 11), .ref (b + 12), .ref (b + 13), .ref (b + 14), .ref (b + 15), .ref (b + 16), .ref (b + 17), .ref (b + 18), .ref (b + 19), .ref (b + 20), .ref (b + 21), .ref (b + 22), .int 0, .ref (b + 23), .ref (b + 24), .ref (b + 25), .ref (b + 26), .ref (b + 27), .ref (b + 28), .ref (b + 29), .int 0] := by
  rw [gi_fs, gi_fs_e29]
  rfl
theorem gi_fs_30 (b n : Nat) : (gi_fs b 30).set 0 (.int (nI n)) = [.int (nI n), .ref (b + 0), .ref (b + 1), .ref (b + 2), .int 0, .ref (b + 3), .ref (b + 4), .ref (b + 5), .ref (b + 6), .ref (b + 7), .ref (b + 8), .ref (b + 9), .ref (b + 10), .ref (b + 11), .ref (b + 12), .ref (b + 13), .ref (b + 14), .ref (b + 15), .ref (b + 16), .ref (b + 17), .ref (b + 18), .ref (b + 19), .ref (b + 20), .ref (b + 21), .ref (b + 22), .int 0, .ref (b + 23), .ref (b + 24), .ref (b + 25), .ref (b + 26), .ref (b + 27), .ref (b + 28), .ref (b + 29), .int 0] := by
  rw [gi_fs_e30]
  rfl
set_option maxHeartbeats 8000000 in
theorem gs_R.adX {h H : gx_H} {σ : gs_T} {A : gs_A} {a n : Nat} (R : gs_R h σ A) (ha : a < h.1) (hf : gs_fr σ A a) (hz : gi_z σ n) (F : gi_b h a 30 H) : gs_R (gx_set H a (gx_ob 6 ((gi_fs h.1 30).set 0 (.int (nI n))))) (sc_ax σ) (gi_Am A a h.1) := by
  obtain ⟨f1, f2, f3, f4, f5⟩ := F
  obtain ⟨z1, z2, z3, z4⟩ := hz
  refine ⟨fun k i j hl => ?_, ⟨?_, ?_⟩, fun k i j k' i' j' g1 g2 l1 l2 he => ?_⟩
  · by_cases hk : gi_m k = true
    · obtain ⟨⟨rfl, rfl⟩, hm⟩ := sc_ax_m hk hl
      rw [sc_ax_cl, show (gx_set H a _).1 = h.1 + 30 from f1]
      rcases hm with rfl | rfl | rfl | rfl | rfl | rfl | rfl | rfl | rfl | rfl | rfl | rfl | rfl | rfl | rfl | rfl | rfl | rfl | rfl | rfl | rfl | rfl | rfl | rfl | rfl | rfl | rfl | rfl | rfl | rfl | rfl
      · refine ⟨show a < h.1 + 30 by omega, ?_⟩
        show (gx_set H a _).2.2 a = _
        rw [gx_set_at, gi_fs_30]
        have e4 := z2 104 0 (by decide)
        have e25 := z2 125 0 (by decide)
        have e33 := z4 133 0 (by decide)
        show _ = some (gx_ob 6 [.int (nI (σ.1 100 0 0)), .ref (h.1 + 0), .ref (h.1 + 1), .ref (h.1 + 2), .int (nI (σ.1 104 0 0)), .ref (h.1 + 3), .ref (h.1 + 4), .ref (h.1 + 5), .ref (h.1 + 6), .ref (h.1 + 7), .ref (h.1 + 8), .ref (h.1 + 9), .ref (h.1 + 10), .ref (h.1 + 11), .ref (h.1 + 12), .ref (h.1 + 13), .ref (h.1 + 14), .ref (h.1 + 15), .ref (h.1 + 16), .ref (h.1 + 17), .ref (h.1 + 18), .ref (h.1 + 19), .ref (h.1 + 20), .ref (h.1 + 21), .ref (h.1 + 22), .int (nI (σ.1 125 0 0)), .ref (h.1 + 23), .ref (h.1 + 24), .ref (h.1 + 25), .ref (h.1 + 26), .ref (h.1 + 27), .ref (h.1 + 28), .ref (h.1 + 29), .int (σ.2.1 133 0 0)])
        rw [z1, e4, e25, e33]
        rfl
      · refine ⟨show h.1 + 0 < h.1 + 30 by omega, ?_⟩
        show (gx_set H a _).2.2 (h.1 + 0) = some (gx_ai 0 4 (fun q => σ.2.1 101 q 0))
        rw [gx_set_ne _ _ (show h.1 + 0 ≠ a by omega), f4 0 (1, 0, 4) (by decide) rfl, show (fun q => σ.2.1 101 q 0) = (fun _ => 0) from funext (fun q => z4 101 q (by decide))]
      · refine ⟨show h.1 + 1 < h.1 + 30 by omega, ?_⟩
        show (gx_set H a _).2.2 (h.1 + 1) = some (gx_ai 1 4 (fun q => σ.2.1 102 q 0))
        rw [gx_set_ne _ _ (show h.1 + 1 ≠ a by omega), f4 1 (2, 1, 4) (by decide) rfl, show (fun q => σ.2.1 102 q 0) = (fun _ => 0) from funext (fun q => z4 102 q (by decide))]
      · refine ⟨show h.1 + 2 < h.1 + 30 by omega, ?_⟩
        show (gx_set H a _).2.2 (h.1 + 2) = some (gx_ai 0 16 (fun q => σ.2.1 103 q 0))
        rw [gx_set_ne _ _ (show h.1 + 2 ≠ a by omega), f4 2 (3, 0, 16) (by decide) rfl, show (fun q => σ.2.1 103 q 0) = (fun _ => 0) from funext (fun q => z4 103 q (by decide))]
      · refine ⟨show h.1 + 3 < h.1 + 30 by omega, ?_⟩
        show (gx_set H a _).2.2 (h.1 + 3) = some (gx_ai 0 40 (fun q => nI (σ.1 105 q 0)))
        rw [gx_set_ne _ _ (show h.1 + 3 ≠ a by omega), f4 3 (5, 0, 40) (by decide) rfl, show (fun q => nI (σ.1 105 q 0)) = (fun _ => 0) from funext (fun q => by rw [z2 105 q (by decide)]; rfl)]
      · refine ⟨show h.1 + 4 < h.1 + 30 by omega, ?_⟩
        show (gx_set H a _).2.2 (h.1 + 4) = some (gx_ai 0 40 (fun q => σ.2.1 106 q 0))
        rw [gx_set_ne _ _ (show h.1 + 4 ≠ a by omega), f4 4 (6, 0, 40) (by decide) rfl, show (fun q => σ.2.1 106 q 0) = (fun _ => 0) from funext (fun q => z4 106 q (by decide))]
      · refine ⟨show h.1 + 5 < h.1 + 30 by omega, ?_⟩
        show (gx_set H a _).2.2 (h.1 + 5) = some (gx_ai 0 40 (fun q => nI (σ.1 107 q 0)))
        rw [gx_set_ne _ _ (show h.1 + 5 ≠ a by omega), f4 5 (7, 0, 40) (by decide) rfl, show (fun q => nI (σ.1 107 q 0)) = (fun _ => 0) from funext (fun q => by rw [z2 107 q (by decide)]; rfl)]
      · refine ⟨show h.1 + 6 < h.1 + 30 by omega, ?_⟩
        show (gx_set H a _).2.2 (h.1 + 6) = some (gx_ai 0 40 (fun q => nI (σ.1 108 q 0)))
        rw [gx_set_ne _ _ (show h.1 + 6 ≠ a by omega), f4 6 (8, 0, 40) (by decide) rfl, show (fun q => nI (σ.1 108 q 0)) = (fun _ => 0) from funext (fun q => by rw [z2 108 q (by decide)]; rfl)]
      · refine ⟨show h.1 + 7 < h.1 + 30 by omega, ?_⟩
        show (gx_set H a _).2.2 (h.1 + 7) = some (gx_ai 0 40 (fun q => σ.2.1 109 q 0))
        rw [gx_set_ne _ _ (show h.1 + 7 ≠ a by omega), f4 7 (9, 0, 40) (by decide) rfl, show (fun q => σ.2.1 109 q 0) = (fun _ => 0) from funext (fun q => z4 109 q (by decide))]
      · refine ⟨show h.1 + 8 < h.1 + 30 by omega, ?_⟩
        show (gx_set H a _).2.2 (h.1 + 8) = some (gx_ai 0 40 (fun q => σ.2.1 110 q 0))
        rw [gx_set_ne _ _ (show h.1 + 8 ≠ a by omega), f4 8 (10, 0, 40) (by decide) rfl, show (fun q => σ.2.1 110 q 0) = (fun _ => 0) from funext (fun q => z4 110 q (by decide))]
      · refine ⟨show h.1 + 9 < h.1 + 30 by omega, ?_⟩
        show (gx_set H a _).2.2 (h.1 + 9) = some (gx_ai 1 40 (fun q => σ.2.1 111 q 0))
        rw [gx_set_ne _ _ (show h.1 + 9 ≠ a by omega), f4 9 (11, 1, 40) (by decide) rfl, show (fun q => σ.2.1 111 q 0) = (fun _ => 0) from funext (fun q => z4 111 q (by decide))]
      · refine ⟨show h.1 + 10 < h.1 + 30 by omega, ?_⟩
        show (gx_set H a _).2.2 (h.1 + 10) = some (gx_ai 0 40 (fun q => σ.2.1 112 q 0))
        rw [gx_set_ne _ _ (show h.1 + 10 ≠ a by omega), f4 10 (12, 0, 40) (by decide) rfl, show (fun q => σ.2.1 112 q 0) = (fun _ => 0) from funext (fun q => z4 112 q (by decide))]
      · refine ⟨show h.1 + 11 < h.1 + 30 by omega, ?_⟩
        show (gx_set H a _).2.2 (h.1 + 11) = some (gx_ai 0 4 (fun q => σ.2.1 113 q 0))
        rw [gx_set_ne _ _ (show h.1 + 11 ≠ a by omega), f4 11 (13, 0, 4) (by decide) rfl, show (fun q => σ.2.1 113 q 0) = (fun _ => 0) from funext (fun q => z4 113 q (by decide))]
      · refine ⟨show h.1 + 12 < h.1 + 30 by omega, ?_⟩
        show (gx_set H a _).2.2 (h.1 + 12) = some (gx_ai 1 160 (fun q => σ.2.1 114 q 0))
        rw [gx_set_ne _ _ (show h.1 + 12 ≠ a by omega), f4 12 (14, 1, 160) (by decide) rfl, show (fun q => σ.2.1 114 q 0) = (fun _ => 0) from funext (fun q => z4 114 q (by decide))]
      · refine ⟨show h.1 + 13 < h.1 + 30 by omega, ?_⟩
        show (gx_set H a _).2.2 (h.1 + 13) = some (gx_ai 0 160 (fun q => σ.2.1 115 q 0))
        rw [gx_set_ne _ _ (show h.1 + 13 ≠ a by omega), f4 13 (15, 0, 160) (by decide) rfl, show (fun q => σ.2.1 115 q 0) = (fun _ => 0) from funext (fun q => z4 115 q (by decide))]
      · refine ⟨show h.1 + 14 < h.1 + 30 by omega, ?_⟩
        show (gx_set H a _).2.2 (h.1 + 14) = some (gx_ai 1 160 (fun q => σ.2.1 116 q 0))
        rw [gx_set_ne _ _ (show h.1 + 14 ≠ a by omega), f4 14 (16, 1, 160) (by decide) rfl, show (fun q => σ.2.1 116 q 0) = (fun _ => 0) from funext (fun q => z4 116 q (by decide))]
      · refine ⟨show h.1 + 15 < h.1 + 30 by omega, ?_⟩
        show (gx_set H a _).2.2 (h.1 + 15) = some (gx_ai 1 160 (fun q => σ.2.1 117 q 0))
        rw [gx_set_ne _ _ (show h.1 + 15 ≠ a by omega), f4 15 (17, 1, 160) (by decide) rfl, show (fun q => σ.2.1 117 q 0) = (fun _ => 0) from funext (fun q => z4 117 q (by decide))]
      · refine ⟨show h.1 + 16 < h.1 + 30 by omega, ?_⟩
        show (gx_set H a _).2.2 (h.1 + 16) = some (gx_ai 1 160 (fun q => σ.2.1 118 q 0))
        rw [gx_set_ne _ _ (show h.1 + 16 ≠ a by omega), f4 16 (18, 1, 160) (by decide) rfl, show (fun q => σ.2.1 118 q 0) = (fun _ => 0) from funext (fun q => z4 118 q (by decide))]
      · refine ⟨show h.1 + 17 < h.1 + 30 by omega, ?_⟩
        show (gx_set H a _).2.2 (h.1 + 17) = some (gx_ai 0 640 (fun q => σ.2.1 119 q 0))
        rw [gx_set_ne _ _ (show h.1 + 17 ≠ a by omega), f4 17 (19, 0, 640) (by decide) rfl, show (fun q => σ.2.1 119 q 0) = (fun _ => 0) from funext (fun q => z4 119 q (by decide))]
      · refine ⟨show h.1 + 18 < h.1 + 30 by omega, ?_⟩
        show (gx_set H a _).2.2 (h.1 + 18) = some (gx_ai 1 640 (fun q => σ.2.1 120 q 0))
        rw [gx_set_ne _ _ (show h.1 + 18 ≠ a by omega), f4 18 (20, 1, 640) (by decide) rfl, show (fun q => σ.2.1 120 q 0) = (fun _ => 0) from funext (fun q => z4 120 q (by decide))]
      · refine ⟨show h.1 + 19 < h.1 + 30 by omega, ?_⟩
        show (gx_set H a _).2.2 (h.1 + 19) = some (gx_ai 0 640 (fun q => σ.2.1 121 q 0))
        rw [gx_set_ne _ _ (show h.1 + 19 ≠ a by omega), f4 19 (21, 0, 640) (by decide) rfl, show (fun q => σ.2.1 121 q 0) = (fun _ => 0) from funext (fun q => z4 121 q (by decide))]
      · refine ⟨show h.1 + 20 < h.1 + 30 by omega, ?_⟩
        show (gx_set H a _).2.2 (h.1 + 20) = some (gx_ai 0 640 (fun q => σ.2.1 122 q 0))
        rw [gx_set_ne _ _ (show h.1 + 20 ≠ a by omega), f4 20 (22, 0, 640) (by decide) rfl, show (fun q => σ.2.1 122 q 0) = (fun _ => 0) from funext (fun q => z4 122 q (by decide))]
      · refine ⟨show h.1 + 21 < h.1 + 30 by omega, ?_⟩
        show (gx_set H a _).2.2 (h.1 + 21) = some (gx_ai 0 4 (fun q => nI (σ.1 123 q 0)))
        rw [gx_set_ne _ _ (show h.1 + 21 ≠ a by omega), f4 21 (23, 0, 4) (by decide) rfl, show (fun q => nI (σ.1 123 q 0)) = (fun _ => 0) from funext (fun q => by rw [z2 123 q (by decide)]; rfl)]
      · refine ⟨show h.1 + 22 < h.1 + 30 by omega, ?_⟩
        show (gx_set H a _).2.2 (h.1 + 22) = some (gx_ai 0 160 (fun q => nI (σ.1 124 q 0)))
        rw [gx_set_ne _ _ (show h.1 + 22 ≠ a by omega), f4 22 (24, 0, 160) (by decide) rfl, show (fun q => nI (σ.1 124 q 0)) = (fun _ => 0) from funext (fun q => by rw [z2 124 q (by decide)]; rfl)]
      · refine ⟨show h.1 + 23 < h.1 + 30 by omega, ?_⟩
        show (gx_set H a _).2.2 (h.1 + 23) = some (gx_ai 0 400 (fun q => σ.2.1 126 q 0))
        rw [gx_set_ne _ _ (show h.1 + 23 ≠ a by omega), f4 23 (26, 0, 400) (by decide) rfl, show (fun q => σ.2.1 126 q 0) = (fun _ => 0) from funext (fun q => z4 126 q (by decide))]
      · refine ⟨show h.1 + 24 < h.1 + 30 by omega, ?_⟩
        show (gx_set H a _).2.2 (h.1 + 24) = some (gx_ai 0 400 (fun q => nI (σ.1 127 q 0)))
        rw [gx_set_ne _ _ (show h.1 + 24 ≠ a by omega), f4 24 (27, 0, 400) (by decide) rfl, show (fun q => nI (σ.1 127 q 0)) = (fun _ => 0) from funext (fun q => by rw [z2 127 q (by decide)]; rfl)]
      · refine ⟨show h.1 + 25 < h.1 + 30 by omega, ?_⟩
        show (gx_set H a _).2.2 (h.1 + 25) = some (gx_ai 0 400 (fun q => gs_sf (σ.1 128 q 0)))
        rw [gx_set_ne _ _ (show h.1 + 25 ≠ a by omega), f4 25 (28, 0, 400) (by decide) rfl, show (fun q => gs_sf (σ.1 128 q 0)) = (fun _ => 0) from funext (fun q => by rw [z3]; rfl)]
      · refine ⟨show h.1 + 26 < h.1 + 30 by omega, ?_⟩
        show (gx_set H a _).2.2 (h.1 + 26) = some (gx_ai 0 400 (fun q => nI (σ.1 129 q 0)))
        rw [gx_set_ne _ _ (show h.1 + 26 ≠ a by omega), f4 26 (29, 0, 400) (by decide) rfl, show (fun q => nI (σ.1 129 q 0)) = (fun _ => 0) from funext (fun q => by rw [z2 129 q (by decide)]; rfl)]
      · refine ⟨show h.1 + 27 < h.1 + 30 by omega, ?_⟩
        show (gx_set H a _).2.2 (h.1 + 27) = some (gx_ai 0 400 (fun q => σ.2.1 130 q 0))
        rw [gx_set_ne _ _ (show h.1 + 27 ≠ a by omega), f4 27 (30, 0, 400) (by decide) rfl, show (fun q => σ.2.1 130 q 0) = (fun _ => 0) from funext (fun q => z4 130 q (by decide))]
      · refine ⟨show h.1 + 28 < h.1 + 30 by omega, ?_⟩
        show (gx_set H a _).2.2 (h.1 + 28) = some (gx_ai 0 400 (fun q => σ.2.1 131 q 0))
        rw [gx_set_ne _ _ (show h.1 + 28 ≠ a by omega), f4 28 (31, 0, 400) (by decide) rfl, show (fun q => σ.2.1 131 q 0) = (fun _ => 0) from funext (fun q => z4 131 q (by decide))]
      · refine ⟨show h.1 + 29 < h.1 + 30 by omega, ?_⟩
        show (gx_set H a _).2.2 (h.1 + 29) = some (gx_ai 0 400 (fun q => σ.2.1 132 q 0))
        rw [gx_set_ne _ _ (show h.1 + 29 ≠ a by omega), f4 29 (32, 0, 400) (by decide) rfl, show (fun q => σ.2.1 132 q 0) = (fun _ => 0) from funext (fun q => z4 132 q (by decide))]
    · have hk : gi_m k = false := by simpa using hk
      have hl' := sc_ax_lv hk hl
      have h9 := R.1 k i j hl'
      have hne := hf k i j hl'
      have ea : gs_ad (sc_ax σ) (gi_Am A a h.1) k i j = gs_ad σ A k i j := by
        rw [gs_adA (A := A) (by rw [gi_Am_c hk])]
        unfold gs_ad
        split <;> rfl
      rw [ea, sc_ax_cl, gs_clAm hk, gx_set_ne _ _ hne, f5 _ h9.1 hne]
      refine ⟨?_, h9.2⟩
      show _ < H.1
      omega
  · show H.1 = _
    rw [f1, R.2.1.1]
    simp [sc_ax, gs_n, gs_u]
  · show H.2.1 = _
    rw [f2, R.2.1.2]
    simp [sc_ax, gs_n, gs_u]
    rfl
  · have cls : ∀ k i j, gs_im k = false → gi_m k = false → gs_lv (sc_ax σ) k i j → gi_Am A a h.1 k i j = A k i j ∧ A k i j < h.1 ∧ A k i j ≠ a ∧ gs_lv σ k i j := by
      intro k i j gg hk hl
      have hl' := sc_ax_lv hk hl
      have h9 := R.1 k i j hl'
      have hne := hf k i j hl'
      rw [gs_ad_n gg] at h9 hne
      exact ⟨by rw [gi_Am_c hk], h9.1, hne, hl'⟩
    have mod : ∀ k i j, gi_m k = true → gs_lv (sc_ax σ) k i j → (k = 6 ∧ gi_Am A a h.1 k i j = a) ∨ (20 < k ∧ k ≠ 24 ∧ k ≠ 45 ∧ k < 53 ∧ gi_Am A a h.1 k i j = h.1 + gi_ix k) := by
      intro k i j hk hl
      obtain ⟨⟨rfl, rfl⟩, hm⟩ := sc_ax_m hk hl
      by_cases h6 : k = 6
      · exact Or.inl ⟨h6, by rw [h6]; rfl⟩
      · have hr : 20 < k ∧ k ≠ 24 ∧ k ≠ 45 ∧ k < 53 := by omega
        exact Or.inr ⟨hr.1, hr.2.1, hr.2.2.1, hr.2.2.2, by simp only [gi_Am, if_neg h6, if_pos (show 20 ≤ k by omega)]⟩
    by_cases hk : gi_m k = true
    · have i0 := (sc_ax_m hk l1).1
      by_cases hk' : gi_m k' = true
      · have i0' := (sc_ax_m hk' l2).1
        refine ⟨?_, by omega, by omega⟩
        rcases mod k i j hk l1 with ⟨p1, p2⟩ | ⟨p1, p2, p3, p4, p5⟩ <;> rcases mod k' i' j' hk' l2 with ⟨q1, q2⟩ | ⟨q1, q2, q3, q4, q5⟩
        · omega
        · omega
        · omega
        · rw [p5, q5] at he
          unfold gi_ix at he
          split at he <;> split at he <;> (try split at he) <;> (try split at he) <;> omega
      · obtain ⟨c1, c2, c3, c4⟩ := cls k' i' j' g2 (by simpa using hk') l2
        rcases mod k i j hk l1 with ⟨p1, p2⟩ | ⟨p1, p2, p3, p4, p5⟩
        · omega
        · omega
    · obtain ⟨c1, c2, c3, c4⟩ := cls k i j g1 (by simpa using hk) l1
      by_cases hk' : gi_m k' = true
      · rcases mod k' i' j' hk' l2 with ⟨p1, p2⟩ | ⟨p1, p2, p3, p4, p5⟩
        · omega
        · omega
      · obtain ⟨d1, d2, d3, d4⟩ := cls k' i' j' g2 (by simpa using hk') l2
        rw [c1, d1] at he
        exact R.2.2 k i j k' i' j' g1 g2 c4 d4 he
set_option maxHeartbeats 4000000 in
theorem cl_mi2 {S : gx_S} {x : Int32} {σ : gs_T} {A : gs_A} (hm : σ.1 31 0 0 = 1) : ∀ (m q : Nat) (h : gx_H), q + m = 16 → gs_R h (sc_fl 103 100 σ q) A → gx_Ev S gm_X6_init 1 282 [some (.ref (A 6 0 0)), some (.int x), some (.int (nI q))] [] h (fun r h' => gx_rt none r ∧ gs_R h' (sc_fl 103 100 σ 16) A ∧ r = none) := by
  intro m
  induction m with
  | zero =>
    intro q h hq R
    have hq0 : q = 16 := by omega
    subst hq0
    refine gx_iload_n dX6_init_282 rfl ?_
    refine gx_bipush dX6_init_283 (v := 16) (by decide) ?_
    refine gx_icmp_ge dX6_init_285 (tgt := 302) (by decide) (fun hc1 => ?_) (fun hc1 => absurd hc1 (fun z => z (by decide)))
    refine gx_return dX6_init_302 ?_
    exact ⟨rfl, R, rfl⟩
  | succ m ih =>
    intro q h hq R
    have hm2 : (sc_fl 103 100 σ q).1 31 0 0 = 1 := by rw [sc_fl_1]; exact hm
    refine gx_iload_n dX6_init_282 rfl ?_
    refine gx_bipush dX6_init_283 (v := 16) (by decide) ?_
    refine gx_icmp_ge dX6_init_285 (tgt := 302) (by decide) (fun hc1 => absurd hc1 (nI_ge (a := q) (b := 16) (by omega) (by decide))) (fun hc1 => ?_)
    refine gx_aload_n dX6_init_288 rfl ?_
    refine gx_get dX6_init_289 gf_X6_17 (gs_g6 R hm2) (v := .ref (A 23 0 0)) (rfl) ?_
    refine gx_iload_n dX6_init_292 rfl ?_
    refine gx_bipush dX6_init_293 (v := 100) (by decide) ?_
    refine ga_I103 (σ := (sc_fl 103 100 σ q)) hm2 dX6_init_295 R (q := q) (v := 100) (rfl) (by omega) (fun h R hs0 => ?_)
    refine gx_iinc dX6_init_296 rfl (v := nI (q + 1)) (nI_1 _) (by decide) rfl (L' := [some (.ref (A 6 0 0)), some (.int x), some (.int (nI (q + 1)))]) rfl ?_
    refine gx_goto dX6_init_299 (tgt := 282) (by decide) ?_
    exact ih (q + 1) _ (by omega) R
def gi_2 (σ : gs_T) : gs_T := sc_fl 103 100 (sc_ax σ) 16
set_option maxHeartbeats 4000000 in
theorem cc_X6_init {S : gx_S} {h : gx_H} {σ : gs_T} {A : gs_A} {a : Nat} (x : Int32) (R : gs_R h σ A) (hlt : a < h.1) (hf : gs_fr σ A a) (hz : gi_z σ (gi_n x)) (hA : h.2.2 a = some (gx_ob 6 (gi_fs h.1 0))) : gx_Cn S gm_X6_init 1 [.ref a, .int x] h (fun r h' => ∃ A1 : gs_A, gs_R h' (gi_2 σ) A1 ∧ A1 6 0 0 = a ∧ (∀ k, gi_m k = false → A1 k = A k) ∧ r = none) := by
  refine gx_Cn.of gt_X6_init (by simp [Value.category]) (Nat.le_of_ble_eq_true rfl) ?_
  show gx_Ev S gm_X6_init 1 0 [some (.ref a), some (.int x), none] [] h _
  refine cl_mi1 x hlt hA (fun H F => ?_)
  have R2 := R.adX hlt hf hz F
  refine gx_putF dX6_init_277 gf_X6_101 rfl (fun r hr => by cases hr; rfl) F.2.2.1 (by rw [gi_fs_len]; decide) rfl rfl ?_
  have e6 : a = gi_Am A a h.1 6 0 0 := rfl
  have eA : ∀ k, gi_m k = false → gi_Am A a h.1 k = A k := fun k hk => gi_Am_c hk
  revert R2
  generalize gx_set H a _ = H2
  intro R2
  revert R2
  generalize gi_Am A a h.1 = A1 at *
  intro R2
  rw [show gx_Ev S gm_X6_init 1 (277 + 3) [some (.ref a), some (.int x), none] [] = gx_Ev S gm_X6_init 1 280 [some (.ref (A1 6 0 0)), some (.int x), none] [] from by rw [← e6]]
  refine gx_iconst dX6_init_280 (v := 0) (by decide) ?_
  refine gx_istore_n dX6_init_281 (by decide) rfl (L' := [some (.ref (A1 6 0 0)), some (.int x), some (.int (nI 0))]) rfl ?_
  refine (cl_mi2 (by simp [sc_ax, gs_n, gs_u]) 16 0 H2 rfl R2).mono (fun r h9 q9 => ?_)
  exact ⟨q9.1, A1, q9.2.1, e6.symm, eA, q9.2.2⟩
