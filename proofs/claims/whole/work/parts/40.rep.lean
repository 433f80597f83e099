/-! the abstract state: numbers by (field, i, j); ints by (field, i, j); longs -/
abbrev gs_T : Type := (Nat → Nat → Nat → Nat) × (Nat → Nat → Nat → Int32) × (Nat → Int64)
abbrev gs_A : Type := Nat → Nat → Nat → Nat
def gs_u {α : Type} (f : Nat → Nat → Nat → α) (k i j : Nat) (v : α) : Nat → Nat → Nat → α := fun k' i' j' => if k' = k ∧ i' = i ∧ j' = j then v else f k' i' j'
theorem gs_u_ne {α : Type} {f : Nat → Nat → Nat → α} {k i j k' : Nat} {v : α} (h : k' ≠ k) : gs_u f k i j v k' = f k' := by
  funext i' j'
  simp [gs_u, h]
theorem gs_u_at {α : Type} {f : Nat → Nat → Nat → α} {k i j i' j' : Nat} {v : α} : gs_u f k i j v k i' j' = if i' = i ∧ j' = j then v else f k i' j' := by
  simp [gs_u]
theorem gs_u_1 {α : Type} {f : Nat → Nat → Nat → α} {k i : Nat} {v : α} : (fun q => gs_u f k i 0 v k q 0) = va_up (fun q => f k q 0) i v := by
  funext q
  by_cases h : q = i <;> simp [gs_u, va_up, h]
def gs_n (σ : gs_T) (f i j v : Nat) : gs_T := (gs_u σ.1 f i j v, σ.2.1, σ.2.2)
def gs_i (σ : gs_T) (f i j : Nat) (v : Int32) : gs_T := (σ.1, gs_u σ.2.1 f i j v, σ.2.2)
def gs_l (σ : gs_T) (o : Nat) (v : Int64) : gs_T := (σ.1, σ.2.1, va_up σ.2.2 o v)
def gs_op (x : Nat) (f : Nat → Nat) : Option Nat := match x with
  | 0 => none
  | y + 1 => some (f y)
def gs_sf (x : Nat) : Int32 := match x with
  | 0 => -1
  | y + 1 => nI y
def gs_cl (σ : gs_T) (A : gs_A) (k i j : Nat) : gx_E := match k with
  | 0 => gx_ob 0 [.ref (A 15 0 0), .int (nI (σ.1 2 0 0))]
  | 1 => gx_ob 1 [.int (nI i), .int (σ.2.1 6 i 0), .int (σ.2.1 7 i 0), .ref (A 13 i 0), .ref (A 14 i 0), .int (nI (σ.1 3 i 0)), .int (nI (σ.1 4 i 0))]
  | 2 => gx_ob 2 [.int (σ.2.1 16 i 0), .int (σ.2.1 17 i 0), .ref (A 4 (σ.1 8 i 0) (σ.1 9 i 0)), .int (σ.2.1 18 i 0)]
  | 3 => gx_ob 3 [.int (nI i), .int (nI (σ.1 12 i 0)), .int (σ.2.1 0 i 0), .int (nI (σ.1 13 i 0)), .int (nI (σ.1 14 i 0)), .int (σ.2.1 1 i 0), .int (σ.2.1 2 i 0), .long (σ.2.2 i), .int (σ.2.1 3 i 0), .int (σ.2.1 4 i 0)]
  | 4 => gx_ob 4 [.ref (A 3 j 0), .int (nI i), va_rf (gs_op (σ.1 7 i j) (fun g => A 4 g j)), .int (σ.2.1 8 i j), .int (σ.2.1 9 i j), .int (σ.2.1 10 i j), .int (σ.2.1 11 i j), .int (σ.2.1 12 i j), .int (σ.2.1 13 i j), .int (σ.2.1 14 i j), .int (σ.2.1 15 i j)]
  | 5 => gx_ob 5 [.ref (A 7 0 0), .ref (A 8 0 0), .ref (A 9 0 0), .ref (A 10 0 0), .ref (A 0 0 0), .int (nI (σ.1 1 0 0)), .int (σ.2.1 5 0 0), .ref (A 11 0 0), .ref (A 12 0 0)]
  | 6 => gx_ob 6 [.int (nI (σ.1 100 0 0)), .ref (A 21 0 0), .ref (A 22 0 0), .ref (A 23 0 0), .int (nI (σ.1 104 0 0)), .ref (A 25 0 0), .ref (A 26 0 0), .ref (A 27 0 0), .ref (A 28 0 0), .ref (A 29 0 0), .ref (A 30 0 0), .ref (A 31 0 0), .ref (A 32 0 0), .ref (A 33 0 0), .ref (A 34 0 0), .ref (A 35 0 0), .ref (A 36 0 0), .ref (A 37 0 0), .ref (A 38 0 0), .ref (A 39 0 0), .ref (A 40 0 0), .ref (A 41 0 0), .ref (A 42 0 0), .ref (A 43 0 0), .ref (A 44 0 0), .int (nI (σ.1 125 0 0)), .ref (A 46 0 0), .ref (A 47 0 0), .ref (A 48 0 0), .ref (A 49 0 0), .ref (A 50 0 0), .ref (A 51 0 0), .ref (A 52 0 0), .int (σ.2.1 133 0 0)]
  | 7 => gx_ar 2 (σ.1 0 0 0) (fun q => if σ.1 15 q 0 = 1 then some (A 1 q 0) else none)
  | 8 => gx_ai 0 16 (fun q => σ.2.1 19 q 0)
  | 9 => gx_ai 0 4 (fun q => σ.2.1 20 q 0)
  | 10 => gx_ar 4 40 (fun q => if σ.1 11 q 0 = 1 then some (A 3 q 0) else none)
  | 11 => gx_ai 0 16 (fun q => σ.2.1 21 q 0)
  | 12 => gx_ai 0 16 (fun q => σ.2.1 22 q 0)
  | 13 => gx_ar 5 40 (fun q => if σ.1 6 i q = 1 then some (A 4 i q) else none)
  | 14 => gx_ar 5 40 (fun q => gs_op (σ.1 5 i q) (fun x => A 4 i x))
  | 15 => gx_ar 3 240 (fun q => if σ.1 10 q 0 = 1 then some (σ.1 18 q 0) else none)
  | 16 => gx_ob 2 [.int (σ.2.1 23 0 0), .int (σ.2.1 24 0 0), .ref (A 4 (σ.1 16 0 0) (σ.1 17 0 0)), .int (σ.2.1 25 0 0)]
  | 21 => gx_ai 0 4 (fun q => σ.2.1 101 q 0)
  | 22 => gx_ai 1 4 (fun q => σ.2.1 102 q 0)
  | 23 => gx_ai 0 16 (fun q => σ.2.1 103 q 0)
  | 25 => gx_ai 0 40 (fun q => nI (σ.1 105 q 0))
  | 26 => gx_ai 0 40 (fun q => σ.2.1 106 q 0)
  | 27 => gx_ai 0 40 (fun q => nI (σ.1 107 q 0))
  | 28 => gx_ai 0 40 (fun q => nI (σ.1 108 q 0))
  | 29 => gx_ai 0 40 (fun q => σ.2.1 109 q 0)
  | 30 => gx_ai 0 40 (fun q => σ.2.1 110 q 0)
  | 31 => gx_ai 1 40 (fun q => σ.2.1 111 q 0)
  | 32 => gx_ai 0 40 (fun q => σ.2.1 112 q 0)
  | 33 => gx_ai 0 4 (fun q => σ.2.1 113 q 0)
  | 34 => gx_ai 1 160 (fun q => σ.2.1 114 q 0)
  | 35 => gx_ai 0 160 (fun q => σ.2.1 115 q 0)
  | 36 => gx_ai 1 160 (fun q => σ.2.1 116 q 0)
  | 37 => gx_ai 1 160 (fun q => σ.2.1 117 q 0)
  | 38 => gx_ai 1 160 (fun q => σ.2.1 118 q 0)
  | 39 => gx_ai 0 640 (fun q => σ.2.1 119 q 0)
  | 40 => gx_ai 1 640 (fun q => σ.2.1 120 q 0)
  | 41 => gx_ai 0 640 (fun q => σ.2.1 121 q 0)
  | 42 => gx_ai 0 640 (fun q => σ.2.1 122 q 0)
  | 43 => gx_ai 0 4 (fun q => nI (σ.1 123 q 0))
  | 44 => gx_ai 0 160 (fun q => nI (σ.1 124 q 0))
  | 46 => gx_ai 0 400 (fun q => σ.2.1 126 q 0)
  | 47 => gx_ai 0 400 (fun q => nI (σ.1 127 q 0))
  | 48 => gx_ai 0 400 (fun q => gs_sf (σ.1 128 q 0))
  | 49 => gx_ai 0 400 (fun q => nI (σ.1 129 q 0))
  | 50 => gx_ai 0 400 (fun q => σ.2.1 130 q 0)
  | 51 => gx_ai 0 400 (fun q => σ.2.1 131 q 0)
  | 52 => gx_ai 0 400 (fun q => σ.2.1 132 q 0)
  | _ => gx_ob 0 []
def gs_lv (σ : gs_T) (k i j : Nat) : Prop := match k with
  | 0 => i = 0 ∧ j = 0
  | 1 => σ.1 15 i 0 = 1 ∧ j = 0
  | 2 => σ.1 10 i 0 = 1 ∧ j = 0
  | 3 => σ.1 11 i 0 = 1 ∧ j = 0
  | 4 => σ.1 6 i j = 1
  | 5 => i = 0 ∧ j = 0
  | 6 => σ.1 31 0 0 = 1 ∧ i = 0 ∧ j = 0
  | 7 => i = 0 ∧ j = 0
  | 8 => i = 0 ∧ j = 0
  | 9 => i = 0 ∧ j = 0
  | 10 => i = 0 ∧ j = 0
  | 11 => i = 0 ∧ j = 0
  | 12 => i = 0 ∧ j = 0
  | 13 => σ.1 15 i 0 = 1 ∧ j = 0
  | 14 => σ.1 15 i 0 = 1 ∧ j = 0
  | 15 => i = 0 ∧ j = 0
  | 16 => σ.1 32 0 0 = 1 ∧ i = 0 ∧ j = 0
  | 21 => σ.1 31 0 0 = 1 ∧ i = 0 ∧ j = 0
  | 22 => σ.1 31 0 0 = 1 ∧ i = 0 ∧ j = 0
  | 23 => σ.1 31 0 0 = 1 ∧ i = 0 ∧ j = 0
  | 25 => σ.1 31 0 0 = 1 ∧ i = 0 ∧ j = 0
  | 26 => σ.1 31 0 0 = 1 ∧ i = 0 ∧ j = 0
  | 27 => σ.1 31 0 0 = 1 ∧ i = 0 ∧ j = 0
  | 28 => σ.1 31 0 0 = 1 ∧ i = 0 ∧ j = 0
  | 29 => σ.1 31 0 0 = 1 ∧ i = 0 ∧ j = 0
  | 30 => σ.1 31 0 0 = 1 ∧ i = 0 ∧ j = 0
  | 31 => σ.1 31 0 0 = 1 ∧ i = 0 ∧ j = 0
  | 32 => σ.1 31 0 0 = 1 ∧ i = 0 ∧ j = 0
  | 33 => σ.1 31 0 0 = 1 ∧ i = 0 ∧ j = 0
  | 34 => σ.1 31 0 0 = 1 ∧ i = 0 ∧ j = 0
  | 35 => σ.1 31 0 0 = 1 ∧ i = 0 ∧ j = 0
  | 36 => σ.1 31 0 0 = 1 ∧ i = 0 ∧ j = 0
  | 37 => σ.1 31 0 0 = 1 ∧ i = 0 ∧ j = 0
  | 38 => σ.1 31 0 0 = 1 ∧ i = 0 ∧ j = 0
  | 39 => σ.1 31 0 0 = 1 ∧ i = 0 ∧ j = 0
  | 40 => σ.1 31 0 0 = 1 ∧ i = 0 ∧ j = 0
  | 41 => σ.1 31 0 0 = 1 ∧ i = 0 ∧ j = 0
  | 42 => σ.1 31 0 0 = 1 ∧ i = 0 ∧ j = 0
  | 43 => σ.1 31 0 0 = 1 ∧ i = 0 ∧ j = 0
  | 44 => σ.1 31 0 0 = 1 ∧ i = 0 ∧ j = 0
  | 46 => σ.1 31 0 0 = 1 ∧ i = 0 ∧ j = 0
  | 47 => σ.1 31 0 0 = 1 ∧ i = 0 ∧ j = 0
  | 48 => σ.1 31 0 0 = 1 ∧ i = 0 ∧ j = 0
  | 49 => σ.1 31 0 0 = 1 ∧ i = 0 ∧ j = 0
  | 50 => σ.1 31 0 0 = 1 ∧ i = 0 ∧ j = 0
  | 51 => σ.1 31 0 0 = 1 ∧ i = 0 ∧ j = 0
  | 52 => σ.1 31 0 0 = 1 ∧ i = 0 ∧ j = 0
  | _ => False
def gs_wn (f : Nat) : Nat := match f with
  | 0 => 7
  | 1 => 5
  | 2 => 0
  | 3 => 1
  | 4 => 1
  | 5 => 14
  | 6 => 13
  | 7 => 4
  | 8 => 2
  | 9 => 2
  | 10 => 15
  | 11 => 10
  | 12 => 3
  | 13 => 3
  | 14 => 3
  | 15 => 7
  | 16 => 16
  | 17 => 16
  | 18 => 15
  | 100 => 6
  | 104 => 6
  | 105 => 25
  | 107 => 27
  | 108 => 28
  | 123 => 43
  | 124 => 44
  | 125 => 6
  | 127 => 47
  | 128 => 48
  | 129 => 49
  | _ => 99
def gs_wi (f : Nat) : Nat := match f with
  | 0 => 3
  | 1 => 3
  | 2 => 3
  | 3 => 3
  | 4 => 3
  | 5 => 5
  | 6 => 1
  | 7 => 1
  | 8 => 4
  | 9 => 4
  | 10 => 4
  | 11 => 4
  | 12 => 4
  | 13 => 4
  | 14 => 4
  | 15 => 4
  | 16 => 2
  | 17 => 2
  | 18 => 2
  | 19 => 8
  | 20 => 9
  | 21 => 11
  | 22 => 12
  | 23 => 16
  | 24 => 16
  | 25 => 16
  | 101 => 21
  | 102 => 22
  | 103 => 23
  | 106 => 26
  | 109 => 29
  | 110 => 30
  | 111 => 31
  | 112 => 32
  | 113 => 33
  | 114 => 34
  | 115 => 35
  | 116 => 36
  | 117 => 37
  | 118 => 38
  | 119 => 39
  | 120 => 40
  | 121 => 41
  | 122 => 42
  | 126 => 46
  | 130 => 50
  | 131 => 51
  | 132 => 52
  | 133 => 6
  | _ => 99
set_option maxHeartbeats 4000000 in
theorem gs_neN {σ : gs_T} {A : gs_A} {f i j : Nat} {v : Nat} {k : Nat} (hk : gs_wn f ≠ k) (i' j' : Nat) : gs_cl (gs_n σ f i j v) A k i' j' = gs_cl σ A k i' j' := by
  have hh : ∀ q, gs_wn q = k → gs_u σ.1 f i j v q = σ.1 q := fun q e => gs_u_ne (fun e2 => hk (by rw [← e2]; exact e))
  unfold gs_cl gs_n
  split
  · simp only [hh 2 rfl]
  · simp only [hh 3 rfl, hh 4 rfl]
  · simp only [hh 8 rfl, hh 9 rfl]
  · simp only [hh 12 rfl, hh 13 rfl, hh 14 rfl]
  · simp only [hh 7 rfl]
  · simp only [hh 1 rfl]
  · simp only [hh 100 rfl, hh 104 rfl, hh 125 rfl]
  · simp only [hh 0 rfl, hh 15 rfl]
  · rfl
  · rfl
  · simp only [hh 11 rfl]
  · rfl
  · rfl
  · simp only [hh 6 rfl]
  · simp only [hh 5 rfl]
  · simp only [hh 10 rfl, hh 18 rfl]
  · simp only [hh 16 rfl, hh 17 rfl]
  · rfl
  · rfl
  · rfl
  · simp only [hh 105 rfl]
  · rfl
  · simp only [hh 107 rfl]
  · simp only [hh 108 rfl]
  · rfl
  · rfl
  · rfl
  · rfl
  · rfl
  · rfl
  · rfl
  · rfl
  · rfl
  · rfl
  · rfl
  · rfl
  · rfl
  · rfl
  · simp only [hh 123 rfl]
  · simp only [hh 124 rfl]
  · rfl
  · simp only [hh 127 rfl]
  · simp only [hh 128 rfl]
  · simp only [hh 129 rfl]
  · rfl
  · rfl
  · rfl
  · rfl
set_option maxHeartbeats 4000000 in
theorem gs_neI {σ : gs_T} {A : gs_A} {f i j : Nat} {v : Int32} {k : Nat} (hk : gs_wi f ≠ k) (i' j' : Nat) : gs_cl (gs_i σ f i j v) A k i' j' = gs_cl σ A k i' j' := by
  have hh : ∀ q, gs_wi q = k → gs_u σ.2.1 f i j v q = σ.2.1 q := fun q e => gs_u_ne (fun e2 => hk (by rw [← e2]; exact e))
  unfold gs_cl gs_i
  split
  · rfl
  · simp only [hh 6 rfl, hh 7 rfl]
  · simp only [hh 16 rfl, hh 17 rfl, hh 18 rfl]
  · simp only [hh 0 rfl, hh 1 rfl, hh 2 rfl, hh 3 rfl, hh 4 rfl]
  · simp only [hh 8 rfl, hh 9 rfl, hh 10 rfl, hh 11 rfl, hh 12 rfl, hh 13 rfl, hh 14 rfl, hh 15 rfl]
  · simp only [hh 5 rfl]
  · simp only [hh 133 rfl]
  · rfl
  · simp only [hh 19 rfl]
  · simp only [hh 20 rfl]
  · rfl
  · simp only [hh 21 rfl]
  · simp only [hh 22 rfl]
  · rfl
  · rfl
  · rfl
  · simp only [hh 23 rfl, hh 24 rfl, hh 25 rfl]
  · simp only [hh 101 rfl]
  · simp only [hh 102 rfl]
  · simp only [hh 103 rfl]
  · rfl
  · simp only [hh 106 rfl]
  · rfl
  · rfl
  · simp only [hh 109 rfl]
  · simp only [hh 110 rfl]
  · simp only [hh 111 rfl]
  · simp only [hh 112 rfl]
  · simp only [hh 113 rfl]
  · simp only [hh 114 rfl]
  · simp only [hh 115 rfl]
  · simp only [hh 116 rfl]
  · simp only [hh 117 rfl]
  · simp only [hh 118 rfl]
  · simp only [hh 119 rfl]
  · simp only [hh 120 rfl]
  · simp only [hh 121 rfl]
  · simp only [hh 122 rfl]
  · rfl
  · rfl
  · simp only [hh 126 rfl]
  · rfl
  · rfl
  · rfl
  · simp only [hh 130 rfl]
  · simp only [hh 131 rfl]
  · simp only [hh 132 rfl]
  · rfl
theorem gs_neL {σ : gs_T} {A : gs_A} {q : Nat} {v : Int64} {k : Nat} (hk : k ≠ 3) (i' j' : Nat) : gs_cl (gs_l σ q v) A k i' j' = gs_cl σ A k i' j' := by
  unfold gs_cl gs_l
  split
  any_goals rfl
  exact absurd rfl hk
def gs_im (k : Nat) : Bool := k == 2 || k == 16
theorem gs_cl2 {σ : gs_T} {A : gs_A} {k i j : Nat} {fs : List Value} (h : gs_cl σ A k i j = gx_ob 2 fs) : gs_im k = true := by
  unfold gs_cl at h
  split at h
  all_goals first | rfl | (cases h; done) | (injection h with h1; injection h1 with h2 h3; omega)
theorem gs_cl2r {σ : gs_T} {A : gs_A} {k i j : Nat} (h : gs_im k = true) : ∃ fs, gs_cl σ A k i j = gx_ob 2 fs := by
  have h2 : k = 2 ∨ k = 16 := by simpa [gs_im] using h
  rcases h2 with rfl | rfl
  · exact ⟨_, rfl⟩
  · exact ⟨_, rfl⟩
def gs_ad (σ : gs_T) (A : gs_A) (k i j : Nat) : Nat := match k with
  | 2 => σ.1 18 i 0
  | 16 => σ.1 19 0 0
  | k => A k i j
theorem gs_ad_n {σ : gs_T} {A : gs_A} {k i j : Nat} (h : gs_im k = false) : gs_ad σ A k i j = A k i j := by
  unfold gs_ad
  split
  · cases h
  · cases h
  · rfl
theorem gs_adN {σ : gs_T} {A : gs_A} {f i j v : Nat} (h : f ≠ 18) (h2 : f ≠ 19) : ∀ k' i' j', gs_ad (gs_n σ f i j v) A k' i' j' = gs_ad σ A k' i' j' := by
  intro k' i' j'
  unfold gs_ad
  split
  · exact congrFun (congrFun (gs_u_ne (fun e => h e.symm)) _) _
  · exact congrFun (congrFun (gs_u_ne (fun e => h2 e.symm)) _) _
  · rfl
def gs_R (h : gx_H) (σ : gs_T) (A : gs_A) : Prop := (∀ k i j, gs_lv σ k i j → gs_ad σ A k i j < h.1 ∧ h.2.2 (gs_ad σ A k i j) = some (gs_cl σ A k i j)) ∧ (h.1 = σ.1 20 0 0 ∧ h.2.1 = σ.1 21 0 0) ∧ ∀ k i j k' i' j', gs_im k = false → gs_im k' = false → gs_lv σ k i j → gs_lv σ k' i' j' → A k i j = A k' i' j' → k = k' ∧ i = i' ∧ j = j'
theorem gs_R.ne {h : gx_H} {σ : gs_T} {A : gs_A} (R : gs_R h σ A) {k i j k' i' j' : Nat} (hk : gs_im k = false) (hl : gs_lv σ k i j) (hl' : gs_lv σ k' i' j') (hs : ¬ (k' = k ∧ i' = i ∧ j' = j)) : gs_ad σ A k' i' j' ≠ A k i j := by
  intro hA
  have e2 := (R.1 k i j hl).2
  rw [gs_ad_n hk] at e2
  by_cases h2 : gs_im k' = true
  · have e1 := (R.1 k' i' j' hl').2
    rw [hA, e2] at e1
    obtain ⟨fs, hfs⟩ := gs_cl2r (σ := σ) (A := A) (i := i') (j := j') h2
    rw [hfs] at e1
    have := gs_cl2 (Option.some.inj e1)
    rw [hk] at this
    cases this
  · have h3 : gs_im k' = false := by simpa using h2
    rw [gs_ad_n h3] at hA
    exact hs (R.2.2 k' i' j' k i j h3 hk hl' hl hA)
theorem gs_R.set {h : gx_H} {σ σ' : gs_T} {A : gs_A} (R : gs_R h σ A) {k i j : Nat} {e : gx_E} (hk : gs_im k = false) (hl : gs_lv σ k i j) (hzz : σ'.1 20 0 0 = σ.1 20 0 0 ∧ σ'.1 21 0 0 = σ.1 21 0 0) (had : ∀ k' i' j', gs_ad σ' A k' i' j' = gs_ad σ A k' i' j') (hlv : ∀ k' i' j', gs_lv σ' k' i' j' → gs_lv σ k' i' j') (he : gs_cl σ' A k i j = e) (ho : ∀ k' i' j', gs_lv σ k' i' j' → ¬ (k' = k ∧ i' = i ∧ j' = j) → gs_cl σ' A k' i' j' = gs_cl σ A k' i' j') : gs_R (gx_set h (A k i j) e) σ' A := by
  refine ⟨fun k' i' j' hl' => ?_, ⟨R.2.1.1.trans hzz.1.symm, R.2.1.2.trans hzz.2.symm⟩, fun k1 i1 j1 k2 i2 j2 g1 g2 l1 l2 => R.2.2 k1 i1 j1 k2 i2 j2 g1 g2 (hlv _ _ _ l1) (hlv _ _ _ l2)⟩
  have hl' := hlv _ _ _ hl'
  rw [had]
  refine ⟨(R.1 k' i' j' hl').1, ?_⟩
  by_cases hs : k' = k ∧ i' = i ∧ j' = j
  · obtain ⟨rfl, rfl, rfl⟩ := hs
    rw [gs_ad_n hk]
    simp [gx_set, va_up, he]
  · rw [ho k' i' j' hl' hs]
    simp only [gx_set, va_up, if_neg (R.ne hk hl hl' hs)]
    exact (R.1 k' i' j' hl').2
theorem gs_g0 {h : gx_H} {σ : gs_T} {A : gs_A} (R : gs_R h σ A)  : h.2.2 (A 0 0 0) = some (gx_ob 0 [.ref (A 15 0 0), .int (nI (σ.1 2 0 0))]) := (R.1 0 0 0 ⟨rfl, rfl⟩).2
theorem gs_g1 {h : gx_H} {σ : gs_T} {A : gs_A} (R : gs_R h σ A) {i : Nat} (hl : σ.1 15 i 0 = 1) : h.2.2 (A 1 i 0) = some (gx_ob 1 [.int (nI i), .int (σ.2.1 6 i 0), .int (σ.2.1 7 i 0), .ref (A 13 i 0), .ref (A 14 i 0), .int (nI (σ.1 3 i 0)), .int (nI (σ.1 4 i 0))]) := (R.1 1 i 0 ⟨hl, rfl⟩).2
theorem gs_g2 {h : gx_H} {σ : gs_T} {A : gs_A} (R : gs_R h σ A) {i : Nat} (hl : σ.1 10 i 0 = 1) : h.2.2 (σ.1 18 i 0) = some (gx_ob 2 [.int (σ.2.1 16 i 0), .int (σ.2.1 17 i 0), .ref (A 4 (σ.1 8 i 0) (σ.1 9 i 0)), .int (σ.2.1 18 i 0)]) := (R.1 2 i 0 ⟨hl, rfl⟩).2
theorem gs_g3 {h : gx_H} {σ : gs_T} {A : gs_A} (R : gs_R h σ A) {i : Nat} (hl : σ.1 11 i 0 = 1) : h.2.2 (A 3 i 0) = some (gx_ob 3 [.int (nI i), .int (nI (σ.1 12 i 0)), .int (σ.2.1 0 i 0), .int (nI (σ.1 13 i 0)), .int (nI (σ.1 14 i 0)), .int (σ.2.1 1 i 0), .int (σ.2.1 2 i 0), .long (σ.2.2 i), .int (σ.2.1 3 i 0), .int (σ.2.1 4 i 0)]) := (R.1 3 i 0 ⟨hl, rfl⟩).2
theorem gs_g4 {h : gx_H} {σ : gs_T} {A : gs_A} (R : gs_R h σ A) {i j : Nat} (hl : σ.1 6 i j = 1) : h.2.2 (A 4 i j) = some (gx_ob 4 [.ref (A 3 j 0), .int (nI i), va_rf (gs_op (σ.1 7 i j) (fun g => A 4 g j)), .int (σ.2.1 8 i j), .int (σ.2.1 9 i j), .int (σ.2.1 10 i j), .int (σ.2.1 11 i j), .int (σ.2.1 12 i j), .int (σ.2.1 13 i j), .int (σ.2.1 14 i j), .int (σ.2.1 15 i j)]) := (R.1 4 i j hl).2
theorem gs_g5 {h : gx_H} {σ : gs_T} {A : gs_A} (R : gs_R h σ A)  : h.2.2 (A 5 0 0) = some (gx_ob 5 [.ref (A 7 0 0), .ref (A 8 0 0), .ref (A 9 0 0), .ref (A 10 0 0), .ref (A 0 0 0), .int (nI (σ.1 1 0 0)), .int (σ.2.1 5 0 0), .ref (A 11 0 0), .ref (A 12 0 0)]) := (R.1 5 0 0 ⟨rfl, rfl⟩).2
theorem gs_g6 {h : gx_H} {σ : gs_T} {A : gs_A} (R : gs_R h σ A) (hl : σ.1 31 0 0 = 1) : h.2.2 (A 6 0 0) = some (gx_ob 6 [.int (nI (σ.1 100 0 0)), .ref (A 21 0 0), .ref (A 22 0 0), .ref (A 23 0 0), .int (nI (σ.1 104 0 0)), .ref (A 25 0 0), .ref (A 26 0 0), .ref (A 27 0 0), .ref (A 28 0 0), .ref (A 29 0 0), .ref (A 30 0 0), .ref (A 31 0 0), .ref (A 32 0 0), .ref (A 33 0 0), .ref (A 34 0 0), .ref (A 35 0 0), .ref (A 36 0 0), .ref (A 37 0 0), .ref (A 38 0 0), .ref (A 39 0 0), .ref (A 40 0 0), .ref (A 41 0 0), .ref (A 42 0 0), .ref (A 43 0 0), .ref (A 44 0 0), .int (nI (σ.1 125 0 0)), .ref (A 46 0 0), .ref (A 47 0 0), .ref (A 48 0 0), .ref (A 49 0 0), .ref (A 50 0 0), .ref (A 51 0 0), .ref (A 52 0 0), .int (σ.2.1 133 0 0)]) := (R.1 6 0 0 ⟨hl, rfl, rfl⟩).2
theorem gs_g7 {h : gx_H} {σ : gs_T} {A : gs_A} (R : gs_R h σ A)  : h.2.2 (A 7 0 0) = some (gx_ar 2 (σ.1 0 0 0) (fun q => if σ.1 15 q 0 = 1 then some (A 1 q 0) else none)) := (R.1 7 0 0 ⟨rfl, rfl⟩).2
theorem gs_g8 {h : gx_H} {σ : gs_T} {A : gs_A} (R : gs_R h σ A)  : h.2.2 (A 8 0 0) = some (gx_ai 0 16 (fun q => σ.2.1 19 q 0)) := (R.1 8 0 0 ⟨rfl, rfl⟩).2
theorem gs_g9 {h : gx_H} {σ : gs_T} {A : gs_A} (R : gs_R h σ A)  : h.2.2 (A 9 0 0) = some (gx_ai 0 4 (fun q => σ.2.1 20 q 0)) := (R.1 9 0 0 ⟨rfl, rfl⟩).2
theorem gs_g10 {h : gx_H} {σ : gs_T} {A : gs_A} (R : gs_R h σ A)  : h.2.2 (A 10 0 0) = some (gx_ar 4 40 (fun q => if σ.1 11 q 0 = 1 then some (A 3 q 0) else none)) := (R.1 10 0 0 ⟨rfl, rfl⟩).2
theorem gs_g11 {h : gx_H} {σ : gs_T} {A : gs_A} (R : gs_R h σ A)  : h.2.2 (A 11 0 0) = some (gx_ai 0 16 (fun q => σ.2.1 21 q 0)) := (R.1 11 0 0 ⟨rfl, rfl⟩).2
theorem gs_g12 {h : gx_H} {σ : gs_T} {A : gs_A} (R : gs_R h σ A)  : h.2.2 (A 12 0 0) = some (gx_ai 0 16 (fun q => σ.2.1 22 q 0)) := (R.1 12 0 0 ⟨rfl, rfl⟩).2
theorem gs_g13 {h : gx_H} {σ : gs_T} {A : gs_A} (R : gs_R h σ A) {i : Nat} (hl : σ.1 15 i 0 = 1) : h.2.2 (A 13 i 0) = some (gx_ar 5 40 (fun q => if σ.1 6 i q = 1 then some (A 4 i q) else none)) := (R.1 13 i 0 ⟨hl, rfl⟩).2
theorem gs_g14 {h : gx_H} {σ : gs_T} {A : gs_A} (R : gs_R h σ A) {i : Nat} (hl : σ.1 15 i 0 = 1) : h.2.2 (A 14 i 0) = some (gx_ar 5 40 (fun q => gs_op (σ.1 5 i q) (fun x => A 4 i x))) := (R.1 14 i 0 ⟨hl, rfl⟩).2
theorem gs_g15 {h : gx_H} {σ : gs_T} {A : gs_A} (R : gs_R h σ A)  : h.2.2 (A 15 0 0) = some (gx_ar 3 240 (fun q => if σ.1 10 q 0 = 1 then some (σ.1 18 q 0) else none)) := (R.1 15 0 0 ⟨rfl, rfl⟩).2
theorem gs_g16 {h : gx_H} {σ : gs_T} {A : gs_A} (R : gs_R h σ A) (hl : σ.1 32 0 0 = 1) : h.2.2 (σ.1 19 0 0) = some (gx_ob 2 [.int (σ.2.1 23 0 0), .int (σ.2.1 24 0 0), .ref (A 4 (σ.1 16 0 0) (σ.1 17 0 0)), .int (σ.2.1 25 0 0)]) := (R.1 16 0 0 ⟨hl, rfl, rfl⟩).2
theorem gs_g21 {h : gx_H} {σ : gs_T} {A : gs_A} (R : gs_R h σ A) (hl : σ.1 31 0 0 = 1) : h.2.2 (A 21 0 0) = some (gx_ai 0 4 (fun q => σ.2.1 101 q 0)) := (R.1 21 0 0 ⟨hl, rfl, rfl⟩).2
theorem gs_g22 {h : gx_H} {σ : gs_T} {A : gs_A} (R : gs_R h σ A) (hl : σ.1 31 0 0 = 1) : h.2.2 (A 22 0 0) = some (gx_ai 1 4 (fun q => σ.2.1 102 q 0)) := (R.1 22 0 0 ⟨hl, rfl, rfl⟩).2
theorem gs_g23 {h : gx_H} {σ : gs_T} {A : gs_A} (R : gs_R h σ A) (hl : σ.1 31 0 0 = 1) : h.2.2 (A 23 0 0) = some (gx_ai 0 16 (fun q => σ.2.1 103 q 0)) := (R.1 23 0 0 ⟨hl, rfl, rfl⟩).2
theorem gs_g25 {h : gx_H} {σ : gs_T} {A : gs_A} (R : gs_R h σ A) (hl : σ.1 31 0 0 = 1) : h.2.2 (A 25 0 0) = some (gx_ai 0 40 (fun q => nI (σ.1 105 q 0))) := (R.1 25 0 0 ⟨hl, rfl, rfl⟩).2
theorem gs_g26 {h : gx_H} {σ : gs_T} {A : gs_A} (R : gs_R h σ A) (hl : σ.1 31 0 0 = 1) : h.2.2 (A 26 0 0) = some (gx_ai 0 40 (fun q => σ.2.1 106 q 0)) := (R.1 26 0 0 ⟨hl, rfl, rfl⟩).2
theorem gs_g27 {h : gx_H} {σ : gs_T} {A : gs_A} (R : gs_R h σ A) (hl : σ.1 31 0 0 = 1) : h.2.2 (A 27 0 0) = some (gx_ai 0 40 (fun q => nI (σ.1 107 q 0))) := (R.1 27 0 0 ⟨hl, rfl, rfl⟩).2
theorem gs_g28 {h : gx_H} {σ : gs_T} {A : gs_A} (R : gs_R h σ A) (hl : σ.1 31 0 0 = 1) : h.2.2 (A 28 0 0) = some (gx_ai 0 40 (fun q => nI (σ.1 108 q 0))) := (R.1 28 0 0 ⟨hl, rfl, rfl⟩).2
theorem gs_g29 {h : gx_H} {σ : gs_T} {A : gs_A} (R : gs_R h σ A) (hl : σ.1 31 0 0 = 1) : h.2.2 (A 29 0 0) = some (gx_ai 0 40 (fun q => σ.2.1 109 q 0)) := (R.1 29 0 0 ⟨hl, rfl, rfl⟩).2
theorem gs_g30 {h : gx_H} {σ : gs_T} {A : gs_A} (R : gs_R h σ A) (hl : σ.1 31 0 0 = 1) : h.2.2 (A 30 0 0) = some (gx_ai 0 40 (fun q => σ.2.1 110 q 0)) := (R.1 30 0 0 ⟨hl, rfl, rfl⟩).2
theorem gs_g31 {h : gx_H} {σ : gs_T} {A : gs_A} (R : gs_R h σ A) (hl : σ.1 31 0 0 = 1) : h.2.2 (A 31 0 0) = some (gx_ai 1 40 (fun q => σ.2.1 111 q 0)) := (R.1 31 0 0 ⟨hl, rfl, rfl⟩).2
theorem gs_g32 {h : gx_H} {σ : gs_T} {A : gs_A} (R : gs_R h σ A) (hl : σ.1 31 0 0 = 1) : h.2.2 (A 32 0 0) = some (gx_ai 0 40 (fun q => σ.2.1 112 q 0)) := (R.1 32 0 0 ⟨hl, rfl, rfl⟩).2
theorem gs_g33 {h : gx_H} {σ : gs_T} {A : gs_A} (R : gs_R h σ A) (hl : σ.1 31 0 0 = 1) : h.2.2 (A 33 0 0) = some (gx_ai 0 4 (fun q => σ.2.1 113 q 0)) := (R.1 33 0 0 ⟨hl, rfl, rfl⟩).2
theorem gs_g34 {h : gx_H} {σ : gs_T} {A : gs_A} (R : gs_R h σ A) (hl : σ.1 31 0 0 = 1) : h.2.2 (A 34 0 0) = some (gx_ai 1 160 (fun q => σ.2.1 114 q 0)) := (R.1 34 0 0 ⟨hl, rfl, rfl⟩).2
theorem gs_g35 {h : gx_H} {σ : gs_T} {A : gs_A} (R : gs_R h σ A) (hl : σ.1 31 0 0 = 1) : h.2.2 (A 35 0 0) = some (gx_ai 0 160 (fun q => σ.2.1 115 q 0)) := (R.1 35 0 0 ⟨hl, rfl, rfl⟩).2
theorem gs_g36 {h : gx_H} {σ : gs_T} {A : gs_A} (R : gs_R h σ A) (hl : σ.1 31 0 0 = 1) : h.2.2 (A 36 0 0) = some (gx_ai 1 160 (fun q => σ.2.1 116 q 0)) := (R.1 36 0 0 ⟨hl, rfl, rfl⟩).2
theorem gs_g37 {h : gx_H} {σ : gs_T} {A : gs_A} (R : gs_R h σ A) (hl : σ.1 31 0 0 = 1) : h.2.2 (A 37 0 0) = some (gx_ai 1 160 (fun q => σ.2.1 117 q 0)) := (R.1 37 0 0 ⟨hl, rfl, rfl⟩).2
theorem gs_g38 {h : gx_H} {σ : gs_T} {A : gs_A} (R : gs_R h σ A) (hl : σ.1 31 0 0 = 1) : h.2.2 (A 38 0 0) = some (gx_ai 1 160 (fun q => σ.2.1 118 q 0)) := (R.1 38 0 0 ⟨hl, rfl, rfl⟩).2
theorem gs_g39 {h : gx_H} {σ : gs_T} {A : gs_A} (R : gs_R h σ A) (hl : σ.1 31 0 0 = 1) : h.2.2 (A 39 0 0) = some (gx_ai 0 640 (fun q => σ.2.1 119 q 0)) := (R.1 39 0 0 ⟨hl, rfl, rfl⟩).2
theorem gs_g40 {h : gx_H} {σ : gs_T} {A : gs_A} (R : gs_R h σ A) (hl : σ.1 31 0 0 = 1) : h.2.2 (A 40 0 0) = some (gx_ai 1 640 (fun q => σ.2.1 120 q 0)) := (R.1 40 0 0 ⟨hl, rfl, rfl⟩).2
theorem gs_g41 {h : gx_H} {σ : gs_T} {A : gs_A} (R : gs_R h σ A) (hl : σ.1 31 0 0 = 1) : h.2.2 (A 41 0 0) = some (gx_ai 0 640 (fun q => σ.2.1 121 q 0)) := (R.1 41 0 0 ⟨hl, rfl, rfl⟩).2
theorem gs_g42 {h : gx_H} {σ : gs_T} {A : gs_A} (R : gs_R h σ A) (hl : σ.1 31 0 0 = 1) : h.2.2 (A 42 0 0) = some (gx_ai 0 640 (fun q => σ.2.1 122 q 0)) := (R.1 42 0 0 ⟨hl, rfl, rfl⟩).2
theorem gs_g43 {h : gx_H} {σ : gs_T} {A : gs_A} (R : gs_R h σ A) (hl : σ.1 31 0 0 = 1) : h.2.2 (A 43 0 0) = some (gx_ai 0 4 (fun q => nI (σ.1 123 q 0))) := (R.1 43 0 0 ⟨hl, rfl, rfl⟩).2
theorem gs_g44 {h : gx_H} {σ : gs_T} {A : gs_A} (R : gs_R h σ A) (hl : σ.1 31 0 0 = 1) : h.2.2 (A 44 0 0) = some (gx_ai 0 160 (fun q => nI (σ.1 124 q 0))) := (R.1 44 0 0 ⟨hl, rfl, rfl⟩).2
theorem gs_g46 {h : gx_H} {σ : gs_T} {A : gs_A} (R : gs_R h σ A) (hl : σ.1 31 0 0 = 1) : h.2.2 (A 46 0 0) = some (gx_ai 0 400 (fun q => σ.2.1 126 q 0)) := (R.1 46 0 0 ⟨hl, rfl, rfl⟩).2
theorem gs_g47 {h : gx_H} {σ : gs_T} {A : gs_A} (R : gs_R h σ A) (hl : σ.1 31 0 0 = 1) : h.2.2 (A 47 0 0) = some (gx_ai 0 400 (fun q => nI (σ.1 127 q 0))) := (R.1 47 0 0 ⟨hl, rfl, rfl⟩).2
theorem gs_g48 {h : gx_H} {σ : gs_T} {A : gs_A} (R : gs_R h σ A) (hl : σ.1 31 0 0 = 1) : h.2.2 (A 48 0 0) = some (gx_ai 0 400 (fun q => gs_sf (σ.1 128 q 0))) := (R.1 48 0 0 ⟨hl, rfl, rfl⟩).2
theorem gs_g49 {h : gx_H} {σ : gs_T} {A : gs_A} (R : gs_R h σ A) (hl : σ.1 31 0 0 = 1) : h.2.2 (A 49 0 0) = some (gx_ai 0 400 (fun q => nI (σ.1 129 q 0))) := (R.1 49 0 0 ⟨hl, rfl, rfl⟩).2
theorem gs_g50 {h : gx_H} {σ : gs_T} {A : gs_A} (R : gs_R h σ A) (hl : σ.1 31 0 0 = 1) : h.2.2 (A 50 0 0) = some (gx_ai 0 400 (fun q => σ.2.1 130 q 0)) := (R.1 50 0 0 ⟨hl, rfl, rfl⟩).2
theorem gs_g51 {h : gx_H} {σ : gs_T} {A : gs_A} (R : gs_R h σ A) (hl : σ.1 31 0 0 = 1) : h.2.2 (A 51 0 0) = some (gx_ai 0 400 (fun q => σ.2.1 131 q 0)) := (R.1 51 0 0 ⟨hl, rfl, rfl⟩).2
theorem gs_g52 {h : gx_H} {σ : gs_T} {A : gs_A} (R : gs_R h σ A) (hl : σ.1 31 0 0 = 1) : h.2.2 (A 52 0 0) = some (gx_ai 0 400 (fun q => σ.2.1 132 q 0)) := (R.1 52 0 0 ⟨hl, rfl, rfl⟩).2
