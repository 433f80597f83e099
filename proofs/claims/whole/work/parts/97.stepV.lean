/-! pure: the step that sends values -/
theorem po_of {σ : gs_T} {k : Int32} {o f q g y : Nat} {t : Int32} : gv_of (sm_put σ k o f q t) g y ↔ gv_of σ g y := by
  unfold gv_of
  simp (decide := true) only [sm_put, gs_n, gs_i, gs_u_ne]
theorem po_of2 {σ : gs_T} {k : Int32} {o f g y : Nat} {t : Int32} : ∀ m, (gv_of (sm_po σ k o f t m) g y ↔ gv_of σ g y) := by
  intro m
  induction m with
  | zero => exact Iff.rfl
  | succ m ih =>
    rw [sm_po, sm_po1]
    by_cases h : ¬ f = m + 1 ∧ gv_of (sm_po σ k o f t m) m o
    · rw [if_pos h]; exact po_of.trans ih
    · rw [if_neg h]; exact ih
theorem po_none {σ : gs_T} {k : Int32} {o f : Nat} {t : Int32} (a : Nat) : ∀ m, (∀ q, a ≤ q → q < a + m → ¬ (¬ f = q + 1 ∧ gv_of σ q o)) → sm_po σ k o f t (a + m) = sm_po σ k o f t a := by
  intro m
  induction m with
  | zero => intro _; rfl
  | succ m ih =>
    intro h
    rw [show a + (m + 1) = (a + m) + 1 from rfl, sm_po, sm_po1, if_neg]
    · exact ih (fun q h1 h2 => h q h1 (by omega))
    · rw [po_of2]; exact h (a + m) (by omega) (by omega)
theorem po_hit {σ : gs_T} {k : Int32} {o f q : Nat} {t : Int32} (h : ¬ f = q + 1 ∧ gv_of σ q o) : sm_po σ k o f t (q + 1) = sm_put (sm_po σ k o f t q) k o f q t := by
  rw [sm_po, sm_po1, if_pos]
  rw [po_of2]; exact h
theorem po_one {σ : gs_T} {k : Int32} {o f q n : Nat} {t : Int32} (hq : q < n) (h : ∀ x, x < n → ((¬ f = x + 1 ∧ gv_of σ x o) ↔ x = q)) : sm_po σ k o f t n = sm_put σ k o f q t := by
  have h1 := po_none (σ := σ) (k := k) (o := o) (f := f) (t := t) (q + 1) (n - (q + 1)) (fun x a b z => by have := (h x (by omega)).mp z; omega)
  rw [show q + 1 + (n - (q + 1)) = n by omega] at h1
  have h2 := po_none (σ := σ) (k := k) (o := o) (f := f) (t := t) 0 q (fun x a b z => by have := (h x (by omega)).mp z; omega)
  rw [Nat.zero_add] at h2
  rw [h1, po_hit ((h q hq).mpr rfl), h2, sm_po]
theorem po_zero {σ : gs_T} {k : Int32} {o f n : Nat} {t : Int32} (h : ∀ x, x < n → ¬ (¬ f = x + 1 ∧ gv_of σ x o)) : sm_po σ k o f t n = σ := by
  have h2 := po_none (σ := σ) (k := k) (o := o) (f := f) (t := t) 0 n (fun x a b => h x (by omega))
  rw [Nat.zero_add] at h2
  rw [h2, sm_po]
theorem po_two {σ : gs_T} {k : Int32} {o f p q n : Nat} {t : Int32} (hpq : p < q) (hq : q < n) (h : ∀ x, x < n → ((¬ f = x + 1 ∧ gv_of σ x o) ↔ (x = p ∨ x = q))) : sm_po σ k o f t n = sm_put (sm_put σ k o f p t) k o f q t := by
  have h1 := po_none (σ := σ) (k := k) (o := o) (f := f) (t := t) (q + 1) (n - (q + 1)) (fun x a b z => by have := (h x (by omega)).mp z; omega)
  rw [show q + 1 + (n - (q + 1)) = n by omega] at h1
  have h2 := po_none (σ := σ) (k := k) (o := o) (f := f) (t := t) (p + 1) (q - (p + 1)) (fun x a b z => by have := (h x (by omega)).mp z; omega)
  rw [show p + 1 + (q - (p + 1)) = q by omega] at h2
  have h3 := po_none (σ := σ) (k := k) (o := o) (f := f) (t := t) 0 p (fun x a b z => by have := (h x (by omega)).mp z; omega)
  rw [Nat.zero_add] at h3
  rw [h1, po_hit ((h q hq).mpr (Or.inr rfl)), h2, po_hit ((h p (by omega)).mpr (Or.inl rfl)), h3, sm_po]
theorem su_ge {f : Nat → Nat} {m j : Nat} (hj : j < m) : f j ≤ ti_su f m := by
  induction m with
  | zero => omega
  | succ m ih =>
    rw [ti_su]
    by_cases h : j = m
    · rw [h]; omega
    · have := ih (by omega); omega
theorem su2_ge {f : Nat → Nat → Nat} {g o : Nat} (hg : g < 4) (ho : o < 40) : f g o ≤ ti_su (fun x => ti_su (fun y => f x y) 40) 4 := by
  have h1 := su_ge (f := fun y => f g y) ho
  have h2 := su_ge (f := fun x => ti_su (fun y => f x y) 40) hg
  have h1 : f g o ≤ ti_su (fun y => f g y) 40 := h1
  have h2 : ti_su (fun y => f g y) 40 ≤ ti_su (fun x => ti_su (fun y => f x y) 40) 4 := h2
  omega
theorem su2_dec {f f' : Nat → Nat → Nat} {g o d : Nat} (hg : g < 4) (ho : o < 40) (h : f' g o + d = f g o) (hne : ∀ x y, ¬ (x = g ∧ y = o) → f' x y = f x y) : ti_su (fun x => ti_su (fun y => f' x y) 40) 4 + d = ti_su (fun x => ti_su (fun y => f x y) 40) 4 := by
  have h1 := ti_su_upd (f := fun y => f' g y) (g := fun y => f g y) ho (fun i _ hi => hne g i (fun z => hi z.2))
  have h2 := ti_su_upd (f := fun x => ti_su (fun y => f' x y) 40) (g := fun x => ti_su (fun y => f x y) 40) hg (fun i _ hi => ti_su_congr (fun y _ => hne i y (fun z => hi z.1)))
  have h1 : ti_su (fun y => f' g y) 40 + f g o = ti_su (fun y => f g y) 40 + f' g o := h1
  have h2 : ti_su (fun x => ti_su (fun y => f' x y) 40) 4 + ti_su (fun y => f g y) 40 = ti_su (fun x => ti_su (fun y => f x y) 40) 4 + ti_su (fun y => f' g y) 40 := h2
  omega
theorem jr_uq {τ : gs_T} (R : pp_R τ) {g j k o : Nat} (hg : g < τ.1 0 0 0) (hj : j < τ.1 3 g 0) (hk : k < τ.1 3 g 0) (h1 : τ.1 5 g j = o + 1) (h2 : τ.1 5 g k = o + 1) : j = k := by
  obtain ⟨_, _, r3, _, _⟩ := R g hg
  rcases Nat.lt_trichotomy j k with h | h | h
  · have := r3 j k o o h hk h1 h2; unfold pp_b at this; omega
  · exact h
  · have := r3 k j o o h hj h2 h1; unfold pp_b at this; omega
theorem jy_ky {τ : gs_T} (W : gw_W τ) (S : pp_S τ) {g o : Nat} (hp : τ.1 6 g o = 1) : sc_ky τ g o % τ.1 0 0 0 = g ∧ sc_ky τ g o < 16 := by
  have h1 := (S.1 g o).mp hp
  unfold sc_ky
  by_cases h : τ.1 13 o 0 % τ.1 0 0 0 = g
  · rw [if_pos h]; exact ⟨h, gw_a W o⟩
  · rw [if_neg h]
    rcases h1.2 with z | z
    · exact absurd z.symm h
    · exact ⟨z.symm, gw_b W o⟩
theorem jy_b {τ μ : gs_T} (J : jj_J τ μ) {g o g' : Nat} (hp : τ.1 6 g o = 1) (h7 : τ.1 7 g o = g' + 1) : ¬ τ.2.1 0 o 0 = 0 ∧ ¬ τ.1 13 o 0 % τ.1 0 0 0 = τ.1 14 o 0 % τ.1 0 0 0 ∧ μ.1 108 o 0 = τ.1 14 o 0 := by
  have S := J.2.1.2.1
  have ho := (gw_p J.2.1.1 hp).2
  have h2 := S.2.1 g o hp
  have h3 : ¬ τ.1 13 o 0 % τ.1 0 0 0 = τ.1 14 o 0 % τ.1 0 0 0 := fun z => by rw [if_pos z] at h2; omega
  have h4 : ¬ τ.2.1 0 o 0 = 0 := fun z => h3 (by rw [(S.2.2 o ho).2 z])
  refine ⟨h4, h3, ?_⟩
  have h5 := (J.1.2.1.1 o ho).2.2.2.1
  rw [if_neg h4] at h5
  exact h5.symm
theorem jy_fl {τ μ : gs_T} (J : jj_J τ μ) {g o : Nat} (hp : τ.1 6 g o = 1) (h : τ.2.1 8 g o = -1 ∨ τ.2.1 12 g o = 0) : τ.1 2 0 0 < 240 := by
  have hn := jq_n J
  have hgo := gw_p J.2.1.1 hp
  have F : τ.1 2 0 0 + ti_su (fun g => ti_su (fun o => pp_p τ g o) 40) 4 ≤ 6 * τ.1 1 0 0 := J.2.1.2.2.2.2.2.2.2
  have h9 : pp_p τ g o ≤ ti_su (fun g => ti_su (fun o => pp_p τ g o) 40) 4 := su2_ge (f := pp_p τ) (by omega) (by omega)
  have h8 : 1 ≤ pp_p τ g o := by
    unfold pp_p
    rw [if_pos hp]
    rcases h with h | h
    · rw [if_pos h]; omega
    · rw [if_pos h]; omega
  omega
set_option maxHeartbeats 4000000 in
theorem jV_step {τ μ : gs_T} (J : jj_J τ μ) {g o g' : Nat} (hp : τ.1 6 g o = 1) (h7 : τ.1 7 g o = g' + 1) (h12 : τ.2.1 12 g o = 0) (hk : τ.1 4 g 0 < τ.1 3 g 0) (h5 : τ.1 5 g (τ.1 4 g 0) = o + 1) : jj_J (gs_i (gs_n (sc_ad (sc_nw τ 4) (τ.1 2 0 0) (τ.1 20 0 0) 2 (nI g) g' o (τ.2.1 19 (sc_ky τ g o) 0)) 2 0 0 (τ.1 2 0 0 + 1)) 12 g o 1) (sm_put (gs_i μ 117 (40 * g + o) 0 1) 2 o (g + 1) g' (-1)) := by
  have hn := jq_n J
  have hgo := gw_p J.2.1.1 hp
  have h01 : ¬ (0 : Int32) = 1 := by decide
  have hfl := jy_fl J hp (Or.inr h12)
  have hm2 : μ.1 125 0 0 = τ.1 2 0 0 := J.1.1.2.2.1
  have hp' := gw_ot J.2.1.1 hp h7
  have hgo' := gw_p J.2.1.1 hp'
  have hyb := jy_b J hp h7
  have hyk := jy_ky J.2.1.1 J.2.1.2.1 hp
  have h7' : τ.1 7 g' o = g + 1 := by
    rcases js_two J.2.1.1 J.2.1.2.1 hp with w | ⟨g2, w1, w2, w3, w4, _⟩
    · omega
    · rw [show g' = g2 by omega]; exact w4
  obtain ⟨τ', hT⟩ : ∃ t, t = (gs_i (gs_n (sc_ad (sc_nw τ 4) (τ.1 2 0 0) (τ.1 20 0 0) 2 (nI g) g' o (τ.2.1 19 (sc_ky τ g o) 0)) 2 0 0 (τ.1 2 0 0 + 1)) 12 g o 1) := ⟨_, rfl⟩
  obtain ⟨μ', hM⟩ : ∃ t, t = (sm_put (gs_i μ 117 (40 * g + o) 0 1) 2 o (g + 1) g' (-1)) := ⟨_, rfl⟩
  rw [← hT, ← hM]
  have n0 : τ'.1 0 = τ.1 0 := by rw [hT]; simp (decide := true) only [gs_i, gs_n, gs_l, gs_u_ne, sc_ad, sc_nw, sm_put]
  have n1 : τ'.1 1 = τ.1 1 := by rw [hT]; simp (decide := true) only [gs_i, gs_n, gs_l, gs_u_ne, sc_ad, sc_nw, sm_put]
  have n3 : τ'.1 3 = τ.1 3 := by rw [hT]; simp (decide := true) only [gs_i, gs_n, gs_l, gs_u_ne, sc_ad, sc_nw, sm_put]
  have n4 : τ'.1 4 = τ.1 4 := by rw [hT]; simp (decide := true) only [gs_i, gs_n, gs_l, gs_u_ne, sc_ad, sc_nw, sm_put]
  have n5 : τ'.1 5 = τ.1 5 := by rw [hT]; simp (decide := true) only [gs_i, gs_n, gs_l, gs_u_ne, sc_ad, sc_nw, sm_put]
  have n6 : τ'.1 6 = τ.1 6 := by rw [hT]; simp (decide := true) only [gs_i, gs_n, gs_l, gs_u_ne, sc_ad, sc_nw, sm_put]
  have n7 : τ'.1 7 = τ.1 7 := by rw [hT]; simp (decide := true) only [gs_i, gs_n, gs_l, gs_u_ne, sc_ad, sc_nw, sm_put]
  have n12 : τ'.1 12 = τ.1 12 := by rw [hT]; simp (decide := true) only [gs_i, gs_n, gs_l, gs_u_ne, sc_ad, sc_nw, sm_put]
  have n13 : τ'.1 13 = τ.1 13 := by rw [hT]; simp (decide := true) only [gs_i, gs_n, gs_l, gs_u_ne, sc_ad, sc_nw, sm_put]
  have n14 : τ'.1 14 = τ.1 14 := by rw [hT]; simp (decide := true) only [gs_i, gs_n, gs_l, gs_u_ne, sc_ad, sc_nw, sm_put]
  have i0 : τ'.2.1 0 = τ.2.1 0 := by rw [hT]; simp (decide := true) only [gs_i, gs_n, gs_l, gs_u_ne, sc_ad, sc_nw, sm_put]
  have i1 : τ'.2.1 1 = τ.2.1 1 := by rw [hT]; simp (decide := true) only [gs_i, gs_n, gs_l, gs_u_ne, sc_ad, sc_nw, sm_put]
  have i2 : τ'.2.1 2 = τ.2.1 2 := by rw [hT]; simp (decide := true) only [gs_i, gs_n, gs_l, gs_u_ne, sc_ad, sc_nw, sm_put]
  have i3 : τ'.2.1 3 = τ.2.1 3 := by rw [hT]; simp (decide := true) only [gs_i, gs_n, gs_l, gs_u_ne, sc_ad, sc_nw, sm_put]
  have i4 : τ'.2.1 4 = τ.2.1 4 := by rw [hT]; simp (decide := true) only [gs_i, gs_n, gs_l, gs_u_ne, sc_ad, sc_nw, sm_put]
  have i5 : τ'.2.1 5 = τ.2.1 5 := by rw [hT]; simp (decide := true) only [gs_i, gs_n, gs_l, gs_u_ne, sc_ad, sc_nw, sm_put]
  have i6 : τ'.2.1 6 = τ.2.1 6 := by rw [hT]; simp (decide := true) only [gs_i, gs_n, gs_l, gs_u_ne, sc_ad, sc_nw, sm_put]
  have i7 : τ'.2.1 7 = τ.2.1 7 := by rw [hT]; simp (decide := true) only [gs_i, gs_n, gs_l, gs_u_ne, sc_ad, sc_nw, sm_put]
  have i8 : τ'.2.1 8 = τ.2.1 8 := by rw [hT]; simp (decide := true) only [gs_i, gs_n, gs_l, gs_u_ne, sc_ad, sc_nw, sm_put]
  have i9 : τ'.2.1 9 = τ.2.1 9 := by rw [hT]; simp (decide := true) only [gs_i, gs_n, gs_l, gs_u_ne, sc_ad, sc_nw, sm_put]
  have i10 : τ'.2.1 10 = τ.2.1 10 := by rw [hT]; simp (decide := true) only [gs_i, gs_n, gs_l, gs_u_ne, sc_ad, sc_nw, sm_put]
  have i11 : τ'.2.1 11 = τ.2.1 11 := by rw [hT]; simp (decide := true) only [gs_i, gs_n, gs_l, gs_u_ne, sc_ad, sc_nw, sm_put]
  have i13 : τ'.2.1 13 = τ.2.1 13 := by rw [hT]; simp (decide := true) only [gs_i, gs_n, gs_l, gs_u_ne, sc_ad, sc_nw, sm_put]
  have i14 : τ'.2.1 14 = τ.2.1 14 := by rw [hT]; simp (decide := true) only [gs_i, gs_n, gs_l, gs_u_ne, sc_ad, sc_nw, sm_put]
  have i15 : τ'.2.1 15 = τ.2.1 15 := by rw [hT]; simp (decide := true) only [gs_i, gs_n, gs_l, gs_u_ne, sc_ad, sc_nw, sm_put]
  have i19 : τ'.2.1 19 = τ.2.1 19 := by rw [hT]; simp (decide := true) only [gs_i, gs_n, gs_l, gs_u_ne, sc_ad, sc_nw, sm_put]
  have i20 : τ'.2.1 20 = τ.2.1 20 := by rw [hT]; simp (decide := true) only [gs_i, gs_n, gs_l, gs_u_ne, sc_ad, sc_nw, sm_put]
  have l0 : τ'.2.2 = τ.2.2 := by rw [hT]; simp (decide := true) only [gs_i, gs_n, gs_l, gs_u_ne, sc_ad, sc_nw, sm_put]
  have m31 : μ'.1 31 = μ.1 31 := by rw [hM]; simp (decide := true) only [gs_i, gs_n, gs_l, gs_u_ne, sc_ad, sc_nw, sm_put]
  have m100 : μ'.1 100 = μ.1 100 := by rw [hM]; simp (decide := true) only [gs_i, gs_n, gs_l, gs_u_ne, sc_ad, sc_nw, sm_put]
  have m104 : μ'.1 104 = μ.1 104 := by rw [hM]; simp (decide := true) only [gs_i, gs_n, gs_l, gs_u_ne, sc_ad, sc_nw, sm_put]
  have m105 : μ'.1 105 = μ.1 105 := by rw [hM]; simp (decide := true) only [gs_i, gs_n, gs_l, gs_u_ne, sc_ad, sc_nw, sm_put]
  have m107 : μ'.1 107 = μ.1 107 := by rw [hM]; simp (decide := true) only [gs_i, gs_n, gs_l, gs_u_ne, sc_ad, sc_nw, sm_put]
  have m108 : μ'.1 108 = μ.1 108 := by rw [hM]; simp (decide := true) only [gs_i, gs_n, gs_l, gs_u_ne, sc_ad, sc_nw, sm_put]
  have m123 : μ'.1 123 = μ.1 123 := by rw [hM]; simp (decide := true) only [gs_i, gs_n, gs_l, gs_u_ne, sc_ad, sc_nw, sm_put]
  have m124 : μ'.1 124 = μ.1 124 := by rw [hM]; simp (decide := true) only [gs_i, gs_n, gs_l, gs_u_ne, sc_ad, sc_nw, sm_put]
  have k101 : μ'.2.1 101 = μ.2.1 101 := by rw [hM]; simp (decide := true) only [gs_i, gs_n, gs_l, gs_u_ne, sc_ad, sc_nw, sm_put]
  have k102 : μ'.2.1 102 = μ.2.1 102 := by rw [hM]; simp (decide := true) only [gs_i, gs_n, gs_l, gs_u_ne, sc_ad, sc_nw, sm_put]
  have k103 : μ'.2.1 103 = μ.2.1 103 := by rw [hM]; simp (decide := true) only [gs_i, gs_n, gs_l, gs_u_ne, sc_ad, sc_nw, sm_put]
  have k106 : μ'.2.1 106 = μ.2.1 106 := by rw [hM]; simp (decide := true) only [gs_i, gs_n, gs_l, gs_u_ne, sc_ad, sc_nw, sm_put]
  have k109 : μ'.2.1 109 = μ.2.1 109 := by rw [hM]; simp (decide := true) only [gs_i, gs_n, gs_l, gs_u_ne, sc_ad, sc_nw, sm_put]
  have k110 : μ'.2.1 110 = μ.2.1 110 := by rw [hM]; simp (decide := true) only [gs_i, gs_n, gs_l, gs_u_ne, sc_ad, sc_nw, sm_put]
  have k111 : μ'.2.1 111 = μ.2.1 111 := by rw [hM]; simp (decide := true) only [gs_i, gs_n, gs_l, gs_u_ne, sc_ad, sc_nw, sm_put]
  have k112 : μ'.2.1 112 = μ.2.1 112 := by rw [hM]; simp (decide := true) only [gs_i, gs_n, gs_l, gs_u_ne, sc_ad, sc_nw, sm_put]
  have k113 : μ'.2.1 113 = μ.2.1 113 := by rw [hM]; simp (decide := true) only [gs_i, gs_n, gs_l, gs_u_ne, sc_ad, sc_nw, sm_put]
  have k114 : μ'.2.1 114 = μ.2.1 114 := by rw [hM]; simp (decide := true) only [gs_i, gs_n, gs_l, gs_u_ne, sc_ad, sc_nw, sm_put]
  have k115 : μ'.2.1 115 = μ.2.1 115 := by rw [hM]; simp (decide := true) only [gs_i, gs_n, gs_l, gs_u_ne, sc_ad, sc_nw, sm_put]
  have k116 : μ'.2.1 116 = μ.2.1 116 := by rw [hM]; simp (decide := true) only [gs_i, gs_n, gs_l, gs_u_ne, sc_ad, sc_nw, sm_put]
  have k118 : μ'.2.1 118 = μ.2.1 118 := by rw [hM]; simp (decide := true) only [gs_i, gs_n, gs_l, gs_u_ne, sc_ad, sc_nw, sm_put]
  have k119 : μ'.2.1 119 = μ.2.1 119 := by rw [hM]; simp (decide := true) only [gs_i, gs_n, gs_l, gs_u_ne, sc_ad, sc_nw, sm_put]
  have k120 : μ'.2.1 120 = μ.2.1 120 := by rw [hM]; simp (decide := true) only [gs_i, gs_n, gs_l, gs_u_ne, sc_ad, sc_nw, sm_put]
  have k121 : μ'.2.1 121 = μ.2.1 121 := by rw [hM]; simp (decide := true) only [gs_i, gs_n, gs_l, gs_u_ne, sc_ad, sc_nw, sm_put]
  have k122 : μ'.2.1 122 = μ.2.1 122 := by rw [hM]; simp (decide := true) only [gs_i, gs_n, gs_l, gs_u_ne, sc_ad, sc_nw, sm_put]
  have k133 : μ'.2.1 133 = μ.2.1 133 := by rw [hM]; simp (decide := true) only [gs_i, gs_n, gs_l, gs_u_ne, sc_ad, sc_nw, sm_put]
  have e2 : τ'.1 2 0 0 = τ.1 2 0 0 + 1 := by rw [hT]; simp (decide := true) only [sc_ad, sc_nw, gs_i, gs_n, gs_u_ne, gs_u_at, and_self, if_true]
  have e8 : ∀ i, τ'.1 8 i 0 = if i = τ.1 2 0 0 then g' else τ.1 8 i 0 := fun i => by rw [hT]; simp (decide := true) only [sc_ad, sc_nw, gs_i, gs_n, gs_u_ne]; exact gu_0
  have e9 : ∀ i, τ'.1 9 i 0 = if i = τ.1 2 0 0 then o else τ.1 9 i 0 := fun i => by rw [hT]; simp (decide := true) only [sc_ad, sc_nw, gs_i, gs_n, gs_u_ne]; exact gu_0
  have e16 : ∀ i, τ'.2.1 16 i 0 = if i = τ.1 2 0 0 then 2 else τ.2.1 16 i 0 := fun i => by rw [hT]; simp (decide := true) only [sc_ad, sc_nw, gs_i, gs_n, gs_u_ne]; exact gu_0
  have e17 : ∀ i, τ'.2.1 17 i 0 = if i = τ.1 2 0 0 then nI g else τ.2.1 17 i 0 := fun i => by rw [hT]; simp (decide := true) only [sc_ad, sc_nw, gs_i, gs_n, gs_u_ne]; exact gu_0
  have e18 : ∀ i, τ'.2.1 18 i 0 = if i = τ.1 2 0 0 then (τ.2.1 19 (sc_ky τ g o) 0) else τ.2.1 18 i 0 := fun i => by rw [hT]; simp (decide := true) only [sc_ad, sc_nw, gs_i, gs_n, gs_u_ne]; exact gu_0
  have e12 : ∀ x y, τ'.2.1 12 x y = if x = g ∧ y = o then 1 else τ.2.1 12 x y := fun x y => by rw [hT]; simp (decide := true) only [sc_ad, sc_nw, gs_i, gs_n, gs_u_ne, gs_u_at]
  have q125 : μ'.1 125 0 0 = τ.1 2 0 0 + 1 := by rw [hM, ← hm2]; simp (decide := true) only [sm_put, gs_i, gs_n, gs_u_ne, gs_u_at, and_self, if_true]
  have q127 : ∀ i, μ'.1 127 i 0 = if i = τ.1 2 0 0 then o else μ.1 127 i 0 := fun i => by rw [hM, ← hm2]; simp (decide := true) only [sm_put, gs_i, gs_n, gs_u_ne]; exact gu_0
  have q128 : ∀ i, μ'.1 128 i 0 = if i = τ.1 2 0 0 then g + 1 else μ.1 128 i 0 := fun i => by rw [hM, ← hm2]; simp (decide := true) only [sm_put, gs_i, gs_n, gs_u_ne]; exact gu_0
  have q129 : ∀ i, μ'.1 129 i 0 = if i = τ.1 2 0 0 then g' else μ.1 129 i 0 := fun i => by rw [hM, ← hm2]; simp (decide := true) only [sm_put, gs_i, gs_n, gs_u_ne]; exact gu_0
  have q126 : ∀ i, μ'.2.1 126 i 0 = if i = τ.1 2 0 0 then 2 else μ.2.1 126 i 0 := fun i => by rw [hM, ← hm2]; simp (decide := true) only [sm_put, gs_i, gs_n, gs_u_ne]; exact gu_0
  have q130 : ∀ i, μ'.2.1 130 i 0 = if i = τ.1 2 0 0 then -1 else μ.2.1 130 i 0 := fun i => by rw [hM, ← hm2]; simp (decide := true) only [sm_put, gs_i, gs_n, gs_u_ne]; exact gu_0
  have q131 : ∀ i, μ'.2.1 131 i 0 = if i = τ.1 2 0 0 then μ.2.1 103 (μ.1 107 o 0) 0 else μ.2.1 131 i 0 := fun i => by rw [hM, ← hm2]; simp (decide := true) only [sm_put, gs_i, gs_n, gs_u_ne]; exact gu_0
  have q132 : ∀ i, μ'.2.1 132 i 0 = if i = τ.1 2 0 0 then μ.2.1 103 (μ.1 108 o 0) 0 else μ.2.1 132 i 0 := fun i => by rw [hM, ← hm2]; simp (decide := true) only [sm_put, gs_i, gs_n, gs_u_ne]; exact gu_0
  have q117 : ∀ x y, y < 40 → μ'.2.1 117 (40 * x + y) 0 = if x = g ∧ y = o then 1 else μ.2.1 117 (40 * x + y) 0 := fun x y hy => by rw [hM]; simp (decide := true) only [sm_put, gs_i, gs_n, gs_u_ne]; exact gu_ix (by omega) hy
  have hpk : ∀ x y j, pp_k τ' x y j ↔ pp_k τ x y j := fun x y j => by unfold pp_k; rw [n3, n4, n5]
  obtain ⟨⟨kA, kO, kG, kV, kT, kP, kZ, kM⟩, ⟨W, S, T, L, R, Wk, A, F⟩, V, G⟩ := J
  refine ⟨⟨?_, ?_, ?_, ?_, ?_, ?_, ?_, ?_⟩, ⟨?_, ?_, ?_, ?_, ?_, ?_, ?_, ?_⟩, V, ?_⟩
  · refine ⟨by rw [m100, n0]; exact kA.1, by rw [m104, n1]; exact kA.2.1, by rw [q125, e2], by rw [k133, i5]; exact kA.2.2.2.1, ?_, by rw [m31]; exact kA.2.2.2.2.2⟩
    rw [hM]
    exact gv_put (gv_i kA.2.2.2.2.1) (by omega) (show g + 1 ≤ μ.1 100 0 0 by rw [kA.1]; omega) (show g' < μ.1 100 0 0 by rw [kA.1]; omega)
  · exact jj_O_fr n1 n12 n13 n14 i0 i1 i2 i3 i4 m105 m107 m108 k106 k109 k110 k111 k112 kO
  · exact jj_G_fr n0 i6 i7 k101 k102 kG
  · exact jj_V_fr i19 i20 k103 k113 kV
  · exact jj_T_fr n0 n3 n5 m123 m124 kT
  · intro x y hxy
    rw [n6] at hxy
    have h9 := kP x y hxy
    have hy := (gw_p W hxy).2
    rw [k114, k119, k115, k116, k118, q117 x y (by omega), k120, k121, k122, n7, n13, n0, i8, i9, i10, i11, e12, i13, i14, i15]
    refine ⟨h9.1, h9.2.1, h9.2.2.1, h9.2.2.2.1, h9.2.2.2.2.1, fun q hq => ?_⟩
    have h8 := h9.2.2.2.2.2 q hq
    refine ⟨h8.1, ?_, h8.2.2⟩
    by_cases hx : x = g ∧ y = o
    · rw [if_pos hx, if_pos hx]
    · rw [if_neg hx, if_neg hx]; exact h8.2.1
  · intro x y hx hy hxy
    rw [n6] at hxy
    rw [n0] at hx
    have h9 := kZ x y hx hy hxy
    rw [k114, k119, q117 x y hy, k115, k116, k118, k120, if_neg (fun e => hxy (by rw [e.1, e.2]; exact hp))]
    exact h9
  · intro i hi
    rw [e2] at hi
    by_cases hi2 : i = τ.1 2 0 0
    · unfold jj_m
      rw [e16 i, if_pos hi2, e17 i, if_pos hi2, e8 i, if_pos hi2, e9 i, if_pos hi2, e18 i, if_pos hi2, q126 i, if_pos hi2, q127 i, if_pos hi2, q128 i, if_pos hi2, q129 i, if_pos hi2, q130 i, if_pos hi2, q131 i, if_pos hi2, q132 i, if_pos hi2, n13, n0, n7]
      refine ⟨rfl, rfl, rfl, rfl, by rw [if_neg (by decide)], fun _ => ?_, Or.inr ⟨Or.inr rfl, by omega, h7'.symm⟩⟩
      rw [(kO.1 o hgo.2).2.2.1, hyb.2.2, kV.1 _ (gw_a W o), kV.1 _ (gw_b W o)]
      unfold sc_ky
      by_cases hy : τ.1 13 o 0 % τ.1 0 0 0 = g
      · rw [if_pos hy, if_pos (by omega)]
      · rw [if_neg hy, if_neg (by omega)]
    · have h9 := kM i (by omega)
      unfold jj_m at h9 ⊢
      rw [e16 i, if_neg hi2, e17 i, if_neg hi2, e8 i, if_neg hi2, e9 i, if_neg hi2, e18 i, if_neg hi2, q126 i, if_neg hi2, q127 i, if_neg hi2, q128 i, if_neg hi2, q129 i, if_neg hi2, q130 i, if_neg hi2, q131 i, if_neg hi2, q132 i, if_neg hi2, n13, n0, n7]
      exact h9
  · rw [hT]
    have h9 := gw_pv W hp
    rw [sc_pv, if_neg (by omega), if_pos h12, sc_pm, sc_pt, if_pos (show (sc_nw τ 4).1 2 0 0 < 240 from hfl), h7] at h9
    exact h9
  · exact pp_S_fr n0 n1 n6 n7 n13 n14 i0 S
  · exact pp_T_fr n1 n6 n7 i2 i5 i7 i8 i9 i10 i20 T
  · intro i hi h16
    rw [e2] at hi
    rw [e16] at h16
    by_cases hi2 : i = τ.1 2 0 0
    · rw [if_pos hi2] at h16; exact absurd h16 (by decide)
    · rw [if_neg hi2] at h16
      rw [e18, if_neg hi2, e8, if_neg hi2, e9, if_neg hi2, n7, i8]
      exact L i (by omega) h16
  · exact pp_R_fr n0 n3 n5 n6 i8 i10 i11 R
  · intro x hx
    rw [n0] at hx
    obtain ⟨w1, w2, w3⟩ := Wk x hx
    rw [n3, n4, n5, n6, i15, i11]
    refine ⟨w1, w2, fun y hy => ?_⟩
    rw [e12]
    by_cases hx2 : x = g ∧ y = o
    · rw [if_pos hx2]
      exact Or.inr ⟨rfl, τ.1 4 g 0, (hpk _ _ _).mpr (by rw [hx2.1, hx2.2]; exact ⟨Nat.le_refl _, hk, h5⟩)⟩
    · rw [if_neg hx2]
      rcases w3 y hy with z | ⟨z, k, hk9⟩
      · exact Or.inl z
      · exact Or.inr ⟨z, k, (hpk _ _ _).mpr hk9⟩
  · exact pp_A_fr n1 n3 n4 n5 n6 n12 i2 i3 i10 i15 i20 l0 A
  · have F : τ.1 2 0 0 + ti_su (fun g => ti_su (fun o => pp_p τ g o) 40) 4 ≤ 6 * τ.1 1 0 0 := F
    show τ'.1 2 0 0 + ti_su (fun g => ti_su (fun o => pp_p τ' g o) 40) 4 ≤ 6 * τ'.1 1 0 0
    have h9 := su2_dec (f := pp_p τ) (f' := pp_p τ') (g := g) (o := o) (d := 1) (by omega) (by omega) ?_ ?_
    · rw [e2, n1]; omega
    · have e12p : τ'.2.1 12 g o = 1 := by rw [e12, if_pos ⟨rfl, rfl⟩]
      unfold pp_p
      rw [n6, i8, e12p, if_pos hp, if_pos hp, h12, if_pos (rfl : (0 : Int32) = 0), if_neg (show ¬ (1 : Int32) = 0 by decide)]
    · intro x y hxy
      unfold pp_p
      rw [n6, i8, e12, if_neg hxy]
  · obtain ⟨g1, g2, g3, g4, g5⟩ := G
    have e1 : sc_rp τ' = sc_rp τ := by funext o u v; exact sc_rp_fr n13 n14 i0 i1
    have e2' : pp_e τ' = pp_e τ := by funext o k u v w; exact sc_pe_fr n13 n14 i0 i1
    have e4 : sc_ky τ' = sc_ky τ := by funext g o; exact sc_ky_fr n0 n13 n14
    refine ⟨by rw [n0]; exact g1, by rw [n0, n4, i19]; exact g2, fun y ja jb hy hz pa pb2 => ?_, fun x y hxy => ?_, fun i hi hk2 => ?_⟩
    · rw [n1] at hy
      rw [i3] at hz
      rw [n0, n13, hpk] at pa
      rw [n0, n14, hpk] at pb2
      unfold pp_i
      rw [n0, n13, n14, i4, e1, e2']
      exact g3 y ja jb hy hz pa pb2
    · rw [n6] at hxy
      rw [i13, n7, i14, e4]
      rcases g4 x y hxy with z | ⟨z1, z2, z3, z4⟩
      · exact Or.inl z
      · refine Or.inr ⟨z1, z2, ?_, fun j hj => z4 j ((hpk _ _ _).mp hj)⟩
        rw [e12]
        split
        · rfl
        · exact z3
    · rw [e2] at hi
      rw [e16] at hk2
      rw [n7, e8, e9, e18, e4]
      by_cases hi2 : i = τ.1 2 0 0
      · rw [if_pos hi2, if_pos hi2, if_pos hi2, h7', Nat.add_sub_cancel, e12, if_pos ⟨rfl, rfl⟩]
        refine ⟨rfl, fun j hj => ?_⟩
        rw [hpk] at hj
        have hjk := jr_uq R hgo.1 hj.2.1 hk hj.2.2 h5
        have h9 := g2 (sc_ky τ g o) hyk.2
        rw [hyk.1] at h9
        rw [hjk, h9]
      · rw [if_neg hi2] at hk2
        rw [if_neg hi2, if_neg hi2, if_neg hi2]
        have h9 := g5 i (by omega) hk2
        refine ⟨?_, fun j hj => h9.2 j ((hpk _ _ _).mp hj)⟩
        rw [e12]
        split
        · rfl
        · exact h9.1
set_option maxHeartbeats 4000000 in
theorem jS_step {τ μ : gs_T} (J : jj_J τ μ) {g o : Nat} (hp : τ.1 6 g o = 1) (h7 : τ.1 7 g o = 0) : jj_J τ (gs_i μ 117 (40 * g + o) 0 1) := by
  have hn := jq_n J
  have hgo := gw_p J.2.1.1 hp
  obtain ⟨τ', hT⟩ : ∃ t, t = τ := ⟨_, rfl⟩
  obtain ⟨μ', hM⟩ : ∃ t, t = (gs_i μ 117 (40 * g + o) 0 1) := ⟨_, rfl⟩
  rw [← hT, ← hM]
  have n0 : τ'.1 0 = τ.1 0 := by rw [hT]
  have n1 : τ'.1 1 = τ.1 1 := by rw [hT]
  have n2 : τ'.1 2 = τ.1 2 := by rw [hT]
  have n3 : τ'.1 3 = τ.1 3 := by rw [hT]
  have n4 : τ'.1 4 = τ.1 4 := by rw [hT]
  have n5 : τ'.1 5 = τ.1 5 := by rw [hT]
  have n6 : τ'.1 6 = τ.1 6 := by rw [hT]
  have n7 : τ'.1 7 = τ.1 7 := by rw [hT]
  have n8 : τ'.1 8 = τ.1 8 := by rw [hT]
  have n9 : τ'.1 9 = τ.1 9 := by rw [hT]
  have n12 : τ'.1 12 = τ.1 12 := by rw [hT]
  have n13 : τ'.1 13 = τ.1 13 := by rw [hT]
  have n14 : τ'.1 14 = τ.1 14 := by rw [hT]
  have i0 : τ'.2.1 0 = τ.2.1 0 := by rw [hT]
  have i1 : τ'.2.1 1 = τ.2.1 1 := by rw [hT]
  have i2 : τ'.2.1 2 = τ.2.1 2 := by rw [hT]
  have i3 : τ'.2.1 3 = τ.2.1 3 := by rw [hT]
  have i4 : τ'.2.1 4 = τ.2.1 4 := by rw [hT]
  have i5 : τ'.2.1 5 = τ.2.1 5 := by rw [hT]
  have i6 : τ'.2.1 6 = τ.2.1 6 := by rw [hT]
  have i7 : τ'.2.1 7 = τ.2.1 7 := by rw [hT]
  have i8 : τ'.2.1 8 = τ.2.1 8 := by rw [hT]
  have i9 : τ'.2.1 9 = τ.2.1 9 := by rw [hT]
  have i10 : τ'.2.1 10 = τ.2.1 10 := by rw [hT]
  have i11 : τ'.2.1 11 = τ.2.1 11 := by rw [hT]
  have i12 : τ'.2.1 12 = τ.2.1 12 := by rw [hT]
  have i13 : τ'.2.1 13 = τ.2.1 13 := by rw [hT]
  have i14 : τ'.2.1 14 = τ.2.1 14 := by rw [hT]
  have i15 : τ'.2.1 15 = τ.2.1 15 := by rw [hT]
  have i16 : τ'.2.1 16 = τ.2.1 16 := by rw [hT]
  have i17 : τ'.2.1 17 = τ.2.1 17 := by rw [hT]
  have i18 : τ'.2.1 18 = τ.2.1 18 := by rw [hT]
  have i19 : τ'.2.1 19 = τ.2.1 19 := by rw [hT]
  have i20 : τ'.2.1 20 = τ.2.1 20 := by rw [hT]
  have l0 : τ'.2.2 = τ.2.2 := by rw [hT]
  have m31 : μ'.1 31 = μ.1 31 := by rw [hM]; simp (decide := true) only [gs_i, gs_n, gs_l, gs_u_ne]
  have m100 : μ'.1 100 = μ.1 100 := by rw [hM]; simp (decide := true) only [gs_i, gs_n, gs_l, gs_u_ne]
  have m104 : μ'.1 104 = μ.1 104 := by rw [hM]; simp (decide := true) only [gs_i, gs_n, gs_l, gs_u_ne]
  have m105 : μ'.1 105 = μ.1 105 := by rw [hM]; simp (decide := true) only [gs_i, gs_n, gs_l, gs_u_ne]
  have m107 : μ'.1 107 = μ.1 107 := by rw [hM]; simp (decide := true) only [gs_i, gs_n, gs_l, gs_u_ne]
  have m108 : μ'.1 108 = μ.1 108 := by rw [hM]; simp (decide := true) only [gs_i, gs_n, gs_l, gs_u_ne]
  have m123 : μ'.1 123 = μ.1 123 := by rw [hM]; simp (decide := true) only [gs_i, gs_n, gs_l, gs_u_ne]
  have m124 : μ'.1 124 = μ.1 124 := by rw [hM]; simp (decide := true) only [gs_i, gs_n, gs_l, gs_u_ne]
  have m125 : μ'.1 125 = μ.1 125 := by rw [hM]; simp (decide := true) only [gs_i, gs_n, gs_l, gs_u_ne]
  have m127 : μ'.1 127 = μ.1 127 := by rw [hM]; simp (decide := true) only [gs_i, gs_n, gs_l, gs_u_ne]
  have m128 : μ'.1 128 = μ.1 128 := by rw [hM]; simp (decide := true) only [gs_i, gs_n, gs_l, gs_u_ne]
  have m129 : μ'.1 129 = μ.1 129 := by rw [hM]; simp (decide := true) only [gs_i, gs_n, gs_l, gs_u_ne]
  have k101 : μ'.2.1 101 = μ.2.1 101 := by rw [hM]; simp (decide := true) only [gs_i, gs_n, gs_l, gs_u_ne]
  have k102 : μ'.2.1 102 = μ.2.1 102 := by rw [hM]; simp (decide := true) only [gs_i, gs_n, gs_l, gs_u_ne]
  have k103 : μ'.2.1 103 = μ.2.1 103 := by rw [hM]; simp (decide := true) only [gs_i, gs_n, gs_l, gs_u_ne]
  have k106 : μ'.2.1 106 = μ.2.1 106 := by rw [hM]; simp (decide := true) only [gs_i, gs_n, gs_l, gs_u_ne]
  have k109 : μ'.2.1 109 = μ.2.1 109 := by rw [hM]; simp (decide := true) only [gs_i, gs_n, gs_l, gs_u_ne]
  have k110 : μ'.2.1 110 = μ.2.1 110 := by rw [hM]; simp (decide := true) only [gs_i, gs_n, gs_l, gs_u_ne]
  have k111 : μ'.2.1 111 = μ.2.1 111 := by rw [hM]; simp (decide := true) only [gs_i, gs_n, gs_l, gs_u_ne]
  have k112 : μ'.2.1 112 = μ.2.1 112 := by rw [hM]; simp (decide := true) only [gs_i, gs_n, gs_l, gs_u_ne]
  have k113 : μ'.2.1 113 = μ.2.1 113 := by rw [hM]; simp (decide := true) only [gs_i, gs_n, gs_l, gs_u_ne]
  have k114 : μ'.2.1 114 = μ.2.1 114 := by rw [hM]; simp (decide := true) only [gs_i, gs_n, gs_l, gs_u_ne]
  have k115 : μ'.2.1 115 = μ.2.1 115 := by rw [hM]; simp (decide := true) only [gs_i, gs_n, gs_l, gs_u_ne]
  have k116 : μ'.2.1 116 = μ.2.1 116 := by rw [hM]; simp (decide := true) only [gs_i, gs_n, gs_l, gs_u_ne]
  have k118 : μ'.2.1 118 = μ.2.1 118 := by rw [hM]; simp (decide := true) only [gs_i, gs_n, gs_l, gs_u_ne]
  have k119 : μ'.2.1 119 = μ.2.1 119 := by rw [hM]; simp (decide := true) only [gs_i, gs_n, gs_l, gs_u_ne]
  have k120 : μ'.2.1 120 = μ.2.1 120 := by rw [hM]; simp (decide := true) only [gs_i, gs_n, gs_l, gs_u_ne]
  have k121 : μ'.2.1 121 = μ.2.1 121 := by rw [hM]; simp (decide := true) only [gs_i, gs_n, gs_l, gs_u_ne]
  have k122 : μ'.2.1 122 = μ.2.1 122 := by rw [hM]; simp (decide := true) only [gs_i, gs_n, gs_l, gs_u_ne]
  have k126 : μ'.2.1 126 = μ.2.1 126 := by rw [hM]; simp (decide := true) only [gs_i, gs_n, gs_l, gs_u_ne]
  have k130 : μ'.2.1 130 = μ.2.1 130 := by rw [hM]; simp (decide := true) only [gs_i, gs_n, gs_l, gs_u_ne]
  have k131 : μ'.2.1 131 = μ.2.1 131 := by rw [hM]; simp (decide := true) only [gs_i, gs_n, gs_l, gs_u_ne]
  have k132 : μ'.2.1 132 = μ.2.1 132 := by rw [hM]; simp (decide := true) only [gs_i, gs_n, gs_l, gs_u_ne]
  have k133 : μ'.2.1 133 = μ.2.1 133 := by rw [hM]; simp (decide := true) only [gs_i, gs_n, gs_l, gs_u_ne]
  have q117 : ∀ x y, y < 40 → μ'.2.1 117 (40 * x + y) 0 = if x = g ∧ y = o then 1 else μ.2.1 117 (40 * x + y) 0 := fun x y hy => by rw [hM]; exact gu_ix (by omega) hy
  obtain ⟨⟨kA, kO, kG, kV, kT, kP, kZ, kM⟩, ⟨W, S, T, L, R, Wk, A, F⟩, V, G⟩ := J
  refine ⟨⟨?_, ?_, ?_, ?_, ?_, ?_, ?_, ?_⟩, ⟨?_, ?_, ?_, ?_, ?_, ?_, ?_, ?_⟩, V, ?_⟩
  · refine ⟨?_, ?_, ?_, ?_, ?_, ?_⟩
    · rw [m100, n0]; exact kA.1
    · rw [m104, n1]; exact kA.2.1
    · rw [m125, n2]; exact kA.2.2.1
    · rw [k133, i5]; exact kA.2.2.2.1
    · rw [hM]; exact kA.2.2.2.2.1
    · rw [m31]; exact kA.2.2.2.2.2
  · exact jj_O_fr n1 n12 n13 n14 i0 i1 i2 i3 i4 m105 m107 m108 k106 k109 k110 k111 k112 kO
  · exact jj_G_fr n0 i6 i7 k101 k102 kG
  · exact jj_V_fr i19 i20 k103 k113 kV
  · exact jj_T_fr n0 n3 n5 m123 m124 kT
  · intro x y hxy
    rw [n6] at hxy
    have h9 := kP x y hxy
    have hy := (gw_p W hxy).2
    rw [k114, k119, k115, k116, k118, q117 x y (by omega), k120, k121, k122, n7, n13, n0, i8, i9, i10, i11, i12, i13, i14, i15]
    refine ⟨h9.1, h9.2.1, h9.2.2.1, h9.2.2.2.1, h9.2.2.2.2.1, fun q hq => ?_⟩
    rw [if_neg (fun z => by rw [z.1, z.2] at hq; omega)]
    exact h9.2.2.2.2.2 q hq
  · intro x y hx hy hxy
    rw [n6] at hxy
    rw [n0] at hx
    have h9 := kZ x y hx hy hxy
    rw [k114, k119, q117 x y hy, k115, k116, k118, k120, if_neg (fun e => hxy (by rw [e.1, e.2]; exact hp))]
    exact h9
  · exact jj_M_fr n0 n2 n7 n8 n9 n13 i16 i17 i18 m127 m128 m129 k126 k130 k131 k132 kM
  · rw [hT]
    exact W
  · exact pp_S_fr n0 n1 n6 n7 n13 n14 i0 S
  · exact pp_T_fr n1 n6 n7 i2 i5 i7 i8 i9 i10 i20 T
  · exact pp_L_fr n2 n7 n8 n9 i8 i16 i18 L
  · exact pp_R_fr n0 n3 n5 n6 i8 i10 i11 R
  · exact pp_W_fr n0 n3 n4 n5 n6 i11 i12 i15 Wk
  · exact pp_A_fr n1 n3 n4 n5 n6 n12 i2 i3 i10 i15 i20 l0 A
  · exact pp_F_fr n1 n2 n6 i8 i12 F
  · exact pp_G_fr n0 n1 n2 n3 n4 n5 n6 n7 n8 n9 n13 n14 i0 i1 i3 i4 i12 i13 i14 i16 i18 i19 G
