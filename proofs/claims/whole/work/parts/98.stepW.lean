/-! pure: the step that works out -/
theorem wo_N {σ : gs_T} {g o : Nat} : (sc_wo σ g o).1 = σ.1 := by
  unfold sc_wo sc_wt2
  dsimp only
  split <;> split <;> split <;> rfl
theorem wo_L {σ : gs_T} {g o : Nat} : (sc_wo σ g o).2.2 = σ.2.2 := by
  unfold sc_wo sc_wt2
  dsimp only
  split <;> split <;> split <;> rfl
theorem wo_i {σ : gs_T} {g o t : Nat} (h1 : t ≠ 19) (h2 : t ≠ 15) (h3 : t ≠ 3) (h4 : t ≠ 4) (h5 : t ≠ 20) : (sc_wo σ g o).2.1 t = σ.2.1 t := by
  unfold sc_wo sc_wt2
  dsimp only
  split <;> split <;> split <;> simp only [gs_i, gs_u_ne h1, gs_u_ne h2, gs_u_ne h3, gs_u_ne h4, gs_u_ne h5]
theorem wo_19 {σ : gs_T} {g o : Nat} (k : Nat) : (sc_wo σ g o).2.1 19 k 0 = if k = σ.1 13 o 0 ∧ σ.1 13 o 0 % σ.1 0 0 0 = g then sc_bA σ o (sc_ua σ g o) (sc_ub σ g o) else if k = σ.1 14 o 0 ∧ σ.1 14 o 0 % σ.1 0 0 0 = g then sc_bB σ o (sc_ua σ g o) (sc_ub σ g o) else σ.2.1 19 k 0 := by
  unfold sc_wo sc_wt2
  dsimp only
  generalize sc_ua σ g o = u
  generalize sc_ub σ g o = v
  generalize sc_bA σ o u v = bA
  generalize sc_bB σ o u v = bB
  generalize sc_rp σ o u v = rp
  by_cases ha : σ.1 13 o 0 % σ.1 0 0 0 = g <;> by_cases hb : σ.1 14 o 0 % σ.1 0 0 0 = g <;> by_cases h3 : σ.2.1 3 o 0 = 0 <;> simp [gs_i, gs_u, ha, hb, h3]
theorem wo_15 {σ : gs_T} {g o : Nat} (x y : Nat) : (sc_wo σ g o).2.1 15 x y = if x = g ∧ y = o then 1 else σ.2.1 15 x y := by
  unfold sc_wo sc_wt2
  dsimp only
  split <;> split <;> split <;> simp [gs_i, gs_u]
theorem wo_3 {σ : gs_T} {g o : Nat} (h : σ.2.1 3 o 0 = 0 ∨ σ.2.1 3 o 0 = 1) (y : Nat) : (sc_wo σ g o).2.1 3 y 0 = if y = o then 1 else σ.2.1 3 y 0 := by
  unfold sc_wo sc_wt2
  dsimp only
  by_cases hy : y = o
  · rw [if_pos hy, hy]
    rcases h with h | h <;> by_cases ha : σ.1 13 o 0 % σ.1 0 0 0 = g <;> by_cases hb : σ.1 14 o 0 % σ.1 0 0 0 = g <;> simp [gs_i, gs_u, h, ha, hb]
  · rw [if_neg hy]
    split <;> split <;> split <;> simp [gs_i, gs_u, hy]
theorem wo_4 {σ : gs_T} {g o : Nat} (y : Nat) : (sc_wo σ g o).2.1 4 y 0 = if y = o ∧ σ.2.1 3 o 0 = 0 then sc_rp σ o (sc_ua σ g o) (sc_ub σ g o) else σ.2.1 4 y 0 := by
  unfold sc_wo sc_wt2
  dsimp only
  by_cases h3 : σ.2.1 3 o 0 = 0 <;> by_cases ha : σ.1 13 o 0 % σ.1 0 0 0 = g <;> by_cases hb : σ.1 14 o 0 % σ.1 0 0 0 = g <;> simp [gs_i, gs_u, h3, ha, hb]
theorem wo_20 {σ : gs_T} {g o : Nat} (c : Nat) : (sc_wo σ g o).2.1 20 c 0 = if c = σ.1 12 o 0 ∧ σ.2.1 3 o 0 = 0 then gs_mx (σ.2.1 20 (σ.1 12 o 0) 0) (σ.2.1 10 g o) else σ.2.1 20 c 0 := by
  unfold sc_wo sc_wt2
  dsimp only
  by_cases h3 : σ.2.1 3 o 0 = 0 <;> by_cases ha : σ.1 13 o 0 % σ.1 0 0 0 = g <;> by_cases hb : σ.1 14 o 0 % σ.1 0 0 0 = g <;> simp [gs_i, gs_u, h3, ha, hb]
theorem wt_N {σ : gs_T} {g o : Nat} {a b c : Int32} : (sm_wt σ g o a b c).1 = σ.1 := by
  unfold sm_wt
  dsimp only
  split <;> split <;> split <;> rfl
theorem wt_i {σ : gs_T} {g o t : Nat} {a b c : Int32} (h1 : t ≠ 103) (h2 : t ≠ 118) (h3 : t ≠ 111) (h4 : t ≠ 112) (h5 : t ≠ 113) : (sm_wt σ g o a b c).2.1 t = σ.2.1 t := by
  unfold sm_wt
  dsimp only
  split <;> split <;> split <;> simp only [gs_i, gs_u_ne h1, gs_u_ne h2, gs_u_ne h3, gs_u_ne h4, gs_u_ne h5]
theorem wt_103 {σ : gs_T} {g o : Nat} {a b c : Int32} (k : Nat) : (sm_wt σ g o a b c).2.1 103 k 0 = if k = σ.1 107 o 0 ∧ σ.1 107 o 0 % σ.1 100 0 0 = g then a else if k = σ.1 108 o 0 ∧ σ.1 108 o 0 % σ.1 100 0 0 = g ∧ ¬ σ.2.1 106 o 0 = 0 then b else σ.2.1 103 k 0 := by
  unfold sm_wt
  dsimp only
  by_cases ha : σ.1 107 o 0 % σ.1 100 0 0 = g <;> by_cases hb : σ.1 108 o 0 % σ.1 100 0 0 = g <;> by_cases h6 : σ.2.1 106 o 0 = 0 <;> by_cases h3 : σ.2.1 111 o 0 = 0 <;> simp [gs_i, gs_u, ha, hb, h3, h6]
theorem wt_118 {σ : gs_T} {g o : Nat} {a b c : Int32} (i : Nat) : (sm_wt σ g o a b c).2.1 118 i 0 = if i = 40 * g + o then 1 else σ.2.1 118 i 0 := by
  unfold sm_wt
  dsimp only
  split <;> split <;> split <;> simp [gs_i, gs_u]
theorem wt_111 {σ : gs_T} {g o : Nat} {a b c : Int32} (h : σ.2.1 111 o 0 = 0 ∨ σ.2.1 111 o 0 = 1) (y : Nat) : (sm_wt σ g o a b c).2.1 111 y 0 = if y = o then 1 else σ.2.1 111 y 0 := by
  unfold sm_wt
  dsimp only
  by_cases hy : y = o
  · rw [if_pos hy, hy]
    rcases h with h | h <;> by_cases ha : σ.1 107 o 0 % σ.1 100 0 0 = g <;> by_cases hb : σ.1 108 o 0 % σ.1 100 0 0 = g ∧ ¬ σ.2.1 106 o 0 = 0 <;> simp only [ha, hb, h, if_true, if_false] <;> simp [gs_i, gs_u, h]
  · rw [if_neg hy]
    split <;> split <;> split <;> simp [gs_i, gs_u, hy]
theorem wt_112 {σ : gs_T} {g o : Nat} {a b c : Int32} (y : Nat) : (sm_wt σ g o a b c).2.1 112 y 0 = if y = o ∧ σ.2.1 111 o 0 = 0 then c else σ.2.1 112 y 0 := by
  unfold sm_wt
  dsimp only
  by_cases h3 : σ.2.1 111 o 0 = 0 <;> by_cases ha : σ.1 107 o 0 % σ.1 100 0 0 = g <;> by_cases hb : σ.1 108 o 0 % σ.1 100 0 0 = g ∧ ¬ σ.2.1 106 o 0 = 0 <;> simp only [ha, hb, h3, if_true, if_false] <;> simp [gs_i, gs_u]
theorem wt_113 {σ : gs_T} {g o : Nat} {a b c : Int32} (y : Nat) : (sm_wt σ g o a b c).2.1 113 y 0 = if y = σ.1 105 o 0 ∧ σ.2.1 111 o 0 = 0 then gs_mg (σ.2.1 113 (σ.1 105 o 0) 0) (σ.2.1 115 (40 * g + o) 0) else σ.2.1 113 y 0 := by
  unfold sm_wt
  dsimp only
  by_cases h3 : σ.2.1 111 o 0 = 0 <;> by_cases ha : σ.1 107 o 0 % σ.1 100 0 0 = g <;> by_cases hb : σ.1 108 o 0 % σ.1 100 0 0 = g ∧ ¬ σ.2.1 106 o 0 = 0 <;> simp only [ha, hb, h3, if_true, if_false] <;> simp [gs_i, gs_u]
theorem wv_eq {τ μ : gs_T} (J : jj_J τ μ) {o : Nat} (ho : o < τ.1 1 0 0) {u v w : Int32} (hw : ¬ τ.2.1 0 o 0 = 0 → w = v) : (sm_wv μ o u w).1 = sc_bA τ o u v ∧ (¬ τ.2.1 0 o 0 = 0 → (sm_wv μ o u w).2.1 = sc_bB τ o u v) ∧ (sm_wv μ o u w).2.2 = sc_rp τ o u v := by
  have k9 := J.1.2.1.1 o ho
  have hS := (J.2.1.2.1.2.2 o ho).1
  unfold sm_wv sc_rp sc_bA sc_bB sc_mv
  rw [k9.2.1, k9.2.2.1, k9.2.2.2.2.1]
  rcases hS with h | h | h | h
  · simp [h]
  · have hw := hw (by rw [h]; decide)
    have hb := k9.2.2.2.1
    rw [if_neg (by rw [h]; decide)] at hb
    rw [hw, ← hb]
    by_cases h1 : u < τ.2.1 1 o 0
    · simp [h, h1]
    · by_cases h2 : τ.1 13 o 0 = τ.1 14 o 0 <;> simp [h, h1, h2]
  · have hw := hw (by rw [h]; decide)
    simp [h, hw]
  · have hw := hw (by rw [h]; decide)
    simp [h, hw]
theorem jt_fin {τ : gs_T} (W : gw_W τ) (S : pp_S τ) (T : pp_T τ) {g x o : Nat} (hp : τ.1 6 g o = 1) (hq : τ.1 6 x o = 1) (h1 : ¬ (τ.2.1 10 g o).toInt = -1) (h2 : ¬ (τ.2.1 10 x o).toInt = -1) : (τ.2.1 10 g o).toInt = (τ.2.1 10 x o).toInt := by
  rcases js_two W S hp with ⟨w1, w2⟩ | ⟨g', w1, w2, w3, w4, w5⟩
  · rw [w2 x hq]
  · rcases w5 x hq with z | z
    · rw [z]
    · subst z
      have t1 := T.2.2.2.2 g o hp
      have t2 := T.2.2.2.2 x o hq
      rw [w1, Nat.add_sub_cancel] at t1
      rw [w4, Nat.add_sub_cancel] at t2
      omega
set_option maxHeartbeats 4000000 in
theorem jW_step {τ μ : gs_T} (J : jj_J τ μ) {g o : Nat} (hp : τ.1 6 g o = 1) (hk : τ.1 4 g 0 < τ.1 3 g 0) (h5 : τ.1 5 g (τ.1 4 g 0) = o + 1) (h13 : τ.1 7 g o = 0 ∨ ¬ τ.2.1 13 g o = 0) : jj_J (gs_n (sc_wo τ g o) 4 g 0 (τ.1 4 g 0 + 1)) (sm_wo μ g o) := by
  have hn := jq_n J
  have hgo := gw_p J.2.1.1 hp
  have h01 : ¬ (0 : Int32) = 1 := by decide
  have J0 := J
  obtain ⟨τ', hT⟩ : ∃ t, t = (gs_n (sc_wo τ g o) 4 g 0 (τ.1 4 g 0 + 1)) := ⟨_, rfl⟩
  obtain ⟨μ', hM⟩ : ∃ t, t = (sm_wo μ g o) := ⟨_, rfl⟩
  rw [← hT, ← hM]
  have n0 : τ'.1 0 = τ.1 0 := by rw [hT]; simp (decide := true) only [gs_i, gs_n, gs_l, gs_u_ne, wo_N, wo_L, wo_i, sm_wo, wt_N, wt_i]
  have n1 : τ'.1 1 = τ.1 1 := by rw [hT]; simp (decide := true) only [gs_i, gs_n, gs_l, gs_u_ne, wo_N, wo_L, wo_i, sm_wo, wt_N, wt_i]
  have n2 : τ'.1 2 = τ.1 2 := by rw [hT]; simp (decide := true) only [gs_i, gs_n, gs_l, gs_u_ne, wo_N, wo_L, wo_i, sm_wo, wt_N, wt_i]
  have n3 : τ'.1 3 = τ.1 3 := by rw [hT]; simp (decide := true) only [gs_i, gs_n, gs_l, gs_u_ne, wo_N, wo_L, wo_i, sm_wo, wt_N, wt_i]
  have n5 : τ'.1 5 = τ.1 5 := by rw [hT]; simp (decide := true) only [gs_i, gs_n, gs_l, gs_u_ne, wo_N, wo_L, wo_i, sm_wo, wt_N, wt_i]
  have n6 : τ'.1 6 = τ.1 6 := by rw [hT]; simp (decide := true) only [gs_i, gs_n, gs_l, gs_u_ne, wo_N, wo_L, wo_i, sm_wo, wt_N, wt_i]
  have n7 : τ'.1 7 = τ.1 7 := by rw [hT]; simp (decide := true) only [gs_i, gs_n, gs_l, gs_u_ne, wo_N, wo_L, wo_i, sm_wo, wt_N, wt_i]
  have n8 : τ'.1 8 = τ.1 8 := by rw [hT]; simp (decide := true) only [gs_i, gs_n, gs_l, gs_u_ne, wo_N, wo_L, wo_i, sm_wo, wt_N, wt_i]
  have n9 : τ'.1 9 = τ.1 9 := by rw [hT]; simp (decide := true) only [gs_i, gs_n, gs_l, gs_u_ne, wo_N, wo_L, wo_i, sm_wo, wt_N, wt_i]
  have n12 : τ'.1 12 = τ.1 12 := by rw [hT]; simp (decide := true) only [gs_i, gs_n, gs_l, gs_u_ne, wo_N, wo_L, wo_i, sm_wo, wt_N, wt_i]
  have n13 : τ'.1 13 = τ.1 13 := by rw [hT]; simp (decide := true) only [gs_i, gs_n, gs_l, gs_u_ne, wo_N, wo_L, wo_i, sm_wo, wt_N, wt_i]
  have n14 : τ'.1 14 = τ.1 14 := by rw [hT]; simp (decide := true) only [gs_i, gs_n, gs_l, gs_u_ne, wo_N, wo_L, wo_i, sm_wo, wt_N, wt_i]
  have i0 : τ'.2.1 0 = τ.2.1 0 := by rw [hT]; simp (decide := true) only [gs_i, gs_n, gs_l, gs_u_ne, wo_N, wo_L, wo_i, sm_wo, wt_N, wt_i]
  have i1 : τ'.2.1 1 = τ.2.1 1 := by rw [hT]; simp (decide := true) only [gs_i, gs_n, gs_l, gs_u_ne, wo_N, wo_L, wo_i, sm_wo, wt_N, wt_i]
  have i2 : τ'.2.1 2 = τ.2.1 2 := by rw [hT]; simp (decide := true) only [gs_i, gs_n, gs_l, gs_u_ne, wo_N, wo_L, wo_i, sm_wo, wt_N, wt_i]
  have i5 : τ'.2.1 5 = τ.2.1 5 := by rw [hT]; simp (decide := true) only [gs_i, gs_n, gs_l, gs_u_ne, wo_N, wo_L, wo_i, sm_wo, wt_N, wt_i]
  have i6 : τ'.2.1 6 = τ.2.1 6 := by rw [hT]; simp (decide := true) only [gs_i, gs_n, gs_l, gs_u_ne, wo_N, wo_L, wo_i, sm_wo, wt_N, wt_i]
  have i7 : τ'.2.1 7 = τ.2.1 7 := by rw [hT]; simp (decide := true) only [gs_i, gs_n, gs_l, gs_u_ne, wo_N, wo_L, wo_i, sm_wo, wt_N, wt_i]
  have i8 : τ'.2.1 8 = τ.2.1 8 := by rw [hT]; simp (decide := true) only [gs_i, gs_n, gs_l, gs_u_ne, wo_N, wo_L, wo_i, sm_wo, wt_N, wt_i]
  have i9 : τ'.2.1 9 = τ.2.1 9 := by rw [hT]; simp (decide := true) only [gs_i, gs_n, gs_l, gs_u_ne, wo_N, wo_L, wo_i, sm_wo, wt_N, wt_i]
  have i10 : τ'.2.1 10 = τ.2.1 10 := by rw [hT]; simp (decide := true) only [gs_i, gs_n, gs_l, gs_u_ne, wo_N, wo_L, wo_i, sm_wo, wt_N, wt_i]
  have i11 : τ'.2.1 11 = τ.2.1 11 := by rw [hT]; simp (decide := true) only [gs_i, gs_n, gs_l, gs_u_ne, wo_N, wo_L, wo_i, sm_wo, wt_N, wt_i]
  have i12 : τ'.2.1 12 = τ.2.1 12 := by rw [hT]; simp (decide := true) only [gs_i, gs_n, gs_l, gs_u_ne, wo_N, wo_L, wo_i, sm_wo, wt_N, wt_i]
  have i13 : τ'.2.1 13 = τ.2.1 13 := by rw [hT]; simp (decide := true) only [gs_i, gs_n, gs_l, gs_u_ne, wo_N, wo_L, wo_i, sm_wo, wt_N, wt_i]
  have i14 : τ'.2.1 14 = τ.2.1 14 := by rw [hT]; simp (decide := true) only [gs_i, gs_n, gs_l, gs_u_ne, wo_N, wo_L, wo_i, sm_wo, wt_N, wt_i]
  have i16 : τ'.2.1 16 = τ.2.1 16 := by rw [hT]; simp (decide := true) only [gs_i, gs_n, gs_l, gs_u_ne, wo_N, wo_L, wo_i, sm_wo, wt_N, wt_i]
  have i17 : τ'.2.1 17 = τ.2.1 17 := by rw [hT]; simp (decide := true) only [gs_i, gs_n, gs_l, gs_u_ne, wo_N, wo_L, wo_i, sm_wo, wt_N, wt_i]
  have i18 : τ'.2.1 18 = τ.2.1 18 := by rw [hT]; simp (decide := true) only [gs_i, gs_n, gs_l, gs_u_ne, wo_N, wo_L, wo_i, sm_wo, wt_N, wt_i]
  have l0 : τ'.2.2 = τ.2.2 := by rw [hT]; simp (decide := true) only [gs_i, gs_n, gs_l, gs_u_ne, wo_N, wo_L, wo_i, sm_wo, wt_N, wt_i]
  have m31 : μ'.1 31 = μ.1 31 := by rw [hM]; simp (decide := true) only [gs_i, gs_n, gs_l, gs_u_ne, wo_N, wo_L, wo_i, sm_wo, wt_N, wt_i]
  have m100 : μ'.1 100 = μ.1 100 := by rw [hM]; simp (decide := true) only [gs_i, gs_n, gs_l, gs_u_ne, wo_N, wo_L, wo_i, sm_wo, wt_N, wt_i]
  have m104 : μ'.1 104 = μ.1 104 := by rw [hM]; simp (decide := true) only [gs_i, gs_n, gs_l, gs_u_ne, wo_N, wo_L, wo_i, sm_wo, wt_N, wt_i]
  have m105 : μ'.1 105 = μ.1 105 := by rw [hM]; simp (decide := true) only [gs_i, gs_n, gs_l, gs_u_ne, wo_N, wo_L, wo_i, sm_wo, wt_N, wt_i]
  have m107 : μ'.1 107 = μ.1 107 := by rw [hM]; simp (decide := true) only [gs_i, gs_n, gs_l, gs_u_ne, wo_N, wo_L, wo_i, sm_wo, wt_N, wt_i]
  have m108 : μ'.1 108 = μ.1 108 := by rw [hM]; simp (decide := true) only [gs_i, gs_n, gs_l, gs_u_ne, wo_N, wo_L, wo_i, sm_wo, wt_N, wt_i]
  have m123 : μ'.1 123 = μ.1 123 := by rw [hM]; simp (decide := true) only [gs_i, gs_n, gs_l, gs_u_ne, wo_N, wo_L, wo_i, sm_wo, wt_N, wt_i]
  have m124 : μ'.1 124 = μ.1 124 := by rw [hM]; simp (decide := true) only [gs_i, gs_n, gs_l, gs_u_ne, wo_N, wo_L, wo_i, sm_wo, wt_N, wt_i]
  have m125 : μ'.1 125 = μ.1 125 := by rw [hM]; simp (decide := true) only [gs_i, gs_n, gs_l, gs_u_ne, wo_N, wo_L, wo_i, sm_wo, wt_N, wt_i]
  have m127 : μ'.1 127 = μ.1 127 := by rw [hM]; simp (decide := true) only [gs_i, gs_n, gs_l, gs_u_ne, wo_N, wo_L, wo_i, sm_wo, wt_N, wt_i]
  have m128 : μ'.1 128 = μ.1 128 := by rw [hM]; simp (decide := true) only [gs_i, gs_n, gs_l, gs_u_ne, wo_N, wo_L, wo_i, sm_wo, wt_N, wt_i]
  have m129 : μ'.1 129 = μ.1 129 := by rw [hM]; simp (decide := true) only [gs_i, gs_n, gs_l, gs_u_ne, wo_N, wo_L, wo_i, sm_wo, wt_N, wt_i]
  have k101 : μ'.2.1 101 = μ.2.1 101 := by rw [hM]; simp (decide := true) only [gs_i, gs_n, gs_l, gs_u_ne, wo_N, wo_L, wo_i, sm_wo, wt_N, wt_i]
  have k102 : μ'.2.1 102 = μ.2.1 102 := by rw [hM]; simp (decide := true) only [gs_i, gs_n, gs_l, gs_u_ne, wo_N, wo_L, wo_i, sm_wo, wt_N, wt_i]
  have k106 : μ'.2.1 106 = μ.2.1 106 := by rw [hM]; simp (decide := true) only [gs_i, gs_n, gs_l, gs_u_ne, wo_N, wo_L, wo_i, sm_wo, wt_N, wt_i]
  have k109 : μ'.2.1 109 = μ.2.1 109 := by rw [hM]; simp (decide := true) only [gs_i, gs_n, gs_l, gs_u_ne, wo_N, wo_L, wo_i, sm_wo, wt_N, wt_i]
  have k110 : μ'.2.1 110 = μ.2.1 110 := by rw [hM]; simp (decide := true) only [gs_i, gs_n, gs_l, gs_u_ne, wo_N, wo_L, wo_i, sm_wo, wt_N, wt_i]
  have k114 : μ'.2.1 114 = μ.2.1 114 := by rw [hM]; simp (decide := true) only [gs_i, gs_n, gs_l, gs_u_ne, wo_N, wo_L, wo_i, sm_wo, wt_N, wt_i]
  have k115 : μ'.2.1 115 = μ.2.1 115 := by rw [hM]; simp (decide := true) only [gs_i, gs_n, gs_l, gs_u_ne, wo_N, wo_L, wo_i, sm_wo, wt_N, wt_i]
  have k116 : μ'.2.1 116 = μ.2.1 116 := by rw [hM]; simp (decide := true) only [gs_i, gs_n, gs_l, gs_u_ne, wo_N, wo_L, wo_i, sm_wo, wt_N, wt_i]
  have k117 : μ'.2.1 117 = μ.2.1 117 := by rw [hM]; simp (decide := true) only [gs_i, gs_n, gs_l, gs_u_ne, wo_N, wo_L, wo_i, sm_wo, wt_N, wt_i]
  have k119 : μ'.2.1 119 = μ.2.1 119 := by rw [hM]; simp (decide := true) only [gs_i, gs_n, gs_l, gs_u_ne, wo_N, wo_L, wo_i, sm_wo, wt_N, wt_i]
  have k120 : μ'.2.1 120 = μ.2.1 120 := by rw [hM]; simp (decide := true) only [gs_i, gs_n, gs_l, gs_u_ne, wo_N, wo_L, wo_i, sm_wo, wt_N, wt_i]
  have k121 : μ'.2.1 121 = μ.2.1 121 := by rw [hM]; simp (decide := true) only [gs_i, gs_n, gs_l, gs_u_ne, wo_N, wo_L, wo_i, sm_wo, wt_N, wt_i]
  have k122 : μ'.2.1 122 = μ.2.1 122 := by rw [hM]; simp (decide := true) only [gs_i, gs_n, gs_l, gs_u_ne, wo_N, wo_L, wo_i, sm_wo, wt_N, wt_i]
  have k126 : μ'.2.1 126 = μ.2.1 126 := by rw [hM]; simp (decide := true) only [gs_i, gs_n, gs_l, gs_u_ne, wo_N, wo_L, wo_i, sm_wo, wt_N, wt_i]
  have k130 : μ'.2.1 130 = μ.2.1 130 := by rw [hM]; simp (decide := true) only [gs_i, gs_n, gs_l, gs_u_ne, wo_N, wo_L, wo_i, sm_wo, wt_N, wt_i]
  have k131 : μ'.2.1 131 = μ.2.1 131 := by rw [hM]; simp (decide := true) only [gs_i, gs_n, gs_l, gs_u_ne, wo_N, wo_L, wo_i, sm_wo, wt_N, wt_i]
  have k132 : μ'.2.1 132 = μ.2.1 132 := by rw [hM]; simp (decide := true) only [gs_i, gs_n, gs_l, gs_u_ne, wo_N, wo_L, wo_i, sm_wo, wt_N, wt_i]
  have k133 : μ'.2.1 133 = μ.2.1 133 := by rw [hM]; simp (decide := true) only [gs_i, gs_n, gs_l, gs_u_ne, wo_N, wo_L, wo_i, sm_wo, wt_N, wt_i]
  have e4 : ∀ x, τ'.1 4 x 0 = if x = g then τ.1 4 g 0 + 1 else τ.1 4 x 0 := fun x => by rw [hT]; simp only [gs_n, wo_N]; exact gu_0
  obtain ⟨⟨kA, kO, kG, kV, kT, kP, kZ, kM⟩, ⟨W, S, T, L, R, Wk, A, F⟩, V, G⟩ := J
  have hans : τ.2.1 3 o 0 = 0 ∨ τ.2.1 3 o 0 = 1 := by
    rcases (A.1 o hgo.2).1 with z | z
    · exact Or.inl z
    · exact Or.inr z.1
  have e3 : ∀ y, τ'.2.1 3 y 0 = if y = o then 1 else τ.2.1 3 y 0 := fun y => by rw [hT]; exact wo_3 hans y
  have e4i : ∀ y, τ'.2.1 4 y 0 = if y = o ∧ τ.2.1 3 o 0 = 0 then sc_rp τ o (sc_ua τ g o) (sc_ub τ g o) else τ.2.1 4 y 0 := fun y => by rw [hT]; exact wo_4 y
  have e15 : ∀ x y, τ'.2.1 15 x y = if x = g ∧ y = o then 1 else τ.2.1 15 x y := fun x y => by rw [hT]; exact wo_15 x y
  have e19 : ∀ k, τ'.2.1 19 k 0 = if k = τ.1 13 o 0 ∧ τ.1 13 o 0 % τ.1 0 0 0 = g then sc_bA τ o (sc_ua τ g o) (sc_ub τ g o) else if k = τ.1 14 o 0 ∧ τ.1 14 o 0 % τ.1 0 0 0 = g then sc_bB τ o (sc_ua τ g o) (sc_ub τ g o) else τ.2.1 19 k 0 := fun k => by rw [hT]; exact wo_19 k
  have e20 : ∀ c, τ'.2.1 20 c 0 = if c = τ.1 12 o 0 ∧ τ.2.1 3 o 0 = 0 then gs_mx (τ.2.1 20 (τ.1 12 o 0) 0) (τ.2.1 10 g o) else τ.2.1 20 c 0 := fun c => by rw [hT]; exact wo_20 c
  obtain ⟨g1, g2, g3, g4, g5⟩ := G
  have k9 := kO.1 o hgo.2
  have hop : pp_k τ g o (τ.1 4 g 0) := ⟨Nat.le_refl _, hk, h5⟩
  have h10 : ¬ (τ.2.1 10 g o).toInt = -1 := ((R g hgo.1).1 _ o hk h5).2
  have h10n : ¬ τ.2.1 10 g o = -1 := by rw [jn_m1]; exact h10
  have hother : ∀ x, τ.1 6 x o = 1 → ¬ x = g → τ.1 7 g o = x + 1 ∧ τ.2.1 13 g o = 1 ∧ τ.2.1 12 x o = 1 ∧ ¬ τ.1 13 o 0 % τ.1 0 0 0 = τ.1 14 o 0 % τ.1 0 0 0 ∧ ∀ j, pp_k τ x o j → τ.2.1 14 g o = V x j (sc_ky τ x o) := fun x hx hne => by
    rcases js_two W S hp with ⟨w1, w2⟩ | ⟨g', w1, w2, w3, w4, w5⟩
    · exact absurd (w2 x hx) hne
    · have hxg : x = g' := by
        rcases w5 x hx with z | z
        · exact absurd z hne
        · exact z
      subst hxg
      have hb := (jy_b J0 hp w1).2.1
      rcases g4 g o hp with z | ⟨z1, z2, z3, z4⟩
      · rcases h13 with z9 | z9
        · omega
        · exact absurd z z9
      · rw [w1, Nat.add_sub_cancel] at z3 z4
        exact ⟨w1, z1, z3, hb, z4⟩
  have hpos : ∀ x, τ.1 6 x o = 1 → ∃ j, pp_k τ x o j := fun x hx => by
    by_cases hxg : x = g
    · rw [hxg]; exact ⟨_, hop⟩
    · have h9 := hother x hx hxg
      rcases (Wk x (gw_p W hx).1).2.2 o hx with z | z
      · rw [z] at h9; exact absurd h9.2.2.1 h01
      · exact z.2
  have huq : ∀ x y j j2, pp_k τ x y j → j2 < τ.1 3 x 0 → τ.1 5 x j2 = y + 1 → j2 = j := fun x y j j2 h1 h2 h3 => jr_uq R (gw_p W (gw_tp W h3)).1 h2 h1.2.1 h3 h1.2.2
  have hN4 : τ.2.1 3 o 0 = 0 → ∀ x j, pp_k τ x o j → j = τ.1 4 x 0 := fun hz x j h => by
    have hx := gw_tp W h.2.2
    have h8 := (Wk x (gw_p W hx).1).1 j o h.2.1 h.2.2
    have h7 := (A.1 o hgo.2).2 x hx
    by_cases hj : j < τ.1 4 x 0
    · rw [if_pos hj] at h8; rw [hz] at h7; exact absurd (h7 h8) h01
    · have := h.1; omega
  have hga := S.1 (τ.1 13 o 0 % τ.1 0 0 0) o
  have hgb := S.1 (τ.1 14 o 0 % τ.1 0 0 0) o
  have hga := hga.mpr ⟨hgo.2, Or.inl rfl⟩
  have hgb := hgb.mpr ⟨hgo.2, Or.inr rfl⟩
  have hgS := ((S.1 g o).mp hp).2
  have hu : ∀ ja, pp_k τ (τ.1 13 o 0 % τ.1 0 0 0) o ja → sc_ua τ g o = V (τ.1 13 o 0 % τ.1 0 0 0) ja (τ.1 13 o 0) := fun ja h => by
    unfold sc_ua
    by_cases hc : τ.1 13 o 0 % τ.1 0 0 0 = g
    · have h9 := g2 _ (gw_a W o)
      rw [hc] at h9 h ⊢
      rw [if_pos rfl, huq _ _ _ _ hop h.2.1 h.2.2, h9]
    · rw [if_neg hc, (hother _ hga hc).2.2.2.2 ja h, sc_ky, if_pos rfl]
  have hv : ∀ jb, pp_k τ (τ.1 14 o 0 % τ.1 0 0 0) o jb → sc_ub τ g o = V (τ.1 14 o 0 % τ.1 0 0 0) jb (τ.1 14 o 0) := fun jb h => by
    unfold sc_ub
    by_cases hc : τ.1 14 o 0 % τ.1 0 0 0 = g
    · have h9 := g2 _ (gw_b W o)
      rw [hc] at h9 h ⊢
      rw [if_pos rfl, huq _ _ _ _ hop h.2.1 h.2.2, h9]
    · have h9 := hother _ hgb hc
      rw [if_neg hc, h9.2.2.2.2 jb h, sc_ky, if_neg h9.2.2.2.1]
  have e0 : μ.1 100 0 0 = τ.1 0 0 0 := kA.1
  have mva : sm_va μ g o = sc_ua τ g o := by
    unfold sm_va sc_ua
    rw [k9.2.2.1, e0]
    by_cases hc : τ.1 13 o 0 % τ.1 0 0 0 = g
    · rw [if_pos hc, if_pos hc, kV.1 _ (gw_a W o)]
    · have h9 := hother _ hga hc
      have h8 := ((kP g o hp).2.2.2.2.2 _ h9.1).2.2.2 (by rw [h9.2.1]; decide)
      rw [if_neg hc, if_neg hc, h8, if_pos rfl]
  have mvb : ¬ τ.2.1 0 o 0 = 0 → sm_vb μ g o = sc_ub τ g o := fun hkd => by
    have hb := k9.2.2.2.1
    rw [if_neg hkd] at hb
    unfold sm_vb sc_ub
    rw [← hb, e0]
    by_cases hc : τ.1 14 o 0 % τ.1 0 0 0 = g
    · rw [if_pos hc, if_pos hc, kV.1 _ (gw_b W o)]
    · have h9 := hother _ hgb hc
      have h8 := ((kP g o hp).2.2.2.2.2 _ h9.1).2.2.2 (by rw [h9.2.1]; decide)
      rw [if_neg hc, if_neg hc, h8, if_neg h9.2.2.2.1]
  have hwv := wv_eq J0 hgo.2 (u := sc_ua τ g o) (v := sc_ub τ g o) (w := sm_vb μ g o) mvb
  rw [← mva] at hwv
  have hM2 := hM
  unfold sm_wo at hM2
  have h111 : μ.2.1 111 o 0 = 0 ∨ μ.2.1 111 o 0 = 1 := by rw [k9.2.2.2.2.2.2.1]; exact hans
  have q103 : ∀ k, k < 16 → μ'.2.1 103 k 0 = τ'.2.1 19 k 0 := fun k hk16 => by
    rw [e19, hM2, wt_103, hwv.1, mva, k9.2.2.1, e0, k9.2.1, kV.1 k hk16]
    by_cases hc : k = τ.1 13 o 0 ∧ τ.1 13 o 0 % τ.1 0 0 0 = g
    · rw [if_pos hc, if_pos hc]
    · rw [if_neg hc, if_neg hc]
      have hb := k9.2.2.2.1
      by_cases hkd : τ.2.1 0 o 0 = 0
      · rw [if_pos hkd] at hb
        rw [if_neg (fun z => z.2.2 hkd), hb, if_neg hc]
      · rw [if_neg hkd] at hb
        have h9 := hwv.2.1 hkd
        rw [mva] at h9
        rw [h9, ← hb]
        by_cases hc2 : k = τ.1 14 o 0 ∧ τ.1 14 o 0 % τ.1 0 0 0 = g
        · rw [if_pos hc2, if_pos ⟨hc2.1, hc2.2, hkd⟩]
        · rw [if_neg hc2, if_neg (fun z => hc2 ⟨z.1, z.2.1⟩)]
  have q118 : ∀ x y, y < 40 → μ'.2.1 118 (40 * x + y) 0 = if x = g ∧ y = o then 1 else μ.2.1 118 (40 * x + y) 0 := fun x y hy => by
    rw [hM2, wt_118]
    by_cases hxy : x = g ∧ y = o
    · rw [if_pos hxy, if_pos (by rw [hxy.1, hxy.2])]
    · rw [if_neg hxy, if_neg (fun z => hxy (by omega))]
  have q111 : ∀ y, μ'.2.1 111 y 0 = if y = o then 1 else μ.2.1 111 y 0 := fun y => by rw [hM2]; exact wt_111 h111 y
  have q112 : ∀ y, μ'.2.1 112 y 0 = if y = o ∧ τ.2.1 3 o 0 = 0 then sc_rp τ o (sc_ua τ g o) (sc_ub τ g o) else μ.2.1 112 y 0 := fun y => by rw [hM2, wt_112, hwv.2.2, mva, k9.2.2.2.2.2.2.1]
  have q113 : ∀ c, c < 4 → μ'.2.1 113 c 0 = τ'.2.1 20 c 0 := fun c hc => by
    rw [e20, hM2, wt_113, k9.1, k9.2.2.2.2.2.2.1, kV.2 c hc, kV.2 _ (gw_c W o), ti_mg, (kP g o hp).2.2.1, ti_tm, if_neg h10n]
  have hge20 : ∀ c, (τ.2.1 20 c 0).toInt ≤ (τ'.2.1 20 c 0).toInt := fun c => by
    rw [e20]
    by_cases hc : c = τ.1 12 o 0 ∧ τ.2.1 3 o 0 = 0
    · rw [if_pos hc, ti_mx, hc.1]; omega
    · rw [if_neg hc]; exact Int.le_refl _
  have hpkm : ∀ x y j, pp_k τ x y j → pp_k τ' x y j := fun x y j h => by
    refine ⟨?_, by rw [n3]; exact h.2.1, by rw [n5]; exact h.2.2⟩
    rw [e4]
    have := h.1
    by_cases hx : x = g
    · rw [if_pos hx]; rw [hx] at this; omega
    · rw [if_neg hx]; exact this
  have hpkq : ∀ x y j j0, pp_k τ x y j0 → pp_k τ' x y j → pp_k τ x y j := fun x y j j0 h0 h => by
    have h2 := h.2
    rw [n3, n5] at h2
    rw [huq x y j0 j h0 h2.1 h2.2]; exact h0
  have hV1 : ∀ x j k, j ≤ τ.1 4 x 0 → (fun x j k => if τ.2.1 3 o 0 = 0 ∧ τ.1 6 x o = 1 ∧ j = τ.1 4 x 0 + 1 then pp_e τ o k (sc_ua τ g o) (sc_ub τ g o) (V x (j - 1) k) else V x j k) x j k = V x j k := fun x j k hj => if_neg (fun z => by have := z.2.2; omega)
  have hV3 : ∀ x k, τ.2.1 3 o 0 = 0 → τ.1 6 x o = 1 → (fun x j k => if τ.2.1 3 o 0 = 0 ∧ τ.1 6 x o = 1 ∧ j = τ.1 4 x 0 + 1 then pp_e τ o k (sc_ua τ g o) (sc_ub τ g o) (V x (j - 1) k) else V x j k) x (τ.1 4 x 0 + 1) k = pp_e τ o k (sc_ua τ g o) (sc_ub τ g o) (V x (τ.1 4 x 0) k) := fun x k h1 h2 => if_pos ⟨h1, h2, rfl⟩
  have hV2 : ∀ x y j k, pp_k τ x y j → ¬ (y = o ∧ τ.2.1 3 o 0 = 0) → (fun x j k => if τ.2.1 3 o 0 = 0 ∧ τ.1 6 x o = 1 ∧ j = τ.1 4 x 0 + 1 then pp_e τ o k (sc_ua τ g o) (sc_ub τ g o) (V x (j - 1) k) else V x j k) x (j + 1) k = V x (j + 1) k := fun x y j k h1 h2 => if_neg (fun z => by
      refine h2 ⟨?_, z.1⟩
      have hj : j = τ.1 4 x 0 := by have := z.2.2; omega
      obtain ⟨j2, hj2⟩ := hpos x z.2.1
      have h8 := hN4 z.1 x j2 hj2
      have h7 := hj2.2.2
      rw [h8, ← hj, h1.2.2] at h7
      omega)
  generalize hVd : (fun x j k => if τ.2.1 3 o 0 = 0 ∧ τ.1 6 x o = 1 ∧ j = τ.1 4 x 0 + 1 then pp_e τ o k (sc_ua τ g o) (sc_ub τ g o) (V x (j - 1) k) else V x j k) = V' at hV1 hV2 hV3
  refine ⟨⟨?_, ?_, ?_, ?_, ?_, ?_, ?_, ?_⟩, ⟨?_, ?_, ?_, ?_, ?_, ?_, ?_, ?_⟩, V', ?_⟩
  · refine ⟨by rw [m100, n0]; exact kA.1, by rw [m104, n1]; exact kA.2.1, by rw [m125, n2]; exact kA.2.2.1, by rw [k133, i5]; exact kA.2.2.2.1, ?_, by rw [m31]; exact kA.2.2.2.2.2⟩
    have e9 : μ'.1 = μ.1 := by rw [hM2]; exact wt_N
    unfold gv_V
    rw [e9]
    exact kA.2.2.2.2.1
  · refine ⟨fun y hy => ?_, fun y hy hy4 => ?_⟩
    · rw [n1] at hy
      have h9 := kO.1 y hy
      rw [m105, k106, m107, m108, k109, k110, q111, q112, n12, i0, n13, n14, i1, i2, e3, e4i]
      refine ⟨h9.1, h9.2.1, h9.2.2.1, h9.2.2.2.1, h9.2.2.2.2.1, h9.2.2.2.2.2.1, ?_, fun hz => ?_⟩
      · by_cases hyo : y = o
        · rw [if_pos hyo, if_pos hyo]
        · rw [if_neg hyo, if_neg hyo]; exact h9.2.2.2.2.2.2.1
      · by_cases hyo : y = o ∧ τ.2.1 3 o 0 = 0
        · rw [if_pos hyo, if_pos hyo]
        · rw [if_neg hyo, if_neg hyo]
          refine h9.2.2.2.2.2.2.2 ?_
          by_cases hyo2 : y = o
          · rw [hyo2]; exact fun w => hyo ⟨hyo2, w⟩
          · rw [if_neg hyo2] at hz; exact hz
    · rw [n1] at hy
      rw [q111, if_neg (by omega)]
      exact kO.2 y hy hy4
  · exact jj_G_fr n0 i6 i7 k101 k102 kG
  · exact ⟨fun k hk16 => q103 k hk16, fun c hc => q113 c hc⟩
  · exact jj_T_fr n0 n3 n5 m123 m124 kT
  · intro x y hxy
    rw [n6] at hxy
    have h9 := kP x y hxy
    have hy := (gw_p W hxy).2
    rw [k114, k119, k115, k116, q118 x y (by omega), k117, k120, k121, k122, n7, n13, n0, i8, i9, i10, i11, i12, i13, i14, e15]
    refine ⟨h9.1, h9.2.1, h9.2.2.1, h9.2.2.2.1, ?_, h9.2.2.2.2.2⟩
    by_cases hx : x = g ∧ y = o
    · rw [if_pos hx, if_pos hx]
    · rw [if_neg hx, if_neg hx]; exact h9.2.2.2.2.1
  · intro x y hx hy hxy
    rw [n6] at hxy
    rw [n0] at hx
    have h9 := kZ x y hx hy hxy
    rw [k114, k119, q118 x y hy, k115, k116, k117, k120, if_neg (fun e => hxy (by rw [e.1, e.2]; exact hp))]
    exact h9
  · exact jj_M_fr n0 n2 n7 n8 n9 n13 i16 i17 i18 m127 m128 m129 k126 k130 k131 k132 kM
  · rw [hT]
    exact gw_n4f (gw_of wo_N W) (by rw [wo_N]; omega)
  · exact pp_S_fr n0 n1 n6 n7 n13 n14 i0 S
  · obtain ⟨t1, t2, t3, t4, t5⟩ := T
    rw [← i5] at t1
    refine ⟨t1, by rw [i7, i5]; exact t2, fun c => ?_, by rw [n1, i2, i5]; exact t4, by rw [n6, n7, i2, i7, i8, i9, i10]; exact t5⟩
    have h9 := hge20 c
    have h8 := t3 c
    refine ⟨by omega, ?_⟩
    rw [e20, i5]
    by_cases hc : c = τ.1 12 o 0 ∧ τ.2.1 3 o 0 = 0
    · rw [if_pos hc, ti_mx, ← hc.1]
      have t9 := (t5 g o hp).2.2
      have t7 := t2 g
      omega
    · rw [if_neg hc]; exact h8.2
  · exact pp_L_fr n2 n7 n8 n9 i8 i16 i18 L
  · exact pp_R_fr n0 n3 n5 n6 i8 i10 i11 R
  · intro x hx
    rw [n0] at hx
    obtain ⟨w1, w2, w3⟩ := Wk x hx
    refine ⟨fun j y hj h5y => ?_, fun y hy hz => ?_, fun y hy => ?_⟩
    · rw [n3] at hj
      rw [n5] at h5y
      have h9 := w1 j y hj h5y
      rw [e15, e4]
      by_cases hx2 : x = g
      · subst hx2
        rw [if_pos rfl]
        by_cases hyo : y = o
        · have hj2 := huq _ _ _ _ hop hj (by rw [← hyo]; exact h5y)
          rw [if_pos ⟨rfl, hyo⟩, if_pos (by omega)]
        · have hj2 : ¬ j = τ.1 4 x 0 := fun z => hyo (by rw [z] at h5y; omega)
          rw [if_neg (fun z => hyo z.2), h9]
          by_cases hj3 : j < τ.1 4 x 0
          · rw [if_pos hj3, if_pos (by omega)]
          · rw [if_neg hj3, if_neg (by omega)]
      · rw [if_neg (fun z => hx2 z.1), if_neg hx2]; exact h9
    · rw [n6] at hy
      rw [i11] at hz
      rw [e15, if_neg]
      · exact w2 y hy hz
      · intro z
        have h9 := ((R g hgo.1).1 _ o hk h5).1
        rw [z.1, z.2, h9] at hz
        exact absurd hz (by decide)
    · rw [n6] at hy
      rw [i12]
      rcases w3 y hy with z | ⟨z, k, hk9⟩
      · exact Or.inl z
      · exact Or.inr ⟨z, k, hpkm _ _ _ hk9⟩
  · obtain ⟨a1, a2⟩ := A
    refine ⟨fun y hy => ?_, fun y p hy hpy hf => ?_⟩
    · rw [n1] at hy
      have h9 := a1 y hy
      rw [e3, n6, i10, n12]
      refine ⟨?_, fun x hx h15 => ?_⟩
      · by_cases hyo : y = o
        · rw [if_pos hyo]
          refine Or.inr ⟨rfl, fun x hx => ?_⟩
          rw [hyo] at hx h9 ⊢
          obtain ⟨j, hj⟩ := hpos x hx
          refine ⟨⟨j, hpkm _ _ _ hj⟩, ?_⟩
          rcases hans with z | z
          · have h8 := jt_fin W S T hx hp ((R x (gw_p W hx).1).1 j o hj.2.1 hj.2.2).2 h10
            rw [e20, if_pos ⟨rfl, z⟩, ti_mx]
            omega
          · rcases h9.1 with w | w
            · rw [w] at z; exact absurd z h01
            · have h8 := (w.2 x hx).2
              have h7 := hge20 (τ.1 12 o 0)
              omega
        · rw [if_neg hyo]
          rcases h9.1 with z | z
          · exact Or.inl z
          · refine Or.inr ⟨z.1, fun x hx => ?_⟩
            obtain ⟨⟨j, hj⟩, h8⟩ := z.2 x hx
            refine ⟨⟨j, hpkm _ _ _ hj⟩, ?_⟩
            have h7 := hge20 (τ.1 12 y 0)
            omega
      · by_cases hyo : y = o
        · rw [if_pos hyo]
        · rw [if_neg hyo]
          rw [e15, if_neg (fun z => hyo z.2)] at h15
          exact h9.2 x hx h15
    · rw [n1] at hy
      have hf : sc_fw τ y p := by unfold sc_fw at hf ⊢; rw [l0] at hf; exact hf
      have h9 := a2 y p hy hpy hf
      rw [e3, n6, i2, i10]
      refine ⟨?_, h9.2⟩
      by_cases hpo : p = o
      · rw [if_pos hpo]
      · rw [if_neg hpo]; exact h9.1
  · exact pp_F_fr n1 n2 n6 i8 i12 F
  · have e1 : sc_rp τ' = sc_rp τ := by funext o u v; exact sc_rp_fr n13 n14 i0 i1
    have e2' : pp_e τ' = pp_e τ := by funext o k u v w; exact sc_pe_fr n13 n14 i0 i1
    have e4' : sc_ky τ' = sc_ky τ := by funext g o; exact sc_ky_fr n0 n13 n14
    refine ⟨?_, ?_, fun y ja jb hy hz pa pb2 => ?_, fun x y hxy => ?_, fun i hi hk2 => ?_⟩
    · intro k hk16
      rw [n0, hV1 _ _ _ (by omega)]; exact g1 k hk16
    · intro k hk16
      rw [n0, e4, e19]
      have h9 := g2 k hk16
      by_cases hx : k % τ.1 0 0 0 = g
      · have hpe : V' g (τ.1 4 g 0 + 1) k = pp_e τ o k (sc_ua τ g o) (sc_ub τ g o) (V g (τ.1 4 g 0) k) := by
          rcases hans with z | z
          · exact hV3 g k z hp
          · obtain ⟨ja, hja⟩ := hpos _ hga
            obtain ⟨jb, hjb⟩ := hpos _ hgb
            have h8 := (g3 o ja jb hgo.2 z hja hjb).2 k hk16
            rw [hV2 g o _ k hop (fun w => h01 (by rw [← w.2]; exact z))]
            have h7 : pp_i τ V o ja jb = (sc_ua τ g o, sc_ub τ g o) := by unfold pp_i; rw [hu ja hja, hv jb hjb]
            rw [h7] at h8
            rcases hgS with w | w
            · have h6 := h8.1 (by rw [← w]; exact hx)
              rw [hx] at h6
              rw [← w] at hja
              rw [huq _ _ _ _ hop hja.2.1 hja.2.2] at h6
              exact h6
            · have h6 := h8.2 (by rw [← w]; exact hx)
              rw [hx] at h6
              rw [← w] at hjb
              rw [huq _ _ _ _ hop hjb.2.1 hjb.2.2] at h6
              exact h6
        rw [hx] at h9
        rw [if_pos hx, hx, hpe, h9]
        unfold pp_e
        by_cases ka : k = τ.1 13 o 0
        · rw [if_pos ka, if_pos ⟨ka, by rw [← ka]; exact hx⟩]
        · have ka2 : ¬ (k = τ.1 13 o 0 ∧ τ.1 13 o 0 % τ.1 0 0 0 = g) := fun z => ka z.1
          rw [if_neg ka, if_neg ka2]
          by_cases kb : k = τ.1 14 o 0
          · rw [if_pos kb, if_pos ⟨kb, by rw [← kb]; exact hx⟩]
          · have kb2 : ¬ (k = τ.1 14 o 0 ∧ τ.1 14 o 0 % τ.1 0 0 0 = g) := fun z => kb z.1
            rw [if_neg kb, if_neg kb2]
      · rw [if_neg hx, hV1 _ _ _ (Nat.le_refl _), if_neg (fun z => hx (by rw [z.1]; exact z.2)), if_neg (fun z => hx (by rw [z.1]; exact z.2))]
        exact h9
    · rw [n1] at hy
      rw [e3] at hz
      rw [n0, n13] at pa
      rw [n0, n14] at pb2
      unfold pp_i
      rw [n0, n13, n14, e4i, e1, e2']
      by_cases hyo : y = o ∧ τ.2.1 3 o 0 = 0
      · rw [if_pos hyo]
        rw [hyo.1] at pa pb2 ⊢
        obtain ⟨j1, hj1⟩ := hpos _ hga
        obtain ⟨j2, hj2⟩ := hpos _ hgb
        have pa := hpkq _ _ _ _ hj1 pa
        have pb2 := hpkq _ _ _ _ hj2 pb2
        rw [hV1 _ _ _ pa.1, hV1 _ _ _ pb2.1, ← hu ja pa, ← hv jb pb2]
        refine ⟨rfl, fun k hk16 => ⟨fun hx => ?_, fun hx => ?_⟩⟩
        · rw [hx, hN4 hyo.2 _ _ pa, hV3 _ _ hyo.2 hga, hV1 _ _ _ (Nat.le_refl _)]
        · rw [hx, hN4 hyo.2 _ _ pb2, hV3 _ _ hyo.2 hgb, hV1 _ _ _ (Nat.le_refl _)]
      · rw [if_neg hyo]
        have hz1 : τ.2.1 3 y 0 = 1 := by
          by_cases hyo2 : y = o
          · rcases hans with w | w
            · exact absurd ⟨hyo2, w⟩ hyo
            · rw [hyo2]; exact w
          · rw [if_neg hyo2] at hz; exact hz
        have h8 : ∀ x, τ.1 6 x y = 1 → ∃ j, pp_k τ x y j := fun x hx => by
          rcases (A.1 y hy).1 with w | w
          · rw [w] at hz1; exact absurd hz1 h01
          · exact (w.2 x hx).1
        obtain ⟨j1, hj1⟩ := h8 _ ((S.1 _ y).mpr ⟨hy, Or.inl rfl⟩)
        obtain ⟨j2, hj2⟩ := h8 _ ((S.1 _ y).mpr ⟨hy, Or.inr rfl⟩)
        have pa := hpkq _ _ _ _ hj1 pa
        have pb2 := hpkq _ _ _ _ hj2 pb2
        have h7 := g3 y ja jb hy hz1 pa pb2
        rw [hV1 _ _ _ pa.1, hV1 _ _ _ pb2.1]
        refine ⟨h7.1, fun k hk16 => ⟨fun hx => ?_, fun hx => ?_⟩⟩
        · have h6 := (h7.2 k hk16).1 hx
          rw [hx] at h6 ⊢
          rw [hV2 _ y _ k pa hyo, hV1 _ _ _ pa.1]; exact h6
        · have h6 := (h7.2 k hk16).2 hx
          rw [hx] at h6 ⊢
          rw [hV2 _ y _ k pb2 hyo, hV1 _ _ _ pb2.1]; exact h6
    · rw [n6] at hxy
      rw [i13, n7, i12, i14, e4']
      rcases g4 x y hxy with z | ⟨z1, z2, z3, z4⟩
      · exact Or.inl z
      · refine Or.inr ⟨z1, z2, z3, fun j hj => ?_⟩
        obtain ⟨x2, hx2⟩ : ∃ x2, τ.1 7 x y = x2 + 1 := ⟨τ.1 7 x y - 1, by omega⟩
        have hq := gw_ot W hxy hx2
        rw [hx2, Nat.add_sub_cancel] at z3 z4 hj ⊢
        rcases (Wk x2 (gw_p W hq).1).2.2 y hq with w | ⟨w, j0, hj0⟩
        · rw [w] at z3; exact absurd z3 h01
        · have hj := hpkq _ _ _ _ hj0 hj
          rw [hV1 _ _ _ hj.1]; exact z4 j hj
    · rw [n2] at hi
      rw [i16] at hk2
      rw [n7, n8, n9, i12, i18, e4']
      have h9 := g5 i hi hk2
      refine ⟨h9.1, fun j hj => ?_⟩
      have hmp := gw_mp W (gw_m W hi)
      have h7 : ¬ τ.1 7 (τ.1 8 i 0) (τ.1 9 i 0) = 0 := by
        rcases (kM i hi).2.2.2.2.2.2 with z | z
        · have := z.1; rw [hk2] at this; exact absurd this (by decide)
        · exact z.2.1
      obtain ⟨x2, hx2⟩ : ∃ x2, τ.1 7 (τ.1 8 i 0) (τ.1 9 i 0) = x2 + 1 := ⟨τ.1 7 (τ.1 8 i 0) (τ.1 9 i 0) - 1, by omega⟩
      have hq := gw_ot W hmp hx2
      rw [hx2, Nat.add_sub_cancel] at h9 hj ⊢
      rcases (Wk x2 (gw_p W hq).1).2.2 _ hq with w | ⟨w, j0, hj0⟩
      · rw [w] at h9; exact absurd h9.1 h01
      · have hj := hpkq _ _ _ _ hj0 hj
        rw [hV1 _ _ _ hj.1]; exact h9.2 j hj
